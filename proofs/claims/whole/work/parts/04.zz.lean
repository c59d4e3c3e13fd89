/-! Rows of our own over the kit's: numbers by nI, heads, ends and calls that hand the whole world over. -/
theorem zz_c {k : Nat} {n : Int} (h : Int32.ofInt n = Int32.ofNat k) : Int32.ofInt n = nI k := h
theorem zz_i1 (a : Nat) : nI a + Int32.ofInt 1 = nI (a + 1) := nI_1 a
theorem zz_d1 (a : Nat) : nI (a + 1) + Int32.ofInt (-1) = nI a := pk_m1 a
/-- upwards to e -/
theorem zz_up {σ : Type} (P : Nat → σ → Prop) (I : Nat → σ → Prop) (e : Nat) (hx : ∀ z, I e z → P e z) (hs : ∀ i z, i < e → I i z → (∀ z', I (i + 1) z' → P (i + 1) z') → P i z) : ∀ i z, i ≤ e → I i z → P i z := by
  have key : ∀ k i z, i + k = e → I i z → P i z := by
    intro k
    induction k with
    | zero => intro i z h hi; rw [Nat.add_zero] at h; subst h; exact hx z hi
    | succ k ih => intro i z h hi; exact hs i z (by omega) hi (fun z' hz' => ih (i + 1) z' (by omega) hz')
  intro i z h hi
  exact key (e - i) i z (by omega) hi
/-- by a measure that falls -/
theorem zz_me {σ : Type} (P I : σ → Prop) (μ : σ → Nat) (hs : ∀ z, I z → (∀ z', I z' → μ z' < μ z → P z') → P z) : ∀ z, I z → P z := by
  have key : ∀ k z, μ z < k → I z → P z := by
    intro k
    induction k with
    | zero => intro z h; omega
    | succ k ih => intro z h hi; exact hs z hi (fun z' h' hm => ih z' (by omega) h')
  intro z hi
  exact key (μ z + 1) z (by omega) hi
def zz_pre (D : va_G) (tys : List (ClassId × FieldType)) (wl : va_W) (sz : Nat) : State → Prop := fun U => U.heap.size = sz ∧ va_P D vwCl wl U.heap ∧ va_K D vwCl tys U ∧ va_D (fun _ => True) wl
def zz_B {S : Type} (D : va_G) (tys : List (ClassId × FieldType)) (A : Nat → Prop) (wf : S → va_W) : S → State → Prop := fun u t => va_P D vwCl (wf u) t.heap ∧ va_K D vwCl tys t ∧ va_D A (wf u)
/-- words of a throw that the tables decide and that a call doesn't hand on -/
def zx_nw (U : State) : Prop := va_Nw (.castable "java/lang/IllegalArgumentException" "java/lang/IllegalArgumentException") U ∧ va_Nw (.castable "java/util/NoSuchElementException" "java/util/NoSuchElementException") U ∧ va_Nw (.declares ⟨"java/lang/RuntimeException", "<init>", "()V"⟩) U ∧ va_Nw (.declares ⟨"java/lang/Exception", "<init>", "()V"⟩) U ∧ va_Nw (.declares ⟨"java/lang/Throwable", "<init>", "()V"⟩) U
theorem zx_nw.same {u U : State} (h : u.vm = U.vm) (q : zx_nw u) : zx_nw U := ⟨va_Nw.same rfl h q.1, va_Nw.same rfl h q.2.1, va_Nw.same rfl h q.2.2.1, va_Nw.same rfl h q.2.2.2.1, va_Nw.same rfl h q.2.2.2.2⟩
theorem zx_nw.warm {s U : State} (hW : s.WarmedH U.vm) (q : zx_nw s) : zx_nw U := ⟨va_Nw.warmC hW q.1, va_Nw.warmC hW q.2.1, va_Nw.warmD hW q.2.2.1, va_Nw.warmD hW q.2.2.2.1, va_Nw.warmD hW q.2.2.2.2⟩
/-- the two statics that a throw reads, and those words -/
def zx_st (A : Nat → Prop) (U : State) (H : Heap) : Prop := vx_Zq Bundle.tN "UNASSIGNED_STACK" Bundle.steD A U H ∧ vx_Zq Bundle.tN "SUPPRESSED_SENTINEL" Bundle.listD A U H ∧ zx_nw U
def zx_pre (D : va_G) (tys : List (ClassId × FieldType)) (wl : va_W) (sz : Nat) : State → Prop := fun U => zz_pre D tys wl sz U ∧ zx_st (va_A wl sz) U U.heap
def zx_X {S : Type} (pe : String → S → Prop) (D : va_G) (tys : List (ClassId × FieldType)) (A : Nat → Prop) (wf : S → va_W) : String → State → State → Prop := vx_X (fun _ => True) (fun E u t => pe E u ∧ zz_B D tys A wf u t) A
theorem zz_blind {av : List Value} {D : va_G} {tys : List (ClassId × FieldType)} {wl : va_W} {sz : Nat} : FrameBlind (va_Pc av (zz_pre D tys wl sz)) := fun a U g mk q => by
  obtain ⟨q0, q1, qP, qK, qD⟩ := q
  exact ⟨q0, q1, qP, va_K.moved (u := U) (U := U.calling g mk a) (Vm.Alike.refl U.vm) qK, qD⟩
theorem zx_blind {av : List Value} {D : va_G} {tys : List (ClassId × FieldType)} {wl : va_W} {sz : Nat} : FrameBlind (va_Pc av (zx_pre D tys wl sz)) := fun a U g mk q => by
  obtain ⟨q0, ⟨q1, qP, qK, qD⟩, qu, qn, q5⟩ := q
  exact ⟨q0, ⟨q1, qP, va_K.moved (u := U) (U := U.calling g mk a) (Vm.Alike.refl U.vm) qK, qD⟩, vx_Zq.moved (u := U) (U := U.calling g mk a) (Vm.Alike.refl U.vm) qu, vx_Zq.moved (u := U) (U := U.calling g mk a) (Vm.Alike.refl U.vm) qn, zx_nw.same (u := U) (U := U.calling g mk a) rfl q5⟩
theorem zz_in {A : Nat → Prop} {wl : va_W} {H0 H : Heap} {locs : List Loc} (hD : va_D A wl) (hS : va_S A H0 H locs) (hA : ∀ q, H0.size ≤ q → A q) : ∀ q, va_A wl H.size q → A q := by
  intro q h
  rcases h with ⟨k, e, h⟩ | h
  · exact hD.2 k _ h
  · exact hA q (Nat.le_trans hS.1 h)
section ZN
variable {p : Program} {l : Launch} {e : Env} {R : Room} {s : State} {m : MethodId} {args : Array Value} {below : List Frame} {meth : Method} {c : Code} {H : Heap} {locs : List Loc} {cells slots : Nat} {Q : State → Prop}
variable {cc : ByteArray} {pc : Nat} {ls : Array Slot} {rest : List Value}
theorem zn_add {a b : Nat} (hexec : p.tables.exec = Jvm.exec) (hb : c.code = cc) (hdg : decode cc pc = .ok (.iadd, 1)) (k : W p l e R s m args below meth c H locs cells slots Q (F0 m (pc + 1) ls (.int (nI (a + b)) :: rest))) : W p l e R s m args below meth c H locs cells slots Q (F0 m pc ls (.int (nI b) :: .int (nI a) :: rest)) := lv_iadd hexec hb hdg (by rw [nI_add]; exact k)
theorem zn_sub {a b : Nat} (hexec : p.tables.exec = Jvm.exec) (hb : c.code = cc) (h : b ≤ a) (hdg : decode cc pc = .ok (.isub, 1)) (k : W p l e R s m args below meth c H locs cells slots Q (F0 m (pc + 1) ls (.int (nI (a - b)) :: rest))) : W p l e R s m args below meth c H locs cells slots Q (F0 m pc ls (.int (nI b) :: .int (nI a) :: rest)) := lv_isub hexec hb hdg (by rw [pk_sub h]; exact k)
theorem zn_mul {a b : Nat} (hexec : p.tables.exec = Jvm.exec) (hb : c.code = cc) (hdg : decode cc pc = .ok (.imul, 1)) (k : W p l e R s m args below meth c H locs cells slots Q (F0 m (pc + 1) ls (.int (nI (a * b)) :: rest))) : W p l e R s m args below meth c H locs cells slots Q (F0 m pc ls (.int (nI b) :: .int (nI a) :: rest)) := lv_imul hexec hb hdg (by rw [pk_mul]; exact k)
theorem zn_div {a b : Nat} (hexec : p.tables.exec = Jvm.exec) (hb : c.code = cc) (ha : a < 2 ^ 31) (h0 : 0 < b) (hd : b < 2 ^ 31) (hdg : decode cc pc = .ok (.idiv, 1)) (k : W p l e R s m args below meth c H locs cells slots Q (F0 m (pc + 1) ls (.int (nI (a / b)) :: rest))) : W p l e R s m args below meth c H locs cells slots Q (F0 m pc ls (.int (nI b) :: .int (nI a) :: rest)) := lv_idiv hexec hb hdg (nI_ne0 h0 hd) (by rw [pk_div ha h0 hd]; exact k)
theorem zn_gt {a b : Nat} {off : Int} {tgt : Nat} (hexec : p.tables.exec = Jvm.exec) (hb : c.code = cc) (ha : a < 2 ^ 31) (hb2 : b < 2 ^ 31) (hdg : decode cc pc = .ok (.if_icmp .gt off, 3)) (ht : (pc : Int) + off = (tgt : Int)) (kt : b < a → W p l e R s m args below meth c H locs cells slots Q (F0 m tgt ls rest)) (kf : a ≤ b → W p l e R s m args below meth c H locs cells slots Q (F0 m (pc + 3) ls rest)) : W p l e R s m args below meth c H locs cells slots Q (F0 m pc ls (.int (nI b) :: .int (nI a) :: rest)) := lv_icmp_gt hexec hb hdg ht (fun h => kt ((nI_ltI hb2 ha).1 h)) (fun h => kf (Nat.le_of_not_lt (fun h' => h ((nI_ltI hb2 ha).2 h'))))
theorem zn_ge {a b : Nat} {off : Int} {tgt : Nat} (hexec : p.tables.exec = Jvm.exec) (hb : c.code = cc) (ha : a < 2 ^ 31) (hb2 : b < 2 ^ 31) (hdg : decode cc pc = .ok (.if_icmp .ge off, 3)) (ht : (pc : Int) + off = (tgt : Int)) (kt : b ≤ a → W p l e R s m args below meth c H locs cells slots Q (F0 m tgt ls rest)) (kf : a < b → W p l e R s m args below meth c H locs cells slots Q (F0 m (pc + 3) ls rest)) : W p l e R s m args below meth c H locs cells slots Q (F0 m pc ls (.int (nI b) :: .int (nI a) :: rest)) := lv_icmp_ge hexec hb hdg ht (fun h => kt ((nI_leI hb2 ha).1 h)) (fun h => kf (Nat.lt_of_not_le (fun h' => h ((nI_leI hb2 ha).2 h'))))
theorem zn_lt {a b : Nat} {off : Int} {tgt : Nat} (hexec : p.tables.exec = Jvm.exec) (hb : c.code = cc) (ha : a < 2 ^ 31) (hb2 : b < 2 ^ 31) (hdg : decode cc pc = .ok (.if_icmp .lt off, 3)) (ht : (pc : Int) + off = (tgt : Int)) (kt : a < b → W p l e R s m args below meth c H locs cells slots Q (F0 m tgt ls rest)) (kf : b ≤ a → W p l e R s m args below meth c H locs cells slots Q (F0 m (pc + 3) ls rest)) : W p l e R s m args below meth c H locs cells slots Q (F0 m pc ls (.int (nI b) :: .int (nI a) :: rest)) := lv_icmp_lt hexec hb hdg ht (fun h => kt ((nI_ltI ha hb2).1 h)) (fun h => kf (Nat.le_of_not_lt (fun h' => h ((nI_ltI ha hb2).2 h'))))
theorem zn_le {a b : Nat} {off : Int} {tgt : Nat} (hexec : p.tables.exec = Jvm.exec) (hb : c.code = cc) (ha : a < 2 ^ 31) (hb2 : b < 2 ^ 31) (hdg : decode cc pc = .ok (.if_icmp .le off, 3)) (ht : (pc : Int) + off = (tgt : Int)) (kt : a ≤ b → W p l e R s m args below meth c H locs cells slots Q (F0 m tgt ls rest)) (kf : b < a → W p l e R s m args below meth c H locs cells slots Q (F0 m (pc + 3) ls rest)) : W p l e R s m args below meth c H locs cells slots Q (F0 m pc ls (.int (nI b) :: .int (nI a) :: rest)) := lv_icmp_le hexec hb hdg ht (fun h => kt ((nI_leI ha hb2).1 h)) (fun h => kf (Nat.lt_of_not_le (fun h' => h ((nI_leI ha hb2).2 h'))))
theorem zn_eq {a b : Nat} {off : Int} {tgt : Nat} (hexec : p.tables.exec = Jvm.exec) (hb : c.code = cc) (ha : a < 2 ^ 31) (hb2 : b < 2 ^ 31) (hdg : decode cc pc = .ok (.if_icmp .eq off, 3)) (ht : (pc : Int) + off = (tgt : Int)) (kt : a = b → W p l e R s m args below meth c H locs cells slots Q (F0 m tgt ls rest)) (kf : ¬ a = b → W p l e R s m args below meth c H locs cells slots Q (F0 m (pc + 3) ls rest)) : W p l e R s m args below meth c H locs cells slots Q (F0 m pc ls (.int (nI b) :: .int (nI a) :: rest)) := lv_icmp_eq hexec hb hdg ht (fun h => kt ((nI_eq ha hb2).1 h)) (fun h => kf (fun h' => h ((nI_eq ha hb2).2 h')))
theorem zn_ne {a b : Nat} {off : Int} {tgt : Nat} (hexec : p.tables.exec = Jvm.exec) (hb : c.code = cc) (ha : a < 2 ^ 31) (hb2 : b < 2 ^ 31) (hdg : decode cc pc = .ok (.if_icmp .ne off, 3)) (ht : (pc : Int) + off = (tgt : Int)) (kt : ¬ a = b → W p l e R s m args below meth c H locs cells slots Q (F0 m tgt ls rest)) (kf : a = b → W p l e R s m args below meth c H locs cells slots Q (F0 m (pc + 3) ls rest)) : W p l e R s m args below meth c H locs cells slots Q (F0 m pc ls (.int (nI b) :: .int (nI a) :: rest)) := lv_icmp_ne hexec hb hdg ht (fun h => kt (fun h' => h ((nI_eq ha hb2).2 h'))) (fun h => kf ((nI_eq ha hb2).1 h))
theorem zn_if_eq {a : Nat} {off : Int} {tgt : Nat} (hexec : p.tables.exec = Jvm.exec) (hb : c.code = cc) (ha : a < 2 ^ 31) (hdg : decode cc pc = .ok (.ifCond .eq off, 3)) (ht : (pc : Int) + off = (tgt : Int)) (kt : a = 0 → W p l e R s m args below meth c H locs cells slots Q (F0 m tgt ls rest)) (kf : 0 < a → W p l e R s m args below meth c H locs cells slots Q (F0 m (pc + 3) ls rest)) : W p l e R s m args below meth c H locs cells slots Q (F0 m pc ls (.int (nI a) :: rest)) := lv_if_eq hexec hb hdg ht (fun h => kt (by rw [← nI_0] at h; exact (nI_eq ha (by omega)).1 h)) (fun h => kf (Nat.pos_of_ne_zero (fun h' => h (by rw [h', nI_0]))))
theorem zn_if_ne {a : Nat} {off : Int} {tgt : Nat} (hexec : p.tables.exec = Jvm.exec) (hb : c.code = cc) (ha : a < 2 ^ 31) (hdg : decode cc pc = .ok (.ifCond .ne off, 3)) (ht : (pc : Int) + off = (tgt : Int)) (kt : 0 < a → W p l e R s m args below meth c H locs cells slots Q (F0 m tgt ls rest)) (kf : a = 0 → W p l e R s m args below meth c H locs cells slots Q (F0 m (pc + 3) ls rest)) : W p l e R s m args below meth c H locs cells slots Q (F0 m pc ls (.int (nI a) :: rest)) := lv_if_ne hexec hb hdg ht (fun h => kt (Nat.pos_of_ne_zero (fun h' => h (by rw [h', nI_0])))) (fun h => kf (by rw [← nI_0] at h; exact (nI_eq ha (by omega)).1 h))
theorem zn_if_le {a : Nat} {off : Int} {tgt : Nat} (hexec : p.tables.exec = Jvm.exec) (hb : c.code = cc) (ha : a < 2 ^ 31) (hdg : decode cc pc = .ok (.ifCond .le off, 3)) (ht : (pc : Int) + off = (tgt : Int)) (kt : a = 0 → W p l e R s m args below meth c H locs cells slots Q (F0 m tgt ls rest)) (kf : 0 < a → W p l e R s m args below meth c H locs cells slots Q (F0 m (pc + 3) ls rest)) : W p l e R s m args below meth c H locs cells slots Q (F0 m pc ls (.int (nI a) :: rest)) := lv_if_le hexec hb hdg ht (fun h => kt (by rw [← nI_0] at h; exact Nat.le_zero.1 ((nI_leI ha (by omega)).1 h))) (fun h => kf (Nat.pos_of_ne_zero (fun h' => h (by rw [h', nI_0]; exact Int32.le_refl _))))
/-- a number under another name -/
theorem zn_as {x z : Int32} (h : x = z) (k : W p l e R s m args below meth c H locs cells slots Q (F0 m pc ls (.int z :: rest))) : W p l e R s m args below meth c H locs cells slots Q (F0 m pc ls (.int x :: rest)) := h ▸ k
theorem zn_min {a b : Nat} (hexec : p.tables.exec = Jvm.exec) (hb : c.code = cc) (hml : c.maxLocals = ls.size) {own : String} {index : Nat} (hown : s.vm.findClass own = some m.cls) (hlink : (Cond.methodLink own index Lib.Math.min.name).before args s = true) (hstat : (Cond.static Lib.Math.min.name).before args s = true) (hini : (Cond.initialized "java/lang/Math").before args s = true) (hcode : (Cond.code Lib.Math.min.name Lib.Math.min.code 2 (some .int)).before args s = true)
    (hframes : 1 ≤ R.frames) (hlocals : (rest.map fun v => v.category).sum + 13 ≤ R.locals) (hc : cells ≤ R.cells) (hs : slots ≤ R.slots) (ha : a < 2 ^ 31) (hb2 : b < 2 ^ 31) (hdg : decode cc pc = .ok (.invokestatic index, 3))
    (kk : W p l e R s m args below meth c H locs cells slots Q (F0 m (pc + 3) ls (.int (nI (min a b)) :: rest))) : W p l e R s m args below meth c H locs cells slots Q (F0 m pc ls (.int (nI b) :: .int (nI a) :: rest)) := by
  refine va_mmin hexec hb hml hown hlink hstat hini hcode hframes hlocals hc hs hdg (zn_as ?_ kk)
  by_cases h : b < a
  · rw [if_pos ((nI_ltI hb2 ha).2 h), Nat.min_eq_right (Nat.le_of_lt h)]
  · rw [if_neg (fun h' => h ((nI_ltI hb2 ha).1 h')), Nat.min_eq_left (Nat.le_of_not_lt h)]
theorem zn_max {a b : Nat} (hexec : p.tables.exec = Jvm.exec) (hb : c.code = cc) (hml : c.maxLocals = ls.size) {own : String} {index : Nat} (hown : s.vm.findClass own = some m.cls) (hlink : (Cond.methodLink own index Lib.Math.max.name).before args s = true) (hstat : (Cond.static Lib.Math.max.name).before args s = true) (hini : (Cond.initialized "java/lang/Math").before args s = true) (hcode : (Cond.code Lib.Math.max.name Lib.Math.max.code 2 (some .int)).before args s = true)
    (hframes : 1 ≤ R.frames) (hlocals : (rest.map fun v => v.category).sum + 13 ≤ R.locals) (hc : cells ≤ R.cells) (hs : slots ≤ R.slots) (ha : a < 2 ^ 31) (hb2 : b < 2 ^ 31) (hdg : decode cc pc = .ok (.invokestatic index, 3))
    (kk : W p l e R s m args below meth c H locs cells slots Q (F0 m (pc + 3) ls (.int (nI (max a b)) :: rest))) : W p l e R s m args below meth c H locs cells slots Q (F0 m pc ls (.int (nI b) :: .int (nI a) :: rest)) := by
  refine va_mmax hexec hb hml hown hlink hstat hini hcode hframes hlocals hc hs hdg (zn_as ?_ kk)
  by_cases h : a < b
  · rw [if_pos ((nI_ltI ha hb2).2 h), Nat.max_eq_right (Nat.le_of_lt h)]
  · rw [if_neg (fun h' => h ((nI_ltI ha hb2).1 h')), Nat.max_eq_left (Nat.le_of_not_lt h)]
variable {D : va_G} {cl : List vw_C} {tys : List (ClassId × FieldType)} {ws : va_W} {A : Nat → Prop} {H0 : Heap} {a : Nat}
theorem zn_iald (hexec : p.tables.exec = Jvm.exec) (hb : c.code = cc) (hK : va_K D cl tys s) (hP : va_P D cl ws H) (q0 t0 : Nat) {cA : ClassId} {n : Nat} {f : Nat → Int32} (ha : ws[q0]? = some (a, .inl (cA, n, .inl f))) (ht : tys[t0]? = some (cA, .int)) {k : Nat} (hk : k < n) (hn : n < 2 ^ 31) {x : Int32} (hf : f k = x) (hdg : decode cc pc = .ok (.iaload, 1))
    (kk : W p l e R s m args below meth c H locs cells slots Q (F0 m (pc + 1) ls (.int x :: rest))) : W p l e R s m args below meth c H locs cells slots Q (F0 m pc ls (.int (nI k) :: .ref a :: rest)) :=
  va_iald hexec hb hK hP q0 t0 ha ht (vp_in_nI hk hn) hdg (zn_as (by rw [nI_clamp (Nat.lt_trans hk hn)]; exact hf) kk)
theorem zn_zald (hexec : p.tables.exec = Jvm.exec) (hb : c.code = cc) (hK : va_K D cl tys s) (hP : va_P D cl ws H) (q0 t0 : Nat) {cA : ClassId} {n : Nat} {f : Nat → Int32} (ha : ws[q0]? = some (a, .inl (cA, n, .inl f))) (ht : tys[t0]? = some (cA, .boolean)) {k : Nat} (hk : k < n) (hn : n < 2 ^ 31) {x : Int32} (hf : f k = x) (hdg : decode cc pc = .ok (.baload, 1))
    (kk : W p l e R s m args below meth c H locs cells slots Q (F0 m (pc + 1) ls (.int x :: rest))) : W p l e R s m args below meth c H locs cells slots Q (F0 m pc ls (.int (nI k) :: .ref a :: rest)) :=
  va_zald hexec hb hK hP q0 t0 ha ht (vp_in_nI hk hn) hdg (zn_as (by rw [nI_clamp (Nat.lt_trans hk hn)]; exact hf) kk)
theorem zn_iast (hexec : p.tables.exec = Jvm.exec) (hb : c.code = cc) (hK : va_K D cl tys s) (hP : va_P D cl ws H) (hD : va_D A ws) (hS : va_S A H0 H locs) (q0 t0 : Nat) {cA : ClassId} {n : Nat} {f : Nat → Int32} (ha : ws[q0]? = some (a, .inl (cA, n, .inl f))) (ht : tys[t0]? = some (cA, .int)) {k : Nat} {x : Int32} (hk : k < n) (hn : n < 2 ^ 31) (hdg : decode cc pc = .ok (.iastore, 1))
    (kk : ∀ (H1 : Heap) (locs1 : List Loc) (f1 : Nat → Int32), f1 k = x → (∀ j, j ≠ k → f1 j = f j) → va_P D cl (ws.set q0 (a, .inl (cA, n, .inl f1))) H1 → va_D A (ws.set q0 (a, .inl (cA, n, .inl f1))) → va_S A H0 H1 locs1 → W p l e R s m args below meth c H1 locs1 cells slots Q (F0 m (pc + 1) ls rest)) : W p l e R s m args below meth c H locs cells slots Q (F0 m pc ls (.int x :: .int (nI k) :: .ref a :: rest)) := by
  refine va_iast hexec hb hK hP hD hS q0 t0 ha ht (vp_in_nI hk hn) hdg (fun H1 locs1 h1 h2 h3 => ?_)
  rw [nI_clamp (Nat.lt_trans hk hn)] at h1 h2
  exact kk H1 locs1 _ pk_us (fun j h => pk_un h) h1 h2 h3
theorem zn_zast (hexec : p.tables.exec = Jvm.exec) (hb : c.code = cc) (hK : va_K D cl tys s) (hP : va_P D cl ws H) (hD : va_D A ws) (hS : va_S A H0 H locs) (q0 t0 : Nat) {cA : ClassId} {n : Nat} {f : Nat → Int32} (ha : ws[q0]? = some (a, .inl (cA, n, .inl f))) (ht : tys[t0]? = some (cA, .boolean)) {k : Nat} {x : Int32} (hk : k < n) (hn : n < 2 ^ 31) (hx : vp_nar .boolean x = x) (hdg : decode cc pc = .ok (.bastore, 1))
    (kk : ∀ (H1 : Heap) (locs1 : List Loc) (f1 : Nat → Int32), f1 k = x → (∀ j, j ≠ k → f1 j = f j) → va_P D cl (ws.set q0 (a, .inl (cA, n, .inl f1))) H1 → va_D A (ws.set q0 (a, .inl (cA, n, .inl f1))) → va_S A H0 H1 locs1 → W p l e R s m args below meth c H1 locs1 cells slots Q (F0 m (pc + 1) ls rest)) : W p l e R s m args below meth c H locs cells slots Q (F0 m pc ls (.int x :: .int (nI k) :: .ref a :: rest)) := by
  refine va_zast hexec hb hK hP hD hS q0 t0 ha ht (vp_in_nI hk hn) hdg (fun H1 locs1 h1 h2 h3 => ?_)
  rw [nI_clamp (Nat.lt_trans hk hn), hx] at h1 h2
  exact kk H1 locs1 _ pk_us (fun j h => pk_un h) h1 h2 h3
end ZN
section ZH
variable {l : Launch} {y : MethodName} {ws ws' : List Cond} {rm : Room} {av : List Value} {D : va_G} {tys tys2 : List (ClassId × FieldType)} {wl : va_W} {sz mc ms maxL : Nat} {cc : ByteArray}
/-- the head of a method that doesn't throw: an int comes back -/
theorem zz_headI {S : Type} {post : Int32 → S → Prop} {wf : S → va_W} (hy : plainName y.cls = true) (hw : ws = Cond.code y cc maxL (some .int) :: ws') (hn : (lg_sl av).length ≤ maxL)
    (body : ∀ (p : Program) (e : Env) (s : State) (m : MethodId) (below : List Frame) (meth : Method) (c : Code) (A : Nat → Prop) (ls : Array Slot), CallFix p m c cc maxL s av.toArray ws y.cls → meth.sig.returnType = some .int → meth.locks = false → va_P D vwCl wl s.heap → va_K D vwCl tys s → va_D A wl → (∀ q, s.heap.size ≤ q → A q) → va_S A s.heap s.heap [] → lv_has ls maxL (lv_args 0 av) →
      W p l e (headSpec ws rm).room s m av.toArray below meth c s.heap [] 0 0 (MQ below (va_Qi post (zz_B D tys2 A wf) A) av.toArray s mc ms A) (F0 m 0 ls [])) :
    Met l y ws rm (va_Pc av (zz_pre D tys wl sz)) (va_Qi post (zz_B D tys2 (va_A wl sz) wf) (va_A wl sz)) mc ms (va_A wl sz) := by
  refine Met.ofW (cc := cc) (maxL := maxL) (ret := some .int) hy hw ?_
  intro p e s m args below meth c s₁ B hml hv
  obtain ⟨rfl, rfl, hP, hK, hD0⟩ := hv
  rw [lg_entry_eq]
  exact body p e s m below meth c _ _ ⟨B.exec, B.bytes, hml, findClass_of_methodNamed B.named, atoms_spec (ws := ws) B.pre⟩ B.returns B.notSynchronized hP hK hD0.self (fun q h => Or.inr h) va_S.rf (lv_entry av hn)
/-- .. nothing comes back -/
theorem zz_headV {S : Type} {post : S → Prop} {wf : S → va_W} (hy : plainName y.cls = true) (hw : ws = Cond.code y cc maxL none :: ws') (hn : (lg_sl av).length ≤ maxL)
    (body : ∀ (p : Program) (e : Env) (s : State) (m : MethodId) (below : List Frame) (meth : Method) (c : Code) (A : Nat → Prop) (ls : Array Slot), CallFix p m c cc maxL s av.toArray ws y.cls → meth.sig.returnType = none → meth.locks = false → meth.name = y.name → va_P D vwCl wl s.heap → va_K D vwCl tys s → va_D A wl → (∀ q, s.heap.size ≤ q → A q) → va_S A s.heap s.heap [] → lv_has ls maxL (lv_args 0 av) →
      W p l e (headSpec ws rm).room s m av.toArray below meth c s.heap [] 0 0 (MQ below (va_Qv post (zz_B D tys2 A wf) A) av.toArray s mc ms A) (F0 m 0 ls [])) :
    Met l y ws rm (va_Pc av (zz_pre D tys wl sz)) (va_Qv post (zz_B D tys2 (va_A wl sz) wf) (va_A wl sz)) mc ms (va_A wl sz) := by
  refine Met.ofW (cc := cc) (maxL := maxL) (ret := none) hy hw ?_
  intro p e s m args below meth c s₁ B hml hv
  obtain ⟨rfl, rfl, hP, hK, hD0⟩ := hv
  rw [lg_entry_eq]
  exact body p e s m below meth c _ _ ⟨B.exec, B.bytes, hml, findClass_of_methodNamed B.named, atoms_spec (ws := ws) B.pre⟩ B.returns B.notSynchronized (name_of_methodNamed B.named B.method).1 hP hK hD0.self (fun q h => Or.inr h) va_S.rf (lv_entry av hn)
/-- a method that may throw: an int comes back -/
theorem zx_headI {S : Type} {post : Int32 → S → Prop} {wf : S → va_W} {pe : String → S → Prop} (hy : plainName y.cls = true) (hw : ws = Cond.code y cc maxL (some .int) :: ws') (hn : (lg_sl av).length ≤ maxL)
    (body : ∀ (p : Program) (e : Env) (s : State) (m : MethodId) (below : List Frame) (meth : Method) (c : Code) (A : Nat → Prop) (ls : Array Slot), CallFix p m c cc maxL s av.toArray ws y.cls → meth.sig.returnType = some .int → meth.locks = false → (∀ x ∈ c.exceptionTable.toList, False) → va_P D vwCl wl s.heap → va_K D vwCl tys s → va_D A wl → (∀ q, s.heap.size ≤ q → A q) → va_S A s.heap s.heap [] → zx_st A s s.heap → lv_has ls maxL (lv_args 0 av) →
      W p l e (headSpec ws rm).room s m av.toArray below meth c s.heap [] 0 0 (vx_MQ below (va_Qi post (zz_B D tys2 A wf) A) (zx_X pe D tys2 A wf) av.toArray s mc ms A) (F0 m 0 ls [])) :
    vx_Met l y ws rm (va_Pc av (zx_pre D tys wl sz)) (va_Qi post (zz_B D tys2 (va_A wl sz) wf) (va_A wl sz)) (zx_X pe D tys2 (va_A wl sz) wf) mc ms (va_A wl sz) := by
  refine vx_ofW (cc := cc) (maxL := maxL) (ret := some .int) hy hw ?_
  intro p e s m args below meth c s₁ B hml ht hv
  obtain ⟨rfl, ⟨rfl, hP, hK, hD0⟩, hst⟩ := hv
  rw [lg_entry_eq]
  exact body p e s m below meth c _ _ ⟨B.exec, B.bytes, hml, findClass_of_methodNamed B.named, atoms_spec (ws := ws) B.pre⟩ B.returns B.notSynchronized ht hP hK hD0.self (fun q h => Or.inr h) va_S.rf hst (lv_entry av hn)
theorem zx_headV {S : Type} {post : S → Prop} {wf : S → va_W} {pe : String → S → Prop} (hy : plainName y.cls = true) (hw : ws = Cond.code y cc maxL none :: ws') (hn : (lg_sl av).length ≤ maxL)
    (body : ∀ (p : Program) (e : Env) (s : State) (m : MethodId) (below : List Frame) (meth : Method) (c : Code) (A : Nat → Prop) (ls : Array Slot), CallFix p m c cc maxL s av.toArray ws y.cls → meth.sig.returnType = none → meth.locks = false → (∀ x ∈ c.exceptionTable.toList, False) → va_P D vwCl wl s.heap → va_K D vwCl tys s → va_D A wl → (∀ q, s.heap.size ≤ q → A q) → va_S A s.heap s.heap [] → zx_st A s s.heap → lv_has ls maxL (lv_args 0 av) →
      W p l e (headSpec ws rm).room s m av.toArray below meth c s.heap [] 0 0 (vx_MQ below (va_Qv post (zz_B D tys2 A wf) A) (zx_X pe D tys2 A wf) av.toArray s mc ms A) (F0 m 0 ls [])) :
    vx_Met l y ws rm (va_Pc av (zx_pre D tys wl sz)) (va_Qv post (zz_B D tys2 (va_A wl sz) wf) (va_A wl sz)) (zx_X pe D tys2 (va_A wl sz) wf) mc ms (va_A wl sz) := by
  refine vx_ofW (cc := cc) (maxL := maxL) (ret := none) hy hw ?_
  intro p e s m args below meth c s₁ B hml ht hv
  obtain ⟨rfl, ⟨rfl, hP, hK, hD0⟩, hst⟩ := hv
  rw [lg_entry_eq]
  exact body p e s m below meth c _ _ ⟨B.exec, B.bytes, hml, findClass_of_methodNamed B.named, atoms_spec (ws := ws) B.pre⟩ B.returns B.notSynchronized ht hP hK hD0.self (fun q h => Or.inr h) va_S.rf hst (lv_entry av hn)
end ZH
section ZE
variable {p : Program} {l : Launch} {e : Env} {R : Room} {s : State} {m : MethodId} {args : Array Value} {below : List Frame} {meth : Method} {c : Code} {H : Heap} {locs : List Loc} {cells slots mc ms nL : Nat}
variable {cc : ByteArray} {pc : Nat} {ls : Array Slot} {rest : List Value} {Ts : List Cond} {own : String}
variable {D : va_G} {tys : List (ClassId × FieldType)} {A : Nat → Prop} {S : Type} {wf : S → va_W} {v : Int32} {post : Int32 → S → Prop} {postv : S → Prop} {pe : String → S → Prop}
theorem zz_iret (F : CallFix p m c cc nL s args Ts own) (hr : meth.sig.returnType = some .int) (hlocks : meth.locks = false) (hK : va_K D vwCl tys s) (hS : va_S A s.heap H locs) (hdg : decode cc pc = .ok (.ireturn, 1)) (hc : cells ≤ mc) (hs : slots ≤ ms) (u : S) (hp : post v u) (hP : va_P D vwCl (wf u) H) (hD : va_D A (wf u)) :
    W p l e R s m args below meth c H locs cells slots (MQ below (va_Qi post (zz_B D tys A wf) A) args s mc ms A) (F0 m pc ls [.int v]) :=
  W.widen hc hs (W.iret F.1 F.2.1 hr (fun t ht hW => ⟨⟨v, u, rfl, hp, by rw [ht]; exact hP, va_K.moved hW.alike hK, hD⟩, hS.F ht⟩) hS.2.2 hdg hlocks)
theorem zz_vret (F : CallFix p m c cc nL s args Ts own) (hr : meth.sig.returnType = none) (hlocks : meth.locks = false) (hK : va_K D vwCl tys s) (hS : va_S A s.heap H locs) (hdg : decode cc pc = .ok (.return_, 1)) (hc : cells ≤ mc) (hs : slots ≤ ms) (u : S) (hp : postv u) (hP : va_P D vwCl (wf u) H) (hD : va_D A (wf u)) :
    W p l e R s m args below meth c H locs cells slots (MQ below (va_Qv postv (zz_B D tys A wf) A) args s mc ms A) (F0 m pc ls []) :=
  W.widen hc hs (W.vret F.1 F.2.1 hr (fun t ht hW => ⟨⟨u, rfl, hp, by rw [ht]; exact hP, va_K.moved hW.alike hK, hD⟩, hS.F ht⟩) hS.2.2 hdg hlocks)
/-- an exception of a callee goes on to the caller -/
theorem zx_out {Qc : Array Value → State → Outcome → State → Prop} {E : String} {ce : Cell} {q9 : Addr} (ht : ∀ x ∈ c.exceptionTable.toList, False) (hlocks : meth.locks = false) (hK : va_K D vwCl tys s) (hS : va_S A s.heap H locs) (hcell : H[q9]? = some ce) (hv : ce.vm = .none) (hcl : s.vm.findClass E = some ce.cls) (hc : cells ≤ mc) (hs : slots ≤ ms) (u : S) (hp : pe E u) (hP : va_P D vwCl (wf u) H) (hD : va_D A (wf u)) :
    vx_W p l e R s m args below meth c H locs cells slots (vx_MQ below Qc (zx_X pe D tys A wf) args s mc ms A) (F0 m pc ls rest) q9 :=
  vx_out (fun x hx => (ht x hx).elim) hlocks hcell hv hcl (fun t h1 h2 => ⟨u, trivial, ⟨hp, by rw [h1]; exact hP, va_K.moved h2 hK, hD⟩, hS.F h1⟩) hS.2.2 hc hs
end ZE
section ZC
variable {p : Program} {l : Launch} {e : Env} {R : Room} {s : State} {m : MethodId} {args : Array Value} {below : List Frame} {meth : Method} {c : Code} {H : Heap} {locs : List Loc} {cells slots : Nat} {Q : State → Prop}
variable {cc : ByteArray} {pc : Nat} {ls : Array Slot} {rest st0 : List Value} {Ts : List Cond} {own C : String}
variable {D : va_G} {tys tys1 tys2 : List (ClassId × FieldType)} {A : Nat → Prop} {S : Type} {wf : S → va_W} {wl : va_W} {post : Int32 → S → Prop} {postv : S → Prop} {pe : String → S → Prop}
variable {y : MethodName} {bytes : ByteArray} {maxL nL mc ms n index : Nat} {ret : Option FieldType} {ws : List Cond} {rm : Room} {b : Addr} {As : List Value}
theorem zz_preV {q0 ci : Nat} {fs : List Value} {T : u_T} {N : Nat} (hK : va_K D vwCl tys s) (hP : va_P D vwCl wl H) (hD : va_D A wl) (he : wl[q0]? = some (b, .inr (ci, fs))) (hc : vwCl[ci]? = some (C, T, N)) : PreV s H C b (va_Pc (.ref b :: As) (zz_pre D tys wl H.size)) As :=
  ⟨zz_blind, va_recv hK hP hc he, fun U hU hW => ⟨rfl, by rw [hU], by rw [hU]; exact hP, va_K.moved hW.alike hK, hD.weaken (fun _ _ _ _ => trivial)⟩⟩
theorem zz_preS (hK : va_K D vwCl tys s) (hP : va_P D vwCl wl H) (hD : va_D A wl) : PreS s H (va_Pc As (zz_pre D tys wl H.size)) As :=
  ⟨zz_blind, fun U hU hW => ⟨rfl, by rw [hU], by rw [hU]; exact hP, va_K.moved hW.alike hK, hD.weaken (fun _ _ _ _ => trivial)⟩⟩
theorem zx_stH (hst : zx_st A s s.heap) (hS : va_S A s.heap H locs) (hF : ∀ q, va_A wl H.size q → A q) {U : State} (hU : U.heap = H) (hW : s.WarmedH U.vm) : zx_st (va_A wl H.size) U U.heap := by
  rw [hU]
  exact ⟨(vx_Zq.moved hW.alike (hst.1.kept hS.2.1)).narrow hF, (vx_Zq.moved hW.alike (hst.2.1.kept hS.2.1)).narrow hF, hst.2.2.warm hW⟩
theorem zx_preV {q0 ci : Nat} {fs : List Value} {T : u_T} {N : Nat} (hK : va_K D vwCl tys s) (hP : va_P D vwCl wl H) (hD : va_D A wl) (hst : zx_st A s s.heap) (hS : va_S A s.heap H locs) (hF : ∀ q, va_A wl H.size q → A q) (he : wl[q0]? = some (b, .inr (ci, fs))) (hc : vwCl[ci]? = some (C, T, N)) : PreV s H C b (va_Pc (.ref b :: As) (zx_pre D tys wl H.size)) As :=
  ⟨zx_blind, va_recv hK hP hc he, fun U hU hW => ⟨rfl, ⟨by rw [hU], by rw [hU]; exact hP, va_K.moved hW.alike hK, hD.weaken (fun _ _ _ _ => trivial)⟩, zx_stH hst hS hF hU hW⟩⟩
theorem zx_preS (hK : va_K D vwCl tys s) (hP : va_P D vwCl wl H) (hD : va_D A wl) (hst : zx_st A s s.heap) (hS : va_S A s.heap H locs) (hF : ∀ q, va_A wl H.size q → A q) : PreS s H (va_Pc As (zx_pre D tys wl H.size)) As :=
  ⟨zx_blind, fun U hU hW => ⟨rfl, ⟨by rw [hU], by rw [hU]; exact hP, va_K.moved hW.alike hK, hD.weaken (fun _ _ _ _ => trivial)⟩, zx_stH hst hS hF hU hW⟩⟩
/-- a virtual call that gives an int, the whole world handed over -/
theorem zz_callVi {ci : Nat} {fs : List Value} {T : u_T} {N : Nat} (F : CallFix p m c cc nL s args Ts own) (hK : va_K D vwCl tys s) (hP : va_P D vwCl wl H) (hD : va_D A wl) (hS : va_S A s.heap H locs) (hA : ∀ q, s.heap.size ≤ q → A q)
    (hM : Met l y ws rm (va_Pc (.ref b :: As) (zz_pre D tys wl H.size)) (va_Qi post (zz_B D tys2 (va_A wl H.size) wf) (va_A wl H.size)) mc ms (va_A wl H.size)) (cw : CallW R s args own C index y bytes maxL ret ws rm mc ms n) (q0 : Nat) (he : wl[q0]? = some (b, .inr (ci, fs))) (hc : vwCl[ci]? = some (C, T, N))
    (hn : As.length = n) (hsize : ls.size = nL) (hstack : st0 = As.reverse ++ .ref b :: rest) (hW : (rest.map fun v => v.category).sum ≤ 8) (hdg : decode cc pc = .ok (.invokevirtual index, 3)) (hf : cells + mc ≤ R.cells ∧ slots + ms ≤ R.slots)
    (kk : ∀ (r : Int32) (u : S) (H1 : Heap) (locs1 : List Loc), post r u → va_P D vwCl (wf u) H1 → va_D A (wf u) → va_S A s.heap H1 locs1 → W p l e R s m args below meth c H1 locs1 (cells + mc) (slots + ms) Q (F0 m (pc + 3) ls (.int r :: rest))) : W p l e R s m args below meth c H locs cells slots Q (F0 m pc ls st0) := by
  have hFc := zz_in hD hS hA
  refine va_calli (va_runV F hM cw (zz_preV hK hP hD he hc) rfl hn hsize hstack (lv_room hW) hdg hf) hS (fun q _ h => hFc q h) hFc (fun r u t H1 locs1 ht hvm hp hB hz hk hS1 => ?_)
  obtain ⟨hP1, -, hD1⟩ := hB
  rw [ht] at hP1
  exact kk r u H1 locs1 hp hP1 (hD1.weaken (fun _ _ _ h => hFc _ h)) hS1
theorem zz_callVv {ci : Nat} {fs : List Value} {T : u_T} {N : Nat} (F : CallFix p m c cc nL s args Ts own) (hK : va_K D vwCl tys s) (hP : va_P D vwCl wl H) (hD : va_D A wl) (hS : va_S A s.heap H locs) (hA : ∀ q, s.heap.size ≤ q → A q)
    (hM : Met l y ws rm (va_Pc (.ref b :: As) (zz_pre D tys wl H.size)) (va_Qv postv (zz_B D tys2 (va_A wl H.size) wf) (va_A wl H.size)) mc ms (va_A wl H.size)) (cw : CallW R s args own C index y bytes maxL ret ws rm mc ms n) (q0 : Nat) (he : wl[q0]? = some (b, .inr (ci, fs))) (hc : vwCl[ci]? = some (C, T, N))
    (hn : As.length = n) (hsize : ls.size = nL) (hstack : st0 = As.reverse ++ .ref b :: rest) (hW : (rest.map fun v => v.category).sum ≤ 8) (hdg : decode cc pc = .ok (.invokevirtual index, 3)) (hf : cells + mc ≤ R.cells ∧ slots + ms ≤ R.slots)
    (kk : ∀ (u : S) (H1 : Heap) (locs1 : List Loc), postv u → va_P D vwCl (wf u) H1 → va_D A (wf u) → va_S A s.heap H1 locs1 → W p l e R s m args below meth c H1 locs1 (cells + mc) (slots + ms) Q (F0 m (pc + 3) ls rest)) : W p l e R s m args below meth c H locs cells slots Q (F0 m pc ls st0) := by
  have hFc := zz_in hD hS hA
  refine va_callv (va_runV F hM cw (zz_preV hK hP hD he hc) rfl hn hsize hstack (lv_room hW) hdg hf) hS (fun q _ h => hFc q h) hFc (fun u t H1 locs1 ht hvm hp hB hz hk hS1 => ?_)
  obtain ⟨hP1, -, hD1⟩ := hB
  rw [ht] at hP1
  exact kk u H1 locs1 hp hP1 (hD1.weaken (fun _ _ _ h => hFc _ h)) hS1
theorem zz_callSv (F : CallFix p m c cc nL s args Ts own) (hK : va_K D vwCl tys s) (hP : va_P D vwCl wl H) (hD : va_D A wl) (hS : va_S A s.heap H locs) (hA : ∀ q, s.heap.size ≤ q → A q)
    (hM : Met l y ws rm (va_Pc As (zz_pre D tys wl H.size)) (va_Qv postv (zz_B D tys2 (va_A wl H.size) wf) (va_A wl H.size)) mc ms (va_A wl H.size)) (cw : CallB R s args own index y bytes maxL ret ws rm mc ms n ∧ (Cond.static y).before args s = true)
    (hn : As.length = n) (hsize : ls.size = nL) (hstack : st0 = As.reverse ++ rest) (hW : (rest.map fun v => v.category).sum ≤ 8) (hdg : decode cc pc = .ok (.invokestatic index, 3)) (hf : cells + mc ≤ R.cells ∧ slots + ms ≤ R.slots)
    (kk : ∀ (u : S) (H1 : Heap) (locs1 : List Loc), postv u → va_P D vwCl (wf u) H1 → va_D A (wf u) → va_S A s.heap H1 locs1 → W p l e R s m args below meth c H1 locs1 (cells + mc) (slots + ms) Q (F0 m (pc + 3) ls rest)) : W p l e R s m args below meth c H locs cells slots Q (F0 m pc ls st0) := by
  have hFc := zz_in hD hS hA
  refine va_callv (va_runS F hM cw (zz_preS hK hP hD) rfl hn hsize hstack (lv_room hW) hdg hf) hS (fun q _ h => hFc q h) hFc (fun u t H1 locs1 ht hvm hp hB hz hk hS1 => ?_)
  obtain ⟨hP1, -, hD1⟩ := hB
  rw [ht] at hP1
  exact kk u H1 locs1 hp hP1 (hD1.weaken (fun _ _ _ h => hFc _ h)) hS1
/-- a constructor's call -/
theorem zz_callIv (F : CallFix p m c cc nL s args Ts own) (hK : va_K D vwCl tys s) (hP : va_P D vwCl wl H) (hD : va_D A wl) (hS : va_S A s.heap H locs) (hA : ∀ q, s.heap.size ≤ q → A q)
    (hM : Met l y ws rm (va_Pc (.ref b :: As) (zz_pre D tys wl H.size)) (va_Qv postv (zz_B D tys2 (va_A wl H.size) wf) (va_A wl H.size)) mc ms (va_A wl H.size)) (cw : CallB R s args own index y bytes maxL none ws rm mc ms n ∧ y.name = "<init>" ∧ (Cond.instanceMethod y).before args s = true)
    (hn : As.length = n) (hsize : ls.size = nL) (hstack : st0 = As.reverse ++ .ref b :: rest) (hW : (rest.map fun v => v.category).sum ≤ 8) (hdg : decode cc pc = .ok (.invokespecial index, 3)) (hf : cells + mc ≤ R.cells ∧ slots + ms ≤ R.slots)
    (kk : ∀ (u : S) (H1 : Heap) (locs1 : List Loc), postv u → va_P D vwCl (wf u) H1 → va_D A (wf u) → va_S A s.heap H1 locs1 → W p l e R s m args below meth c H1 locs1 (cells + mc) (slots + ms) Q (F0 m (pc + 3) ls rest)) : W p l e R s m args below meth c H locs cells slots Q (F0 m pc ls st0) := by
  have hFc := zz_in hD hS hA
  refine va_callv (va_runI F hM cw (zz_preS hK hP hD) rfl hn hsize hstack (lv_room hW) hdg hf) hS (fun q _ h => hFc q h) hFc (fun u t H1 locs1 ht hvm hp hB hz hk hS1 => ?_)
  obtain ⟨hP1, -, hD1⟩ := hB
  rw [ht] at hP1
  exact kk u H1 locs1 hp hP1 (hD1.weaken (fun _ _ _ h => hFc _ h)) hS1
/-- calls of methods that may throw -/
theorem zx_callVi {ci : Nat} {fs : List Value} {T : u_T} {N : Nat} (F : CallFix p m c cc nL s args Ts own) (hK : va_K D vwCl tys s) (hP : va_P D vwCl wl H) (hD : va_D A wl) (hS : va_S A s.heap H locs) (hA : ∀ q, s.heap.size ≤ q → A q) (hst : zx_st A s s.heap)
    (hM : vx_Met l y ws rm (va_Pc (.ref b :: As) (zx_pre D tys wl H.size)) (va_Qi post (zz_B D tys2 (va_A wl H.size) wf) (va_A wl H.size)) (zx_X pe D tys2 (va_A wl H.size) wf) mc ms (va_A wl H.size)) (cw : CallW R s args own C index y bytes maxL ret ws rm mc ms n) (q0 : Nat) (he : wl[q0]? = some (b, .inr (ci, fs))) (hc : vwCl[ci]? = some (C, T, N))
    (hn : As.length = n) (hsize : ls.size = nL) (hstack : st0 = As.reverse ++ .ref b :: rest) (hW : (rest.map fun v => v.category).sum ≤ 8) (hdg : decode cc pc = .ok (.invokevirtual index, 3)) (hf : cells + mc ≤ R.cells ∧ slots + ms ≤ R.slots)
    (kx : ∀ (E : String) (ce : Cell) (q9 : Addr) (u : S) (H1 : Heap) (locs1 : List Loc), pe E u → va_P D vwCl (wf u) H1 → va_D A (wf u) → va_S A s.heap H1 locs1 → H1[q9]? = some ce → ce.vm = .none → s.vm.findClass E = some ce.cls → vx_W p l e R s m args below meth c H1 locs1 (cells + mc) (slots + ms) Q (F0 m pc ls rest) q9)
    (kk : ∀ (r : Int32) (u : S) (H1 : Heap) (locs1 : List Loc), post r u → va_P D vwCl (wf u) H1 → va_D A (wf u) → va_S A s.heap H1 locs1 → W p l e R s m args below meth c H1 locs1 (cells + mc) (slots + ms) Q (F0 m (pc + 3) ls (.int r :: rest))) : W p l e R s m args below meth c H locs cells slots Q (F0 m pc ls st0) := by
  have hFc := zz_in hD hS hA
  refine vx_calli (vx_runV F hM cw (zx_preV hK hP hD hst hS hFc he hc) rfl hn hsize hstack (lv_room hW) hdg hf) hS (fun q _ h => hFc q h) hFc (fun q _ h => hFc q h) (fun E ce q9 u t H1 locs1 ht hvm _ hB hz hk hS1 h1 h2 h3 => ?_) (fun r u t H1 locs1 ht hvm hp hB hz hk hS1 => ?_)
  · obtain ⟨hp, hP1, -, hD1⟩ := hB
    rw [ht] at hP1
    exact kx E ce q9 u H1 locs1 hp hP1 (hD1.weaken (fun _ _ _ h => hFc _ h)) hS1 h1 h2 h3
  · obtain ⟨hP1, -, hD1⟩ := hB
    rw [ht] at hP1
    exact kk r u H1 locs1 hp hP1 (hD1.weaken (fun _ _ _ h => hFc _ h)) hS1
theorem zx_callVv {ci : Nat} {fs : List Value} {T : u_T} {N : Nat} (F : CallFix p m c cc nL s args Ts own) (hK : va_K D vwCl tys s) (hP : va_P D vwCl wl H) (hD : va_D A wl) (hS : va_S A s.heap H locs) (hA : ∀ q, s.heap.size ≤ q → A q) (hst : zx_st A s s.heap)
    (hM : vx_Met l y ws rm (va_Pc (.ref b :: As) (zx_pre D tys wl H.size)) (va_Qv postv (zz_B D tys2 (va_A wl H.size) wf) (va_A wl H.size)) (zx_X pe D tys2 (va_A wl H.size) wf) mc ms (va_A wl H.size)) (cw : CallW R s args own C index y bytes maxL ret ws rm mc ms n) (q0 : Nat) (he : wl[q0]? = some (b, .inr (ci, fs))) (hc : vwCl[ci]? = some (C, T, N))
    (hn : As.length = n) (hsize : ls.size = nL) (hstack : st0 = As.reverse ++ .ref b :: rest) (hW : (rest.map fun v => v.category).sum ≤ 8) (hdg : decode cc pc = .ok (.invokevirtual index, 3)) (hf : cells + mc ≤ R.cells ∧ slots + ms ≤ R.slots)
    (kx : ∀ (E : String) (ce : Cell) (q9 : Addr) (u : S) (H1 : Heap) (locs1 : List Loc), pe E u → va_P D vwCl (wf u) H1 → va_D A (wf u) → va_S A s.heap H1 locs1 → H1[q9]? = some ce → ce.vm = .none → s.vm.findClass E = some ce.cls → vx_W p l e R s m args below meth c H1 locs1 (cells + mc) (slots + ms) Q (F0 m pc ls rest) q9)
    (kk : ∀ (u : S) (H1 : Heap) (locs1 : List Loc), postv u → va_P D vwCl (wf u) H1 → va_D A (wf u) → va_S A s.heap H1 locs1 → W p l e R s m args below meth c H1 locs1 (cells + mc) (slots + ms) Q (F0 m (pc + 3) ls rest)) : W p l e R s m args below meth c H locs cells slots Q (F0 m pc ls st0) := by
  have hFc := zz_in hD hS hA
  refine vx_callv (vx_runV F hM cw (zx_preV hK hP hD hst hS hFc he hc) rfl hn hsize hstack (lv_room hW) hdg hf) hS (fun q _ h => hFc q h) hFc (fun q _ h => hFc q h) (fun E ce q9 u t H1 locs1 ht hvm _ hB hz hk hS1 h1 h2 h3 => ?_) (fun u t H1 locs1 ht hvm hp hB hz hk hS1 => ?_)
  · obtain ⟨hp, hP1, -, hD1⟩ := hB
    rw [ht] at hP1
    exact kx E ce q9 u H1 locs1 hp hP1 (hD1.weaken (fun _ _ _ h => hFc _ h)) hS1 h1 h2 h3
  · obtain ⟨hP1, -, hD1⟩ := hB
    rw [ht] at hP1
    exact kk u H1 locs1 hp hP1 (hD1.weaken (fun _ _ _ h => hFc _ h)) hS1
theorem zx_callSv (F : CallFix p m c cc nL s args Ts own) (hK : va_K D vwCl tys s) (hP : va_P D vwCl wl H) (hD : va_D A wl) (hS : va_S A s.heap H locs) (hA : ∀ q, s.heap.size ≤ q → A q) (hst : zx_st A s s.heap)
    (hM : vx_Met l y ws rm (va_Pc As (zx_pre D tys wl H.size)) (va_Qv postv (zz_B D tys2 (va_A wl H.size) wf) (va_A wl H.size)) (zx_X pe D tys2 (va_A wl H.size) wf) mc ms (va_A wl H.size)) (cw : CallB R s args own index y bytes maxL ret ws rm mc ms n ∧ (Cond.static y).before args s = true)
    (hn : As.length = n) (hsize : ls.size = nL) (hstack : st0 = As.reverse ++ rest) (hW : (rest.map fun v => v.category).sum ≤ 8) (hdg : decode cc pc = .ok (.invokestatic index, 3)) (hf : cells + mc ≤ R.cells ∧ slots + ms ≤ R.slots)
    (kx : ∀ (E : String) (ce : Cell) (q9 : Addr) (u : S) (H1 : Heap) (locs1 : List Loc), pe E u → va_P D vwCl (wf u) H1 → va_D A (wf u) → va_S A s.heap H1 locs1 → H1[q9]? = some ce → ce.vm = .none → s.vm.findClass E = some ce.cls → vx_W p l e R s m args below meth c H1 locs1 (cells + mc) (slots + ms) Q (F0 m pc ls rest) q9)
    (kk : ∀ (u : S) (H1 : Heap) (locs1 : List Loc), postv u → va_P D vwCl (wf u) H1 → va_D A (wf u) → va_S A s.heap H1 locs1 → W p l e R s m args below meth c H1 locs1 (cells + mc) (slots + ms) Q (F0 m (pc + 3) ls rest)) : W p l e R s m args below meth c H locs cells slots Q (F0 m pc ls st0) := by
  have hFc := zz_in hD hS hA
  refine vx_callv (vx_runS F hM cw (zx_preS hK hP hD hst hS hFc) rfl hn hsize hstack (lv_room hW) hdg hf) hS (fun q _ h => hFc q h) hFc (fun q _ h => hFc q h) (fun E ce q9 u t H1 locs1 ht hvm _ hB hz hk hS1 h1 h2 h3 => ?_) (fun u t H1 locs1 ht hvm hp hB hz hk hS1 => ?_)
  · obtain ⟨hp, hP1, -, hD1⟩ := hB
    rw [ht] at hP1
    exact kx E ce q9 u H1 locs1 hp hP1 (hD1.weaken (fun _ _ _ h => hFc _ h)) hS1 h1 h2 h3
  · obtain ⟨hP1, -, hD1⟩ := hB
    rw [ht] at hP1
    exact kk u H1 locs1 hp hP1 (hD1.weaken (fun _ _ _ h => hFc _ h)) hS1
end ZC
section ZL
variable {p : Program} {l : Launch} {e : Env} {R : Room} {s : State} {m : MethodId} {args : Array Value} {below : List Frame} {meth : Method} {c : Code} {H : Heap} {locs : List Loc} {cells slots : Nat} {Q : State → Prop}
variable {pc : Nat} {ls : Array Slot}
/-- a loop: an invariant at its head, a measure that falls -/
theorem zz_loop {τ : Type} (I : Array Slot → Heap → List Loc → τ → Prop) (μ : τ → Nat)
    (hs : ∀ (ls : Array Slot) (H : Heap) (locs : List Loc) (u : τ), I ls H locs u → (∀ (ls' : Array Slot) (H' : Heap) (locs' : List Loc) (u' : τ), I ls' H' locs' u' → μ u' < μ u → W p l e R s m args below meth c H' locs' cells slots Q (F0 m pc ls' [])) → W p l e R s m args below meth c H locs cells slots Q (F0 m pc ls []))
    (u : τ) (h : I ls H locs u) : W p l e R s m args below meth c H locs cells slots Q (F0 m pc ls []) := by
  have key : ∀ (k : Nat) (ls : Array Slot) (H : Heap) (locs : List Loc) (u : τ), μ u < k → I ls H locs u → W p l e R s m args below meth c H locs cells slots Q (F0 m pc ls []) := by
    intro k
    induction k with
    | zero => intro ls H locs u h; omega
    | succ k ih => intro ls H locs u hk hi; exact hs ls H locs u hi (fun ls' H' locs' u' hi' hm => ih ls' H' locs' u' (by omega) hi')
  exact key (μ u + 1) ls H locs u (by omega) h
/-- .. that may make cells -/
theorem zz_loopC {τ : Type} (I : Array Slot → Heap → List Loc → Nat → Nat → τ → Prop) (μ : τ → Nat)
    (hs : ∀ (ls : Array Slot) (H : Heap) (locs : List Loc) (cells slots : Nat) (u : τ), I ls H locs cells slots u → (∀ (ls' : Array Slot) (H' : Heap) (locs' : List Loc) (cells' slots' : Nat) (u' : τ), I ls' H' locs' cells' slots' u' → μ u' < μ u → W p l e R s m args below meth c H' locs' cells' slots' Q (F0 m pc ls' [])) → W p l e R s m args below meth c H locs cells slots Q (F0 m pc ls []))
    (u : τ) (h : I ls H locs cells slots u) : W p l e R s m args below meth c H locs cells slots Q (F0 m pc ls []) := by
  have key : ∀ (k : Nat) (ls : Array Slot) (H : Heap) (locs : List Loc) (cells slots : Nat) (u : τ), μ u < k → I ls H locs cells slots u → W p l e R s m args below meth c H locs cells slots Q (F0 m pc ls []) := by
    intro k
    induction k with
    | zero => intro ls H locs cells slots u h; omega
    | succ k ih => intro ls H locs cells slots u hk hi; exact hs ls H locs cells slots u hi (fun ls' H' locs' cells' slots' u' hi' hm => ih ls' H' locs' cells' slots' u' (by omega) hi')
  exact key (μ u + 1) ls H locs cells slots u (by omega) h
end ZL
/-- a number is one of lo .. hi -/
def zr (x : Int32) (lo hi : Nat) : Prop := ∃ k : Nat, lo ≤ k ∧ k ≤ hi ∧ x = nI k
theorem zr_of {x : Int32} {lo hi : Nat} (hh : hi < 2 ^ 31) (hlo : lo < 2 ^ 31) (h1 : ¬ x < nI lo) (h2 : x ≤ nI hi) : zr x lo hi := by
  have a1 : (lo : Int) ≤ x.toInt := by
    rw [Int32.lt_iff_toInt_lt, nI_toInt hlo] at h1
    omega
  have a2 : x.toInt ≤ (hi : Int) := by
    rw [Int32.le_iff_toInt_le, nI_toInt hh] at h2
    exact h2
  obtain ⟨j, hj, e⟩ := nI_of (x := x) (by rw [Int32.lt_iff_toInt_lt, Int32.toInt_zero]; omega)
  subst e
  rw [nI_toInt hj] at a1 a2
  exact ⟨j, by omega, by omega, rfl⟩
section ZT
variable {p : Program} {l : Launch} {e : Env} {R : Room} {s : State} {m : MethodId} {args : Array Value} {below : List Frame} {meth : Method} {c : Code} {H : Heap} {locs : List Loc} {cells slots mc ms nL : Nat}
variable {cc : ByteArray} {pc : Nat} {ls : Array Slot} {rest : List Value} {Ts : List Cond} {own : String}
variable {D : va_G} {tys : List (ClassId × FieldType)} {A : Nat → Prop} {S : Type} {wf : S → va_W} {pe : String → S → Prop}
/-- 'throw new E()' in a method without a table -/
theorem zx_throw {Qc : Array Value → State → Outcome → State → Prop} {cls : String} {names : List String} {ik ic : Nat} (F : CallFix p m c cc nL s args Ts own) (hl0 : l.stackTraces = false) (ht : ∀ x ∈ c.exceptionTable.toList, False) (hlocks : meth.locks = false) (hK : va_K D vwCl tys s) (hS : va_S A s.heap H locs) (hst : zx_st A s s.heap)
    (hcls : Bundle.fit cls = true) (hnames : ∀ n ∈ names, Bundle.fit n = true) (hk : (Cond.classLink own ik cls).before args s = true) (hini : (Cond.initialized cls).before args s = true) (hat : ∀ w ∈ vx_at0 own ic cls names, w.before args s = true)
    (hgood : ∀ w ∈ Cond.classLink own ik cls :: Cond.initialized cls :: vx_at0 own ic cls names, vx_ot w = true) (hsize : ls.size = nL)
    (d0 : decode cc pc = .ok (.new ik, 3)) (d3 : decode cc (pc + 3) = .ok (.dup, 1)) (d4 : decode cc (pc + 4) = .ok (.invokespecial ic, 3)) (d7 : decode cc (pc + 7) = .ok (.athrow, 1))
    (hRframes : names.length + 3 < R.frames) (hRlocals : (rest.map fun v => v.category).sum + (13 * (names.length + 1) + 42) ≤ R.locals) (hRcells : cells + 1 ≤ R.cells) (hRslots : slots + 6 ≤ R.slots) (hc : cells + 1 ≤ mc) (hs : slots + 6 ≤ ms)
    (u : S) (hp : pe cls u) (hP : va_P D vwCl (wf u) H) (hD : va_D A (wf u)) :
    W p l e R s m args below meth c H locs cells slots (vx_MQ below Qc (zx_X pe D tys A wf) args s mc ms A) (F0 m pc ls rest) :=
  vx_throw0 (names := names) F.1 F.2.1 hl0 F.2.2.2.1 hcls hnames hk hini hat hgood hst.1 hst.2.1 hS (hsize.trans F.2.2.1.symm) d0 d3 d4 d7 (fun x hx => (ht x hx).elim) hRframes hRlocals hRcells hRslots hlocks
    (fun t h1 h2 h3 => ⟨u, trivial, ⟨hp, hP.kept (fun k q hk => h3 q.1 (hP k q hk).lt), va_K.moved h1 hK, hD⟩, Nat.le_trans hS.1 h2, fun q g1 g2 => (h3 q (Nat.lt_of_lt_of_le g1 hS.1)).trans (hS.2.1 q g1 g2)⟩) hS.2.2 hc hs
end ZT
theorem zz_setself {α : Type} {wl : List α} {q0 : Nat} {x : α} (he : wl[q0]? = some x) : wl.set q0 x = wl := by
  apply List.ext_getElem?
  intro i
  rw [List.getElem?_set]
  split
  · rename_i h
    subst h
    rw [he]
    split
    · rfl
    · rename_i h9
      exact absurd ((List.getElem?_eq_some_iff.mp he).1) h9
  · rfl
theorem zz_arrI {D : va_G} {tys : List (ClassId × FieldType)} {s : State} {cA cI : ClassId} {k : Nat} (hK0 : va_K D vwCl tys s) (hI : tys[k]? = some (cI, .int)) (hK : va_K D vwCl (tys ++ [(cA, .int)]) s) : cA = cI := by
  have h1 : s.vm.findClass ("[" ++ FieldType.int.toString) = some cI := (hK0.2 k _ hI).2
  have h2 : s.vm.findClass ("[" ++ FieldType.int.toString) = some cA := (hK.2 tys.length (cA, .int) (by simp)).2
  exact Option.some.inj (h2.symm.trans h1)
theorem zz_arrZ {D : va_G} {tys : List (ClassId × FieldType)} {s : State} {cA cI : ClassId} {k : Nat} (hK0 : va_K D vwCl tys s) (hI : tys[k]? = some (cI, .boolean)) (hK : va_K D vwCl (tys ++ [(cA, .boolean)]) s) : cA = cI := by
  have h1 : s.vm.findClass ("[" ++ FieldType.boolean.toString) = some cI := (hK0.2 k _ hI).2
  have h2 : s.vm.findClass ("[" ++ FieldType.boolean.toString) = some cA := (hK.2 tys.length (cA, .boolean) (by simp)).2
  exact Option.some.inj (h2.symm.trans h1)
theorem zz_arrL {D : va_G} {tys : List (ClassId × FieldType)} {s : State} {cA cI : ClassId} {k : Nat} (hK0 : va_K D vwCl tys s) (hI : tys[k]? = some (cI, .long)) (hK : va_K D vwCl (tys ++ [(cA, .long)]) s) : cA = cI := by
  have h1 : s.vm.findClass ("[" ++ FieldType.long.toString) = some cI := (hK0.2 k _ hI).2
  have h2 : s.vm.findClass ("[" ++ FieldType.long.toString) = some cA := (hK.2 tys.length (cA, .long) (by simp)).2
  exact Option.some.inj (h2.symm.trans h1)
/-! methods with an exception table (the law's own) -/
def zy_pre (D : va_G) (tys : List (ClassId × FieldType)) (wl : va_W) (sz : Nat) : State → Prop := fun U => zx_pre D tys wl sz U ∧ va_Nc "java/util/NoSuchElementException" "java/lang/IllegalArgumentException" U
theorem zy_blind {av : List Value} {D : va_G} {tys : List (ClassId × FieldType)} {wl : va_W} {sz : Nat} : FrameBlind (va_Pc av (zy_pre D tys wl sz)) := fun a U g mk q => by
  obtain ⟨q0, qx, qn⟩ := q
  have h9 := zx_blind (av := av) a U g mk ⟨q0, qx⟩
  exact ⟨q0, h9.2, va_Nc.moved (u := U) (U := U.calling g mk a) (Vm.Alike.refl U.vm) qn⟩
section ZW
variable {l : Launch} {y : MethodName} {ws ws' : List Cond} {rm : Room} {av : List Value} {D : va_G} {tys tys2 : List (ClassId × FieldType)} {wl : va_W} {sz mc ms maxL : Nat} {cc : ByteArray} {hh : List (Nat × Nat × Nat × Nat)}
theorem zy_headI {S : Type} {post : Int32 → S → Prop} {wf : S → va_W} (hy : plainName y.cls = true) (hw : ws = Cond.codeWith y cc maxL (some .int) hh :: ws') (hn : (lg_sl av).length ≤ maxL)
    (body : ∀ (p : Program) (e : Env) (s : State) (m : MethodId) (below : List Frame) (meth : Method) (c : Code) (A : Nat → Prop) (ls : Array Slot), CallFix p m c cc maxL s av.toArray ws y.cls → meth.sig.returnType = some .int → meth.locks = false → c.exceptionTable.toList = tableOf hh → va_P D vwCl wl s.heap → va_K D vwCl tys s → va_D A wl → (∀ q, s.heap.size ≤ q → A q) → va_S A s.heap s.heap [] → zx_st A s s.heap → va_Nc "java/util/NoSuchElementException" "java/lang/IllegalArgumentException" s → lv_has ls maxL (lv_args 0 av) →
      W p l e (headSpec ws rm).room s m av.toArray below meth c s.heap [] 0 0 (MQ below (va_Qi post (zz_B D tys2 A wf) A) av.toArray s mc ms A) (F0 m 0 ls [])) :
    Met l y ws rm (va_Pc av (zy_pre D tys wl sz)) (va_Qi post (zz_B D tys2 (va_A wl sz) wf) (va_A wl sz)) mc ms (va_A wl sz) := by
  refine va_MetW (cc := cc) (maxL := maxL) (ret := some .int) (hh := hh) hy hw ?_
  intro p e s m args below meth c s₁ B hml hv
  obtain ⟨rfl, ⟨⟨rfl, hP, hK, hD0⟩, hst⟩, hnc⟩ := hv
  have hts := atoms_spec (ws := ws) B.pre
  rw [lg_entry_eq]
  exact body p e s m below meth c _ _ ⟨B.exec, B.bytes, hml, findClass_of_methodNamed B.named, hts⟩ B.returns B.notSynchronized (vx_table (x := y) B (hts _ (by rw [hw]; exact List.mem_cons_self))) hP hK hD0.self (fun q h => Or.inr h) va_S.rf hst hnc (lv_entry av hn)
end ZW
section ZV
variable {p : Program} {l : Launch} {e : Env} {R : Room} {s : State} {m : MethodId} {args : Array Value} {below : List Frame} {meth : Method} {c : Code} {H : Heap} {locs : List Loc} {cells slots : Nat} {Q : State → Prop}
variable {cc : ByteArray} {pc : Nat} {ls : Array Slot} {rest st0 : List Value} {Ts : List Cond} {own C : String}
variable {D : va_G} {tys tys2 : List (ClassId × FieldType)} {A : Nat → Prop} {S : Type} {wf : S → va_W} {wl : va_W} {post : Int32 → S → Prop}
variable {y : MethodName} {bytes : ByteArray} {maxL nL mc ms n index : Nat} {ret : Option FieldType} {hh : List (Nat × Nat × Nat × Nat)} {ws : List Cond} {rm : Room} {As : List Value}
theorem zy_callSi (F : CallFix p m c cc nL s args Ts own) (hK : va_K D vwCl tys s) (hP : va_P D vwCl wl H) (hD : va_D A wl) (hS : va_S A s.heap H locs) (hA : ∀ q, s.heap.size ≤ q → A q) (hst : zx_st A s s.heap) (hnc : va_Nc "java/util/NoSuchElementException" "java/lang/IllegalArgumentException" s)
    (hM : Met l y ws rm (va_Pc As (zy_pre D tys wl H.size)) (va_Qi post (zz_B D tys2 (va_A wl H.size) wf) (va_A wl H.size)) mc ms (va_A wl H.size)) (cw : vx_CSW R s args own index y bytes maxL ret hh ws rm mc ms n)
    (hn : As.length = n) (hsize : ls.size = nL) (hstack : st0 = As.reverse ++ rest) (hW : (rest.map fun v => v.category).sum ≤ 8) (hdg : decode cc pc = .ok (.invokestatic index, 3)) (hf : cells + mc ≤ R.cells ∧ slots + ms ≤ R.slots)
    (kk : ∀ (r : Int32) (u : S) (H1 : Heap) (locs1 : List Loc), post r u → va_P D vwCl (wf u) H1 → va_D A (wf u) → va_S A s.heap H1 locs1 → W p l e R s m args below meth c H1 locs1 (cells + mc) (slots + ms) Q (F0 m (pc + 3) ls (.int r :: rest))) : W p l e R s m args below meth c H locs cells slots Q (F0 m pc ls st0) := by
  have hFc := zz_in hD hS hA
  refine va_calli (vx_runSW F hM cw ⟨zy_blind, fun U hU hW => ⟨rfl, ⟨⟨by rw [hU], by rw [hU]; exact hP, va_K.moved hW.alike hK, hD.weaken (fun _ _ _ _ => trivial)⟩, zx_stH hst hS hFc hU hW⟩, va_Nc.moved hW.alike hnc⟩⟩ rfl hn hsize hstack (lv_room hW) hdg hf) hS (fun q _ h => hFc q h) hFc (fun r u t H1 locs1 ht hvm hp hB hz hk hS1 => ?_)
  obtain ⟨hP1, -, hD1⟩ := hB
  rw [ht] at hP1
  exact kk r u H1 locs1 hp hP1 (hD1.weaken (fun _ _ _ h => hFc _ h)) hS1
end ZV
