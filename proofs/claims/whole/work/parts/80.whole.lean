/-! THE CLAIM OUT OF ONE WALK OF THE LAW'S BODY. Your part is whole_start (and what it stands on); all else here is the same for every law, but numbers. -/
def R_law : String := "NoteMixLaw"
def lw_P (b : Addr) (xs : List Int32) (args : Array Value) (s : State) : Prop := args = #[.ref b] ∧ s.IntsAt b xs ∧ xs.length ≤ 2048 ∧ (Jvm.Cond.and given_1 narrow_1).before args s = true
def lw_Q (_ : Array Value) (s : State) (o : Outcome) (t : State) : Prop := o = .returned (some (.int 1)) ∧ Framed s o t [] 1037 12244
def lw_Z (below : List Frame) (a : Array Value) (s : State) : State → Prop := fun t => ∃ o, t.status = .running ∧ Ended t below o ∧ lw_Q a s o t
/-- the law's own end, with 1 on the stack, nothing written that was there before, its room as the claim has it -/
theorem lw_ret {p : Program} {l : Launch} {e : Env} {s : State} {m : MethodId} {below : List Frame} {meth : Method} {c : Code} {b : Nat} (hx : p.tables.exec = Jvm.exec) (hb : c.code = code) (hr : meth.sig.returnType = ret) (hlocks : meth.locks = false) {pc : Nat} {H : Heap} {ls : Array Slot} (hdg : decode code pc = .ok (.ireturn, 1)) : W p l e room_1 s m #[Value.ref b] below meth c H [] 1037 12244 (lw_Z below #[Value.ref b] s) (F0 m pc ls [.int 1]) := by
  intro T hT X
  obtain ⟨fs, hret, hrun, hended, hW, hframe⟩ := X.leave (v := some (.int 1)) (hlocks := hlocks) (fun h => by rw [hr] at h; cases h)
  have hmeth' : T.vm.method? m = some meth := X.method'
  refine ⟨T.setFrames fs, ?_, .returned (some (.int 1)), hrun, hended, rfl, ⟨_, rfl⟩, hW, hframe⟩
  jvm_step X.here [X.here.top, hx, hb, hdg, hmeth', hr, ret, narrow_b1]
  (try refine ⟨rfl, ?_⟩); (try refine ⟨rfl, ?_⟩)
  first | (intro acts; rw [hret _ acts rfl rfl rfl]) | rw [hret _ _ rfl rfl rfl]
  exact Steps.refl _
/-- what holds at the law's entry: the machine, the code, the tables' words (any of lw_tbl by 'hts w (by decide +kernel)'), the script of L ints xs at the cell b, what the Statement gives of the start (any of its parts by flat_of_before) -/
def lw_At (p : Program) (s : State) (m : MethodId) (meth : Method) (c : Code) (b L : Nat) (xs : Nat → Int32) : Prop :=
  p.tables.exec = Jvm.exec ∧ c.code = code ∧ meth.sig.returnType = ret ∧ c.maxLocals = 7 ∧ s.vm.findClass R_law = some m.cls ∧ (∀ w ∈ lw_tbl, w.before #[Value.ref b] s = true) ∧ va_X b L xs s s.heap ∧ b < s.heap.size ∧ meth.locks = false ∧ (Jvm.Cond.and given_1 narrow_1).before #[Value.ref b] s = true
set_option maxRecDepth 100000 in
set_option maxHeartbeats 4000000 in
/-- from the entry, for every script of at most 2048 ints, the law comes to its end with true -/
theorem whole_start {p : Program} {e : Env} {s : State} {m : MethodId} {below : List Frame} {meth : Method} {c : Code} (l : Launch) (hl0 : l.stackTraces = false) {b L : Nat} {xs : Nat → Int32} (hL : L ≤ 2048) (C0 : lw_At p s m meth c b L xs) : W p l e room_1 s m #[Value.ref b] below meth c s.heap [] 0 0 (lw_Z below #[Value.ref b] s) (entryFrame m ([Value.ref b] : List Value).toArray 7) := by
  obtain ⟨hx, hb, hr, hml, hown, hts, hX, hbl, hlocks, hgv⟩ := C0
  have F : CallFix p m c cL_law 7 s #[Value.ref b] lw_tbl RL := ⟨hx, hb, hml, hown, hts⟩
  have FL : CallFix p m c cL_law 7 s #[Value.ref b] wsL_law RL := ⟨hx, hb, hml, hown, fun w hw => hts w (wsL_law_in w hw)⟩
  obtain ⟨cC0, iS0, k0⟩ := u_known (C := RX0) (T := TX0) (N := 6) hts inX0 (hts (.instantiable RX0 6) (by decide +kernel))
  obtain ⟨cC1, iS1, k1⟩ := u_known (C := RX1) (T := TX1) (N := 7) hts inX1 (hts (.instantiable RX1 7) (by decide +kernel))
  obtain ⟨cI, kAI, compI, fI, vI, zI⟩ := Cond.arrayClass_spec (hts (.arrayClass .int) (by decide +kernel))
  obtain ⟨cZ, kAZ, compZ, fZ, vZ, zZ⟩ := Cond.arrayClass_spec (hts (.arrayClass .boolean) (by decide +kernel))
  obtain ⟨cL, kAL, compL, fL, vL, zL⟩ := Cond.arrayClass_spec (hts (.arrayClass .long) (by decide +kernel))
  obtain ⟨D, hDe⟩ : ∃ D : va_G, D = ((fun i => if i = 0 then cC0 else cC1), (fun i => if i = 0 then iS0 else iS1)) := ⟨_, rfl⟩
  obtain ⟨tys, htys⟩ : ∃ t : List (ClassId × FieldType), t = [(cI, .int), (cZ, .boolean), (cL, .long)] := ⟨_, rfl⟩
  have hK : va_K D vwCl tys s := by
    subst hDe htys
    refine ⟨fun i q hq => ?_, fun i q hq => ?_⟩
    · rcases i with _ | _ | i
      · cases hq; exact k0
      · cases hq; exact k1
      · cases hq
    · rcases i with _ | _ | _ | i
      · cases hq; exact ⟨fun n z => ⟨fun k h => (by cases h), kAI, vI, compI, zI⟩, fI⟩
      · cases hq; exact ⟨fun n z => ⟨fun k h => (by cases h), kAZ, vZ, compZ, zZ⟩, fZ⟩
      · cases hq; exact ⟨fun n z => ⟨fun k h => (by cases h), kAL, vL, compL, zL⟩, fL⟩
      · cases hq
  have hI : tys[0]? = some (cI, .int) := by rw [htys]; rfl
  have hZ : tys[1]? = some (cZ, .boolean) := by rw [htys]; rfl
  have hLg : tys[2]? = some (cL, .long) := by rw [htys]; rfl
  obtain ⟨A, hAe⟩ : ∃ A : Nat → Prop, A = fun q => s.heap.size ≤ q := ⟨_, rfl⟩
  have hA : ∀ q : Nat, s.heap.size ≤ q → A q := fun q h => by rw [hAe]; exact h
  have hAn : ∀ q : Nat, q < s.heap.size → ¬ A q := fun q h h9 => by rw [hAe] at h9; exact absurd h9 (Nat.not_le.mpr h)
  have hbA : ¬ A b := hAn b hbl
  have hgf := flat_of_before _ hgv
  have hst : zx_st A s s.heap := ⟨vx_Zqof (hts (.laysStatic Bundle.tN "UNASSIGNED_STACK" Bundle.steD) (by decide +kernel)) (hts (.initialized Bundle.tN) (by decide +kernel)) (hgf (.isRef (.static Bundle.tN "UNASSIGNED_STACK" Bundle.steD)) (by decide +kernel)) hAn, vx_Zqof (hts (.laysStatic Bundle.tN "SUPPRESSED_SENTINEL" Bundle.listD) (by decide +kernel)) (hts (.initialized Bundle.tN) (by decide +kernel)) (hgf (.isRef (.static Bundle.tN "SUPPRESSED_SENTINEL" Bundle.listD)) (by decide +kernel)) hAn, va_Nw.of rfl (hts (.castable "java/lang/IllegalArgumentException" "java/lang/IllegalArgumentException") (by decide +kernel)), va_Nw.of rfl (hts (.castable "java/util/NoSuchElementException" "java/util/NoSuchElementException") (by decide +kernel)), va_Nw.of rfl (hts (.declares ⟨"java/lang/RuntimeException", "<init>", "()V"⟩) (by decide +kernel)), va_Nw.of rfl (hts (.declares ⟨"java/lang/Exception", "<init>", "()V"⟩) (by decide +kernel)), va_Nw.of rfl (hts (.declares ⟨"java/lang/Throwable", "<init>", "()V"⟩) (by decide +kernel))⟩
  have hnc : va_Nc "java/util/NoSuchElementException" "java/lang/IllegalArgumentException" s := va_Nc.of (hgf (.not (.castable "java/util/NoSuchElementException" "java/lang/IllegalArgumentException")) (by decide +kernel))
  have C : lwC p l s m c D tys cI cZ cL A b L xs := ⟨F, hl0, hX, hbl, hbA, hst, hnc, hK, hI, hZ, hLg, hA⟩
  have hP : va_P D vwCl [] s.heap := fun k q h => nomatch h
  have hD : va_D A [] := ⟨fun i j p q h => (by cases h), fun k q h => (by cases h)⟩
  have hS : va_S A s.heap s.heap [] := va_S.rf
  have hl := lv_entry ([.ref b]) (n := 7) (Nat.le_of_ble_eq_true rfl)
  rw [lg_entry_eq]
  generalize (lg_sl ([.ref b]) ++ List.replicate (7 - (lg_sl ([.ref b])).length) Slot.unset).toArray = ls at hl ⊢
  have hl : lv_has ls 7 [(0, .ref b)] := hl
  refine va_new (ci := 0) (fs := [.null, .null, .null, .int 0, .int 0, .null]) (C := RX0) (T := TX0) (N := 6) hx hb hts inX0 tyX0 tyX0_ok hown (hts (.classLink RL 8 RX0) (by decide +kernel)) (hts (.instantiable RX0 6) (by decide +kernel)) (hts (.initialized RX0) (by decide +kernel)) hK hP hD hS hA rfl (fun j hj => by rcases (show j = 0 ∨ j = 1 ∨ j = 2 ∨ j = 3 ∨ j = 4 ∨ j = 5 by omega) with rfl | rfl | rfl | rfl | rfl | rfl <;> rfl) (Nat.le_of_ble_eq_true rfl) (Nat.le_of_ble_eq_true rfl) dL_law_0 (fun h H hP hD hS => ?_)
  have hP : va_P D vwCl [(h, .inr (0, [.null, .null, .null, .int 0, .int 0, .null]))] H := hP
  have hD : va_D A [(h, .inr (0, [.null, .null, .null, .int 0, .int 0, .null]))] := hD
  refine lv_dup hx hb dL_law_3 rfl ?_
  refine zz_callIv (As := []) (rest := [.ref h]) FL hK hP hD hS hA (c_init l D tys cI hI h _) (cwI 0 FL.2.2.2.2 gL_law_X0_init rfl rfl rfl (hts (.initialized RX0) (by decide +kernel)) (hts (.methodLink RL 38 yX0_init) (by decide +kernel)) (hts (.instanceMethod yX0_init) (by decide +kernel)) rfl (by decide +kernel) ⟨Nat.le_of_ble_eq_true rfl, Nat.le_of_ble_eq_true rfl⟩) rfl hl.1 rfl (Nat.le_of_ble_eq_true rfl) dL_law_4 ⟨Nat.le_of_ble_eq_true rfl, Nat.le_of_ble_eq_true rfl⟩ (fun u H locs hu0 hP hD hS => ?_)
  obtain ⟨a1, a2, a3, a4, wf, nf⟩ := u
  have hP : va_P D vwCl (nmW cI h a1 a2 a3 a4 wf nf (fun _ => 0) (nI 0) (nI 0) (fun _ => 0) []) H := hP
  have hD : va_D A (nmW cI h a1 a2 a3 a4 wf nf (fun _ => 0) (nI 0) (nI 0) (fun _ => 0) []) := hD
  refine lv_astore_n (lv' := [(1, .ref h), (0, .ref b)]) hx hb dL_law_7 rfl hl (by decide) rfl (fun ls hl => ?_)
  refine va_new (ci := 1) (fs := [.null, .null, .null, .null, .int 0, .int 0, .int 0]) (C := RX1) (T := TX1) (N := 7) hx hb hts inX1 tyX1 tyX1_ok hown (hts (.classLink RL 39 RX1) (by decide +kernel)) (hts (.instantiable RX1 7) (by decide +kernel)) (hts (.initialized RX1) (by decide +kernel)) hK hP hD hS hA rfl (fun j hj => by rcases (show j = 0 ∨ j = 1 ∨ j = 2 ∨ j = 3 ∨ j = 4 ∨ j = 5 ∨ j = 6 by omega) with rfl | rfl | rfl | rfl | rfl | rfl | rfl <;> rfl) (Nat.le_of_ble_eq_true rfl) (Nat.le_of_ble_eq_true rfl) dL_law_8 (fun g H hP hD hS => ?_)
  have hP : va_P D vwCl (nmW cI h a1 a2 a3 a4 wf nf (fun _ => 0) (nI 0) (nI 0) (fun _ => 0) [(g, .inr (1, [.null, .null, .null, .null, .int 0, .int 0, .int 0]))]) H := hP
  have hD : va_D A (nmW cI h a1 a2 a3 a4 wf nf (fun _ => 0) (nI 0) (nI 0) (fun _ => 0) [(g, .inr (1, [.null, .null, .null, .null, .int 0, .int 0, .int 0]))]) := hD
  refine lv_dup hx hb dL_law_11 rfl ?_
  refine zz_callIvF (wc := [(g, .inr (1, [.null, .null, .null, .null, .int 0, .int 0, .int 0]))]) (wr := nmW cI h a1 a2 a3 a4 wf nf (fun _ => 0) (nI 0) (nI 0) (fun _ => 0) []) (As := []) (rest := [.ref g]) F hK hP hD hS hA [5] [0, 1, 2, 3, 4] rfl rfl (by decide) rfl (by decide) (by decide) (c1_init l D tys cI cZ hI hZ g _) (cwI 0 hts gT_init rfl rfl rfl (hts (.initialized RX1) (by decide +kernel)) (hts (.methodLink RL 41 yX1_init) (by decide +kernel)) (hts (.instanceMethod yX1_init) (by decide +kernel)) rfl (by decide +kernel) ⟨Nat.le_of_ble_eq_true rfl, Nat.le_of_ble_eq_true rfl⟩) rfl hl.1 rfl (Nat.le_of_ble_eq_true rfl) dL_law_12 ⟨Nat.le_of_ble_eq_true rfl, Nat.le_of_ble_eq_true rfl⟩ (fun u H locs hu1 hP hD hS => ?_)
  obtain ⟨g1, g2, g3, g4, wf1, nf1⟩ := u
  have hP : va_P D vwCl (nmW cI h a1 a2 a3 a4 wf nf (fun _ => 0) (nI 0) (nI 0) (fun _ => 0) (mdW cI cZ g g1 g2 g3 g4 wf1 nf1 (fun _ => 0) (fun _ => 0) 0 0 0 [])) H := hP
  have hD : va_D A (nmW cI h a1 a2 a3 a4 wf nf (fun _ => 0) (nI 0) (nI 0) (fun _ => 0) (mdW cI cZ g g1 g2 g3 g4 wf1 nf1 (fun _ => 0) (fun _ => 0) 0 0 0 [])) := hD
  refine lv_astore_n (lv' := [(2, .ref g), (1, .ref h), (0, .ref b)]) hx hb dL_law_15 rfl hl (by decide) rfl (fun ls hl => ?_)
  refine lv_iconst (v := nI 1) hx hb dL_law_16 (by decide +kernel) ?_
  have hK0 := hK
  refine va_newa (atype := .long) (ty := .long) (N' := 1) (a0 := (1, .inr (.inl (fun _ => 0)))) hx hb (hts (.arrayClass .long) (by decide +kernel)) rfl hK hP hD hS hA (fun cA => zz_cellL 1 cA) (by decide +kernel) (by decide +kernel) (by decide +kernel) (Nat.le_of_ble_eq_true rfl) (Nat.le_of_ble_eq_true rfl) dL_law_17 (fun o cA H hK hP hD hS => ?_)
  have hcA := zz_arrL hK0 hLg hK
  rw [hcA] at hP hD
  have hK := hK0
  have hP : va_P D vwCl (nmW cI h a1 a2 a3 a4 wf nf (fun _ => 0) (nI 0) (nI 0) (fun _ => 0) (mdW cI cZ g g1 g2 g3 g4 wf1 nf1 (fun _ => 0) (fun _ => 0) 0 0 0 [(o, .inl (cL, 1, .inr (.inl (fun _ => 0))))])) H := hP
  have hD : va_D A (nmW cI h a1 a2 a3 a4 wf nf (fun _ => 0) (nI 0) (nI 0) (fun _ => 0) (mdW cI cZ g g1 g2 g3 g4 wf1 nf1 (fun _ => 0) (fun _ => 0) 0 0 0 [(o, .inl (cL, 1, .inr (.inl (fun _ => 0))))])) := hD
  have hP := hP.sub (ws' := (lwW cI cZ cL h a1 a2 a3 a4 g g1 g2 g3 g4 o wf nf (fun _ => 0) (nI 0) (nI 0) (fun _ => 0) (fun _ => 0) wf1 nf1 (fun _ => 0) (fun _ => 0) 0 0 0)) [0, 1, 2, 3, 4, 10, 5, 6, 7, 8, 9] rfl
  have hD := hD.sub (ws' := (lwW cI cZ cL h a1 a2 a3 a4 g g1 g2 g3 g4 o wf nf (fun _ => 0) (nI 0) (nI 0) (fun _ => 0) (fun _ => 0) wf1 nf1 (fun _ => 0) (fun _ => 0) 0 0 0)) [0, 1, 2, 3, 4, 10, 5, 6, 7, 8, 9] (by decide) rfl
  refine lv_astore_n (lv' := [(3, .ref o), (2, .ref g), (1, .ref h), (0, .ref b)]) hx hb dL_law_19 rfl hl (by decide) rfl (fun ls hl => ?_)
  refine lv_iconst (v := nI 0) hx hb dL_law_20 (by decide +kernel) ?_
  refine lv_istore (lv' := [(4, .int (nI 0)), (3, .ref o), (2, .ref g), (1, .ref h), (0, .ref b)]) hx hb dL_law_21 hl (by decide) rfl (fun ls hl => ?_)
  refine zz_loopC (fun ls H locs cells slots (k : Nat) => cells = 11 + k ∧ slots = 4040 + 6 * k ∧ 4 * k ≤ 2048 ∧ lwS D cI cZ cL h a1 a2 a3 a4 g g1 g2 g3 g4 o A s b (4 * k) ls H locs) (fun k => 600 - k) ?_ 0 ⟨rfl, rfl, by decide, wf, nf, _, _, _, _, _, wf1, nf1, _, _, _, _, _, nm_w0, nm_n0, hl, hP, hD, hS, hu0, hu1⟩
  rintro ls H locs cells slots k ⟨hcl, hsl, hk, S0⟩ kk
  have S00 := S0
  obtain ⟨wf, nf, bf, bs, mc, ff, og, wf1, nf1, cf, kf, fw, mx, th, w, n, hl, hP, hD, hS, ok, ok1⟩ := S0
  refine lv_iload hx hb dL_law_23 (lv_at hl 0 rfl) ?_
  refine lv_aload_n hx hb dL_law_25 rfl (lv_at hl 4 rfl) ?_
  refine va_slen hx hb hX hbl hbA hS dL_law_26 ?_
  refine zn_as (show Int32.ofNat L = nI L from rfl) ?_
  refine lv_iconst (v := nI 4) hx hb dL_law_27 (by decide +kernel) ?_
  refine lv_isub hx hb dL_law_28 ?_
  refine lv_icmp_gt hx hb dL_law_29 rfl (fun _ => ?_) (fun hlim => ?_)
  · refine lv_iconst (v := 1) hx hb dL_law_568 (by decide +kernel) ?_
    refine va_forget (fun q hq => by have h9 := hS.2.2 q hq; rw [hAe] at h9; exact h9) ?_
    refine W.widen (k := 1037) (n := 12244) (by omega) (by omega) ?_
    exact lw_ret hx hb hr hlocks dL_law_569
  · have hk4 := zz_lim hL (by omega) hlim
    refine lv_aload_n hx hb dL_law_32 rfl (lv_at hl 4 rfl) ?_
    refine lv_iload hx hb dL_law_33 (lv_at hl 0 rfl) ?_
    refine zn_sld (k := 4 * k) hx hb hX hbl hbA hS (by omega) (by omega) dL_law_35 ?_
    refine lv_bipush (v := nI 15) hx hb dL_law_36 (by decide +kernel) ?_
    refine lv_iand hx hb dL_law_38 ?_
    obtain ⟨t, ht, et⟩ := pk_andE (xs (4 * k)) (m := nI 15) 4 (by decide +kernel)
    refine zn_as et ?_
    have kk' : ∀ (ls' : Array Slot) (H' : Heap) (locs' : List Loc), lwS D cI cZ cL h a1 a2 a3 a4 g g1 g2 g3 g4 o A s b (4 * k) ls' H' locs' → W p l e room_1 s m #[Value.ref b] below meth c H' locs' (cells + 1) (slots + 6) (lw_Z below #[Value.ref b] s) (F0 m 562 ls' []) := by
      intro ls H locs ⟨wf, nf, bf, bs, mc, ff, og, wf1, nf1, cf, kf, fw, mx, th, w, n, hl, hP, hD, hS, ok, ok1⟩
      refine lv_iinc (k := 0) (lv' := [(4, .int (nI (4 * k + 4))), (3, .ref o), (2, .ref g), (1, .ref h), (0, .ref b)]) hx hb dL_law_562 hl rfl (zz_i4 _) (by decide) rfl (fun ls hl => ?_)
      refine lv_goto hx hb dL_law_565 rfl ?_
      exact kk _ _ _ _ _ (k + 1) ⟨by omega, by omega, by omega, wf, nf, bf, bs, mc, ff, og, wf1, nf1, cf, kf, fw, mx, th, w, n, hl, hP, hD, hS, ok, ok1⟩ (by omega)
    rcases (show t = 0 ∨ t = 1 ∨ t = 2 ∨ t = 3 ∨ t = 4 ∨ t = 5 ∨ t = 6 ∨ t = 7 ∨ t = 8 ∨ 9 ≤ t by omega) with rfl | rfl | rfl | rfl | rfl | rfl | rfl | rfl | rfl | h9
    · refine lv_tableIn (off := 49) (tgt := 88) hx hb dL_law_39 (by decide +kernel) (by decide +kernel) (by decide +kernel) rfl ?_
      exact lw_case0 C hL hk4 (by omega) (by omega) S00 kk'
    · refine lv_tableIn (off := 109) (tgt := 148) hx hb dL_law_39 (by decide +kernel) (by decide +kernel) (by decide +kernel) rfl ?_
      exact lw_case1 C hL hk4 (by omega) (by omega) S00 kk'
    · refine lv_tableIn (off := 165) (tgt := 204) hx hb dL_law_39 (by decide +kernel) (by decide +kernel) (by decide +kernel) rfl ?_
      exact lw_case2 C hL hk4 (by omega) (by omega) S00 kk'
    · refine lv_tableIn (off := 233) (tgt := 272) hx hb dL_law_39 (by decide +kernel) (by decide +kernel) (by decide +kernel) rfl ?_
      exact lw_case3 C hL hk4 (by omega) (by omega) S00 kk'
    · refine lv_tableIn (off := 289) (tgt := 328) hx hb dL_law_39 (by decide +kernel) (by decide +kernel) (by decide +kernel) rfl ?_
      exact lw_case4 C hL hk4 (by omega) (by omega) S00 kk'
    · refine lv_tableIn (off := 357) (tgt := 396) hx hb dL_law_39 (by decide +kernel) (by decide +kernel) (by decide +kernel) rfl ?_
      exact lw_case5 C hL hk4 (by omega) (by omega) S00 kk'
    · refine lv_tableIn (off := 413) (tgt := 452) hx hb dL_law_39 (by decide +kernel) (by decide +kernel) (by decide +kernel) rfl ?_
      exact lw_case6 C hL hk4 (by omega) (by omega) S00 kk'
    · refine lv_tableIn (off := 426) (tgt := 465) hx hb dL_law_39 (by decide +kernel) (by decide +kernel) (by decide +kernel) rfl ?_
      exact lw_case7 C hL hk4 (by omega) (by omega) S00 kk'
    · refine lv_tableIn (off := 510) (tgt := 549) hx hb dL_law_39 (by decide +kernel) (by decide +kernel) (by decide +kernel) rfl ?_
      exact lw_case8 C hL hk4 (by omega) (by omega) S00 kk'
    · refine lv_tableOut (tgt := 562) hx hb dL_law_39 (Or.inr (by rw [nI_toInt (by omega)]; omega)) rfl ?_
      exact W.widen (k := cells + 1) (n := slots + 6) (by omega) (by omega) (kk' _ _ _ S00)
set_option maxHeartbeats 4000000 in
theorem lw_walk (l : Launch) (hl0 : l.stackTraces = false) (b : Addr) (xs : List Int32) : MetFree l x (headSpec (Jvm.Cond.code x code maxLocals ret :: tables_1) room_1) (lw_P b xs) (fun _ _ _ _ _ => True) lw_Q := by
  refine MetFree.of_bodyS (code := code) (maxLocals := maxLocals) (ret := ret) (by decide) ?_ ?_
  · intro args s m h hn
    obtain ⟨meth, c, h1, h2, h3, h4, h5, h6, -, -⟩ := Cond.code_spec hn (atoms_spec (ws := Jvm.Cond.code x code maxLocals ret :: tables_1) h _ List.mem_cons_self)
    exact ⟨meth, c, h1, h2, h3, h4, h5, h6⟩
  · intro p e s m args below meth c s₁ B hml0 hP _
    obtain ⟨rfl, hx, hbd, hgv⟩ := hP
    obtain ⟨scr, harrAt, hlist, hof, hsmall⟩ := hx
    obtain ⟨hcb, hkn, -, -⟩ := State.arrayAt?_spec harrAt
    have hown : s.vm.findClass R_law = some m.cls := findClass_of_methodNamed B.named
    have hts0 : ∀ c ∈ (Jvm.Cond.code x code maxLocals ret :: tables_1), c.before #[Value.ref b] s = true := atoms_spec (ws := Jvm.Cond.code x code maxLocals ret :: tables_1) B.pre
    have hts : ∀ w ∈ lw_tbl, w.before #[Value.ref b] s = true := k2_hts_sels lw_privs (fun w hw => hts0 w (List.mem_cons_of_mem _ hw)) lw_privs_ok
    have hml : c.maxLocals = 7 := B.maxLocals_eq (hts0 _ List.mem_cons_self)
    have X₀ : Stand p l e room_1 s m #[Value.ref b] below meth c s₁ [] 0 0 := Stand.of_body B
    have hh0 : s₁.heap = s.heap := by rw [B.state]; rfl
    have hsz : scr.slots.size = xs.length := by rw [← Array.length_toList, hlist, List.length_map]
    have hval : ∀ j : Nat, j < xs.length → scr.slots[j]? = some (.int (xs.getD j 0)) := fun j hj => by
      rw [← Array.getElem?_toList, hlist]
      simp [hj]
    have hbl : b < s.heap.size := (Array.getElem?_eq_some_iff.mp hcb).1
    have hX : va_X b xs.length (fun j => xs.getD j 0) s s.heap := ⟨scr, hcb, hof, hkn, hsz, hval⟩
    have K : W p l e room_1 s m #[Value.ref b] below meth c s₁.heap [] 0 0 (lw_Z below #[Value.ref b] s) (entryFrame m ([Value.ref b] : List Value).toArray 7) := by
      rw [hh0]
      exact whole_start l hl0 hbd ⟨B.exec, B.bytes, B.returns, hml, hown, hts, hX, hbl, B.notSynchronized, hgv⟩
    obtain ⟨t, a1, o, b1, b2, b3⟩ := K s₁ rfl X₀
    exact ⟨t, o, a1, b1, b2, b3⟩
theorem lw_pre_spec {args : Array Value} {s : State} (h : (Jvm.Cond.and given_1 narrow_1).before args s = true) (hr : rest_1_c.before args s = true) : ∃ (b : Addr) (xs : List Int32), lw_P b xs args s := by
  have hs := flat_of_before _ h
  have hq := flat_of_before _ hr
  have hc : (Cond.count 1).before args s = true := hs _ (by decide +kernel)
  have harr : (Cond.arrayOf (.arg 0) .int).before args s = true := hs _ (by decide +kernel)
  have hle : (Cond.le (.length (.arg 0)) (.int 2048)).before args s = true := hs _ (by decide +kernel)
  have hlen : (Cond.isInt (.length (.arg 0))).before args s = true := hq _ (by decide +kernel)
  have hall : (Cond.all (.arg 0) (.isInt (.elem (.arg 0) (.index 0)))).before args s = true := hq _ (by decide +kernel)
  obtain ⟨b, xs, hb, hx⟩ := State.ints_of_pre rfl harr hlen hall
  have hsm : xs.length < 2 ^ 31 := hx.choose_spec.2.2.2
  have hev : (Term.length (.arg 0)).eval args s none [] s = some (.int xs.length.toInt32) := hx.length_eval hb
  have hv := Cond.le_ints hev (show (Term.int 2048).eval args s none [] s = some (.int 2048) from rfl)
  have hd : xs.length.toInt32 ≤ 2048 := by
    simpa [Cond.before, Cond.holds, hv] using hle
  have hN : xs.length ≤ 2048 := (Int32.ofNat_le_ofNat hsm (by decide)).mp (show Int32.ofNat xs.length ≤ Int32.ofNat 2048 from hd)
  exact ⟨b, xs, Cond.one_arg hc (show args[0]? = some (.ref b) from hb), hx, hN, h⟩
theorem lw_comes (l : Launch) (hl0 : l.stackTraces = false) : Comes l x (Jvm.Cond.code x code maxLocals ret :: tables_1) room_1 (fun tb e args s => Calls_1 tb e args s ∧ rest_1 tb e args s ∧ Pre_1 tb e args s)
    (fun _ _ args s o t => lw_Q args s o t) := by
  intro p e ha hc hk s m args below hf hfit hheap happ hpre
  obtain ⟨b, xs, hP⟩ := lw_pre_spec hpre.2.2 hpre.2.1
  obtain ⟨k, o, h1, h2, h3, hQ⟩ := lw_walk l hl0 b xs p e ha hc hk s m args below hf ((Spec.applies_iff_loose hf).mp happ).1 hP trivial
  exact ⟨k, o, h1, h2, h3, hQ⟩
theorem lw_frame {s t : State} {o : Outcome} {args : Array Value} (h : Framed s o t [] 1037 12244) :
    Framed s o t (fieldLocs frame_1_writes args s ++ arrayLocs frame_1_arrays args s ++ staticLocs frame_1_statics s) 1037 12244 := h
theorem lw_limb (L : Cond) (hL : ∀ (args : Array Value) (s t : State), L.after args s (.returned (some (.int 1))) t = true) :
    ArmFor flags0 classFile x code maxLocals ret World_1 tables_1 room_1 Calls_1 rest_1 Pre_1
      (fun tb e a s o t => postC L tb e a s o t ∧ Framed s o t (fieldLocs frame_1_writes a s ++ arrayLocs frame_1_arrays a s ++ staticLocs frame_1_statics s) 1037 12244) := by
  intro l hfl _ _ p e ha hc hk s m args below hf hfit hheap happ hpre
  have hl0 : l.stackTraces = false := by
    unfold Launch.stackTraces
    rw [hfl]
    decide +kernel
  obtain ⟨k, o, h1, h2, h3, rfl, hF⟩ := lw_comes l hl0 p e ha hc hk s m args below hf hfit hheap happ hpre
  exact ⟨k, _, h1, h2, h3, hL args s _, lw_frame hF⟩
theorem i_vc : Claimed_1_1 ∧ Claimed_1_2 := ⟨lw_limb limb_1_1 (fun args s t => by simp [limb_1_1, Cond.after, Cond.holds, Cond.value]), lw_limb limb_1_2 (fun args s t => Cond.after_iff.mpr (by
  first | (rw [show limb_1_2 = Cond.eq .result (.int 1) from rfl, Cond.eq_ints (x := 1) (y := 1) rfl rfl]; simp; done) | (simp [limb_1_2, Cond.value, Term.eval]; done)))⟩
