/-! the law's world, its state between two calls -/
theorem zz_cellL (n : Nat) (cA : ClassId) : vp_cell cA (n, .inr (.inl (fun _ => 0))) = arrV cA n (fun _ => defaultValue .long) := rfl
theorem zz_i4 (a : Nat) : nI a + Int32.ofInt 4 = nI (a + 4) := by
  rw [show Int32.ofInt 4 = nI 4 from by decide +kernel]
  exact nI_add a 4
abbrev lwW (cI cZ cL : ClassId) (h a1 a2 a3 a4 g g1 g2 g3 g4 o : Nat) (wf nf bf : Nat → Int32) (bs mc : Int32) (ff : Nat → Int32) (og : Nat → Int64) (wf1 nf1 cf kf : Nat → Int32) (fw mx th : Int32) : va_W :=
  nmW cI h a1 a2 a3 a4 wf nf bf bs mc ff ((o, .inl (cL, 1, .inr (.inl og))) :: mdW cI cZ g g1 g2 g3 g4 wf1 nf1 cf kf fw mx th [])
abbrev lwM (cI cZ cL : ClassId) (h a1 a2 a3 a4 g g1 g2 g3 g4 o : Nat) (wf nf bf : Nat → Int32) (bs mc : Int32) (ff : Nat → Int32) (og : Nat → Int64) (wf1 nf1 cf kf : Nat → Int32) (fw mx th : Int32) : va_W :=
  mdW cI cZ g g1 g2 g3 g4 wf1 nf1 cf kf fw mx th (nmW cI h a1 a2 a3 a4 wf nf bf bs mc ff [(o, .inl (cL, 1, .inr (.inl og)))])
/-- between two calls: both objects hold the same worths and notes -/
def lwS (D : va_G) (cI cZ cL : ClassId) (h a1 a2 a3 a4 g g1 g2 g3 g4 o : Nat) (A : Nat → Prop) (s : State) (b i : Nat) (ls : Array Slot) (H : Heap) (locs : List Loc) : Prop :=
  ∃ (wf nf bf : Nat → Int32) (bs mc : Int32) (ff : Nat → Int32) (og : Nat → Int64) (wf1 nf1 cf kf : Nat → Int32) (fw mx th : Int32) (w n : Nat → Nat),
    lv_has ls 7 [(4, .int (nI i)), (3, .ref o), (2, .ref g), (1, .ref h), (0, .ref b)] ∧ va_P D vwCl (lwW cI cZ cL h a1 a2 a3 a4 g g1 g2 g3 g4 o wf nf bf bs mc ff og wf1 nf1 cf kf fw mx th) H ∧ va_D A (lwW cI cZ cL h a1 a2 a3 a4 g g1 g2 g3 g4 o wf nf bf bs mc ff og wf1 nf1 cf kf fw mx th) ∧ va_S A s.heap H locs ∧ nmOk wf nf w n ∧ nmOk wf1 nf1 w n
/-- what stands over the whole law -/
def lwC (p : Program) (l : Launch) (s : State) (m : MethodId) (c : Code) (D : va_G) (tys : List (ClassId × FieldType)) (cI cZ cL : ClassId) (A : Nat → Prop) (b L : Nat) (xs : Nat → Int32) : Prop :=
  CallFix p m c cL_law 7 s #[Value.ref b] lw_tbl RL ∧ l.stackTraces = false ∧ va_X b L xs s s.heap ∧ b < s.heap.size ∧ ¬ A b ∧ zx_st A s s.heap ∧ va_Nc "java/util/NoSuchElementException" "java/lang/IllegalArgumentException" s ∧ va_K D vwCl tys s ∧ tys[0]? = some (cI, .int) ∧ tys[1]? = some (cZ, .boolean) ∧ tys[2]? = some (cL, .long) ∧ ∀ q, s.heap.size ≤ q → A q
section ZA
variable {p : Program} {l : Launch} {e : Env} {R : Room} {s : State} {m : MethodId} {args : Array Value} {below : List Frame} {meth : Method} {c : Code} {H : Heap} {locs : List Loc} {cells slots : Nat} {Q : State → Prop}
variable {cc : ByteArray} {pc : Nat} {ls : Array Slot} {rest : List Value}
theorem zn_asl {x z : Int64} (h : x = z) (k : W p l e R s m args below meth c H locs cells slots Q (F0 m pc ls (.long z :: rest))) : W p l e R s m args below meth c H locs cells slots Q (F0 m pc ls (.long x :: rest)) := h ▸ k
variable {rest st0 : List Value} {Ts : List Cond} {own : String}
variable {D : va_G} {tys tys2 : List (ClassId × FieldType)} {A : Nat → Prop} {S : Type} {wf : S → va_W} {wl wc wr : va_W} {postv : S → Prop}
variable {y : MethodName} {bytes : ByteArray} {maxL nL mc ms n index : Nat} {ws : List Cond} {rm : Room} {b : Addr} {As : List Value}
/-- a constructor's call that gets some of the cells -/
theorem zz_callIvF (F : CallFix p m c cc nL s args Ts own) (hK : va_K D vwCl tys s) (hP : va_P D vwCl wl H) (hD : va_D A wl) (hS : va_S A s.heap H locs) (hA : ∀ q, s.heap.size ≤ q → A q) (isC isR : List Nat) (hC : isC.map (fun i => wl[i]?) = wc.map some) (hCf : isC.filterMap (fun i => wl[i]?) = wc) (hnd : va_nd isC = true) (hR : isR.map (fun i => wl[i]?) = wr.map some) (hn2 : va_nd isR = true) (hdis : ∀ i ∈ isR, i ∉ isC)
    (hM : Met l y ws rm (va_Pc (.ref b :: As) (zz_pre D tys wc H.size)) (va_Qv postv (zz_B D tys2 (va_A wc H.size) wf) (va_A wc H.size)) mc ms (va_A wc H.size)) (cw : CallB R s args own index y bytes maxL none ws rm mc ms n ∧ y.name = "<init>" ∧ (Cond.instanceMethod y).before args s = true)
    (hn : As.length = n) (hsize : ls.size = nL) (hstack : st0 = As.reverse ++ .ref b :: rest) (hW : (rest.map fun v => v.category).sum ≤ 8) (hdg : decode cc pc = .ok (.invokespecial index, 3)) (hf : cells + mc ≤ R.cells ∧ slots + ms ≤ R.slots)
    (kk : ∀ (u : S) (H1 : Heap) (locs1 : List Loc), postv u → va_P D vwCl (wr ++ wf u) H1 → va_D A (wr ++ wf u) → va_S A s.heap H1 locs1 → W p l e R s m args below meth c H1 locs1 (cells + mc) (slots + ms) Q (F0 m (pc + 3) ls rest)) : W p l e R s m args below meth c H locs cells slots Q (F0 m pc ls st0) := by
  have hPc : va_P D vwCl wc H := hP.sub isC hCf
  have hDc : va_D A wc := hD.sub isC hnd hC
  have hFc := va_free (wc := wc) hD hS hA isC hC
  refine va_callv (va_runI F hM cw (zz_preS hK hPc hDc) rfl hn hsize hstack (lv_room hW) hdg hf) hS (fun q _ h => hFc q h) hFc (fun u t H1 locs1 ht hvm hp hB hz hk hS1 => ?_)
  obtain ⟨hP1, -, hD1⟩ := hB
  rw [ht] at hP1
  obtain ⟨hP2, hD2⟩ := va_join (wr := wr) hP hD isC isR hC hR hn2 hdis hk hFc hP1 hD1
  exact kk u H1 locs1 hp hP2 hD2 hS1
end ZA
set_option maxRecDepth 20000 in
theorem gT_load : GoodIn lw_tbl (wsV RL 47 RX1 yX1_load wsX1_load) := goodIn_p _ [261, 264] (by decide +kernel) (by decide +kernel)
set_option maxRecDepth 20000 in
theorem gT_thrown : GoodIn lw_tbl (wsV RL 48 RX1 yX1_thrown wsX1_thrown) := goodIn_p _ [257] (by decide +kernel) (by decide +kernel)
set_option maxRecDepth 20000 in
theorem gT_best : GoodIn lw_tbl (wsV RL 55 RX1 yX1_best wsX1_best) := goodIn_p _ [268, 272, 264, 276, 66] (by decide +kernel) (by decide +kernel)
set_option maxRecDepth 20000 in
theorem gT_part : GoodIn lw_tbl (wsV RL 59 RX1 yX1_part wsX1_part) := goodIn_p _ [281, 264, 272, 276, 66] (by decide +kernel) (by decide +kernel)
set_option maxRecDepth 20000 in
theorem gT_ways : GoodIn lw_tbl (wsV RL 62 RX1 yX1_ways wsX1_ways) := goodIn_p _ [285, 264, 276, 66] (by decide +kernel) (by decide +kernel)
set_option maxRecDepth 20000 in
theorem gT_pay : GoodIn lw_tbl (wsV RL 65 RX1 yX1_pay wsX1_pay) := goodIn_p _ [289, 264, 272, 276, 66] (by decide +kernel) (by decide +kernel)
set_option maxRecDepth 20000 in
theorem gT_next : GoodIn lw_tbl (wsV RL 68 RX1 yX1_next wsX1_next) := goodIn_p _ [293, 264, 297, 66] (by decide +kernel) (by decide +kernel)
set_option maxRecDepth 20000 in
theorem gT_reach : GoodIn lw_tbl (wsV RL 72 RX1 yX1_reach wsX1_reach) := goodIn_p _ [301, 297, 66] (by decide +kernel) (by decide +kernel)
set_option maxRecDepth 20000 in
theorem gT_cassette : GoodIn lw_tbl (wsV RL 76 RX1 yX1_cassette wsX1_cassette) := goodIn_p _ [305, 264] (by decide +kernel) (by decide +kernel)
set_option maxRecDepth 20000 in
theorem gT_value : GoodIn lw_tbl (wsV RL 80 RX1 yX1_value wsX1_value) := goodIn_p _ [309] (by decide +kernel) (by decide +kernel)
set_option maxRecDepth 20000 in
theorem gT_init : GoodIn lw_tbl wsX1_ini := goodIn_p _ [229, 28] (by decide +kernel) (by decide +kernel)
