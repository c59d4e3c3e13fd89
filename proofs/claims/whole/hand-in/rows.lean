section
-- ===== PART A: goes FIRST, ahead of the names: the tables' words, and 'selects' of the private methods out of them =====
/-- a private method of a class that the tables say can be made, by its rows of tables_1 -/
def lw_okq (q : MethodName × Nat) : Prop := (q.1.cls ≠ "java/lang/invoke/MethodHandle" ∧ q.1.cls ≠ "java/lang/invoke/VarHandle") ∧ Cond.instantiable q.1.cls q.2 ∈ tables_1 ∧ Cond.privateMethod q.1 ∈ tables_1 ∧ Cond.instanceMethod q.1 ∈ tables_1
theorem lw_p0 : lw_okq (⟨"NoteMix", "fillFewest", "()V"⟩, 6) := ⟨⟨by decide +kernel, by decide +kernel⟩, List.mem_of_getElem? (i := 11) (by decide +kernel), List.mem_of_getElem? (i := 43) (by decide +kernel), List.mem_of_getElem? (i := 44) (by decide +kernel)⟩
theorem lw_p1 : lw_okq (⟨"NoteMix", "addCassette", "(I)V"⟩, 6) := ⟨⟨by decide +kernel, by decide +kernel⟩, List.mem_of_getElem? (i := 11) (by decide +kernel), List.mem_of_getElem? (i := 50) (by decide +kernel), List.mem_of_getElem? (i := 51) (by decide +kernel)⟩
theorem lw_p2 : lw_okq (⟨"NoteMix", "addBundle", "(II)V"⟩, 6) := ⟨⟨by decide +kernel, by decide +kernel⟩, List.mem_of_getElem? (i := 11) (by decide +kernel), List.mem_of_getElem? (i := 57) (by decide +kernel), List.mem_of_getElem? (i := 58) (by decide +kernel)⟩
theorem lw_p3 : lw_okq (⟨"java/lang/Throwable", "fillInStackTrace", "(I)Ljava/lang/Throwable;"⟩, 6) := ⟨⟨by decide +kernel, by decide +kernel⟩, List.mem_of_getElem? (i := 113) (by decide +kernel), List.mem_of_getElem? (i := 111) (by decide +kernel), List.mem_of_getElem? (i := 112) (by decide +kernel)⟩
theorem lw_p4 : lw_okq (⟨"NoteMix", "findBest", "(I)V"⟩, 6) := ⟨⟨by decide +kernel, by decide +kernel⟩, List.mem_of_getElem? (i := 11) (by decide +kernel), List.mem_of_getElem? (i := 146) (by decide +kernel), List.mem_of_getElem? (i := 147) (by decide +kernel)⟩
theorem lw_p5 : lw_okq (⟨"NoteMix", "survey", "(I)V"⟩, 6) := ⟨⟨by decide +kernel, by decide +kernel⟩, List.mem_of_getElem? (i := 11) (by decide +kernel), List.mem_of_getElem? (i := 150) (by decide +kernel), List.mem_of_getElem? (i := 151) (by decide +kernel)⟩
theorem lw_p6 : lw_okq (⟨"NoteMix", "mostNotes", "(III)I"⟩, 6) := ⟨⟨by decide +kernel, by decide +kernel⟩, List.mem_of_getElem? (i := 11) (by decide +kernel), List.mem_of_getElem? (i := 154) (by decide +kernel), List.mem_of_getElem? (i := 155) (by decide +kernel)⟩
theorem lw_p7 : lw_okq (⟨"NoteMix", "keepMix", "(IIII)V"⟩, 6) := ⟨⟨by decide +kernel, by decide +kernel⟩, List.mem_of_getElem? (i := 11) (by decide +kernel), List.mem_of_getElem? (i := 161) (by decide +kernel), List.mem_of_getElem? (i := 162) (by decide +kernel)⟩
theorem lw_p8 : lw_okq (⟨"NoteMixModel", "isBest", "(I)Z"⟩, 7) := ⟨⟨by decide +kernel, by decide +kernel⟩, List.mem_of_getElem? (i := 215) (by decide +kernel), List.mem_of_getElem? (i := 259) (by decide +kernel), List.mem_of_getElem? (i := 260) (by decide +kernel)⟩
theorem lw_p9 : lw_okq (⟨"NoteMixModel", "look", "(I)V"⟩, 7) := ⟨⟨by decide +kernel, by decide +kernel⟩, List.mem_of_getElem? (i := 215) (by decide +kernel), List.mem_of_getElem? (i := 263) (by decide +kernel), List.mem_of_getElem? (i := 264) (by decide +kernel)⟩
theorem lw_p10 : lw_okq (⟨"NoteMixModel", "all", "()V"⟩, 7) := ⟨⟨by decide +kernel, by decide +kernel⟩, List.mem_of_getElem? (i := 215) (by decide +kernel), List.mem_of_getElem? (i := 284) (by decide +kernel), List.mem_of_getElem? (i := 285) (by decide +kernel)⟩
def lw_privs_1 : List (MethodName × Nat) := [(⟨"NoteMix", "fillFewest", "()V"⟩, 6), (⟨"NoteMix", "addCassette", "(I)V"⟩, 6), (⟨"NoteMix", "addBundle", "(II)V"⟩, 6), (⟨"java/lang/Throwable", "fillInStackTrace", "(I)Ljava/lang/Throwable;"⟩, 6), (⟨"NoteMix", "findBest", "(I)V"⟩, 6), (⟨"NoteMix", "survey", "(I)V"⟩, 6), (⟨"NoteMix", "mostNotes", "(III)I"⟩, 6), (⟨"NoteMix", "keepMix", "(IIII)V"⟩, 6), (⟨"NoteMixModel", "isBest", "(I)Z"⟩, 7), (⟨"NoteMixModel", "look", "(I)V"⟩, 7), (⟨"NoteMixModel", "all", "()V"⟩, 7)]
theorem lw_r1 : ∀ q ∈ lw_privs_1, lw_okq q := List.forall_mem_cons.mpr ⟨lw_p0, List.forall_mem_cons.mpr ⟨lw_p1, List.forall_mem_cons.mpr ⟨lw_p2, List.forall_mem_cons.mpr ⟨lw_p3, List.forall_mem_cons.mpr ⟨lw_p4, List.forall_mem_cons.mpr ⟨lw_p5, List.forall_mem_cons.mpr ⟨lw_p6, List.forall_mem_cons.mpr ⟨lw_p7, List.forall_mem_cons.mpr ⟨lw_p8, List.forall_mem_cons.mpr ⟨lw_p9, List.forall_mem_cons.mpr ⟨lw_p10, fun _ h => absurd h List.not_mem_nil⟩⟩⟩⟩⟩⟩⟩⟩⟩⟩⟩
def lw_privs : List (MethodName × Nat) := lw_privs_1
def lw_tbl : List Cond := k2_sels lw_privs ++ tables_1
theorem lw_privs_ok : ∀ q ∈ lw_privs, lw_okq q := lw_r1
-- ===== end of PART A; then your names; then what follows =====
end
section
/-! ===== BEGIN words of one list among another's, by their places ===== -/
theorem goodIn_r {big : List Cond} (ws : List Cond) (ps : List Nat) (hp : ws = ps.filterMap (fun i => big[i]?)) (h : ws.all goodWord = true) : GoodIn big ws := by
  intro w hw
  have h1 := List.all_eq_true.mp h w hw
  rw [hp] at hw
  obtain ⟨i, -, hi⟩ := List.mem_filterMap.mp hw
  have hm : w ∈ big := by first | exact List.mem_of_getElem? hi | exact List.getElem?_mem hi
  exact ⟨hm, good_of_word h1⟩
theorem goodIn_app {big a b : List Cond} (ha : GoodIn big a) (hb : GoodIn big b) : GoodIn big (a ++ b) := fun w h => (List.mem_append.mp h).elim (ha w) (hb w)
theorem goodIn_ca {big a b : List Cond} {c : Cond} (ha : GoodIn big (c :: a)) (hb : GoodIn big b) : GoodIn big (c :: (a ++ b)) := fun w h => (List.mem_cons.mp h).elim (fun e => ha w (List.mem_cons.mpr (Or.inl e))) (fun h => (List.mem_append.mp h).elim (fun h => ha w (List.mem_cons.mpr (Or.inr h))) (hb w))
theorem goodIn_sub {big ws : List Cond} (hm : ∀ w ∈ ws, w ∈ big) (h : ws.all goodWord = true) : GoodIn big ws := fun w hw => ⟨hm w hw, good_of_word (List.all_eq_true.mp h w hw)⟩
/-! ===== END ===== -/

/-! ===== BEGIN exceptions that leave a method, and their catching by the caller (launches without stack traces) ===== -/
section VXA
/-! The laws vx_back, vx_callV, vx_callS, vx_callSW, vx_throw0, vx_throwS follow proofs of the library, with one case more: JvmDerived/Free/Laws.lean (Back.of_free), Shelf42/LK1.lean (callV, callS), Shelf/KitTraced.lean (throwNew0V, throwNewS). -/
/-- where a method has thrown q: the class by its name, the cell, what was written, the world -/
def vx_T (XC : String → State → State → Prop) (st : State) (q : Addr) (t : State) (mc ms : Nat) (free : Addr → Prop) : Prop :=
  ∃ (E : String) (ce : Cell) (L : List Loc), XC E st t ∧ t.heap[q]? = some ce ∧ ce.vm = .none ∧ st.vm.findClass E = some ce.cls ∧ st.WarmedH t.vm ∧ st.sameButNew ({ t with vm := st.vm } : State) L mc ms ∧ ∀ z ∈ L, free z.base
def vx_Q (Qc : Array Value → State → Outcome → State → Prop) (XC : String → State → State → Prop) (mc ms : Nat) (free : Addr → Prop) : Array Value → State → Outcome → State → Prop := fun a st o t =>
  (Qc a st o t ∧ ∃ L, FrameEnd st o t L mc ms ∧ ∀ q ∈ L, free q.base) ∨ ∃ q, o = .threw q ∧ vx_T XC st q t mc ms free
/-- a callee that returns or throws -/
def vx_Met (l : Launch) (y : MethodName) (ws : List Cond) (rm : Room) (Pc : Array Value → State → Prop) (Qc : Array Value → State → Outcome → State → Prop) (XC : String → State → State → Prop) (mc ms : Nat) (free : Addr → Prop) : Prop :=
  MetFree l y (headSpec ws rm) Pc (fun _ _ _ _ _ => True) (vx_Q Qc XC mc ms free)
def vx_Post (XC : String → State → State → Prop) (mc ms : Nat) (free : Addr → Prop) : Pt → Array Value → Addr → Pt → Prop := fun A a q B =>
  ∃ (g : JFrame) (mk : MethodId) (t : State) (L : List Loc) (E : String) (ce : Cell), B.U.heap = t.heap ∧ B.U.vm = t.vm ∧ XC E (A.U.calling g mk a) t ∧ t.heap[q]? = some ce ∧ ce.vm = .none ∧ A.U.vm.findClass E = some ce.cls ∧ B.locs = A.locs ++ L ∧ (∀ z ∈ L, free z.base) ∧ B.cells = A.cells + mc ∧ B.slots = A.slots + ms
def vx_Back (l : Launch) (R : Room) (p : Program) (e : Env) (below : List Frame) (s : State) (sargs : Array Value) (y : MethodName) (len W9 : Nat)
    (Pre : Pt → Array Value → Prop) (Post : Pt → Array Value → Option Value → Pt → Prop) (PostX : Pt → Array Value → Addr → Pt → Prop) : Prop :=
  ∀ (m : MethodId) (meth : Method) (c : Code) (A : Pt) (g : JFrame) (ig : Instr) (mk : MethodId) (a : Array Value),
    Stand p l e R s m sargs below meth c A.U A.locs A.cells A.slots → g.method = m → g.locals.size = c.maxLocals → decode c.code g.pc = .ok (ig, len) →
    2 * g.monitorRoom + (g.stack.map fun v => v.category).sum ≤ W9 → A.U.methodNamed? y = some mk → Pre A a →
    (∃ (v : Option Value) (B : Pt), Stand p l e R s m sargs below meth c B.U B.locs B.cells B.slots ∧ Post A a v B ∧
      Steps p.tables e below (doInvoke e (A.U.setTop g) [] mk a).1 (B.U.setTop { g with pc := g.pc + len, stack := v.toList ++ g.stack })) ∨
    (∃ (q : Addr) (B : Pt), Stand p l e R s m sargs below meth c B.U B.locs B.cells B.slots ∧ PostX A a q B ∧
      Steps p.tables e below (doInvoke e (A.U.setTop g) [] mk a).1 ((B.U.setTop g).pushFrame (.throwing q)))
section Payer
variable {l : Launch} {R : Room} {p : Program} {e : Env} {below : List Frame} {s : State} {sargs : Array Value} {y : MethodName} {len W9 : Nat}
theorem vx_back {ws : List Cond} {rm : Room} {Pc : Array Value → State → Prop} {Qc : Array Value → State → Outcome → State → Prop} {XC : String → State → State → Prop} {mc ms : Nat} {free : Addr → Prop} {bytes : ByteArray} {maxL : Nat} {ret : Option FieldType}
    (hM : vx_Met l y ws rm Pc Qc XC mc ms free) (hblind : FrameBlind Pc) (hrc : rm.cells = mc) (hrs : rm.slots = ms)
    (hframes : rm.frames + 1 ≤ R.frames) (hlocals : W9 + (maxL + 11) + rm.locals ≤ R.locals)
    (hws : ∀ w ∈ ws, ∀ a' U, s.WarmedH U.vm → w.before a' U = true) (hcode : Cond.code y bytes maxL ret ∈ ws) (hinit : ∀ a' U, s.WarmedH U.vm → (Cond.initialized y.cls).before a' U = true) :
    vx_Back l R p e below s sargs y len W9 (PreOf R mc ms Pc) (PostOf Qc mc ms free) (vx_Post XC mc ms free) := by
  intro m meth c A g ig mk a X hg hsize hdg hW hn hp
  have h1 : (headSpec ws rm).pre.before a A.U = true := atoms_intro fun w hw => hws w hw _ _ X.warmed
  have h2 : (Cond.code y bytes maxL ret).before a A.U = true := hws _ hcode _ _ X.warmed
  have h3 : (Cond.initialized y.cls).before a A.U = true := hinit _ _ X.warmed
  have h4 : A.cells + (headSpec ws rm).room.cells ≤ R.cells := by rw [show (headSpec ws rm).room.cells = mc from hrc]; exact hp.1
  have h5 : A.slots + (headSpec ws rm).room.slots ≤ R.slots := by rw [show (headSpec ws rm).room.slots = ms from hrs]; exact hp.2.1
  have hPc : Pc a (A.U.calling g mk a) := hblind _ _ _ _ hp.2.2
  obtain ⟨U, Ls, c0, s0⟩ := A
  dsimp only [Pt.U, Pt.locs, Pt.cells, Pt.slots] at h1 h2 h3 h4 h5 X hn hPc ⊢
  obtain ⟨methY, cY, hmY, hcY, -, hlY, -, -, -, -⟩ := Cond.code_spec hn h2
  obtain ⟨kY, hkY, -⟩ := className_of_methodNamed hn
  have hinitY : kY.init = .initialized := Cond.initialized_spec (findClass_of_methodNamed hn) hkY h3
  have h : At U g.method c below := by rw [hg]; exact X.here
  have hlocals9 : W9 + (maxL + 11) + (headSpec ws rm).room.locals ≤ R.locals := hlocals
  have happ : (headSpec ws rm).appliesLoose y e.platform (U.calling g mk a) = true :=
    Spec.appliesLoose_calling (g := g) h hdg hn hkY hinitY
      (X.room_calling (g := g) (R' := (headSpec ws rm).room) hsize hmY hcY hframes (by rw [hlY]; omega) h4 h5) h1
  obtain ⟨mid, hmid⟩ := h.above
  have hfr : (U.setTop g).frames = (.java g :: mid) ++ below := by rw [State.frames_setTop' g h.top, hmid]; rfl
  obtain ⟨o, s₂, hsteps, -, hend, hq⟩ := Steps.callFree hM p X.admits X.cas X.clock (acts := []) hfr happ hPc trivial
  have hq' : vx_Q Qc XC mc ms free a (U.calling g mk a) o s₂ := hq
  rw [State.frames_setTop' g h.top] at hend
  obtain ⟨g₀, hg0⟩ := Option.isSome_iff_exists.mp h.top
  obtain ⟨r, hr⟩ := State.topJava?_eq_some.mp hg0
  have hr' : (({ U with heap := s₂.heap, slotsUsed := s₂.slotsUsed } : State).setVm s₂.vm).frames = .java g₀ :: r := hr
  rcases hq' with ⟨hqc, L, hfe, hL⟩ | ⟨q, rfl, E, ce, L, hx, hce, hcv, hcl, hW₂, hsm, hL⟩
  · obtain ⟨⟨v, rfl⟩, hW₂, e2, q2, q3, q4, q5, q6⟩ := id hfe
    have e3 : s₂ = ({ (U.calling g mk a).setFrames s₂.frames with heap := s₂.heap, slotsUsed := s₂.slotsUsed } : State).setVm s₂.vm := by
      have : s₂ = ({ s₂ with vm := (U.calling g mk a).vm } : State).setVm s₂.vm := rfl
      rw [e2] at this
      exact this
    obtain ⟨c₂, i₂, len₂, hc₂, hd₂, hf₂⟩ := hend
    have hW' : U.WarmedH s₂.vm := hW₂
    have hcc : c₂ = c := by
      have h1 : s₂.code? g.method = U.code? g.method := by
        rw [State.code?_eq, State.code?_eq, hW'.alike.method?]
      exact Option.some.inj (hc₂.symm.trans (h1.trans h.code))
    subst hcc
    have hlen : len₂ = len := by rw [hdg] at hd₂; cases hd₂; rfl
    subst hlen
    have hs₂ : s₂ = (({ U with heap := s₂.heap, slotsUsed := s₂.slotsUsed } : State).setVm s₂.vm).setTop { g with pc := g.pc + len₂, stack := v.toList ++ g.stack } := by
      refine e3.trans ?_
      rw [hf₂, State.calling_eq h.top, State.setFrames_setFrames, State.setTop_of_frames _ hr', hr]
      rfl
    have hsame : U.sameButNew ({ U with heap := s₂.heap, slotsUsed := s₂.slotsUsed } : State) L mc ms := by
      refine ⟨?_, q2, q3, q4, q5, q6⟩
      obtain ⟨t, ht, -⟩ := State.frames_cons hr
      show ({ U with heap := s₂.heap, slotsUsed := s₂.slotsUsed } : State) = { U.setFrames U.frames with heap := s₂.heap, slotsUsed := s₂.slotsUsed }
      rw [State.setFrames_self ht]
    subst hg
    refine Or.inl ⟨v, ⟨(({ U with heap := s₂.heap, slotsUsed := s₂.slotsUsed } : State).setVm s₂.vm), Ls ++ L, c0 + mc, s0 + ms⟩,
      ⟨X.admits, X.cas, X.clock, X.frames, X.room, X.hears, X.method, X.code, (X.here.setHeapUsed s₂.heap s₂.slotsUsed).setVm hW'.alike, X.tail, State.WarmedH.trans X.warmed hW', X.limits, X.bytes, X.same.trans (hsame.setVm s.vm)⟩,
      ⟨g, mk, s₂, L, rfl, rfl, hqc, rfl, hL, rfl, rfl⟩, ?_⟩
    show Steps p.tables e below _ ((({ U with heap := s₂.heap, slotsUsed := s₂.slotsUsed } : State).setVm s₂.vm).setTop { g with pc := g.pc + len₂, stack := v.toList ++ g.stack })
    rw [← hs₂]
    exact hsteps
  · obtain ⟨e2, q2, q3, q4, q5, q6⟩ := id hsm
    have e3 : s₂ = ({ (U.calling g mk a).setFrames s₂.frames with heap := s₂.heap, slotsUsed := s₂.slotsUsed } : State).setVm s₂.vm := by
      have : s₂ = ({ s₂ with vm := (U.calling g mk a).vm } : State).setVm s₂.vm := rfl
      rw [e2] at this
      exact this
    have hf₂ : s₂.frames = .throwing q :: .java g :: U.frames.tail := hend
    have hW' : U.WarmedH s₂.vm := hW₂
    have hs₂ : s₂ = ((({ U with heap := s₂.heap, slotsUsed := s₂.slotsUsed } : State).setVm s₂.vm).setTop g).pushFrame (.throwing q) := by
      refine e3.trans ?_
      rw [hf₂, State.calling_eq h.top, State.setFrames_setFrames, State.pushFrame, State.frames_setTop _ hr', State.setTop_of_frames _ hr', State.setFrames_setFrames, hr]
      rfl
    have hsame : U.sameButNew ({ U with heap := s₂.heap, slotsUsed := s₂.slotsUsed } : State) L mc ms := by
      refine ⟨?_, q2, q3, q4, q5, q6⟩
      obtain ⟨t, ht, -⟩ := State.frames_cons hr
      show ({ U with heap := s₂.heap, slotsUsed := s₂.slotsUsed } : State) = { U.setFrames U.frames with heap := s₂.heap, slotsUsed := s₂.slotsUsed }
      rw [State.setFrames_self ht]
    subst hg
    refine Or.inr ⟨q, ⟨(({ U with heap := s₂.heap, slotsUsed := s₂.slotsUsed } : State).setVm s₂.vm), Ls ++ L, c0 + mc, s0 + ms⟩,
      ⟨X.admits, X.cas, X.clock, X.frames, X.room, X.hears, X.method, X.code, (X.here.setHeapUsed s₂.heap s₂.slotsUsed).setVm hW'.alike, X.tail, State.WarmedH.trans X.warmed hW', X.limits, X.bytes, X.same.trans (hsame.setVm s.vm)⟩,
      ⟨g, mk, s₂, L, E, ce, rfl, rfl, hx, hce, hcv, hcl, rfl, hL, rfl, rfl⟩, ?_⟩
    show Steps p.tables e below _ (((({ U with heap := s₂.heap, slotsUsed := s₂.slotsUsed } : State).setVm s₂.vm).setTop g).pushFrame (.throwing q))
    rw [← hs₂]
    exact hsteps
end Payer
section Calls
variable {p : Program} {l : Launch} {e : Env} {R : Room} {s : State} {m : MethodId} {args : Array Value} {below : List Frame} {meth : Method} {c : Code} {T : State} {locs : List Loc} {cells slots : Nat}
theorem vx_callV (X : Stand p l e R s m args below meth c T locs cells slots) (hexec : p.tables.exec = Jvm.exec) {own C : String} {index : Nat} {y : MethodName} {bytes : ByteArray} {maxL : Nat} {ret : Option FieldType}
    (hown : s.vm.findClass own = some m.cls) (hlink : (Cond.methodLink own index y).before args s = true) (hinst : (Cond.instanceMethod y).before args s = true) (hsel : (Cond.selects C y y).before args s = true)
    (hcode : (Cond.code y bytes maxL ret).before args s = true) (hy : y.cls ≠ "java/lang/invoke/MethodHandle" ∧ y.cls ≠ "java/lang/invoke/VarHandle")
    {W9 : Nat} {Pre : Pt → Array Value → Prop} {Post : Pt → Array Value → Option Value → Pt → Prop} {PostX : Pt → Array Value → Addr → Pt → Prop} (hK : vx_Back l R p e below s args y 3 W9 Pre Post PostX)
    {b : Addr} {cellB : Cell} (hcell : T.heap[b]? = some cellB) (hobj : cellB.vm.isStatics = false) (hcls : s.vm.findClass C = some cellB.cls)
    {g : JFrame} (hg : g.method = m) (hsize : g.locals.size = c.maxLocals) {argsL rest : List Value} (hlen : ∀ sig, parseMethodDescriptor y.desc = some sig → argsL.length = sig.parameters.length)
    (hstack : g.stack = argsL.reverse ++ .ref b :: rest) (hW : 2 * g.monitorRoom + (rest.map fun v => v.category).sum ≤ W9) (hdg : decode c.code g.pc = .ok (.invokevirtual index, 3))
    (hpre : ∀ vm₁, s.WarmedH vm₁ → Pre ⟨T.setVm vm₁, locs, cells, slots⟩ (Value.ref b :: argsL).toArray) :
    (∃ (v : Option Value) (vm₁ : Vm) (B : Pt), s.WarmedH vm₁ ∧ Stand p l e R s m args below meth c B.U B.locs B.cells B.slots ∧ Post ⟨T.setVm vm₁, locs, cells, slots⟩ (Value.ref b :: argsL).toArray v B ∧
      ∀ target, Steps p.tables e below (B.U.setTop { g with pc := g.pc + 3, stack := v.toList ++ rest }) target → Steps p.tables e below (T.setTop g) target) ∨
    (∃ (q : Addr) (vm₁ : Vm) (B : Pt), s.WarmedH vm₁ ∧ Stand p l e R s m args below meth c B.U B.locs B.cells B.slots ∧ PostX ⟨T.setVm vm₁, locs, cells, slots⟩ (Value.ref b :: argsL).toArray q B ∧
      Steps p.tables e below (T.setTop g) ((B.U.setTop { g with stack := rest }).pushFrame (.throwing q))) := by
  obtain ⟨mk, methM, hnamed, hmethM, hstM, habM⟩ := Cond.instanceMethod_spec hinst
  obtain ⟨methM', cM, hmethM', -, -, -, -, -, -, hsigM⟩ := Cond.code_spec hnamed hcode
  cases hmethM.symm.trans hmethM'
  obtain ⟨c2, r2, m2, q1, q2, q3, q4, kP, hkP, hkPi⟩ := Cond.selects_spec hsel
  cases hcls.symm.trans q1
  cases (State.methodFound?_of_named hnamed hy).symm.trans q2
  cases hnamed.symm.trans q3
  have hselP : selectMethod e.platform s.vm cellB.cls mk = .method mk := by rw [Launch.admits_selectMethod X.admits]; exact q4
  obtain ⟨vm₁, X₁, hstep₁⟩ := X.invokevirtual hexec hown hlink hnamed hmethM hstM hkP hkPi hy (a := b) (cell := cellB) hcell
    (fun z h => by rw [h] at hobj; cases hobj) hselP hmethM habM hkP hkPi (g := g) hg (argsL := argsL) (rest := rest) (hlen _ hsigM) hstack hdg
  rcases hK m meth c ⟨T.setVm vm₁, locs, cells, slots⟩ { g with stack := rest } (.invokevirtual index) mk (Value.ref b :: argsL).toArray X₁ hg hsize hdg hW (X₁.named hnamed) (hpre vm₁ X₁.warmed) with ⟨v, B, X', hpost, hsteps⟩ | ⟨q, B, X', hpost, hsteps⟩
  · exact Or.inl ⟨v, vm₁, B, X₁.warmed, X', hpost, fun target h => hstep₁ _ fun acts => by rw [doInvoke_state]; exact hsteps.trans h⟩
  · exact Or.inr ⟨q, vm₁, B, X₁.warmed, X', hpost, hstep₁ _ fun acts => by rw [doInvoke_state]; exact hsteps⟩
theorem vx_callS (X : Stand p l e R s m args below meth c T locs cells slots) (hexec : p.tables.exec = Jvm.exec) {own : String} {index : Nat} {y : MethodName} {bytes : ByteArray} {maxL : Nat} {ret : Option FieldType}
    (hown : s.vm.findClass own = some m.cls) (hlink : (Cond.methodLink own index y).before args s = true) (hstat : (Cond.static y).before args s = true) (hinit : (Cond.initialized y.cls).before args s = true)
    (hcode : (Cond.code y bytes maxL ret).before args s = true) (hy : y.cls ≠ "java/lang/invoke/MethodHandle" ∧ y.cls ≠ "java/lang/invoke/VarHandle")
    {W9 : Nat} {Pre : Pt → Array Value → Prop} {Post : Pt → Array Value → Option Value → Pt → Prop} {PostX : Pt → Array Value → Addr → Pt → Prop} (hK : vx_Back l R p e below s args y 3 W9 Pre Post PostX)
    {g : JFrame} (hg : g.method = m) (hsize : g.locals.size = c.maxLocals) {argsL rest : List Value} (hlen : ∀ sig, parseMethodDescriptor y.desc = some sig → argsL.length = sig.parameters.length)
    (hstack : g.stack = argsL.reverse ++ rest) (hW : 2 * g.monitorRoom + (rest.map fun v => v.category).sum ≤ W9) (hdg : decode c.code g.pc = .ok (.invokestatic index, 3))
    (hpre : ∀ vm₁, s.WarmedH vm₁ → Pre ⟨T.setVm vm₁, locs, cells, slots⟩ argsL.toArray) :
    (∃ (v : Option Value) (vm₁ : Vm) (B : Pt), s.WarmedH vm₁ ∧ Stand p l e R s m args below meth c B.U B.locs B.cells B.slots ∧ Post ⟨T.setVm vm₁, locs, cells, slots⟩ argsL.toArray v B ∧
      ∀ target, Steps p.tables e below (B.U.setTop { g with pc := g.pc + 3, stack := v.toList ++ rest }) target → Steps p.tables e below (T.setTop g) target) ∨
    (∃ (q : Addr) (vm₁ : Vm) (B : Pt), s.WarmedH vm₁ ∧ Stand p l e R s m args below meth c B.U B.locs B.cells B.slots ∧ PostX ⟨T.setVm vm₁, locs, cells, slots⟩ argsL.toArray q B ∧
      Steps p.tables e below (T.setTop g) ((B.U.setTop { g with stack := rest }).pushFrame (.throwing q))) := by
  obtain ⟨mk, hnamed⟩ := Cond.code_named hcode
  obtain ⟨methM, cM, hmethM, -, -, -, -, -, -, hsigM⟩ := Cond.code_spec hnamed hcode
  have hstatic : methM.isStatic = true := Cond.static_spec hnamed hmethM hstat
  obtain ⟨kP, hkP, -⟩ := className_of_methodNamed hnamed
  have hinitP : kP.init = .initialized := Cond.initialized_spec (findClass_of_methodNamed hnamed) hkP hinit
  obtain ⟨vm₁, X₁, hstep₁⟩ := X.invokestatic hexec hown hlink hnamed hmethM hstatic hkP hinitP hy (g := g) hg (argsL := argsL) (rest := rest) (hlen _ hsigM) hstack hdg
  rcases hK m meth c ⟨T.setVm vm₁, locs, cells, slots⟩ { g with stack := rest } (.invokestatic index) mk argsL.toArray X₁ hg hsize hdg hW (X₁.named hnamed) (hpre vm₁ X₁.warmed) with ⟨v, B, X', hpost, hsteps⟩ | ⟨q, B, X', hpost, hsteps⟩
  · exact Or.inl ⟨v, vm₁, B, X₁.warmed, X', hpost, fun target h => hstep₁ _ fun acts => by rw [doInvoke_state]; exact hsteps.trans h⟩
  · exact Or.inr ⟨q, vm₁, B, X₁.warmed, X', hpost, hstep₁ _ fun acts => by rw [doInvoke_state]; exact hsteps⟩
end Calls
theorem vx_cls {s : State} {T : State} {vm₁ : Vm} {E : String} {k : ClassId} (hW : s.WarmedH vm₁) (h : (T.setVm vm₁).vm.findClass E = some k) : s.vm.findClass E = some k := by
  have h1 : vm₁.findClass E = some k := h
  rw [hW.alike.findClass] at h1
  exact h1
/-- the method's frame g, with q thrown over it -/
def vx_W (p : Program) (l : Launch) (e : Env) (R : Room) (s : State) (m : MethodId) (args : Array Value) (below : List Frame) (meth : Method) (c : Code) (H : Heap) (locs : List Loc) (cells slots : Nat) (Q : State → Prop) (g : JFrame) (q : Addr) : Prop :=
  ∀ T : State, T.heap = H → Stand p l e R s m args below meth c T locs cells slots → ∃ t, Steps p.tables e below ((T.setTop g).pushFrame (.throwing q)) t ∧ Q t
def vx_Run (p : Program) (l : Launch) (e : Env) (R : Room) (s : State) (m : MethodId) (args : Array Value) (below : List Frame) (meth : Method) (c : Code) (H : Heap) (locs : List Loc) (cells slots mc ms : Nat) (g : JFrame) (rest : List Value) (Qa : State → Outcome → State → Prop) (XC : String → State → State → Prop) (free : Addr → Prop) : Prop :=
  ∀ T : State, T.heap = H → Stand p l e R s m args below meth c T locs cells slots →
    (∃ (v : Option Value) (st₀ t T' : State) (L : List Loc), st₀.heap = H ∧ Stand p l e R s m args below meth c T' (locs ++ L) (cells + mc) (slots + ms) ∧ (∀ q ∈ L, free q.base) ∧ T'.heap = t.heap ∧ T'.vm = t.vm ∧ Qa st₀ (.returned v) t ∧
      Goes p e below T g T' { g with pc := g.pc + 3, stack := v.toList ++ rest }) ∨
    (∃ (q : Addr) (st₀ t T' : State) (L : List Loc) (E : String) (ce : Cell), st₀.heap = H ∧ Stand p l e R s m args below meth c T' (locs ++ L) (cells + mc) (slots + ms) ∧ (∀ z ∈ L, free z.base) ∧ T'.heap = t.heap ∧ T'.vm = t.vm ∧ XC E st₀ t ∧ t.heap[q]? = some ce ∧ ce.vm = .none ∧ s.vm.findClass E = some ce.cls ∧
      Steps p.tables e below (T.setTop g) ((T'.setTop { g with stack := rest }).pushFrame (.throwing q)))
def vx_X {S : Type} (px : S → Prop) (B : String → S → State → Prop) (A : Nat → Prop) : String → State → State → Prop := fun E st t => ∃ u : S, px u ∧ B E u t ∧ va_F A st t
section Runs
variable {p : Program} {l : Launch} {e : Env} {R : Room} {s : State} {m : MethodId} {args : Array Value} {below : List Frame} {meth : Method} {c : Code} {H : Heap} {locs : List Loc} {cells slots : Nat}
variable {y : MethodName} {bytes cc : ByteArray} {maxL nL mc ms n index : Nat} {ret : Option FieldType} {ws : List Cond} {rm : Room} {Pc : Array Value → State → Prop} {Qc : Array Value → State → Outcome → State → Prop} {XC : String → State → State → Prop} {free : Addr → Prop} {Ts : List Cond} {own C : String} {b : Addr} {As rest : List Value} {g : JFrame}
theorem vx_callBack (cb : CallB R s args own index y bytes maxL ret ws rm mc ms n) (hM : vx_Met l y ws rm Pc Qc XC mc ms free) (hbl : FrameBlind Pc) : vx_Back l R p e below s args y 3 8 (PreOf R mc ms Pc) (PostOf Qc mc ms free) (vx_Post XC mc ms free) := by
  obtain ⟨hrc, hrs, hfr, hlo, hws, hcw, -, hini, -⟩ := cb
  exact vx_back (bytes := bytes) (maxL := maxL) (ret := ret) hM hbl hrc hrs hfr hlo hws hcw (fun a' U hW => word_at hW (Or.inl (by first | rfl | simp [Cond.onTables, Cond.keeps, Cond.steady])) hini)
theorem vx_runV (S : CallFix p m c cc nL s args Ts own) (hM : vx_Met l y ws rm Pc Qc XC mc ms free) (cw : CallW R s args own C index y bytes maxL ret ws rm mc ms n) (hp : PreV s H C b Pc As)
    (hg : g.method = m) (hn : As.length = n) (hsize : g.locals.size = nL) (hstack : g.stack = As.reverse ++ .ref b :: rest) (hW : 2 * g.monitorRoom + (rest.map fun v => v.category).sum ≤ 8) (hdg : decode cc g.pc = .ok (.invokevirtual index, 3)) (hf : cells + mc ≤ R.cells ∧ slots + ms ≤ R.slots) :
    vx_Run p l e R s m args below meth c H locs cells slots mc ms g rest (Qc (Value.ref b :: As).toArray) XC free := by
  have hK : vx_Back l R p e below s args y 3 8 (PreOf R mc ms Pc) (PostOf Qc mc ms free) (vx_Post XC mc ms free) := vx_callBack cw.1 hM hp.1
  obtain ⟨⟨-, -, -, -, -, -, hcode, -, hy, hlen, hl⟩, hin, hse⟩ := cw
  obtain ⟨hx, hb, hml, ho, -⟩ := S
  obtain ⟨-, ⟨cellB, hcB, hoB, hclB⟩, hPc⟩ := hp
  intro T hT X
  rcases vx_callV X hx (C := C) (bytes := bytes) (maxL := maxL) (ret := ret) ho hl hin hse hcode hy hK (by rw [hT]; exact hcB) hoB hclB hg (hsize.trans hml.symm) (argsL := As) (rest := rest) (fun sig h => hn.trans (hlen sig h)) hstack hW (by rw [hb]; exact hdg)
    (fun vm₁ hW₁ => ⟨hf.1, hf.2, hPc (T.setVm vm₁) hT hW₁⟩) with ⟨v, vm₁, ⟨U', l2, c2, s2⟩, hW₁, X', ⟨g', mk, t, L, e1, e2, hq, h1, hL, h2, h3⟩, st⟩ | ⟨q, vm₁, ⟨U', l2, c2, s2⟩, hW₁, X', ⟨g', mk, t, L, E, ce, e1, e2, hq, hce, hcv, hcl, h1, hL, h2, h3⟩, st⟩
  · dsimp only [Pt.U, Pt.locs, Pt.cells, Pt.slots] at X' e1 e2 h1 h2 h3 st
    subst h1; subst h2; subst h3
    exact Or.inl ⟨v, (T.setVm vm₁).calling g' mk (Value.ref b :: As).toArray, t, U', L, hT, X', hL, e1, e2, hq, st⟩
  · dsimp only [Pt.U, Pt.locs, Pt.cells, Pt.slots] at X' e1 e2 h1 h2 h3 st hcl
    subst h1; subst h2; subst h3
    exact Or.inr ⟨q, (T.setVm vm₁).calling g' mk (Value.ref b :: As).toArray, t, U', L, E, ce, hT, X', hL, e1, e2, hq, hce, hcv, vx_cls hW₁ hcl, st⟩
theorem vx_runS (S : CallFix p m c cc nL s args Ts own) (hM : vx_Met l y ws rm Pc Qc XC mc ms free) (cw : CallB R s args own index y bytes maxL ret ws rm mc ms n ∧ (Cond.static y).before args s = true) (hp : PreS s H Pc As)
    (hg : g.method = m) (hn : As.length = n) (hsize : g.locals.size = nL) (hstack : g.stack = As.reverse ++ rest) (hW : 2 * g.monitorRoom + (rest.map fun v => v.category).sum ≤ 8) (hdg : decode cc g.pc = .ok (.invokestatic index, 3)) (hf : cells + mc ≤ R.cells ∧ slots + ms ≤ R.slots) :
    vx_Run p l e R s m args below meth c H locs cells slots mc ms g rest (Qc As.toArray) XC free := by
  have hK : vx_Back l R p e below s args y 3 8 (PreOf R mc ms Pc) (PostOf Qc mc ms free) (vx_Post XC mc ms free) := vx_callBack cw.1 hM hp.1
  obtain ⟨⟨-, -, -, -, -, -, hcode, hini, hy, hlen, hl⟩, hstt⟩ := cw
  obtain ⟨hx, hb, hml, ho, -⟩ := S
  intro T hT X
  rcases vx_callS X hx (bytes := bytes) (maxL := maxL) (ret := ret) ho hl hstt hini hcode hy hK hg (hsize.trans hml.symm) (argsL := As) (rest := rest) (fun sig h => hn.trans (hlen sig h)) hstack hW (by rw [hb]; exact hdg)
    (fun vm₁ hW₁ => ⟨hf.1, hf.2, hp.2 (T.setVm vm₁) hT hW₁⟩) with ⟨v, vm₁, ⟨U', l2, c2, s2⟩, hW₁, X', ⟨g', mk, t, L, e1, e2, hq, h1, hL, h2, h3⟩, st⟩ | ⟨q, vm₁, ⟨U', l2, c2, s2⟩, hW₁, X', ⟨g', mk, t, L, E, ce, e1, e2, hq, hce, hcv, hcl, h1, hL, h2, h3⟩, st⟩
  · dsimp only [Pt.U, Pt.locs, Pt.cells, Pt.slots] at X' e1 e2 h1 h2 h3 st
    subst h1; subst h2; subst h3
    exact Or.inl ⟨v, (T.setVm vm₁).calling g' mk As.toArray, t, U', L, hT, X', hL, e1, e2, hq, st⟩
  · dsimp only [Pt.U, Pt.locs, Pt.cells, Pt.slots] at X' e1 e2 h1 h2 h3 st hcl
    subst h1; subst h2; subst h3
    exact Or.inr ⟨q, (T.setVm vm₁).calling g' mk As.toArray, t, U', L, E, ce, hT, X', hL, e1, e2, hq, hce, hcv, vx_cls hW₁ hcl, st⟩
end Runs
section Rows
variable {p : Program} {l : Launch} {e : Env} {R : Room} {s : State} {m : MethodId} {args : Array Value} {below : List Frame} {meth : Method} {c : Code} {H : Heap} {locs : List Loc} {cells slots : Nat} {Q : State → Prop}
variable {mc ms : Nat} {free : Addr → Prop} {A0 A1 : Nat → Prop} {H0 : Heap} {a : Array Value} {pc : Nat} {ls : Array Slot} {st0 rest : List Value}
theorem vx_keep {st₀ t T' : State} {L : List Loc} (h0 : st₀.heap = H) (e1 : T'.heap = t.heap) (hS : va_S A0 H0 H locs) (hA : ∀ q, q < H.size → A1 q → A0 q) (hf : ∀ q, free q → A0 q) (hL : ∀ q ∈ L, free q.base) (hF : va_F A1 st₀ t) :
    H.size ≤ T'.heap.size ∧ (∀ q : Nat, q < H.size → ¬ A1 q → T'.heap[q]? = H[q]?) ∧ va_S A0 H0 T'.heap (locs ++ L) := by
  obtain ⟨hz, hk⟩ := hF
  rw [h0] at hz hk
  exact ⟨by rw [e1]; exact hz, fun q h1 h2 => by rw [e1]; exact hk q h1 h2,
    ⟨Nat.le_trans hS.1 (by rw [e1]; exact hz), fun q h1 h2 => by rw [e1, hk q (Nat.lt_of_lt_of_le h1 hS.1) (fun z => h2 (hA q (Nat.lt_of_lt_of_le h1 hS.1) z))]; exact hS.2.1 q h1 h2, fun q hq => by
      rcases List.mem_append.mp hq with h | h
      · exact hS.2.2 q h
      · exact hf _ (hL q h)⟩⟩
theorem vx_calli {S SX : Type} {post : Int32 → S → Prop} {px : SX → Prop} {B : S → State → Prop} {BX : String → SX → State → Prop} {AX : Nat → Prop} (hr : vx_Run p l e R s m args below meth c H locs cells slots mc ms (F0 m pc ls st0) rest (va_Qi post B A1 a) (vx_X px BX AX) free) (hS : va_S A0 H0 H locs) (hA : ∀ q, q < H.size → A1 q → A0 q) (hf : ∀ q, free q → A0 q) (hAX : ∀ q, q < H.size → AX q → A0 q)
    (kx : ∀ (E : String) (ce : Cell) (q9 : Addr) (u : SX) (t : State) (H1 : Heap) (locs1 : List Loc), t.heap = H1 → s.vm.Alike t.vm → px u → BX E u t → H.size ≤ H1.size → (∀ q : Nat, q < H.size → ¬ AX q → H1[q]? = H[q]?) → va_S A0 H0 H1 locs1 → H1[q9]? = some ce → ce.vm = .none → s.vm.findClass E = some ce.cls → vx_W p l e R s m args below meth c H1 locs1 (cells + mc) (slots + ms) Q (F0 m pc ls rest) q9)
    (kk : ∀ (r : Int32) (u : S) (t : State) (H1 : Heap) (locs1 : List Loc), t.heap = H1 → s.vm.Alike t.vm → post r u → B u t → H.size ≤ H1.size → (∀ q : Nat, q < H.size → ¬ A1 q → H1[q]? = H[q]?) → va_S A0 H0 H1 locs1 → W p l e R s m args below meth c H1 locs1 (cells + mc) (slots + ms) Q (F0 m (pc + 3) ls (.int r :: rest))) : W p l e R s m args below meth c H locs cells slots Q (F0 m pc ls st0) := by
  intro T hT X
  rcases hr T hT X with ⟨v, st₀, t, T', L, h0, X', hL, e1, e2, ⟨⟨r, u, hv, hp, hb⟩, hF⟩, st⟩ | ⟨q, st₀, t, T', L, E, ce, h0, X', hL, e1, e2, ⟨u, hp, hb, hF⟩, hce, hcv, hcl, st⟩
  · cases hv
    obtain ⟨k1, k2, k3⟩ := vx_keep h0 e1 hS hA hf hL hF
    obtain ⟨t2, a1, b1⟩ := kk r u t T'.heap (locs ++ L) e1.symm (by rw [← e2]; exact X'.warmed.alike) hp hb k1 k2 k3 T' rfl X'
    exact ⟨t2, st t2 a1, b1⟩
  · obtain ⟨k1, k2, k3⟩ := vx_keep h0 e1 hS hAX hf hL hF
    obtain ⟨t2, a1, b1⟩ := kx E ce q u t T'.heap (locs ++ L) e1.symm (by rw [← e2]; exact X'.warmed.alike) hp hb k1 k2 k3 (by rw [e1]; exact hce) hcv hcl T' rfl X'
    exact ⟨t2, st.trans a1, b1⟩
theorem vx_calll {S SX : Type} {post : Int64 → S → Prop} {px : SX → Prop} {B : S → State → Prop} {BX : String → SX → State → Prop} {AX : Nat → Prop} (hr : vx_Run p l e R s m args below meth c H locs cells slots mc ms (F0 m pc ls st0) rest (va_Ql post B A1 a) (vx_X px BX AX) free) (hS : va_S A0 H0 H locs) (hA : ∀ q, q < H.size → A1 q → A0 q) (hf : ∀ q, free q → A0 q) (hAX : ∀ q, q < H.size → AX q → A0 q)
    (kx : ∀ (E : String) (ce : Cell) (q9 : Addr) (u : SX) (t : State) (H1 : Heap) (locs1 : List Loc), t.heap = H1 → s.vm.Alike t.vm → px u → BX E u t → H.size ≤ H1.size → (∀ q : Nat, q < H.size → ¬ AX q → H1[q]? = H[q]?) → va_S A0 H0 H1 locs1 → H1[q9]? = some ce → ce.vm = .none → s.vm.findClass E = some ce.cls → vx_W p l e R s m args below meth c H1 locs1 (cells + mc) (slots + ms) Q (F0 m pc ls rest) q9)
    (kk : ∀ (r : Int64) (u : S) (t : State) (H1 : Heap) (locs1 : List Loc), t.heap = H1 → s.vm.Alike t.vm → post r u → B u t → H.size ≤ H1.size → (∀ q : Nat, q < H.size → ¬ A1 q → H1[q]? = H[q]?) → va_S A0 H0 H1 locs1 → W p l e R s m args below meth c H1 locs1 (cells + mc) (slots + ms) Q (F0 m (pc + 3) ls (.long r :: rest))) : W p l e R s m args below meth c H locs cells slots Q (F0 m pc ls st0) := by
  intro T hT X
  rcases hr T hT X with ⟨v, st₀, t, T', L, h0, X', hL, e1, e2, ⟨⟨r, u, hv, hp, hb⟩, hF⟩, st⟩ | ⟨q, st₀, t, T', L, E, ce, h0, X', hL, e1, e2, ⟨u, hp, hb, hF⟩, hce, hcv, hcl, st⟩
  · cases hv
    obtain ⟨k1, k2, k3⟩ := vx_keep h0 e1 hS hA hf hL hF
    obtain ⟨t2, a1, b1⟩ := kk r u t T'.heap (locs ++ L) e1.symm (by rw [← e2]; exact X'.warmed.alike) hp hb k1 k2 k3 T' rfl X'
    exact ⟨t2, st t2 a1, b1⟩
  · obtain ⟨k1, k2, k3⟩ := vx_keep h0 e1 hS hAX hf hL hF
    obtain ⟨t2, a1, b1⟩ := kx E ce q u t T'.heap (locs ++ L) e1.symm (by rw [← e2]; exact X'.warmed.alike) hp hb k1 k2 k3 (by rw [e1]; exact hce) hcv hcl T' rfl X'
    exact ⟨t2, st.trans a1, b1⟩
theorem vx_callf {S SX : Type} {post : UInt32 → S → Prop} {px : SX → Prop} {B : S → State → Prop} {BX : String → SX → State → Prop} {AX : Nat → Prop} (hr : vx_Run p l e R s m args below meth c H locs cells slots mc ms (F0 m pc ls st0) rest (va_Qf post B A1 a) (vx_X px BX AX) free) (hS : va_S A0 H0 H locs) (hA : ∀ q, q < H.size → A1 q → A0 q) (hf : ∀ q, free q → A0 q) (hAX : ∀ q, q < H.size → AX q → A0 q)
    (kx : ∀ (E : String) (ce : Cell) (q9 : Addr) (u : SX) (t : State) (H1 : Heap) (locs1 : List Loc), t.heap = H1 → s.vm.Alike t.vm → px u → BX E u t → H.size ≤ H1.size → (∀ q : Nat, q < H.size → ¬ AX q → H1[q]? = H[q]?) → va_S A0 H0 H1 locs1 → H1[q9]? = some ce → ce.vm = .none → s.vm.findClass E = some ce.cls → vx_W p l e R s m args below meth c H1 locs1 (cells + mc) (slots + ms) Q (F0 m pc ls rest) q9)
    (kk : ∀ (r : UInt32) (u : S) (t : State) (H1 : Heap) (locs1 : List Loc), t.heap = H1 → s.vm.Alike t.vm → post r u → B u t → H.size ≤ H1.size → (∀ q : Nat, q < H.size → ¬ A1 q → H1[q]? = H[q]?) → va_S A0 H0 H1 locs1 → W p l e R s m args below meth c H1 locs1 (cells + mc) (slots + ms) Q (F0 m (pc + 3) ls (.float r :: rest))) : W p l e R s m args below meth c H locs cells slots Q (F0 m pc ls st0) := by
  intro T hT X
  rcases hr T hT X with ⟨v, st₀, t, T', L, h0, X', hL, e1, e2, ⟨⟨r, u, hv, hp, hb⟩, hF⟩, st⟩ | ⟨q, st₀, t, T', L, E, ce, h0, X', hL, e1, e2, ⟨u, hp, hb, hF⟩, hce, hcv, hcl, st⟩
  · cases hv
    obtain ⟨k1, k2, k3⟩ := vx_keep h0 e1 hS hA hf hL hF
    obtain ⟨t2, a1, b1⟩ := kk r u t T'.heap (locs ++ L) e1.symm (by rw [← e2]; exact X'.warmed.alike) hp hb k1 k2 k3 T' rfl X'
    exact ⟨t2, st t2 a1, b1⟩
  · obtain ⟨k1, k2, k3⟩ := vx_keep h0 e1 hS hAX hf hL hF
    obtain ⟨t2, a1, b1⟩ := kx E ce q u t T'.heap (locs ++ L) e1.symm (by rw [← e2]; exact X'.warmed.alike) hp hb k1 k2 k3 (by rw [e1]; exact hce) hcv hcl T' rfl X'
    exact ⟨t2, st.trans a1, b1⟩
theorem vx_calld {S SX : Type} {post : UInt64 → S → Prop} {px : SX → Prop} {B : S → State → Prop} {BX : String → SX → State → Prop} {AX : Nat → Prop} (hr : vx_Run p l e R s m args below meth c H locs cells slots mc ms (F0 m pc ls st0) rest (va_Qd post B A1 a) (vx_X px BX AX) free) (hS : va_S A0 H0 H locs) (hA : ∀ q, q < H.size → A1 q → A0 q) (hf : ∀ q, free q → A0 q) (hAX : ∀ q, q < H.size → AX q → A0 q)
    (kx : ∀ (E : String) (ce : Cell) (q9 : Addr) (u : SX) (t : State) (H1 : Heap) (locs1 : List Loc), t.heap = H1 → s.vm.Alike t.vm → px u → BX E u t → H.size ≤ H1.size → (∀ q : Nat, q < H.size → ¬ AX q → H1[q]? = H[q]?) → va_S A0 H0 H1 locs1 → H1[q9]? = some ce → ce.vm = .none → s.vm.findClass E = some ce.cls → vx_W p l e R s m args below meth c H1 locs1 (cells + mc) (slots + ms) Q (F0 m pc ls rest) q9)
    (kk : ∀ (r : UInt64) (u : S) (t : State) (H1 : Heap) (locs1 : List Loc), t.heap = H1 → s.vm.Alike t.vm → post r u → B u t → H.size ≤ H1.size → (∀ q : Nat, q < H.size → ¬ A1 q → H1[q]? = H[q]?) → va_S A0 H0 H1 locs1 → W p l e R s m args below meth c H1 locs1 (cells + mc) (slots + ms) Q (F0 m (pc + 3) ls (.double r :: rest))) : W p l e R s m args below meth c H locs cells slots Q (F0 m pc ls st0) := by
  intro T hT X
  rcases hr T hT X with ⟨v, st₀, t, T', L, h0, X', hL, e1, e2, ⟨⟨r, u, hv, hp, hb⟩, hF⟩, st⟩ | ⟨q, st₀, t, T', L, E, ce, h0, X', hL, e1, e2, ⟨u, hp, hb, hF⟩, hce, hcv, hcl, st⟩
  · cases hv
    obtain ⟨k1, k2, k3⟩ := vx_keep h0 e1 hS hA hf hL hF
    obtain ⟨t2, a1, b1⟩ := kk r u t T'.heap (locs ++ L) e1.symm (by rw [← e2]; exact X'.warmed.alike) hp hb k1 k2 k3 T' rfl X'
    exact ⟨t2, st t2 a1, b1⟩
  · obtain ⟨k1, k2, k3⟩ := vx_keep h0 e1 hS hAX hf hL hF
    obtain ⟨t2, a1, b1⟩ := kx E ce q u t T'.heap (locs ++ L) e1.symm (by rw [← e2]; exact X'.warmed.alike) hp hb k1 k2 k3 (by rw [e1]; exact hce) hcv hcl T' rfl X'
    exact ⟨t2, st.trans a1, b1⟩
theorem vx_callv {S SX : Type} {post : S → Prop} {px : SX → Prop} {B : S → State → Prop} {BX : String → SX → State → Prop} {AX : Nat → Prop} (hr : vx_Run p l e R s m args below meth c H locs cells slots mc ms (F0 m pc ls st0) rest (va_Qv post B A1 a) (vx_X px BX AX) free) (hS : va_S A0 H0 H locs) (hA : ∀ q, q < H.size → A1 q → A0 q) (hf : ∀ q, free q → A0 q) (hAX : ∀ q, q < H.size → AX q → A0 q)
    (kx : ∀ (E : String) (ce : Cell) (q9 : Addr) (u : SX) (t : State) (H1 : Heap) (locs1 : List Loc), t.heap = H1 → s.vm.Alike t.vm → px u → BX E u t → H.size ≤ H1.size → (∀ q : Nat, q < H.size → ¬ AX q → H1[q]? = H[q]?) → va_S A0 H0 H1 locs1 → H1[q9]? = some ce → ce.vm = .none → s.vm.findClass E = some ce.cls → vx_W p l e R s m args below meth c H1 locs1 (cells + mc) (slots + ms) Q (F0 m pc ls rest) q9)
    (kk : ∀ (u : S) (t : State) (H1 : Heap) (locs1 : List Loc), t.heap = H1 → s.vm.Alike t.vm → post u → B u t → H.size ≤ H1.size → (∀ q : Nat, q < H.size → ¬ A1 q → H1[q]? = H[q]?) → va_S A0 H0 H1 locs1 → W p l e R s m args below meth c H1 locs1 (cells + mc) (slots + ms) Q (F0 m (pc + 3) ls (rest))) : W p l e R s m args below meth c H locs cells slots Q (F0 m pc ls st0) := by
  intro T hT X
  rcases hr T hT X with ⟨v, st₀, t, T', L, h0, X', hL, e1, e2, ⟨⟨u, hv, hp, hb⟩, hF⟩, st⟩ | ⟨q, st₀, t, T', L, E, ce, h0, X', hL, e1, e2, ⟨u, hp, hb, hF⟩, hce, hcv, hcl, st⟩
  · cases hv
    obtain ⟨k1, k2, k3⟩ := vx_keep h0 e1 hS hA hf hL hF
    obtain ⟨t2, a1, b1⟩ := kk u t T'.heap (locs ++ L) e1.symm (by rw [← e2]; exact X'.warmed.alike) hp hb k1 k2 k3 T' rfl X'
    exact ⟨t2, st t2 a1, b1⟩
  · obtain ⟨k1, k2, k3⟩ := vx_keep h0 e1 hS hAX hf hL hF
    obtain ⟨t2, a1, b1⟩ := kx E ce q u t T'.heap (locs ++ L) e1.symm (by rw [← e2]; exact X'.warmed.alike) hp hb k1 k2 k3 (by rw [e1]; exact hce) hcv hcl T' rfl X'
    exact ⟨t2, st.trans a1, b1⟩
/-- caught by the row x of this method's table; the rows ahead don't take it -/
theorem vx_catch {own name : String} {E : String} {ce : Cell} {q : Addr} (hown : s.vm.findClass own = some m.cls) (pre : List ExceptionTableEntry) (x : ExceptionTableEntry) (suf : List ExceptionTableEntry) (hsplit : c.exceptionTable.toList = pre ++ x :: suf)
    (hpass : ∀ z ∈ pre, covers z pc = false ∨ (z.catchType ≠ 0 ∧ ∃ nm : String, (Cond.classLink own z.catchType nm).before args s = true ∧ va_Nc E nm s)) (hx : covers x pc = true) (h0 : x.catchType ≠ 0)
    (hlink : (Cond.classLink own x.catchType name).before args s = true) (hcast : (Cond.castable E name).before args s = true) (hcell : H[q]? = some ce) (hv : ce.vm = .none) (hcl : s.vm.findClass E = some ce.cls)
    (kk : W p l e R s m args below meth c H locs cells slots Q (F0 m x.handlerPc ls [.ref q])) : vx_W p l e R s m args below meth c H locs cells slots Q (F0 m pc ls rest) q := by
  intro T hT X
  have hpl : e.platform.magicAccessors = ({} : Platform).magicAccessors := by rw [X.admits.platform]
  obtain ⟨c3, c4, hc3, hc4, hasg⟩ := Cond.castable_spec hcast
  cases Option.some.inj (hc3.symm.trans hcl)
  obtain ⟨c5, hc5, hcl5⟩ := Cond.classLink_spec hown hlink e.platform hpl
  cases Option.some.inj (hc4.symm.trans hc5)
  obtain ⟨vm', X', st⟩ := X.thenCaughtThrough q (g := F0 m pc ls rest) rfl (Steps.refl _) (by rw [hT]; exact hcell) (by rw [hv]; rfl) (by obtain ⟨k9, h9, -⟩ := Vm.findClass_spec hcl; exact ⟨k9, h9⟩) pre x suf hsplit
    (fun z hz => by
      rcases hpass z hz with h | ⟨hz0, nm, hl1, hn1⟩
      · exact Or.inl h
      · obtain ⟨c6, hc6, hcl6⟩ := Cond.classLink_spec hown hl1 e.platform hpl
        obtain ⟨a8, b8, h1, h2, h3⟩ := hn1
        cases Option.some.inj (h1.symm.trans hcl)
        cases Option.some.inj (h2.symm.trans hc6)
        exact Or.inr ⟨hz0, _, hcl6, h3⟩) hx (Or.inr ⟨h0, c4, hcl5, hasg⟩)
  obtain ⟨t, a1, b1⟩ := kk (T.setVm vm') hT X'
  exact ⟨t, st.trans a1, b1⟩
end Rows
section Ends
variable {p : Program} {l : Launch} {e : Env} {R : Room} {s : State} {m : MethodId} {args : Array Value} {below : List Frame} {meth : Method} {c : Code} {H : Heap} {locs : List Loc} {cells slots : Nat} {Q : State → Prop}
variable {mc ms : Nat} {free : Addr → Prop} {A0 A1 : Nat → Prop} {H0 : Heap} {a : Array Value} {ls : Array Slot} {st0 rest : List Value}
variable {Qc : Array Value → State → Outcome → State → Prop} {XC : String → State → State → Prop}
/-- what a body that may throw owes at its end -/
def vx_MQ (below : List Frame) (Qc : Array Value → State → Outcome → State → Prop) (XC : String → State → State → Prop) (a : Array Value) (s : State) (mc ms : Nat) (free : Addr → Prop) : State → Prop := fun t =>
  ∃ o, t.status = .running ∧ Ended t below o ∧ vx_Q Qc XC mc ms free a s o t
theorem vx_ret {g : JFrame} {mc ms : Nat} (k : W p l e R s m args below meth c H locs cells slots (MQ below Qc args s mc ms free) g) : W p l e R s m args below meth c H locs cells slots (vx_MQ below Qc XC args s mc ms free) g := by
  intro T hT X
  obtain ⟨t, a1, o, b1, b2, b3, b4⟩ := k T hT X
  exact ⟨t, a1, o, b1, b2, Or.inl ⟨b3, b4⟩⟩
/-- not caught here: it goes on to the caller -/
theorem vx_widen {g : JFrame} {q : Addr} {k n : Nat} (h1 : cells ≤ k) (h2 : slots ≤ n) (kk : vx_W p l e R s m args below meth c H locs k n Q g q) : vx_W p l e R s m args below meth c H locs cells slots Q g q := fun T hT X => kk T hT (stand_widen X h1 h2)
theorem vx_out {pc : Nat} {E : String} {ce : Cell} {q : Addr} {mc ms : Nat} (hout : ∀ x ∈ c.exceptionTable.toList, covers x pc = false) (hlocks : meth.locks = false) (hcell : H[q]? = some ce) (hv : ce.vm = .none) (hcl : s.vm.findClass E = some ce.cls)
    (hx : ∀ t : State, t.heap = H → s.vm.Alike t.vm → XC E s t) (hf : ∀ z ∈ locs, free z.base) (hc : cells ≤ mc) (hs : slots ≤ ms) :
    vx_W p l e R s m args below meth c H locs cells slots (vx_MQ below Qc XC args s mc ms free) (F0 m pc ls rest) q := by
  intro T hT X
  obtain ⟨st1, hrun, hend, hW, hsm⟩ := X.leaveThrown q (g := F0 m pc ls rest) rfl rfl rfl hout hlocks
  have hcell9 : (T.setFrames (.throwing q :: below)).heap[q]? = some ce := by
    show T.heap[q]? = some ce
    rw [hT]; exact hcell
  exact ⟨_, st1, .threw q, hrun, hend, Or.inr ⟨q, rfl, E, ce, locs, hx _ hT hW.alike, hcell9, hv, hcl, hW, hsm.mono hc hs, hf⟩⟩
theorem vx_frame {U : State} {k n : Nat} (h : s.sameButNew ({ U with vm := s.vm } : State) locs k n) : s.heap.size ≤ U.heap.size ∧ ∀ q : Nat, q < s.heap.size → (∀ z ∈ locs, z.base ≠ q) → U.heap[q]? = s.heap[q]? := by
  obtain ⟨-, h2, -, -, -, h6⟩ := h
  refine ⟨h2, fun q hq hz => ?_⟩
  obtain ⟨c9, e1, e2, e3, e4⟩ := h6 q _ (Array.getElem?_eq_getElem hq)
  have hs : c9.slots = (s.heap[q]).slots := Array.ext_getElem? fun i => e4 i fun hm => hz _ hm rfl
  have h9 : c9 = s.heap[q] := by
    rw [hs] at e2
    exact e2
  have e5 : U.heap[q]? = some c9 := e1
  rw [e5, h9, Array.getElem?_eq_getElem hq]
/-- the words of a throw but the four that speak of the heap -/
def vx_no (w : Cond) : Bool := decide (w ≠ .isRef (.static Bundle.tN "UNASSIGNED_STACK" Bundle.steD)) && decide (w ≠ .isRef (.static Bundle.tN "SUPPRESSED_SENTINEL" Bundle.listD)) && decide (w ≠ .laysStatic Bundle.tN "UNASSIGNED_STACK" Bundle.steD) && decide (w ≠ .laysStatic Bundle.tN "SUPPRESSED_SENTINEL" Bundle.listD)
def vx_at0 (own : String) (ic : Nat) (X : String) (names : List String) : List Cond := (Bundle.ownAtoms0 own ic X names).filter vx_no
def vx_atS (own : String) (ic : Nat) (X : String) (names : List String) : List Cond := (Bundle.ownAtoms own ic X names).filter vx_no
/-- a word that the tables alone decide, or a good one -/
def vx_ot (w : Cond) : Bool := w.onTables || goodWord w
theorem vx_ot_at {args a' : Array Value} {s U : State} {w : Cond} (hW : s.WarmedH U.vm) (hvm : s.vm = U.vm) (hg : vx_ot w = true) (h : w.before args s = true) : w.before a' U = true := by
  simp only [vx_ot, Bool.or_eq_true] at hg
  rcases hg with hg | hg
  · exact va_tabs hg hvm h
  · exact word_at hW (good_of_word hg) h
/-- a list's words: the good ones out of the method's own list, the others by premises of their own -/
theorem vx_hat {args : Array Value} {s : State} {L B : List Cond} (h1 : ∀ w ∈ L.filter goodWord, w.before args s = true) (h2 : ∀ w ∈ L.filter (fun w => !goodWord w), w ∈ B) (h3 : ∀ w ∈ B, w.before args s = true) : ∀ w ∈ L, w.before args s = true := by
  intro w hw
  by_cases g : goodWord w = true
  · exact h1 w (List.mem_filter.mpr ⟨hw, g⟩)
  · refine h3 w (h2 w (List.mem_filter.mpr ⟨hw, ?_⟩))
    show (!goodWord w) = true
    cases hgw : goodWord w
    · rfl
    · exact absurd hgw g
theorem vx_c {args : Array Value} {s : State} {w : Cond} {B : List Cond} (h : w.before args s = true) (t : ∀ w ∈ B, w.before args s = true) : ∀ w' ∈ w :: B, w'.before args s = true := fun w' h' => (List.mem_cons.mp h').elim (fun e => by rw [e]; exact h) (t w')
theorem vx_n {args : Array Value} {s : State} : ∀ w ∈ ([] : List Cond), w.before args s = true := fun _ h => nomatch h
theorem vx_own {args : Array Value} {s : State} {L : List Cond} (h1 : ∀ w ∈ L.filter vx_no, w.before args s = true)
    (hU : (Cond.isRef (.static Bundle.tN "UNASSIGNED_STACK" Bundle.steD)).before args s = true) (hN : (Cond.isRef (.static Bundle.tN "SUPPRESSED_SENTINEL" Bundle.listD)).before args s = true)
    (lU : (Cond.laysStatic Bundle.tN "UNASSIGNED_STACK" Bundle.steD).before args s = true) (lN : (Cond.laysStatic Bundle.tN "SUPPRESSED_SENTINEL" Bundle.listD).before args s = true) : ∀ w ∈ L, w.before args s = true := by
  intro w hw
  by_cases e1 : w = .isRef (.static Bundle.tN "UNASSIGNED_STACK" Bundle.steD)
  · rw [e1]; exact hU
  · by_cases e2 : w = .isRef (.static Bundle.tN "SUPPRESSED_SENTINEL" Bundle.listD)
    · rw [e2]; exact hN
    · by_cases e3 : w = .laysStatic Bundle.tN "UNASSIGNED_STACK" Bundle.steD
      · rw [e3]; exact lU
      · by_cases e4 : w = .laysStatic Bundle.tN "SUPPRESSED_SENTINEL" Bundle.listD
        · rw [e4]; exact lN
        · exact h1 w (List.mem_filter.mpr ⟨hw, by unfold vx_no; rw [decide_eq_true e1, decide_eq_true e2, decide_eq_true e3, decide_eq_true e4]; rfl⟩)
/-- where a static field lies, its class's statics cell in H -/
def vx_L (C n d : String) (A : Nat → Prop) (U : State) (H : Heap) : Prop := ∃ (c : ClassId) (k : Class) (i : Nat) (f : Field) (a : Nat) (cell : Cell), U.vm.findClass C = some c ∧ U.fieldFound? C n d = some (c, k, i, f) ∧ f.isStatic = true ∧ k.statics = some a ∧ H[a]? = some cell ∧ cell.vm.isStatics = true ∧ cell.cls = c ∧ f.slot < cell.slots.size ∧ k.staticTypes[f.slot]? = some f.type ∧ ¬ A a
theorem vx_L.moved {C n d : String} {A : Nat → Prop} {u U : State} {H : Heap} (hvm : u.vm.Alike U.vm) (h : vx_L C n d A u H) : vx_L C n d A U H := by
  obtain ⟨c, k, i, f, a, cell, h1, h2, h3, h4, h5, h6, h7, h8, h9, h10⟩ := h
  obtain ⟨k', hi', he⟩ := State.fieldFound?_setVm hvm h2
  exact ⟨c, k', i, f, a, cell, by rw [hvm.findClass]; exact h1, hi', h3, by rw [he]; exact h4, h5, h6, h7, h8, by rw [he]; exact h9, h10⟩
theorem vx_L.kept {C n d : String} {A : Nat → Prop} {U : State} {H H1 : Heap} (h : vx_L C n d A U H) (hq : ∀ a : Nat, a < H.size → ¬ A a → H1[a]? = H[a]?) : vx_L C n d A U H1 := by
  obtain ⟨c, k, i, f, a, cell, h1, h2, h3, h4, h5, h6, h7, h8, h9, h10⟩ := h
  exact ⟨c, k, i, f, a, cell, h1, h2, h3, h4, by rw [hq a (Array.getElem?_eq_some_iff.mp h5).1 h10]; exact h5, h6, h7, h8, h9, h10⟩
theorem vx_L.narrow {C n d : String} {A B : Nat → Prop} {U : State} {H : Heap} (h : vx_L C n d A U H) (hAB : ∀ q, B q → A q) : vx_L C n d B U H := by
  obtain ⟨c, k, i, f, a, cell, h1, h2, h3, h4, h5, h6, h7, h8, h9, h10⟩ := h
  exact ⟨c, k, i, f, a, cell, h1, h2, h3, h4, h5, h6, h7, h8, h9, fun z => h10 (hAB _ z)⟩
theorem vx_L.word {C n d : String} {A : Nat → Prop} {s : State} {args : Array Value} (h : vx_L C n d A s s.heap) : (Cond.laysStatic C n d).before args s = true := by
  obtain ⟨c, k, i, f, a, cell, h1, h2, h3, h4, h5, h6, h7, h8, h9, -⟩ := h
  show (Cond.laysStatic C n d).holds args s none s [] = true
  exact Cond.laysStatic_of h1 h2 h3 h4 h5 h6 h7 h8 h9
/-- .. and what it holds: null or some reference -/
def vx_Zq (C n d : String) (A : Nat → Prop) (U : State) (H : Heap) : Prop := va_Zq C n d A U H ∧ vx_L C n d A U H
theorem vx_Zq.moved {C n d : String} {A : Nat → Prop} {u U : State} {H : Heap} (hvm : u.vm.Alike U.vm) (h : vx_Zq C n d A u H) : vx_Zq C n d A U H := ⟨va_Zq.moved hvm h.1, vx_L.moved hvm h.2⟩
theorem vx_Zq.kept {C n d : String} {A : Nat → Prop} {U : State} {H H1 : Heap} (h : vx_Zq C n d A U H) (hq : ∀ a : Nat, a < H.size → ¬ A a → H1[a]? = H[a]?) : vx_Zq C n d A U H1 := ⟨va_Zq.kept h.1 hq, vx_L.kept h.2 hq⟩
theorem vx_Zq.narrow {C n d : String} {A B : Nat → Prop} {U : State} {H : Heap} (h : vx_Zq C n d A U H) (hAB : ∀ q, B q → A q) : vx_Zq C n d B U H := ⟨va_Zq.narrow h.1 hAB, vx_L.narrow h.2 hAB⟩
theorem vx_Zqof {args : Array Value} {s : State} {C n d : String} {A : Nat → Prop} (hl : (Cond.laysStatic C n d).before args s = true) (hini : (Cond.initialized C).before args s = true) (h : (Cond.isRef (.static C n d)).before args s = true) (hA : ∀ a : Nat, a < s.heap.size → ¬ A a) : vx_Zq C n d A s s.heap := by
  refine ⟨va_Zqof hl hini h hA, ?_⟩
  obtain ⟨c, k, i, f, a, cell, h1, h2, h3, h4, h5, h6, h7, h8, h9⟩ := Cond.laysStatic_spec hl
  exact ⟨c, k, i, f, a, cell, h1, h2, h3, h4, h5, h6, h7, h8, h9, hA a (Array.getElem?_eq_some_iff.mp h5).1⟩
theorem vx_isRef {C n d : String} {v : Value} {A : Nat → Prop} {s : State} {args : Array Value} (h : va_Z C n d v A s s.heap) (hv : v.isRef = true) : (Cond.isRef (.static C n d)).before args s = true := by
  obtain ⟨cf, kf, fi, f, a, cell, h1, h2, h3, h4, h5, h6, h7, -⟩ := h
  have he : (Term.static C n d).eval args s none [] s = some v := by
    simp [Term.eval, State.fieldNamed?, h1, h2, h4, h5, h6, h7]
  simp only [Cond.before, Cond.holds, Cond.value, he]
  cases v <;> simp_all [Value.isRef]
theorem vx_isRefq {C n d : String} {A : Nat → Prop} {s : State} {args : Array Value} (h : va_Zq C n d A s s.heap) : (Cond.isRef (.static C n d)).before args s = true := by
  rcases h with h | ⟨t, h⟩
  · exact vx_isRef h rfl
  · exact vx_isRef h rfl
/-- the same frame, seen from here: as if the method were called anew in this heap -/
theorem vx_rebase {T : State} (X : Stand p l e R s m args below meth c T locs cells slots) {R' : Room} (hf : R'.frames ≤ R.frames) (hl : R'.locals ≤ R.locals) (hc : cells + R'.cells ≤ R.cells) (hs : slots + R'.slots ≤ R.slots) :
    Stand p l e R' ((T.setVm s.vm).setFrames (.invoking m args :: below)) m args below meth c T [] 0 0 := by
  have htop : (T.setVm s.vm).topJava?.isSome := X.here.top
  have hF : ((T.setVm s.vm).setFrames (.invoking m args :: below)).frames = .invoking m args :: below := State.frames_setFrames _ (State.cur_lt_of_top htop)
  obtain ⟨g₀, hg0⟩ := Option.isSome_iff_exists.mp htop
  obtain ⟨r, hr⟩ := State.topJava?_eq_some.mp hg0
  have hl9 : e.platform.stackLimits (T.setVm s.vm).me = e.platform.stackLimits s.me := X.limits
  have hb9 : (T.setVm s.vm).me.stackBytes = s.me.stackBytes := X.bytes
  refine ⟨X.admits, X.cas, X.clock, hF, ?_, X.hears, X.method, X.code, X.here, X.tail, X.warmed, ?_, ?_, ?_⟩
  · have h := X.room
    have hU : ((T.setVm s.vm).setFrames (.invoking m args :: below)).localsInUse = s.localsInUse := by
      rw [State.localsInUse_invoking hF (meth := meth) (c := c) X.method X.code, State.localsInUse_invoking X.frames X.method X.code]
    simp only [State.hasRoom, Bool.and_eq_true, decide_eq_true_eq] at h ⊢
    obtain ⟨⟨⟨⟨h1, h2, h3, h4, h5, h6⟩, h7⟩, h8⟩, h9⟩ := h
    rw [X.frames, List.length_cons] at h2 h3
    have q1 := X.heapSize
    have q2 := X.used
    simp only [hF, hU, List.length_cons, State.stackLimits_setFrames, State.stackBytes_setFrames, hl9, hb9]
    refine ⟨⟨⟨⟨by omega, by omega, by omega, by omega, by omega, h6⟩, ?_⟩, ?_⟩, X.book⟩
    · show T.heap.size + R'.cells ≤ e.platform.maxCells
      omega
    · show T.slotsUsed + R'.slots ≤ e.platform.maxSlots
      omega
  · rw [State.stackLimits_setFrames]; rfl
  · rw [State.stackBytes_setFrames]; rfl
  · refine ⟨?_, Nat.le_refl _, Nat.le_refl _, ?_, ?_, fun a c9 h9 => ⟨c9, h9, rfl, rfl, fun _ _ => rfl⟩⟩
    · obtain ⟨t, ht, -⟩ := State.frames_cons hr
      show T.setVm s.vm = { ((T.setVm s.vm).setFrames (.invoking m args :: below)).setFrames (T.setVm s.vm).frames with heap := T.heap, slotsUsed := T.slotsUsed }
      rw [State.setFrames_setFrames, State.setFrames_self ht]
      rfl
    · show T.slotsUsed = T.slotsUsed + ((T.heap.toList.drop T.heap.size).map (·.slots.size)).sum
      rw [List.drop_eq_nil_of_le (Nat.le_of_eq Array.length_toList)]
      rfl
    · show ((T.heap.toList.drop T.heap.size).map (·.slots.size)).sum ≤ 0
      rw [List.drop_eq_nil_of_le (Nat.le_of_eq Array.length_toList)]
      exact Nat.le_refl _
/-- 'throw new E()': new; dup; invokespecial; athrow -/
theorem vx_throw0 {cc : ByteArray} {pc : Nat} (hexec : p.tables.exec = Jvm.exec) (hb : c.code = cc) (hl : l.stackTraces = false) {own cls : String} {names : List String} {ik ic mc ms : Nat} {A : Nat → Prop}
    (hown : s.vm.findClass own = some m.cls) (hcls : Bundle.fit cls = true) (hnames : ∀ n ∈ names, Bundle.fit n = true)
    (hk : (Cond.classLink own ik cls).before args s = true) (hini : (Cond.initialized cls).before args s = true) (hat : ∀ w ∈ vx_at0 own ic cls names, w.before args s = true)
    (hgood : ∀ w ∈ Cond.classLink own ik cls :: Cond.initialized cls :: vx_at0 own ic cls names, vx_ot w = true)
    (hU : vx_Zq Bundle.tN "UNASSIGNED_STACK" Bundle.steD A s s.heap) (hN : vx_Zq Bundle.tN "SUPPRESSED_SENTINEL" Bundle.listD A s s.heap) (hS : va_S A s.heap H locs) (hsize : ls.size = c.maxLocals)
    (d0 : decode cc pc = .ok (.new ik, 3)) (d3 : decode cc (pc + 3) = .ok (.dup, 1)) (d4 : decode cc (pc + 4) = .ok (.invokespecial ic, 3)) (d7 : decode cc (pc + 7) = .ok (.athrow, 1))
    (hout : ∀ x ∈ c.exceptionTable.toList, covers x (pc + 7) = false)
    (hRframes : names.length + 3 < R.frames) (hRlocals : (rest.map fun v => v.category).sum + (13 * (names.length + 1) + 42) ≤ R.locals) (hRcells : cells + 1 ≤ R.cells) (hRslots : slots + 6 ≤ R.slots) (hlocks : meth.locks = false)
    (hx : ∀ t : State, s.vm.Alike t.vm → H.size ≤ t.heap.size → (∀ q : Nat, q < H.size → t.heap[q]? = H[q]?) → XC cls s t)
    (hf : ∀ z ∈ locs, free z.base) (hc : cells + 1 ≤ mc) (hs : slots + 6 ≤ ms) :
    W p l e R s m args below meth c H locs cells slots (vx_MQ below Qc XC args s mc ms free) (F0 m pc ls rest) := by
  intro T hT X
  have htr : e.platform.stackTraces = false := (show e.platform.stackTraces = l.stackTraces by rw [X.admits.platform]).trans hl
  have Y := vx_rebase X (R' := { frames := R.frames, locals := R.locals, cells := 1, slots := 6 }) (Nat.le_refl _) (Nat.le_refl _) hRcells hRslots
  obtain ⟨s', hA⟩ : ∃ z, z = (T.setVm s.vm).setFrames (.invoking m args :: below) := ⟨_, rfl⟩
  rw [← hA] at Y
  have hvm : s'.vm = s.vm := by rw [hA]; rfl
  have hhp : s'.heap = H := by rw [hA]; exact hT
  have hW0 : s.WarmedH s'.vm := by rw [hvm]; exact State.WarmedH.refl s
  have hat' : ∀ w ∈ vx_at0 own ic cls names, w.before args s' = true := fun w hw => vx_ot_at hW0 hvm.symm (hgood w (List.mem_cons_of_mem _ (List.mem_cons_of_mem _ hw))) (hat w hw)
  have hk' : (Cond.classLink own ik cls).before args s' = true := vx_ot_at hW0 hvm.symm (hgood _ List.mem_cons_self) hk
  have hini' : (Cond.initialized cls).before args s' = true := vx_ot_at hW0 hvm.symm (hgood _ (List.mem_cons_of_mem _ List.mem_cons_self)) hini
  have hU' : vx_Zq Bundle.tN "UNASSIGNED_STACK" Bundle.steD A s' s'.heap := by rw [hhp]; exact vx_Zq.moved hW0.alike (hU.kept hS.2.1)
  have hN' : vx_Zq Bundle.tN "SUPPRESSED_SENTINEL" Bundle.listD A s' s'.heap := by rw [hhp]; exact vx_Zq.moved hW0.alike (hN.kept hS.2.1)
  have h : ∀ w ∈ Bundle.ownAtoms0 own ic cls names, w.before args s' = true := vx_own hat' (vx_isRefq hU'.1) (vx_isRefq hN'.1) hU'.2.word hN'.2.word
  have hown' : s'.vm.findClass own = some m.cls := by rw [hvm]; exact hown
  have hins : (Cond.instantiable cls 6).before args s' = true := h _ (by simp [Bundle.ownAtoms0])
  obtain ⟨vm₁, cX, kX, hfX, hkX, -, -, X₁, st1⟩ := Y.newCold hexec (own := own) (C := cls) (index := ik) (n := 6) hown' hk' hins hini'
    (g := F0 m pc ls rest) rfl (by rw [hb]; exact d0) (Nat.le_refl _) (Nat.le_refl _)
  generalize hT1 : (T.setVm vm₁).pushCell { cls := cX, slots := kX.instanceTypes.map defaultValue, vm := .none } = T1 at X₁ st1
  have hcat : (Value.ref T.heap.size).category = 1 := rfl
  have hcellA : T1.heap[T.heap.size]? = some (freshCell cX kX) := by rw [← hT1]; exact State.heap_pushCell_size _ _
  have d3' : decode c.code (pc + 3) = .ok (.dup, 1) := by rw [hb]; exact d3
  obtain ⟨U, hsteps, hrun, hend, hW, hsame, ce, hce, hO⟩ := X₁.ctorThrow0 hexec htr (own := own) (cls := cls) (names := names) (ic := ic) hown' hcls hnames h (fun x hx => nomatch hx) hfX hkX hcellA (by rw [hhp, hT]; exact Nat.le_refl _)
    (g := { method := m, pc := pc + 4, locals := ls, stack := .ref T.heap.size :: .ref T.heap.size :: rest, locked := none }) rfl hsize rfl rfl (rest := rest) rfl
    (by rw [hb]; exact d4) (by rw [hb]; exact d7) hout hRframes (by simp only [List.map_cons, List.sum_cons, hcat]; omega) hlocks
  obtain ⟨f1, f2⟩ := vx_frame hsame
  rw [hhp] at f1 f2
  have hWs : s.WarmedH U.vm := State.WarmedH.trans hW0 hW
  have hcl : s.vm.findClass cls = some ce.cls := by
    have h9 := hO.cls
    rw [hvm] at h9
    exact h9
  have hall : s.sameButNew ({ U with vm := s.vm } : State) locs mc ms := by
    subst hA
    obtain ⟨e1, e2⟩ := hsame
    rw [State.setFrames_setFrames] at e1
    have h2 : (T.setVm s.vm).sameButNew ({ U with vm := s.vm } : State) [] (0 + 1) (0 + 6) := ⟨e1, e2⟩
    have h3 := X.same.trans h2
    rw [List.append_nil] at h3
    exact h3.mono hc hs
  refine ⟨U, ?_, .threw T.heap.size, hrun, hend, Or.inr ⟨T.heap.size, rfl, cls, ce, locs, hx U hWs.alike f1 (fun q hq => f2 q hq (fun z hz => nomatch hz)), hce, hO.vm, hcl, hWs, hall, hf⟩⟩
  refine st1 _ ?_
  show Steps p.tables e below (T1.setTop { method := m, pc := pc + 3, locals := ls, stack := .ref T.heap.size :: rest, locked := none }) _
  jvm_step X₁.here [X₁.here.top, hexec, d3', Value.category]
  exact hsteps
/-- 'throw new E("text")': new; dup; ldc; invokespecial; athrow -/
theorem vx_throwS {cc : ByteArray} {pc : Nat} (hexec : p.tables.exec = Jvm.exec) (hb : c.code = cc) (hl : l.stackTraces = false) {own cls text : String} {names : List String} {ik is ic mc ms sa : Nat} {A : Nat → Prop}
    (hown : s.vm.findClass own = some m.cls) (hcls : Bundle.fit cls = true) (hnames : ∀ n ∈ names, Bundle.fit n = true)
    (hk : (Cond.classLink own ik cls).before args s = true) (hini : (Cond.initialized cls).before args s = true) (hstr : vk_R own is text sa s) (hat : ∀ w ∈ vx_atS own ic cls names, w.before args s = true)
    (hgood : ∀ w ∈ Cond.classLink own ik cls :: Cond.initialized cls :: vx_atS own ic cls names, vx_ot w = true)
    (hU : vx_Zq Bundle.tN "UNASSIGNED_STACK" Bundle.steD A s s.heap) (hN : vx_Zq Bundle.tN "SUPPRESSED_SENTINEL" Bundle.listD A s s.heap) (hS : va_S A s.heap H locs) (hsize : ls.size = c.maxLocals)
    (d0 : decode cc pc = .ok (.new ik, 3)) (d3 : decode cc (pc + 3) = .ok (.dup, 1)) (d4 : decode cc (pc + 4) = .ok (.ldc is, 2)) (d6 : decode cc (pc + 6) = .ok (.invokespecial ic, 3)) (d9 : decode cc (pc + 9) = .ok (.athrow, 1))
    (hout : ∀ x ∈ c.exceptionTable.toList, covers x (pc + 9) = false)
    (hRframes : names.length + 3 < R.frames) (hRlocals : (rest.map fun v => v.category).sum + (13 * (names.length + 1) + 43) ≤ R.locals) (hRcells : cells + 1 ≤ R.cells) (hRslots : slots + 6 ≤ R.slots) (hlocks : meth.locks = false)
    (hx : ∀ t : State, s.vm.Alike t.vm → H.size ≤ t.heap.size → (∀ q : Nat, q < H.size → t.heap[q]? = H[q]?) → XC cls s t)
    (hf : ∀ z ∈ locs, free z.base) (hc : cells + 1 ≤ mc) (hs : slots + 6 ≤ ms) :
    W p l e R s m args below meth c H locs cells slots (vx_MQ below Qc XC args s mc ms free) (F0 m pc ls rest) := by
  intro T hT X
  have htr : e.platform.stackTraces = false := (show e.platform.stackTraces = l.stackTraces by rw [X.admits.platform]).trans hl
  have Y := vx_rebase X (R' := { frames := R.frames, locals := R.locals, cells := 1, slots := 6 }) (Nat.le_refl _) (Nat.le_refl _) hRcells hRslots
  obtain ⟨s', hA⟩ : ∃ z, z = (T.setVm s.vm).setFrames (.invoking m args :: below) := ⟨_, rfl⟩
  rw [← hA] at Y
  have hvm : s'.vm = s.vm := by rw [hA]; rfl
  have hhp : s'.heap = H := by rw [hA]; exact hT
  have hW0 : s.WarmedH s'.vm := by rw [hvm]; exact State.WarmedH.refl s
  have hat' : ∀ w ∈ vx_atS own ic cls names, w.before args s' = true := fun w hw => vx_ot_at hW0 hvm.symm (hgood w (List.mem_cons_of_mem _ (List.mem_cons_of_mem _ hw))) (hat w hw)
  have hk' : (Cond.classLink own ik cls).before args s' = true := vx_ot_at hW0 hvm.symm (hgood _ List.mem_cons_self) hk
  have hini' : (Cond.initialized cls).before args s' = true := vx_ot_at hW0 hvm.symm (hgood _ (List.mem_cons_of_mem _ List.mem_cons_self)) hini
  have hU' : vx_Zq Bundle.tN "UNASSIGNED_STACK" Bundle.steD A s' s'.heap := by rw [hhp]; exact vx_Zq.moved hW0.alike (hU.kept hS.2.1)
  have hN' : vx_Zq Bundle.tN "SUPPRESSED_SENTINEL" Bundle.listD A s' s'.heap := by rw [hhp]; exact vx_Zq.moved hW0.alike (hN.kept hS.2.1)
  have h : ∀ w ∈ Bundle.ownAtoms own ic cls names, w.before args s' = true := vx_own hat' (vx_isRefq hU'.1) (vx_isRefq hN'.1) hU'.2.word hN'.2.word
  have hown' : s'.vm.findClass own = some m.cls := by rw [hvm]; exact hown
  have hins : (Cond.instantiable cls 6).before args s' = true := h _ (by simp [Bundle.ownAtoms])
  obtain ⟨vm₁, cX, kX, hfX, hkX, -, -, X₁, st1⟩ := Y.newCold hexec (own := own) (C := cls) (index := ik) (n := 6) hown' hk' hins hini'
    (g := F0 m pc ls rest) rfl (by rw [hb]; exact d0) (Nat.le_refl _) (Nat.le_refl _)
  generalize hT1 : (T.setVm vm₁).pushCell { cls := cX, slots := kX.instanceTypes.map defaultValue, vm := .none } = T1 at X₁ st1
  have hcat : (Value.ref T.heap.size).category = 1 := rfl
  have hcellA : T1.heap[T.heap.size]? = some (freshCell cX kX) := by rw [← hT1]; exact State.heap_pushCell_size _ _
  have d3' : decode c.code (pc + 3) = .ok (.dup, 1) := by rw [hb]; exact d3
  have d4' : decode c.code (pc + 4) = .ok (.ldc is, 2) := by rw [hb]; exact d4
  have hstr' : vk_R own is text sa s' := vk_R.warm hW0 hstr
  obtain ⟨U, hsteps, hrun, hend, hW, hsame, ce, hce, hO⟩ := X₁.ctorThrowS hexec htr (own := own) (cls := cls) (names := names) (ic := ic) hown' hcls hnames h (fun x hx => nomatch hx) hfX hkX hcellA (by rw [hhp, hT]; exact Nat.le_refl _) (msg := .ref sa) rfl
    (g := { method := m, pc := pc + 6, locals := ls, stack := .ref sa :: .ref T.heap.size :: .ref T.heap.size :: rest, locked := none }) rfl hsize rfl rfl (rest := rest) rfl
    (by rw [hb]; exact d6) (by rw [hb]; exact d9) hout hRframes (by simp only [List.map_cons, List.sum_cons, hcat]; omega) hlocks
  obtain ⟨f1, f2⟩ := vx_frame hsame
  rw [hhp] at f1 f2
  have hWs : s.WarmedH U.vm := State.WarmedH.trans hW0 hW
  have hcl : s.vm.findClass cls = some ce.cls := by
    have h9 := hO.cls
    rw [hvm] at h9
    exact h9
  have hall : s.sameButNew ({ U with vm := s.vm } : State) locs mc ms := by
    subst hA
    obtain ⟨e1, e2⟩ := hsame
    rw [State.setFrames_setFrames] at e1
    have h2 : (T.setVm s.vm).sameButNew ({ U with vm := s.vm } : State) [] (0 + 1) (0 + 6) := ⟨e1, e2⟩
    have h3 := X.same.trans h2
    rw [List.append_nil] at h3
    exact h3.mono hc hs
  refine ⟨U, ?_, .threw T.heap.size, hrun, hend, Or.inr ⟨T.heap.size, rfl, cls, ce, locs, hx U hWs.alike f1 (fun q hq => f2 q hq (fun z hz => nomatch hz)), hce, hO.vm, hcl, hWs, hall, hf⟩⟩
  refine st1 _ ?_
  show Steps p.tables e below (T1.setTop { method := m, pc := pc + 3, locals := ls, stack := .ref T.heap.size :: rest, locked := none }) _
  jvm_step X₁.here [X₁.here.top, hexec, d3', Value.category]
  exact X₁.ldcString hexec (own := own) (text := text) (index := is) (a := sa) hown' hstr'.1 hstr'.2
    (g := { method := m, pc := pc + 4, locals := ls, stack := .ref T.heap.size :: .ref T.heap.size :: rest, locked := none }) rfl d4' _ hsteps
/-- 'throw new E("text")', the text by a wide index -/
theorem vx_throwSW {cc : ByteArray} {pc : Nat} (hexec : p.tables.exec = Jvm.exec) (hb : c.code = cc) (hl : l.stackTraces = false) {own cls text : String} {names : List String} {ik is ic mc ms sa : Nat} {A : Nat → Prop}
    (hown : s.vm.findClass own = some m.cls) (hcls : Bundle.fit cls = true) (hnames : ∀ n ∈ names, Bundle.fit n = true)
    (hk : (Cond.classLink own ik cls).before args s = true) (hini : (Cond.initialized cls).before args s = true) (hstr : vk_R own is text sa s) (hat : ∀ w ∈ vx_atS own ic cls names, w.before args s = true)
    (hgood : ∀ w ∈ Cond.classLink own ik cls :: Cond.initialized cls :: vx_atS own ic cls names, vx_ot w = true)
    (hU : vx_Zq Bundle.tN "UNASSIGNED_STACK" Bundle.steD A s s.heap) (hN : vx_Zq Bundle.tN "SUPPRESSED_SENTINEL" Bundle.listD A s s.heap) (hS : va_S A s.heap H locs) (hsize : ls.size = c.maxLocals)
    (d0 : decode cc pc = .ok (.new ik, 3)) (d3 : decode cc (pc + 3) = .ok (.dup, 1)) (d4 : decode cc (pc + 4) = .ok (.ldc_w is, 3)) (d7 : decode cc (pc + 7) = .ok (.invokespecial ic, 3)) (d10 : decode cc (pc + 10) = .ok (.athrow, 1))
    (hout : ∀ x ∈ c.exceptionTable.toList, covers x (pc + 10) = false)
    (hRframes : names.length + 3 < R.frames) (hRlocals : (rest.map fun v => v.category).sum + (13 * (names.length + 1) + 43) ≤ R.locals) (hRcells : cells + 1 ≤ R.cells) (hRslots : slots + 6 ≤ R.slots) (hlocks : meth.locks = false)
    (hx : ∀ t : State, s.vm.Alike t.vm → H.size ≤ t.heap.size → (∀ q : Nat, q < H.size → t.heap[q]? = H[q]?) → XC cls s t)
    (hf : ∀ z ∈ locs, free z.base) (hc : cells + 1 ≤ mc) (hs : slots + 6 ≤ ms) :
    W p l e R s m args below meth c H locs cells slots (vx_MQ below Qc XC args s mc ms free) (F0 m pc ls rest) := by
  intro T hT X
  have htr : e.platform.stackTraces = false := (show e.platform.stackTraces = l.stackTraces by rw [X.admits.platform]).trans hl
  have Y := vx_rebase X (R' := { frames := R.frames, locals := R.locals, cells := 1, slots := 6 }) (Nat.le_refl _) (Nat.le_refl _) hRcells hRslots
  obtain ⟨s', hA⟩ : ∃ z, z = (T.setVm s.vm).setFrames (.invoking m args :: below) := ⟨_, rfl⟩
  rw [← hA] at Y
  have hvm : s'.vm = s.vm := by rw [hA]; rfl
  have hhp : s'.heap = H := by rw [hA]; exact hT
  have hW0 : s.WarmedH s'.vm := by rw [hvm]; exact State.WarmedH.refl s
  have hat' : ∀ w ∈ vx_atS own ic cls names, w.before args s' = true := fun w hw => vx_ot_at hW0 hvm.symm (hgood w (List.mem_cons_of_mem _ (List.mem_cons_of_mem _ hw))) (hat w hw)
  have hk' : (Cond.classLink own ik cls).before args s' = true := vx_ot_at hW0 hvm.symm (hgood _ List.mem_cons_self) hk
  have hini' : (Cond.initialized cls).before args s' = true := vx_ot_at hW0 hvm.symm (hgood _ (List.mem_cons_of_mem _ List.mem_cons_self)) hini
  have hU' : vx_Zq Bundle.tN "UNASSIGNED_STACK" Bundle.steD A s' s'.heap := by rw [hhp]; exact vx_Zq.moved hW0.alike (hU.kept hS.2.1)
  have hN' : vx_Zq Bundle.tN "SUPPRESSED_SENTINEL" Bundle.listD A s' s'.heap := by rw [hhp]; exact vx_Zq.moved hW0.alike (hN.kept hS.2.1)
  have h : ∀ w ∈ Bundle.ownAtoms own ic cls names, w.before args s' = true := vx_own hat' (vx_isRefq hU'.1) (vx_isRefq hN'.1) hU'.2.word hN'.2.word
  have hown' : s'.vm.findClass own = some m.cls := by rw [hvm]; exact hown
  have hins : (Cond.instantiable cls 6).before args s' = true := h _ (by simp [Bundle.ownAtoms])
  obtain ⟨vm₁, cX, kX, hfX, hkX, -, -, X₁, st1⟩ := Y.newCold hexec (own := own) (C := cls) (index := ik) (n := 6) hown' hk' hins hini'
    (g := F0 m pc ls rest) rfl (by rw [hb]; exact d0) (Nat.le_refl _) (Nat.le_refl _)
  generalize hT1 : (T.setVm vm₁).pushCell { cls := cX, slots := kX.instanceTypes.map defaultValue, vm := .none } = T1 at X₁ st1
  have hcat : (Value.ref T.heap.size).category = 1 := rfl
  have hcellA : T1.heap[T.heap.size]? = some (freshCell cX kX) := by rw [← hT1]; exact State.heap_pushCell_size _ _
  have d3' : decode c.code (pc + 3) = .ok (.dup, 1) := by rw [hb]; exact d3
  have d4' : decode c.code (pc + 4) = .ok (.ldc_w is, 3) := by rw [hb]; exact d4
  have hstr' : vk_R own is text sa s' := vk_R.warm hW0 hstr
  obtain ⟨U, hsteps, hrun, hend, hW, hsame, ce, hce, hO⟩ := X₁.ctorThrowS hexec htr (own := own) (cls := cls) (names := names) (ic := ic) hown' hcls hnames h (fun x hx => nomatch hx) hfX hkX hcellA (by rw [hhp, hT]; exact Nat.le_refl _) (msg := .ref sa) rfl
    (g := { method := m, pc := pc + 7, locals := ls, stack := .ref sa :: .ref T.heap.size :: .ref T.heap.size :: rest, locked := none }) rfl hsize rfl rfl (rest := rest) rfl
    (by rw [hb]; exact d7) (by rw [hb]; exact d10) hout hRframes (by simp only [List.map_cons, List.sum_cons, hcat]; omega) hlocks
  obtain ⟨f1, f2⟩ := vx_frame hsame
  rw [hhp] at f1 f2
  have hWs : s.WarmedH U.vm := State.WarmedH.trans hW0 hW
  have hcl : s.vm.findClass cls = some ce.cls := by
    have h9 := hO.cls
    rw [hvm] at h9
    exact h9
  have hall : s.sameButNew ({ U with vm := s.vm } : State) locs mc ms := by
    subst hA
    obtain ⟨e1, e2⟩ := hsame
    rw [State.setFrames_setFrames] at e1
    have h2 : (T.setVm s.vm).sameButNew ({ U with vm := s.vm } : State) [] (0 + 1) (0 + 6) := ⟨e1, e2⟩
    have h3 := X.same.trans h2
    rw [List.append_nil] at h3
    exact h3.mono hc hs
  refine ⟨U, ?_, .threw T.heap.size, hrun, hend, Or.inr ⟨T.heap.size, rfl, cls, ce, locs, hx U hWs.alike f1 (fun q hq => f2 q hq (fun z hz => nomatch hz)), hce, hO.vm, hcl, hWs, hall, hf⟩⟩
  refine st1 _ ?_
  show Steps p.tables e below (T1.setTop { method := m, pc := pc + 3, locals := ls, stack := .ref T.heap.size :: rest, locked := none }) _
  jvm_step X₁.here [X₁.here.top, hexec, d3', Value.category]
  exact X₁.ldcStringW hexec (own := own) (text := text) (index := is) (a := sa) hown' hstr'.1 hstr'.2
    (g := { method := m, pc := pc + 4, locals := ls, stack := .ref T.heap.size :: .ref T.heap.size :: rest, locked := none }) rfl d4' _ hsteps
end Ends
section Bodies
variable {l : Launch}
theorem vx_ofW {y : MethodName} {ws ws' : List Cond} {rm : Room} {Pc : Array Value → State → Prop} {Qc : Array Value → State → Outcome → State → Prop} {XC : String → State → State → Prop} {mc ms : Nat} {free : Addr → Prop} {cc : ByteArray} {maxL : Nat} {ret : Option FieldType}
    (hy : plainName y.cls = true) (hw : ws = Cond.code y cc maxL ret :: ws')
    (body : ∀ p e s m args below meth c s₁, BodyLoose p l y (headSpec ws rm) cc maxL ret e s m args below meth c s₁ → c.maxLocals = maxL → (∀ x ∈ c.exceptionTable.toList, False) → Pc args s →
      W p l e (headSpec ws rm).room s m args below meth c s.heap [] 0 0 (vx_MQ below Qc XC args s mc ms free) (entryFrame m args maxL)) : vx_Met l y ws rm Pc Qc XC mc ms free := by
  refine MetFree.of_bodyS (code := cc) (maxLocals := maxL) (ret := ret) hy ?_ ?_
  · intro args s m h hn
    obtain ⟨meth, c, h1, h2, h3, h4, h5, h6, -, -⟩ := Cond.code_spec hn (atoms_spec (ws := ws) h _ (by rw [hw]; exact List.mem_cons_self))
    exact ⟨meth, c, h1, h2, h3, h4, h5, h6⟩
  · intro p e s m args below meth c s₁ B hml hP _
    have hh0 : s₁.heap = s.heap := by rw [B.state]; rfl
    have ht : ∀ x ∈ c.exceptionTable.toList, False := by
      obtain ⟨meth9, c9, h1, h2, -, -, -, -, h7, -⟩ := Cond.code_spec B.named (atoms_spec (ws := ws) B.pre _ (by rw [hw]; exact List.mem_cons_self))
      cases Option.some.inj (h1.symm.trans B.method)
      cases Option.some.inj (h2.symm.trans (Stand.of_body B).code)
      intro x hx
      rw [Array.isEmpty_iff.mp h7] at hx
      cases hx
    obtain ⟨t, a1, o, b1, b2, b3⟩ := body p e s m args below meth c s₁ B hml ht hP s₁ hh0 (Stand.of_body B)
    exact ⟨t, o, a1, b1, b2, b3⟩
/-- the table of a body with handlers -/
theorem vx_table {p : Program} {x y : MethodName} {S : Spec} {cc bytes : ByteArray} {maxL maxL' : Nat} {ret ret' : Option FieldType} {e : Env} {s s₁ : State} {m : MethodId} {args : Array Value} {below : List Frame} {meth : Method} {c : Code} {hh : List (Nat × Nat × Nat × Nat)}
    (B : BodyLoose p l y S cc maxL ret e s m args below meth c s₁) (h : (Cond.codeWith y bytes maxL' ret' hh).before args s = true) : c.exceptionTable.toList = tableOf hh := by
  obtain ⟨m9, meth9, c9, hn9, h1, h2, -, -, h6, -⟩ := Cond.codeWith_spec h
  cases Option.some.inj (hn9.symm.trans B.named)
  cases Option.some.inj (h1.symm.trans B.method)
  cases Option.some.inj (h2.symm.trans (Stand.of_body B).code)
  rw [← h6, table_eq]
end Bodies
end VXA
/-! ===== END ===== -/
/-! ===== BEGIN a static call of a method with an exception table ===== -/
section VXS
variable {p : Program} {l : Launch} {e : Env} {R : Room} {s : State} {m : MethodId} {args : Array Value} {below : List Frame} {meth : Method} {c : Code} {T : State} {H : Heap} {locs : List Loc} {cells slots : Nat}
abbrev vx_CSW (R : Room) (s : State) (args : Array Value) (own : String) (index : Nat) (y : MethodName) (bytes : ByteArray) (maxL : Nat) (ret : Option FieldType) (hh : List (Nat × Nat × Nat × Nat)) (ws : List Cond) (rm : Room) (mc ms n : Nat) : Prop :=
  (rm.cells = mc ∧ rm.slots = ms ∧ rm.frames + 1 ≤ R.frames ∧ 8 + (maxL + 11) + rm.locals ≤ R.locals ∧ (∀ w ∈ ws, ∀ (a' : Array Value) (U : State), s.WarmedH U.vm → w.before a' U = true) ∧ Cond.codeWith y bytes maxL ret hh ∈ ws) ∧
  (Cond.codeWith y bytes maxL ret hh).before args s = true ∧ (Cond.initialized y.cls).before args s = true ∧ (y.cls ≠ "java/lang/invoke/MethodHandle" ∧ y.cls ≠ "java/lang/invoke/VarHandle") ∧
  (∀ sig, parseMethodDescriptor y.desc = some sig → n = sig.parameters.length) ∧ (Cond.methodLink own index y).before args s = true ∧ (Cond.static y).before args s = true
theorem vx_cwSW {own : String} {index maxL mc ms : Nat} {y : MethodName} {bytes : ByteArray} {ret : Option FieldType} {hh : List (Nat × Nat × Nat × Nat)} {Ts ws ws' : List Cond} {rm : Room} (n : Nat) (ht : ∀ w ∈ Ts, w.before args s = true) (hT : GoodIn Ts (va_wsS own index y ws)) (hw : ws = Cond.codeWith y bytes maxL ret hh :: ws') (hrc : rm.cells = mc) (hrs : rm.slots = ms)
    (hd : y.cls ≠ "java/lang/invoke/MethodHandle" ∧ y.cls ≠ "java/lang/invoke/VarHandle" ∧ (parseMethodDescriptor y.desc).map (fun d => d.parameters.length) = some n) (hR : rm.frames + 1 ≤ R.frames ∧ 8 + (maxL + 11) + rm.locals ≤ R.locals) :
    vx_CSW R s args own index y bytes maxL ret hh ws rm mc ms n := by
  have ok : ∀ w ∈ va_wsS own index y ws, w.before args s = true := fun w h => ht w (hT w h).1
  have hG : GoodIn Ts ws := fun w h => hT w (by unfold va_wsS; exact List.mem_append_right _ h)
  have hc : Cond.codeWith y bytes maxL ret hh ∈ ws := by rw [hw]; exact List.mem_cons_self
  refine ⟨⟨hrc, hrs, hR.1, hR.2, pay_in ht hG, hc⟩, ht _ (hG _ hc).1, ok _ (by simp [va_wsS]), ⟨hd.1, hd.2.1⟩, fun sig h => ?_, ok _ (by simp [va_wsS]), ok _ (by simp [va_wsS])⟩
  have h2 := hd.2.2
  rw [h] at h2
  exact (Option.some.inj h2).symm
theorem vx_callSW (X : Stand p l e R s m args below meth c T locs cells slots) (hexec : p.tables.exec = Jvm.exec) {own : String} {index : Nat} {y : MethodName} {bytes : ByteArray} {maxL : Nat} {ret : Option FieldType} {hh : List (Nat × Nat × Nat × Nat)}
    (hown : s.vm.findClass own = some m.cls) (hlink : (Cond.methodLink own index y).before args s = true) (hstat : (Cond.static y).before args s = true) (hinit : (Cond.initialized y.cls).before args s = true)
    (hcode : (Cond.codeWith y bytes maxL ret hh).before args s = true) (hy : y.cls ≠ "java/lang/invoke/MethodHandle" ∧ y.cls ≠ "java/lang/invoke/VarHandle")
    {W9 : Nat} {Pre : Pt → Array Value → Prop} {Post : Pt → Array Value → Option Value → Pt → Prop} (hK : Back l R p e below s args y 3 W9 Pre Post)
    {g : JFrame} (hg : g.method = m) (hsize : g.locals.size = c.maxLocals) {argsL rest : List Value} (hlen : ∀ sig, parseMethodDescriptor y.desc = some sig → argsL.length = sig.parameters.length)
    (hstack : g.stack = argsL.reverse ++ rest) (hW : 2 * g.monitorRoom + (rest.map fun v => v.category).sum ≤ W9) (hdg : decode c.code g.pc = .ok (.invokestatic index, 3))
    (hpre : ∀ vm₁, s.WarmedH vm₁ → Pre ⟨T.setVm vm₁, locs, cells, slots⟩ argsL.toArray) :
    ∃ (v : Option Value) (vm₁ : Vm) (B : Pt), s.WarmedH vm₁ ∧ Stand p l e R s m args below meth c B.U B.locs B.cells B.slots ∧ Post ⟨T.setVm vm₁, locs, cells, slots⟩ argsL.toArray v B ∧
      ∀ target, Steps p.tables e below (B.U.setTop { g with pc := g.pc + 3, stack := v.toList ++ rest }) target → Steps p.tables e below (T.setTop g) target := by
  obtain ⟨mk, methM, cM, hnamed, hmethM, -, -, -, -, -, -, hsigM⟩ := Cond.codeWith_spec hcode
  have hstatic : methM.isStatic = true := Cond.static_spec hnamed hmethM hstat
  obtain ⟨kP, hkP, -⟩ := className_of_methodNamed hnamed
  have hinitP : kP.init = .initialized := Cond.initialized_spec (findClass_of_methodNamed hnamed) hkP hinit
  obtain ⟨vm₁, X₁, hstep₁⟩ := X.invokestatic hexec hown hlink hnamed hmethM hstatic hkP hinitP hy (g := g) hg (argsL := argsL) (rest := rest) (hlen _ hsigM) hstack hdg
  obtain ⟨v, B, X', hpost, hsteps⟩ := hK m meth c ⟨T.setVm vm₁, locs, cells, slots⟩ { g with stack := rest } (.invokestatic index) mk argsL.toArray X₁ hg hsize hdg hW (X₁.named hnamed) (hpre vm₁ X₁.warmed)
  exact ⟨v, vm₁, B, X₁.warmed, X', hpost, fun target h => hstep₁ _ fun acts => by rw [doInvoke_state]; exact hsteps.trans h⟩
theorem vx_runSW {y : MethodName} {bytes cc : ByteArray} {maxL nL mc ms n index : Nat} {ret : Option FieldType} {hh : List (Nat × Nat × Nat × Nat)} {ws : List Cond} {rm : Room} {Pc : Array Value → State → Prop} {Qc : Array Value → State → Outcome → State → Prop} {free : Addr → Prop} {Ts : List Cond} {own : String} {As rest : List Value} {g : JFrame}
    (S : CallFix p m c cc nL s args Ts own) (hM : Met l y ws rm Pc Qc mc ms free) (cw : vx_CSW R s args own index y bytes maxL ret hh ws rm mc ms n) (hp : PreS s H Pc As)
    (hg : g.method = m) (hn : As.length = n) (hsize : g.locals.size = nL) (hstack : g.stack = As.reverse ++ rest) (hW : 2 * g.monitorRoom + (rest.map fun v => v.category).sum ≤ 8) (hdg : decode cc g.pc = .ok (.invokestatic index, 3)) (hf : cells + mc ≤ R.cells ∧ slots + ms ≤ R.slots) :
    va_Run p l e R s m args below meth c H locs cells slots mc ms g rest (Qc As.toArray) (free) := by
  obtain ⟨⟨hrc, hrs, hfr, hlo, hws, hcw⟩, hcode, hini, hy, hlen, hl, hstt⟩ := cw
  have hK : Back l R p e below s args y 3 8 (PreOf R mc ms Pc) (PostOf Qc mc ms free) := va_backW (hh := hh) (bytes := bytes) (maxL := maxL) (ret := ret) hM hp.1 hrc hrs hfr hlo hws hcw (fun a' U hW => word_at hW (Or.inl (by first | rfl | simp [Cond.onTables, Cond.keeps, Cond.steady])) hini)
  obtain ⟨hx, hb, hml, ho, -⟩ := S
  intro T hT X
  obtain ⟨v, vm₁, ⟨U', l2, c2, s2⟩, hW₁, X', ⟨g', mk, t, L, e1, e2, hq, h1, hL, h2, h3⟩, st⟩ := vx_callSW X hx (hh := hh) (bytes := bytes) (maxL := maxL) (ret := ret) ho hl hstt hini hcode hy hK hg (hsize.trans hml.symm) (argsL := As) (rest := rest) (fun sig h => hn.trans (hlen sig h)) hstack hW (by rw [hb]; exact hdg)
    (fun vm₁ hW₁ => ⟨hf.1, hf.2, hp.2 (T.setVm vm₁) hT hW₁⟩)
  dsimp only [Pt.U, Pt.locs, Pt.cells, Pt.slots] at X' e1 e2 h1 h2 h3 st
  subst h1; subst h2; subst h3
  exact ⟨v, (T.setVm vm₁).calling g' mk As.toArray, t, U', L, hT, X', hL, e1, e2, hq, st⟩
/-- not caught here, past rows that name other classes: it goes on to the caller -/
theorem vx_outP {p : Program} {l : Launch} {e : Env} {R : Room} {s : State} {m : MethodId} {args : Array Value} {below : List Frame} {meth : Method} {c : Code} {H : Heap} {locs : List Loc} {cells slots : Nat} {free : Addr → Prop} {ls : Array Slot} {rest : List Value} {Qc : Array Value → State → Outcome → State → Prop} {XC : String → State → State → Prop}
    {pc : Nat} {own E : String} {ce : Cell} {q : Addr} {mc ms : Nat} (hown : s.vm.findClass own = some m.cls) (hlocks : meth.locks = false)
    (hpass : ∀ z ∈ c.exceptionTable.toList, covers z pc = false ∨ (z.catchType ≠ 0 ∧ ∃ nm : String, (Cond.classLink own z.catchType nm).before args s = true ∧ va_Nc E nm s)) (hcell : H[q]? = some ce) (hv : ce.vm = .none) (hcl : s.vm.findClass E = some ce.cls)
    (hx : ∀ t : State, t.heap = H → s.vm.Alike t.vm → XC E s t) (hf : ∀ z ∈ locs, free z.base) (hc : cells ≤ mc) (hs : slots ≤ ms) :
    vx_W p l e R s m args below meth c H locs cells slots (vx_MQ below Qc XC args s mc ms free) (F0 m pc ls rest) q := by
  intro T hT X
  have hpl : e.platform.magicAccessors = ({} : Platform).magicAccessors := by rw [X.admits.platform]
  obtain ⟨vm', hW', X', st⟩ := X.outThrough hlocks q (g := F0 m pc ls rest) rfl rfl rfl (cell := ce) (by rw [hT]; exact hcell) (by rw [hv]; rfl)
    (by obtain ⟨k9, h9, -⟩ := Vm.findClass_spec hcl; exact ⟨k9, h9⟩) (fun z hz => by
      rcases hpass z hz with h | ⟨hz0, nm, hl1, hn1⟩
      · exact Or.inl h
      · obtain ⟨c6, hc6, hcl6⟩ := Cond.classLink_spec hown hl1 e.platform hpl
        obtain ⟨a8, b8, h1, h2, h3⟩ := hn1
        cases Option.some.inj (h1.symm.trans hcl)
        cases Option.some.inj (h2.symm.trans hc6)
        exact Or.inr ⟨hz0, _, hcl6, h3⟩)
  obtain ⟨g₀, hfr⟩ := X'.frames_eq
  have hcell9 : ((T.setVm vm').setFrames (.throwing q :: below)).heap[q]? = some ce := by
    show T.heap[q]? = some ce
    rw [hT]; exact hcell
  have hend : Ended ((T.setVm vm').setFrames (.throwing q :: below)) below (.threw q) := State.frames_setFrames _ (State.cur_lt_of_frames hfr)
  refine ⟨(T.setVm vm').setFrames (.throwing q :: below), ?_, .threw q, X'.here.running, hend, Or.inr ⟨q, rfl, E, ce, locs, hx _ hT (X'.ends _).1.alike, hcell9, hv, hcl, (X'.ends _).1, (X'.ends _).2.mono hc hs, hf⟩⟩
  rw [X.pushThrowing_eq]
  exact st
/-- a thing of a world lies in the heap -/
theorem vx_lt {D : va_G} {cl : List vw_C} {ws : va_W} {H1 : Heap} (h : va_P D cl ws H1) {k : Nat} {q : Nat × va_E} (hk : ws[k]? = some q) : q.1 < H1.size := (h k q hk).lt
end VXS
/-! ===== END ===== -/
/-! ===== BEGIN methods with a table of their own: called by a name, returning or throwing ===== -/
section VXH
/-! vx_backW, vx_callVX, vx_callSX, vx_callVW, vx_runVW, vx_runVX, vx_runSX, vx_ofWH follow the same proofs as their sisters above (Free/Laws.lean, Shelf42/LK1.lean); vx_outP calls Shelf42/NT130.lean (outThrough). -/
section
variable {l : Launch} {R : Room} {p : Program} {e : Env} {below : List Frame} {s : State} {sargs : Array Value} {y : MethodName} {len W9 : Nat}
theorem vx_backW {ws : List Cond} {rm : Room} {Pc : Array Value → State → Prop} {Qc : Array Value → State → Outcome → State → Prop} {XC : String → State → State → Prop} {mc ms : Nat} {free : Addr → Prop} {bytes : ByteArray} {maxL : Nat} {ret : Option FieldType} {hh : List (Nat × Nat × Nat × Nat)}
    (hM : vx_Met l y ws rm Pc Qc XC mc ms free) (hblind : FrameBlind Pc) (hrc : rm.cells = mc) (hrs : rm.slots = ms)
    (hframes : rm.frames + 1 ≤ R.frames) (hlocals : W9 + (maxL + 11) + rm.locals ≤ R.locals)
    (hws : ∀ w ∈ ws, ∀ a' U, s.WarmedH U.vm → w.before a' U = true) (hcode : Cond.codeWith y bytes maxL ret hh ∈ ws) (hinit : ∀ a' U, s.WarmedH U.vm → (Cond.initialized y.cls).before a' U = true) :
    vx_Back l R p e below s sargs y len W9 (PreOf R mc ms Pc) (PostOf Qc mc ms free) (vx_Post XC mc ms free) := by
  intro m meth c A g ig mk a X hg hsize hdg hW hn hp
  have h1 : (headSpec ws rm).pre.before a A.U = true := atoms_intro fun w hw => hws w hw _ _ X.warmed
  have h2 : (Cond.codeWith y bytes maxL ret hh).before a A.U = true := hws _ hcode _ _ X.warmed
  have h3 : (Cond.initialized y.cls).before a A.U = true := hinit _ _ X.warmed
  have h4 : A.cells + (headSpec ws rm).room.cells ≤ R.cells := by rw [show (headSpec ws rm).room.cells = mc from hrc]; exact hp.1
  have h5 : A.slots + (headSpec ws rm).room.slots ≤ R.slots := by rw [show (headSpec ws rm).room.slots = ms from hrs]; exact hp.2.1
  have hPc : Pc a (A.U.calling g mk a) := hblind _ _ _ _ hp.2.2
  obtain ⟨U, Ls, c0, s0⟩ := A
  dsimp only [Pt.U, Pt.locs, Pt.cells, Pt.slots] at h1 h2 h3 h4 h5 X hn hPc ⊢
  obtain ⟨m9, methY, cY, hn9, hmY, hcY, -, hlY, -⟩ := Cond.codeWith_spec h2
  cases Option.some.inj (hn9.symm.trans hn)
  obtain ⟨kY, hkY, -⟩ := className_of_methodNamed hn
  have hinitY : kY.init = .initialized := Cond.initialized_spec (findClass_of_methodNamed hn) hkY h3
  have h : At U g.method c below := by rw [hg]; exact X.here
  have hlocals9 : W9 + (maxL + 11) + (headSpec ws rm).room.locals ≤ R.locals := hlocals
  have happ : (headSpec ws rm).appliesLoose y e.platform (U.calling g mk a) = true :=
    Spec.appliesLoose_calling (g := g) h hdg hn hkY hinitY
      (X.room_calling (g := g) (R' := (headSpec ws rm).room) hsize hmY hcY hframes (by rw [hlY]; omega) h4 h5) h1
  obtain ⟨mid, hmid⟩ := h.above
  have hfr : (U.setTop g).frames = (.java g :: mid) ++ below := by rw [State.frames_setTop' g h.top, hmid]; rfl
  obtain ⟨o, s₂, hsteps, -, hend, hq⟩ := Steps.callFree hM p X.admits X.cas X.clock (acts := []) hfr happ hPc trivial
  have hq' : vx_Q Qc XC mc ms free a (U.calling g mk a) o s₂ := hq
  rw [State.frames_setTop' g h.top] at hend
  obtain ⟨g₀, hg0⟩ := Option.isSome_iff_exists.mp h.top
  obtain ⟨r, hr⟩ := State.topJava?_eq_some.mp hg0
  have hr' : (({ U with heap := s₂.heap, slotsUsed := s₂.slotsUsed } : State).setVm s₂.vm).frames = .java g₀ :: r := hr
  rcases hq' with ⟨hqc, L, hfe, hL⟩ | ⟨q, rfl, E, ce, L, hx, hce, hcv, hcl, hW₂, hsm, hL⟩
  · obtain ⟨⟨v, rfl⟩, hW₂, e2, q2, q3, q4, q5, q6⟩ := id hfe
    have e3 : s₂ = ({ (U.calling g mk a).setFrames s₂.frames with heap := s₂.heap, slotsUsed := s₂.slotsUsed } : State).setVm s₂.vm := by
      have : s₂ = ({ s₂ with vm := (U.calling g mk a).vm } : State).setVm s₂.vm := rfl
      rw [e2] at this
      exact this
    obtain ⟨c₂, i₂, len₂, hc₂, hd₂, hf₂⟩ := hend
    have hW' : U.WarmedH s₂.vm := hW₂
    have hcc : c₂ = c := by
      have h1 : s₂.code? g.method = U.code? g.method := by
        rw [State.code?_eq, State.code?_eq, hW'.alike.method?]
      exact Option.some.inj (hc₂.symm.trans (h1.trans h.code))
    subst hcc
    have hlen : len₂ = len := by rw [hdg] at hd₂; cases hd₂; rfl
    subst hlen
    have hs₂ : s₂ = (({ U with heap := s₂.heap, slotsUsed := s₂.slotsUsed } : State).setVm s₂.vm).setTop { g with pc := g.pc + len₂, stack := v.toList ++ g.stack } := by
      refine e3.trans ?_
      rw [hf₂, State.calling_eq h.top, State.setFrames_setFrames, State.setTop_of_frames _ hr', hr]
      rfl
    have hsame : U.sameButNew ({ U with heap := s₂.heap, slotsUsed := s₂.slotsUsed } : State) L mc ms := by
      refine ⟨?_, q2, q3, q4, q5, q6⟩
      obtain ⟨t, ht, -⟩ := State.frames_cons hr
      show ({ U with heap := s₂.heap, slotsUsed := s₂.slotsUsed } : State) = { U.setFrames U.frames with heap := s₂.heap, slotsUsed := s₂.slotsUsed }
      rw [State.setFrames_self ht]
    subst hg
    refine Or.inl ⟨v, ⟨(({ U with heap := s₂.heap, slotsUsed := s₂.slotsUsed } : State).setVm s₂.vm), Ls ++ L, c0 + mc, s0 + ms⟩,
      ⟨X.admits, X.cas, X.clock, X.frames, X.room, X.hears, X.method, X.code, (X.here.setHeapUsed s₂.heap s₂.slotsUsed).setVm hW'.alike, X.tail, State.WarmedH.trans X.warmed hW', X.limits, X.bytes, X.same.trans (hsame.setVm s.vm)⟩,
      ⟨g, mk, s₂, L, rfl, rfl, hqc, rfl, hL, rfl, rfl⟩, ?_⟩
    show Steps p.tables e below _ ((({ U with heap := s₂.heap, slotsUsed := s₂.slotsUsed } : State).setVm s₂.vm).setTop { g with pc := g.pc + len₂, stack := v.toList ++ g.stack })
    rw [← hs₂]
    exact hsteps
  · obtain ⟨e2, q2, q3, q4, q5, q6⟩ := id hsm
    have e3 : s₂ = ({ (U.calling g mk a).setFrames s₂.frames with heap := s₂.heap, slotsUsed := s₂.slotsUsed } : State).setVm s₂.vm := by
      have : s₂ = ({ s₂ with vm := (U.calling g mk a).vm } : State).setVm s₂.vm := rfl
      rw [e2] at this
      exact this
    have hf₂ : s₂.frames = .throwing q :: .java g :: U.frames.tail := hend
    have hW' : U.WarmedH s₂.vm := hW₂
    have hs₂ : s₂ = ((({ U with heap := s₂.heap, slotsUsed := s₂.slotsUsed } : State).setVm s₂.vm).setTop g).pushFrame (.throwing q) := by
      refine e3.trans ?_
      rw [hf₂, State.calling_eq h.top, State.setFrames_setFrames, State.pushFrame, State.frames_setTop _ hr', State.setTop_of_frames _ hr', State.setFrames_setFrames, hr]
      rfl
    have hsame : U.sameButNew ({ U with heap := s₂.heap, slotsUsed := s₂.slotsUsed } : State) L mc ms := by
      refine ⟨?_, q2, q3, q4, q5, q6⟩
      obtain ⟨t, ht, -⟩ := State.frames_cons hr
      show ({ U with heap := s₂.heap, slotsUsed := s₂.slotsUsed } : State) = { U.setFrames U.frames with heap := s₂.heap, slotsUsed := s₂.slotsUsed }
      rw [State.setFrames_self ht]
    subst hg
    refine Or.inr ⟨q, ⟨(({ U with heap := s₂.heap, slotsUsed := s₂.slotsUsed } : State).setVm s₂.vm), Ls ++ L, c0 + mc, s0 + ms⟩,
      ⟨X.admits, X.cas, X.clock, X.frames, X.room, X.hears, X.method, X.code, (X.here.setHeapUsed s₂.heap s₂.slotsUsed).setVm hW'.alike, X.tail, State.WarmedH.trans X.warmed hW', X.limits, X.bytes, X.same.trans (hsame.setVm s.vm)⟩,
      ⟨g, mk, s₂, L, E, ce, rfl, rfl, hx, hce, hcv, hcl, rfl, hL, rfl, rfl⟩, ?_⟩
    show Steps p.tables e below _ (((({ U with heap := s₂.heap, slotsUsed := s₂.slotsUsed } : State).setVm s₂.vm).setTop g).pushFrame (.throwing q))
    rw [← hs₂]
    exact hsteps
end
variable {p : Program} {l : Launch} {e : Env} {R : Room} {s : State} {m : MethodId} {args : Array Value} {below : List Frame} {meth : Method} {c : Code} {T : State} {H : Heap} {locs : List Loc} {cells slots : Nat}
theorem vx_callVX (X : Stand p l e R s m args below meth c T locs cells slots) (hexec : p.tables.exec = Jvm.exec) {own C : String} {index : Nat} {y : MethodName} {bytes : ByteArray} {maxL : Nat} {ret : Option FieldType} {hh : List (Nat × Nat × Nat × Nat)}
    (hown : s.vm.findClass own = some m.cls) (hlink : (Cond.methodLink own index y).before args s = true) (hinst : (Cond.instanceMethod y).before args s = true) (hsel : (Cond.selects C y y).before args s = true)
    (hcode : (Cond.codeWith y bytes maxL ret hh).before args s = true) (hy : y.cls ≠ "java/lang/invoke/MethodHandle" ∧ y.cls ≠ "java/lang/invoke/VarHandle")
    {W9 : Nat} {Pre : Pt → Array Value → Prop} {Post : Pt → Array Value → Option Value → Pt → Prop} {PostX : Pt → Array Value → Addr → Pt → Prop} (hK : vx_Back l R p e below s args y 3 W9 Pre Post PostX)
    {b : Addr} {cellB : Cell} (hcell : T.heap[b]? = some cellB) (hobj : cellB.vm.isStatics = false) (hcls : s.vm.findClass C = some cellB.cls)
    {g : JFrame} (hg : g.method = m) (hsize : g.locals.size = c.maxLocals) {argsL rest : List Value} (hlen : ∀ sig, parseMethodDescriptor y.desc = some sig → argsL.length = sig.parameters.length)
    (hstack : g.stack = argsL.reverse ++ .ref b :: rest) (hW : 2 * g.monitorRoom + (rest.map fun v => v.category).sum ≤ W9) (hdg : decode c.code g.pc = .ok (.invokevirtual index, 3))
    (hpre : ∀ vm₁, s.WarmedH vm₁ → Pre ⟨T.setVm vm₁, locs, cells, slots⟩ (Value.ref b :: argsL).toArray) :
    (∃ (v : Option Value) (vm₁ : Vm) (B : Pt), s.WarmedH vm₁ ∧ Stand p l e R s m args below meth c B.U B.locs B.cells B.slots ∧ Post ⟨T.setVm vm₁, locs, cells, slots⟩ (Value.ref b :: argsL).toArray v B ∧
      ∀ target, Steps p.tables e below (B.U.setTop { g with pc := g.pc + 3, stack := v.toList ++ rest }) target → Steps p.tables e below (T.setTop g) target) ∨
    (∃ (q : Addr) (vm₁ : Vm) (B : Pt), s.WarmedH vm₁ ∧ Stand p l e R s m args below meth c B.U B.locs B.cells B.slots ∧ PostX ⟨T.setVm vm₁, locs, cells, slots⟩ (Value.ref b :: argsL).toArray q B ∧
      Steps p.tables e below (T.setTop g) ((B.U.setTop { g with stack := rest }).pushFrame (.throwing q))) := by
  obtain ⟨mk, methM, hnamed, hmethM, hstM, habM⟩ := Cond.instanceMethod_spec hinst
  obtain ⟨m8, methM', cM, hn8, hmethM', -, -, -, -, -, -, hsigM⟩ := Cond.codeWith_spec hcode
  cases Option.some.inj (hn8.symm.trans hnamed)
  cases hmethM.symm.trans hmethM'
  obtain ⟨c2, r2, m2, q1, q2, q3, q4, kP, hkP, hkPi⟩ := Cond.selects_spec hsel
  cases hcls.symm.trans q1
  cases (State.methodFound?_of_named hnamed hy).symm.trans q2
  cases hnamed.symm.trans q3
  have hselP : selectMethod e.platform s.vm cellB.cls mk = .method mk := by rw [Launch.admits_selectMethod X.admits]; exact q4
  obtain ⟨vm₁, X₁, hstep₁⟩ := X.invokevirtual hexec hown hlink hnamed hmethM hstM hkP hkPi hy (a := b) (cell := cellB) hcell
    (fun z h => by rw [h] at hobj; cases hobj) hselP hmethM habM hkP hkPi (g := g) hg (argsL := argsL) (rest := rest) (hlen _ hsigM) hstack hdg
  rcases hK m meth c ⟨T.setVm vm₁, locs, cells, slots⟩ { g with stack := rest } (.invokevirtual index) mk (Value.ref b :: argsL).toArray X₁ hg hsize hdg hW (X₁.named hnamed) (hpre vm₁ X₁.warmed) with ⟨v, B, X', hpost, hsteps⟩ | ⟨q, B, X', hpost, hsteps⟩
  · exact Or.inl ⟨v, vm₁, B, X₁.warmed, X', hpost, fun target h => hstep₁ _ fun acts => by rw [doInvoke_state]; exact hsteps.trans h⟩
  · exact Or.inr ⟨q, vm₁, B, X₁.warmed, X', hpost, hstep₁ _ fun acts => by rw [doInvoke_state]; exact hsteps⟩
theorem vx_callSX (X : Stand p l e R s m args below meth c T locs cells slots) (hexec : p.tables.exec = Jvm.exec) {own : String} {index : Nat} {y : MethodName} {bytes : ByteArray} {maxL : Nat} {ret : Option FieldType} {hh : List (Nat × Nat × Nat × Nat)}
    (hown : s.vm.findClass own = some m.cls) (hlink : (Cond.methodLink own index y).before args s = true) (hstat : (Cond.static y).before args s = true) (hinit : (Cond.initialized y.cls).before args s = true)
    (hcode : (Cond.codeWith y bytes maxL ret hh).before args s = true) (hy : y.cls ≠ "java/lang/invoke/MethodHandle" ∧ y.cls ≠ "java/lang/invoke/VarHandle")
    {W9 : Nat} {Pre : Pt → Array Value → Prop} {Post : Pt → Array Value → Option Value → Pt → Prop} {PostX : Pt → Array Value → Addr → Pt → Prop} (hK : vx_Back l R p e below s args y 3 W9 Pre Post PostX)
    {g : JFrame} (hg : g.method = m) (hsize : g.locals.size = c.maxLocals) {argsL rest : List Value} (hlen : ∀ sig, parseMethodDescriptor y.desc = some sig → argsL.length = sig.parameters.length)
    (hstack : g.stack = argsL.reverse ++ rest) (hW : 2 * g.monitorRoom + (rest.map fun v => v.category).sum ≤ W9) (hdg : decode c.code g.pc = .ok (.invokestatic index, 3))
    (hpre : ∀ vm₁, s.WarmedH vm₁ → Pre ⟨T.setVm vm₁, locs, cells, slots⟩ argsL.toArray) :
    (∃ (v : Option Value) (vm₁ : Vm) (B : Pt), s.WarmedH vm₁ ∧ Stand p l e R s m args below meth c B.U B.locs B.cells B.slots ∧ Post ⟨T.setVm vm₁, locs, cells, slots⟩ argsL.toArray v B ∧
      ∀ target, Steps p.tables e below (B.U.setTop { g with pc := g.pc + 3, stack := v.toList ++ rest }) target → Steps p.tables e below (T.setTop g) target) ∨
    (∃ (q : Addr) (vm₁ : Vm) (B : Pt), s.WarmedH vm₁ ∧ Stand p l e R s m args below meth c B.U B.locs B.cells B.slots ∧ PostX ⟨T.setVm vm₁, locs, cells, slots⟩ argsL.toArray q B ∧
      Steps p.tables e below (T.setTop g) ((B.U.setTop { g with stack := rest }).pushFrame (.throwing q))) := by
  obtain ⟨mk, methM, cM, hnamed, hmethM, -, -, -, -, -, -, hsigM⟩ := Cond.codeWith_spec hcode
  have hstatic : methM.isStatic = true := Cond.static_spec hnamed hmethM hstat
  obtain ⟨kP, hkP, -⟩ := className_of_methodNamed hnamed
  have hinitP : kP.init = .initialized := Cond.initialized_spec (findClass_of_methodNamed hnamed) hkP hinit
  obtain ⟨vm₁, X₁, hstep₁⟩ := X.invokestatic hexec hown hlink hnamed hmethM hstatic hkP hinitP hy (g := g) hg (argsL := argsL) (rest := rest) (hlen _ hsigM) hstack hdg
  rcases hK m meth c ⟨T.setVm vm₁, locs, cells, slots⟩ { g with stack := rest } (.invokestatic index) mk argsL.toArray X₁ hg hsize hdg hW (X₁.named hnamed) (hpre vm₁ X₁.warmed) with ⟨v, B, X', hpost, hsteps⟩ | ⟨q, B, X', hpost, hsteps⟩
  · exact Or.inl ⟨v, vm₁, B, X₁.warmed, X', hpost, fun target h => hstep₁ _ fun acts => by rw [doInvoke_state]; exact hsteps.trans h⟩
  · exact Or.inr ⟨q, vm₁, B, X₁.warmed, X', hpost, hstep₁ _ fun acts => by rw [doInvoke_state]; exact hsteps⟩
theorem vx_callVW (X : Stand p l e R s m args below meth c T locs cells slots) (hexec : p.tables.exec = Jvm.exec) {own C : String} {index : Nat} {y : MethodName} {bytes : ByteArray} {maxL : Nat} {ret : Option FieldType} {hh : List (Nat × Nat × Nat × Nat)}
    (hown : s.vm.findClass own = some m.cls) (hlink : (Cond.methodLink own index y).before args s = true) (hinst : (Cond.instanceMethod y).before args s = true) (hsel : (Cond.selects C y y).before args s = true)
    (hcode : (Cond.codeWith y bytes maxL ret hh).before args s = true) (hy : y.cls ≠ "java/lang/invoke/MethodHandle" ∧ y.cls ≠ "java/lang/invoke/VarHandle")
    {W9 : Nat} {Pre : Pt → Array Value → Prop} {Post : Pt → Array Value → Option Value → Pt → Prop} (hK : Back l R p e below s args y 3 W9 Pre Post)
    {b : Addr} {cellB : Cell} (hcell : T.heap[b]? = some cellB) (hobj : cellB.vm.isStatics = false) (hcls : s.vm.findClass C = some cellB.cls)
    {g : JFrame} (hg : g.method = m) (hsize : g.locals.size = c.maxLocals) {argsL rest : List Value} (hlen : ∀ sig, parseMethodDescriptor y.desc = some sig → argsL.length = sig.parameters.length)
    (hstack : g.stack = argsL.reverse ++ .ref b :: rest) (hW : 2 * g.monitorRoom + (rest.map fun v => v.category).sum ≤ W9) (hdg : decode c.code g.pc = .ok (.invokevirtual index, 3))
    (hpre : ∀ vm₁, s.WarmedH vm₁ → Pre ⟨T.setVm vm₁, locs, cells, slots⟩ (Value.ref b :: argsL).toArray) :
    ∃ (v : Option Value) (vm₁ : Vm) (B : Pt), s.WarmedH vm₁ ∧ Stand p l e R s m args below meth c B.U B.locs B.cells B.slots ∧ Post ⟨T.setVm vm₁, locs, cells, slots⟩ (Value.ref b :: argsL).toArray v B ∧
      ∀ target, Steps p.tables e below (B.U.setTop { g with pc := g.pc + 3, stack := v.toList ++ rest }) target → Steps p.tables e below (T.setTop g) target := by
  obtain ⟨mk, methM, hnamed, hmethM, hstM, habM⟩ := Cond.instanceMethod_spec hinst
  obtain ⟨m8, methM', cM, hn8, hmethM', -, -, -, -, -, -, hsigM⟩ := Cond.codeWith_spec hcode
  cases Option.some.inj (hn8.symm.trans hnamed)
  cases hmethM.symm.trans hmethM'
  obtain ⟨c2, r2, m2, q1, q2, q3, q4, kP, hkP, hkPi⟩ := Cond.selects_spec hsel
  cases hcls.symm.trans q1
  cases (State.methodFound?_of_named hnamed hy).symm.trans q2
  cases hnamed.symm.trans q3
  have hselP : selectMethod e.platform s.vm cellB.cls mk = .method mk := by rw [Launch.admits_selectMethod X.admits]; exact q4
  obtain ⟨vm₁, X₁, hstep₁⟩ := X.invokevirtual hexec hown hlink hnamed hmethM hstM hkP hkPi hy (a := b) (cell := cellB) hcell
    (fun z h => by rw [h] at hobj; cases hobj) hselP hmethM habM hkP hkPi (g := g) hg (argsL := argsL) (rest := rest) (hlen _ hsigM) hstack hdg
  obtain ⟨v, B, X', hpost, hsteps⟩ := hK m meth c ⟨T.setVm vm₁, locs, cells, slots⟩ { g with stack := rest } (.invokevirtual index) mk (Value.ref b :: argsL).toArray X₁ hg hsize hdg hW (X₁.named hnamed) (hpre vm₁ X₁.warmed)
  exact ⟨v, vm₁, B, X₁.warmed, X', hpost, fun target h => hstep₁ _ fun acts => by rw [doInvoke_state]; exact hsteps.trans h⟩
abbrev vx_CVW (R : Room) (s : State) (args : Array Value) (own C : String) (index : Nat) (y : MethodName) (bytes : ByteArray) (maxL : Nat) (ret : Option FieldType) (hh : List (Nat × Nat × Nat × Nat)) (ws : List Cond) (rm : Room) (mc ms n : Nat) : Prop :=
  (rm.cells = mc ∧ rm.slots = ms ∧ rm.frames + 1 ≤ R.frames ∧ 8 + (maxL + 11) + rm.locals ≤ R.locals ∧ (∀ w ∈ ws, ∀ (a' : Array Value) (U : State), s.WarmedH U.vm → w.before a' U = true) ∧ Cond.codeWith y bytes maxL ret hh ∈ ws) ∧
  (Cond.codeWith y bytes maxL ret hh).before args s = true ∧ (Cond.initialized y.cls).before args s = true ∧ (y.cls ≠ "java/lang/invoke/MethodHandle" ∧ y.cls ≠ "java/lang/invoke/VarHandle") ∧
  (∀ sig, parseMethodDescriptor y.desc = some sig → n = sig.parameters.length) ∧ (Cond.methodLink own index y).before args s = true ∧ (Cond.instanceMethod y).before args s = true ∧ (Cond.selects C y y).before args s = true
theorem vx_cwVW {own C : String} {index maxL mc ms : Nat} {y : MethodName} {bytes : ByteArray} {ret : Option FieldType} {hh : List (Nat × Nat × Nat × Nat)} {Ts ws ws' : List Cond} {rm : Room} (n : Nat) (ht : ∀ w ∈ Ts, w.before args s = true) (hT : GoodIn Ts (wsV own index C y ws)) (hw : ws = Cond.codeWith y bytes maxL ret hh :: ws') (hrc : rm.cells = mc) (hrs : rm.slots = ms)
    (hd : y.cls = C ∧ y.cls ≠ "java/lang/invoke/MethodHandle" ∧ y.cls ≠ "java/lang/invoke/VarHandle" ∧ (parseMethodDescriptor y.desc).map (fun d => d.parameters.length) = some n) (hR : rm.frames + 1 ≤ R.frames ∧ 8 + (maxL + 11) + rm.locals ≤ R.locals) :
    vx_CVW R s args own C index y bytes maxL ret hh ws rm mc ms n := by
  obtain ⟨hC, hd⟩ := hd
  subst hC
  have ok : ∀ w ∈ wsV own index y.cls y ws, w.before args s = true := fun w h => ht w (hT w h).1
  have hG : GoodIn Ts ws := fun w h => hT w (by unfold wsV; exact List.mem_append_right _ h)
  have hc : Cond.codeWith y bytes maxL ret hh ∈ ws := by rw [hw]; exact List.mem_cons_self
  refine ⟨⟨hrc, hrs, hR.1, hR.2, pay_in ht hG, hc⟩, ht _ (hG _ hc).1, ok _ (by simp [wsV]), ⟨hd.1, hd.2.1⟩, fun sig h => ?_, ok _ (by simp [wsV]), ok _ (by simp [wsV]), ok _ (by simp [wsV])⟩
  have h2 := hd.2.2
  rw [h] at h2
  exact (Option.some.inj h2).symm
theorem vx_runVW {y : MethodName} {bytes cc : ByteArray} {maxL nL mc ms n index : Nat} {ret : Option FieldType} {hh : List (Nat × Nat × Nat × Nat)} {ws : List Cond} {rm : Room} {Pc : Array Value → State → Prop} {Qc : Array Value → State → Outcome → State → Prop} {free : Addr → Prop} {Ts : List Cond} {own C : String} {b : Addr} {As rest : List Value} {g : JFrame}
    (S : CallFix p m c cc nL s args Ts own) (hM : Met l y ws rm Pc Qc mc ms free) (cw : vx_CVW R s args own C index y bytes maxL ret hh ws rm mc ms n) (hp : PreV s H C b Pc As)
    (hg : g.method = m) (hn : As.length = n) (hsize : g.locals.size = nL) (hstack : g.stack = As.reverse ++ .ref b :: rest) (hW : 2 * g.monitorRoom + (rest.map fun v => v.category).sum ≤ 8) (hdg : decode cc g.pc = .ok (.invokevirtual index, 3)) (hf : cells + mc ≤ R.cells ∧ slots + ms ≤ R.slots) :
    va_Run p l e R s m args below meth c H locs cells slots mc ms g rest (Qc (Value.ref b :: As).toArray) free := by
  obtain ⟨⟨hrc, hrs, hfr, hlo, hws, hcw⟩, hcode, hini, hy, hlen, hl, hin, hse⟩ := cw
  have hK : Back l R p e below s args y 3 8 (PreOf R mc ms Pc) (PostOf Qc mc ms free) := va_backW (hh := hh) (bytes := bytes) (maxL := maxL) (ret := ret) hM hp.1 hrc hrs hfr hlo hws hcw (fun a' U hW => word_at hW (Or.inl (by first | rfl | simp [Cond.onTables, Cond.keeps, Cond.steady])) hini)
  obtain ⟨hx, hb, hml, ho, -⟩ := S
  obtain ⟨-, ⟨cellB, hcB, hoB, hclB⟩, hPc⟩ := hp
  intro T hT X
  obtain ⟨v, vm₁, ⟨U', l2, c2, s2⟩, hW₁, X', ⟨g', mk, t, L, e1, e2, hq, h1, hL, h2, h3⟩, st⟩ := vx_callVW X hx (C := C) (hh := hh) (bytes := bytes) (maxL := maxL) (ret := ret) ho hl hin hse hcode hy hK (by rw [hT]; exact hcB) hoB hclB hg (hsize.trans hml.symm) (argsL := As) (rest := rest) (fun sig h => hn.trans (hlen sig h)) hstack hW (by rw [hb]; exact hdg)
    (fun vm₁ hW₁ => ⟨hf.1, hf.2, hPc (T.setVm vm₁) hT hW₁⟩)
  dsimp only [Pt.U, Pt.locs, Pt.cells, Pt.slots] at X' e1 e2 h1 h2 h3 st
  subst h1; subst h2; subst h3
  exact ⟨v, (T.setVm vm₁).calling g' mk (Value.ref b :: As).toArray, t, U', L, hT, X', hL, e1, e2, hq, st⟩
section
variable {y : MethodName} {bytes cc : ByteArray} {maxL nL mc ms n index : Nat} {ret : Option FieldType} {ws : List Cond} {rm : Room} {Pc : Array Value → State → Prop} {Qc : Array Value → State → Outcome → State → Prop} {XC : String → State → State → Prop} {free : Addr → Prop} {Ts : List Cond} {own C : String} {b : Addr} {As rest : List Value} {g : JFrame}
theorem vx_runVX {hh : List (Nat × Nat × Nat × Nat)} (S : CallFix p m c cc nL s args Ts own) (hM : vx_Met l y ws rm Pc Qc XC mc ms free) (cw : vx_CVW R s args own C index y bytes maxL ret hh ws rm mc ms n) (hp : PreV s H C b Pc As)
    (hg : g.method = m) (hn : As.length = n) (hsize : g.locals.size = nL) (hstack : g.stack = As.reverse ++ .ref b :: rest) (hW : 2 * g.monitorRoom + (rest.map fun v => v.category).sum ≤ 8) (hdg : decode cc g.pc = .ok (.invokevirtual index, 3)) (hf : cells + mc ≤ R.cells ∧ slots + ms ≤ R.slots) :
    vx_Run p l e R s m args below meth c H locs cells slots mc ms g rest (Qc (Value.ref b :: As).toArray) XC free := by
  obtain ⟨⟨hrc, hrs, hfr, hlo, hws, hcw⟩, hcode, hini, hy, hlen, hl, hin, hse⟩ := cw
  have hK : vx_Back l R p e below s args y 3 8 (PreOf R mc ms Pc) (PostOf Qc mc ms free) (vx_Post XC mc ms free) := vx_backW (hh := hh) (bytes := bytes) (maxL := maxL) (ret := ret) hM hp.1 hrc hrs hfr hlo hws hcw (fun a' U hW => word_at hW (Or.inl (by first | rfl | simp [Cond.onTables, Cond.keeps, Cond.steady])) hini)
  obtain ⟨hx, hb, hml, ho, -⟩ := S
  obtain ⟨-, ⟨cellB, hcB, hoB, hclB⟩, hPc⟩ := hp
  intro T hT X
  rcases vx_callVX X hx (C := C) (hh := hh) (bytes := bytes) (maxL := maxL) (ret := ret) ho hl hin hse hcode hy hK (by rw [hT]; exact hcB) hoB hclB hg (hsize.trans hml.symm) (argsL := As) (rest := rest) (fun sig h => hn.trans (hlen sig h)) hstack hW (by rw [hb]; exact hdg)
    (fun vm₁ hW₁ => ⟨hf.1, hf.2, hPc (T.setVm vm₁) hT hW₁⟩) with ⟨v, vm₁, ⟨U', l2, c2, s2⟩, hW₁, X', ⟨g', mk, t, L, e1, e2, hq, h1, hL, h2, h3⟩, st⟩ | ⟨q, vm₁, ⟨U', l2, c2, s2⟩, hW₁, X', ⟨g', mk, t, L, E, ce, e1, e2, hq, hce, hcv, hcl, h1, hL, h2, h3⟩, st⟩
  · dsimp only [Pt.U, Pt.locs, Pt.cells, Pt.slots] at X' e1 e2 h1 h2 h3 st
    subst h1; subst h2; subst h3
    exact Or.inl ⟨v, (T.setVm vm₁).calling g' mk (Value.ref b :: As).toArray, t, U', L, hT, X', hL, e1, e2, hq, st⟩
  · dsimp only [Pt.U, Pt.locs, Pt.cells, Pt.slots] at X' e1 e2 h1 h2 h3 st hcl
    subst h1; subst h2; subst h3
    exact Or.inr ⟨q, (T.setVm vm₁).calling g' mk (Value.ref b :: As).toArray, t, U', L, E, ce, hT, X', hL, e1, e2, hq, hce, hcv, vx_cls hW₁ hcl, st⟩
theorem vx_runSX {hh : List (Nat × Nat × Nat × Nat)} (S : CallFix p m c cc nL s args Ts own) (hM : vx_Met l y ws rm Pc Qc XC mc ms free) (cw : vx_CSW R s args own index y bytes maxL ret hh ws rm mc ms n) (hp : PreS s H Pc As)
    (hg : g.method = m) (hn : As.length = n) (hsize : g.locals.size = nL) (hstack : g.stack = As.reverse ++ rest) (hW : 2 * g.monitorRoom + (rest.map fun v => v.category).sum ≤ 8) (hdg : decode cc g.pc = .ok (.invokestatic index, 3)) (hf : cells + mc ≤ R.cells ∧ slots + ms ≤ R.slots) :
    vx_Run p l e R s m args below meth c H locs cells slots mc ms g rest (Qc As.toArray) XC free := by
  obtain ⟨⟨hrc, hrs, hfr, hlo, hws, hcw⟩, hcode, hini, hy, hlen, hl, hstt⟩ := cw
  have hK : vx_Back l R p e below s args y 3 8 (PreOf R mc ms Pc) (PostOf Qc mc ms free) (vx_Post XC mc ms free) := vx_backW (hh := hh) (bytes := bytes) (maxL := maxL) (ret := ret) hM hp.1 hrc hrs hfr hlo hws hcw (fun a' U hW => word_at hW (Or.inl (by first | rfl | simp [Cond.onTables, Cond.keeps, Cond.steady])) hini)
  obtain ⟨hx, hb, hml, ho, -⟩ := S
  intro T hT X
  rcases vx_callSX X hx (hh := hh) (bytes := bytes) (maxL := maxL) (ret := ret) ho hl hstt hini hcode hy hK hg (hsize.trans hml.symm) (argsL := As) (rest := rest) (fun sig h => hn.trans (hlen sig h)) hstack hW (by rw [hb]; exact hdg)
    (fun vm₁ hW₁ => ⟨hf.1, hf.2, hp.2 (T.setVm vm₁) hT hW₁⟩) with ⟨v, vm₁, ⟨U', l2, c2, s2⟩, hW₁, X', ⟨g', mk, t, L, e1, e2, hq, h1, hL, h2, h3⟩, st⟩ | ⟨q, vm₁, ⟨U', l2, c2, s2⟩, hW₁, X', ⟨g', mk, t, L, E, ce, e1, e2, hq, hce, hcv, hcl, h1, hL, h2, h3⟩, st⟩
  · dsimp only [Pt.U, Pt.locs, Pt.cells, Pt.slots] at X' e1 e2 h1 h2 h3 st
    subst h1; subst h2; subst h3
    exact Or.inl ⟨v, (T.setVm vm₁).calling g' mk As.toArray, t, U', L, hT, X', hL, e1, e2, hq, st⟩
  · dsimp only [Pt.U, Pt.locs, Pt.cells, Pt.slots] at X' e1 e2 h1 h2 h3 st hcl
    subst h1; subst h2; subst h3
    exact Or.inr ⟨q, (T.setVm vm₁).calling g' mk As.toArray, t, U', L, E, ce, hT, X', hL, e1, e2, hq, hce, hcv, vx_cls hW₁ hcl, st⟩
end
end VXH
theorem vx_ofWH {l : Launch} {y : MethodName} {ws ws' : List Cond} {rm : Room} {Pc : Array Value → State → Prop} {Qc : Array Value → State → Outcome → State → Prop} {XC : String → State → State → Prop} {mc ms : Nat} {free : Addr → Prop} {cc : ByteArray} {maxL : Nat} {ret : Option FieldType} {hh : List (Nat × Nat × Nat × Nat)}
    (hy : plainName y.cls = true) (hw : ws = Cond.codeWith y cc maxL ret hh :: ws')
    (body : ∀ p e s m args below meth c s₁, BodyLoose p l y (headSpec ws rm) cc maxL ret e s m args below meth c s₁ → c.maxLocals = maxL → Pc args s →
      W p l e (headSpec ws rm).room s m args below meth c s.heap [] 0 0 (vx_MQ below Qc XC args s mc ms free) (entryFrame m args maxL)) : vx_Met l y ws rm Pc Qc XC mc ms free := by
  refine MetFree.of_bodyS (code := cc) (maxLocals := maxL) (ret := ret) hy ?_ ?_
  · intro args s m h hn
    obtain ⟨m9, meth, c, hn9, h1, h2, h3, h4, -, h5, h6, -⟩ := Cond.codeWith_spec (atoms_spec (ws := ws) h _ (by rw [hw]; exact List.mem_cons_self))
    cases hn.symm.trans hn9
    exact ⟨meth, c, h1, h2, h3, h4, h5, h6⟩
  · intro p e s m args below meth c s₁ B hml hP _
    have hh0 : s₁.heap = s.heap := by rw [B.state]; rfl
    obtain ⟨t, a1, o, b1, b2, b3⟩ := body p e s m args below meth c s₁ B hml hP s₁ hh0 (Stand.of_body B)
    exact ⟨t, o, a1, b1, b2, b3⟩
/-! ===== END ===== -/

/-! ===== BEGIN printed: names, fields, word lists, decode rows ===== -/
def RX0 : String := "NoteMix"
def TX0 : u_T := fun k => match k with
  | 0 => ("NoteMix", "worthOf", "[I", true)
  | 1 => ("NoteMix", "notesIn", "[I", true)
  | 2 => ("NoteMix", "bestMix", "[I", true)
  | 3 => ("NoteMix", "bestSize", "I", false)
  | 4 => ("NoteMix", "mixCount", "I", false)
  | _ => ("NoteMix", "fewest", "[I", true)
def tyX0 : Nat → FieldType := fun k => match k with
  | 0 => .array .int
  | 1 => .array .int
  | 2 => .array .int
  | 3 => .int
  | 4 => .int
  | _ => .array .int
abbrev wsX00 : List Cond := u_ws RX0 TX0 6
theorem nmX0 : ∀ a, a < 6 → ∀ b, b < 6 → a ≠ b → (TX0 a).2.1 ≠ (TX0 b).2.1 := by decide +kernel
theorem tyX0_ok : ∀ k, k < 6 → parseFieldDescriptor (TX0 k).2.2.1 = some (tyX0 k) := by decide +kernel
abbrev cX0_init : ByteArray := prog_1_method_1_code
def yX0_init : MethodName := ⟨RX0, "<init>", "()V"⟩
abbrev cX0_load : ByteArray := prog_1_method_2_code
def yX0_load : MethodName := ⟨RX0, "load", "(III)V"⟩
abbrev cX0_best : ByteArray := prog_1_method_3_code
def yX0_best : MethodName := ⟨RX0, "best", "(I)I"⟩
abbrev cX0_part : ByteArray := prog_1_method_4_code
def yX0_part : MethodName := ⟨RX0, "part", "(II)I"⟩
abbrev cX0_ways : ByteArray := prog_1_method_5_code
def yX0_ways : MethodName := ⟨RX0, "ways", "(I)I"⟩
abbrev cX0_pay : ByteArray := prog_1_method_6_code
def yX0_pay : MethodName := ⟨RX0, "pay", "(II)I"⟩
abbrev cX0_next : ByteArray := prog_1_method_7_code
def yX0_next : MethodName := ⟨RX0, "next", "(I)I"⟩
abbrev cX0_reach : ByteArray := prog_1_method_8_code
def yX0_reach : MethodName := ⟨RX0, "reach", "()I"⟩
abbrev cX0_cassette : ByteArray := prog_1_method_9_code
def yX0_cassette : MethodName := ⟨RX0, "cassette", "(IZ)I"⟩
abbrev cX0_value : ByteArray := prog_1_method_10_code
def yX0_value : MethodName := ⟨RX0, "value", "()I"⟩
abbrev cX0_requireRange : ByteArray := prog_1_method_11_code
def yX0_requireRange : MethodName := ⟨RX0, "requireRange", "(III)V"⟩
abbrev cX0_findBest : ByteArray := prog_1_method_12_code
def yX0_findBest : MethodName := ⟨RX0, "findBest", "(I)V"⟩
abbrev cX0_survey : ByteArray := prog_1_method_13_code
def yX0_survey : MethodName := ⟨RX0, "survey", "(I)V"⟩
abbrev cX0_mostNotes : ByteArray := prog_1_method_14_code
def yX0_mostNotes : MethodName := ⟨RX0, "mostNotes", "(III)I"⟩
abbrev cX0_keepMix : ByteArray := prog_1_method_15_code
def yX0_keepMix : MethodName := ⟨RX0, "keepMix", "(IIII)V"⟩
abbrev cX0_fillFewest : ByteArray := prog_1_method_16_code
def yX0_fillFewest : MethodName := ⟨RX0, "fillFewest", "()V"⟩
abbrev cX0_addCassette : ByteArray := prog_1_method_17_code
def yX0_addCassette : MethodName := ⟨RX0, "addCassette", "(I)V"⟩
abbrev cX0_addBundle : ByteArray := prog_1_method_18_code
def yX0_addBundle : MethodName := ⟨RX0, "addBundle", "(II)V"⟩
def RX1 : String := "NoteMixModel"
def TX1 : u_T := fun k => match k with
  | 0 => ("NoteMixModel", "worth", "[I", true)
  | 1 => ("NoteMixModel", "notes", "[I", true)
  | 2 => ("NoteMixModel", "chosen", "[I", true)
  | 3 => ("NoteMixModel", "can", "[Z", true)
  | 4 => ("NoteMixModel", "fewest", "I", false)
  | 5 => ("NoteMixModel", "mixes", "I", false)
  | _ => ("NoteMixModel", "thrown", "I", false)
def tyX1 : Nat → FieldType := fun k => match k with
  | 0 => .array .int
  | 1 => .array .int
  | 2 => .array .int
  | 3 => .array .boolean
  | 4 => .int
  | 5 => .int
  | _ => .int
abbrev wsX10 : List Cond := u_ws RX1 TX1 7
theorem nmX1 : ∀ a, a < 7 → ∀ b, b < 7 → a ≠ b → (TX1 a).2.1 ≠ (TX1 b).2.1 := by decide +kernel
theorem tyX1_ok : ∀ k, k < 7 → parseFieldDescriptor (TX1 k).2.2.1 = some (tyX1 k) := by decide +kernel
abbrev cX1_init : ByteArray := prog_3_method_1_code
def yX1_init : MethodName := ⟨RX1, "<init>", "()V"⟩
def RJ9 : String := "java/lang/Math"
def TJ9 : u_T := fun k => match k with
  | _ => ("", "", "", false)
def tyJ9 : Nat → FieldType := fun k => match k with
  | _ => .int
abbrev wsJ90 : List Cond := u_ws RJ9 TJ9 0
theorem nmJ9 : ∀ a, a < 0 → ∀ b, b < 0 → a ≠ b → (TJ9 a).2.1 ≠ (TJ9 b).2.1 := by decide +kernel
theorem tyJ9_ok : ∀ k, k < 0 → parseFieldDescriptor (TJ9 k).2.2.1 = some (tyJ9 k) := by decide +kernel
abbrev cJ9_max_7cf53 : ByteArray := prog_6_method_65_code
def yJ9_max_7cf53 : MethodName := ⟨RJ9, "max", "(II)I"⟩
abbrev cJ9_min_7cf53 : ByteArray := prog_6_method_69_code
def yJ9_min_7cf53 : MethodName := ⟨RJ9, "min", "(II)I"⟩
def RJ7 : String := "java/util/Arrays"
def TJ7 : u_T := fun k => match k with
  | _ => ("", "", "", false)
def tyJ7 : Nat → FieldType := fun k => match k with
  | _ => .int
abbrev wsJ70 : List Cond := u_ws RJ7 TJ7 0
theorem nmJ7 : ∀ a, a < 0 → ∀ b, b < 0 → a ≠ b → (TJ7 a).2.1 ≠ (TJ7 b).2.1 := by decide +kernel
theorem tyJ7_ok : ∀ k, k < 0 → parseFieldDescriptor (TJ7 k).2.2.1 = some (tyJ7 k) := by decide +kernel
abbrev cJ7_fill_53178 : ByteArray := prog_9_method_103_code
def yJ7_fill_53178 : MethodName := ⟨RJ7, "fill", "([II)V"⟩
def RL : String := "NoteMixLaw"
abbrev cL_load : ByteArray := method_3_code
def yL_load : MethodName := ⟨RL, "load", "(LNoteMix;III)I"⟩
abbrev cL_best : ByteArray := method_4_code
def yL_best : MethodName := ⟨RL, "best", "(LNoteMix;I[J)I"⟩
abbrev cL_part : ByteArray := method_5_code
def yL_part : MethodName := ⟨RL, "part", "(LNoteMix;II[J)I"⟩
abbrev cL_ways : ByteArray := method_6_code
def yL_ways : MethodName := ⟨RL, "ways", "(LNoteMix;I[J)I"⟩
abbrev cL_pay : ByteArray := method_7_code
def yL_pay : MethodName := ⟨RL, "pay", "(LNoteMix;II[J)I"⟩
abbrev cL_next : ByteArray := method_8_code
def yL_next : MethodName := ⟨RL, "next", "(LNoteMix;I[J)I"⟩
abbrev cL_cassette : ByteArray := method_9_code
def yL_cassette : MethodName := ⟨RL, "cassette", "(LNoteMix;IZ[J)I"⟩
abbrev cL_law : ByteArray := code
def yL_law : MethodName := ⟨RL, "law", "([I)Z"⟩
def wsX0_init : List Cond := .code yX0_init cX0_init 1 none :: ([.methodLink RX0 3 objectInit, .instanceMethod objectInit, .code objectInit ⟨#[0xb1]⟩ 1 none, .arrayClass .int, .fieldLink RX0 9 "NoteMix" "worthOf" "[I", .fieldLink RX0 13 "NoteMix" "notesIn" "[I", .fieldLink RX0 16 "NoteMix" "bestMix" "[I", .fieldLink RX0 19 "NoteMix" "bestSize" "I", .fieldLink RX0 23 "NoteMix" "mixCount" "I", .fieldLink RX0 26 "NoteMix" "fewest" "[I"] ++ wsX00)
def wsX0_requireRange : List Cond := .code yX0_requireRange cX0_requireRange 3 none :: ([.classLink RX0 49 "java/lang/IllegalArgumentException", .initialized "java/lang/IllegalArgumentException"] ++ (vx_at0 RX0 51 "java/lang/IllegalArgumentException" ["java/lang/RuntimeException", "java/lang/Exception"]).filter goodWord)
def wsX0_load : List Cond := .code yX0_load cX0_load 4 none :: ([.fieldLink RX0 9 "NoteMix" "worthOf" "[I", .fieldLink RX0 13 "NoteMix" "notesIn" "[I", .methodLink RX0 29 yX0_requireRange, .static yX0_requireRange, .initialized RX0, .code yX0_requireRange cX0_requireRange 3 none, .classLink RX0 49 "java/lang/IllegalArgumentException", .initialized "java/lang/IllegalArgumentException"] ++ wsX00 ++ (vx_at0 RX0 51 "java/lang/IllegalArgumentException" ["java/lang/RuntimeException", "java/lang/Exception"]).filter goodWord)
def wsX0_mostNotes : List Cond := .code yX0_mostNotes cX0_mostNotes 5 (some .int) :: ([.fieldLink RX0 9 "NoteMix" "worthOf" "[I", .methodLink RX0 63 Lib.Math.max.name, .static Lib.Math.max.name, .initialized "java/lang/Math", .code Lib.Math.max.name Lib.Math.max.code 2 (some .int), .fieldLink RX0 13 "NoteMix" "notesIn" "[I", .methodLink RX0 40 Lib.Math.min.name, .static Lib.Math.min.name, .code Lib.Math.min.name Lib.Math.min.code 2 (some .int)] ++ wsX00)
def wsX0_keepMix : List Cond := .code yX0_keepMix cX0_keepMix 6 none :: ([.fieldLink RX0 23 "NoteMix" "mixCount" "I", .fieldLink RX0 19 "NoteMix" "bestSize" "I", .fieldLink RX0 16 "NoteMix" "bestMix" "[I"] ++ wsX00)
def wsX0_survey : List Cond := .code yX0_survey cX0_survey 14 none :: ([.fieldLink RX0 23 "NoteMix" "mixCount" "I", .fieldLink RX0 19 "NoteMix" "bestSize" "I", .fieldLink RX0 9 "NoteMix" "worthOf" "[I", .methodLink RX0 55 yX0_mostNotes, .instanceMethod yX0_mostNotes, .selects RX0 yX0_mostNotes yX0_mostNotes, .initialized RX0, .code yX0_mostNotes cX0_mostNotes 5 (some .int), .methodLink RX0 63 Lib.Math.max.name, .static Lib.Math.max.name, .initialized "java/lang/Math", .code Lib.Math.max.name Lib.Math.max.code 2 (some .int), .fieldLink RX0 13 "NoteMix" "notesIn" "[I", .methodLink RX0 40 Lib.Math.min.name, .static Lib.Math.min.name, .code Lib.Math.min.name Lib.Math.min.code 2 (some .int), .methodLink RX0 59 yX0_keepMix, .instanceMethod yX0_keepMix, .selects RX0 yX0_keepMix yX0_keepMix, .code yX0_keepMix cX0_keepMix 6 none, .fieldLink RX0 16 "NoteMix" "bestMix" "[I"] ++ wsX00)
def wsX0_findBest_r1 : List Cond := [Cond.classLink RX0 52 "java/util/NoSuchElementException", Cond.initialized "java/util/NoSuchElementException", Cond.fieldLink RX0 23 "NoteMix" "mixCount" "I", Cond.methodLink RX0 29 yX0_requireRange, Cond.static yX0_requireRange, Cond.initialized RX0, Cond.code yX0_requireRange cX0_requireRange 3 none, Cond.classLink RX0 49 "java/lang/IllegalArgumentException", Cond.initialized "java/lang/IllegalArgumentException", Cond.methodLink RX0 37 yX0_survey, Cond.instanceMethod yX0_survey, Cond.selects RX0 yX0_survey yX0_survey, Cond.code yX0_survey cX0_survey 14 none, Cond.fieldLink RX0 19 "NoteMix" "bestSize" "I", Cond.fieldLink RX0 9 "NoteMix" "worthOf" "[I", Cond.methodLink RX0 55 yX0_mostNotes, Cond.instanceMethod yX0_mostNotes, Cond.selects RX0 yX0_mostNotes yX0_mostNotes, Cond.code yX0_mostNotes cX0_mostNotes 5 (some .int), Cond.methodLink RX0 63 Lib.Math.max.name, Cond.static Lib.Math.max.name, Cond.initialized "java/lang/Math", Cond.code Lib.Math.max.name Lib.Math.max.code 2 (some .int), Cond.fieldLink RX0 13 "NoteMix" "notesIn" "[I"]
def wsX0_findBest_r2 : List Cond := [Cond.methodLink RX0 40 Lib.Math.min.name, Cond.static Lib.Math.min.name, Cond.code Lib.Math.min.name Lib.Math.min.code 2 (some .int), Cond.methodLink RX0 59 yX0_keepMix, Cond.instanceMethod yX0_keepMix, Cond.selects RX0 yX0_keepMix yX0_keepMix, Cond.code yX0_keepMix cX0_keepMix 6 none, Cond.fieldLink RX0 16 "NoteMix" "bestMix" "[I"]
def wsX0_findBest : List Cond := .code yX0_findBest cX0_findBest 2 none :: ((wsX0_findBest_r1 ++ wsX0_findBest_r2) ++ wsX00 ++ (vx_at0 RX0 54 "java/util/NoSuchElementException" ["java/lang/RuntimeException", "java/lang/Exception"]).filter goodWord ++ (vx_at0 RX0 51 "java/lang/IllegalArgumentException" ["java/lang/RuntimeException", "java/lang/Exception"]).filter goodWord)
def wsX0_best_r1 : List Cond := [Cond.fieldLink RX0 19 "NoteMix" "bestSize" "I", Cond.methodLink RX0 33 yX0_findBest, Cond.instanceMethod yX0_findBest, Cond.selects RX0 yX0_findBest yX0_findBest, Cond.initialized RX0, Cond.code yX0_findBest cX0_findBest 2 none, Cond.classLink RX0 52 "java/util/NoSuchElementException", Cond.initialized "java/util/NoSuchElementException", Cond.fieldLink RX0 23 "NoteMix" "mixCount" "I", Cond.methodLink RX0 29 yX0_requireRange, Cond.static yX0_requireRange, Cond.code yX0_requireRange cX0_requireRange 3 none, Cond.classLink RX0 49 "java/lang/IllegalArgumentException", Cond.initialized "java/lang/IllegalArgumentException", Cond.methodLink RX0 37 yX0_survey, Cond.instanceMethod yX0_survey, Cond.selects RX0 yX0_survey yX0_survey, Cond.code yX0_survey cX0_survey 14 none, Cond.fieldLink RX0 9 "NoteMix" "worthOf" "[I", Cond.methodLink RX0 55 yX0_mostNotes, Cond.instanceMethod yX0_mostNotes, Cond.selects RX0 yX0_mostNotes yX0_mostNotes, Cond.code yX0_mostNotes cX0_mostNotes 5 (some .int), Cond.methodLink RX0 63 Lib.Math.max.name]
def wsX0_best_r2 : List Cond := [Cond.static Lib.Math.max.name, Cond.initialized "java/lang/Math", Cond.code Lib.Math.max.name Lib.Math.max.code 2 (some .int), Cond.fieldLink RX0 13 "NoteMix" "notesIn" "[I", Cond.methodLink RX0 40 Lib.Math.min.name, Cond.static Lib.Math.min.name, Cond.code Lib.Math.min.name Lib.Math.min.code 2 (some .int), Cond.methodLink RX0 59 yX0_keepMix, Cond.instanceMethod yX0_keepMix, Cond.selects RX0 yX0_keepMix yX0_keepMix, Cond.code yX0_keepMix cX0_keepMix 6 none, Cond.fieldLink RX0 16 "NoteMix" "bestMix" "[I"]
def wsX0_best : List Cond := .code yX0_best cX0_best 2 (some .int) :: ((wsX0_best_r1 ++ wsX0_best_r2) ++ wsX00 ++ (vx_at0 RX0 54 "java/util/NoSuchElementException" ["java/lang/RuntimeException", "java/lang/Exception"]).filter goodWord ++ (vx_at0 RX0 51 "java/lang/IllegalArgumentException" ["java/lang/RuntimeException", "java/lang/Exception"]).filter goodWord)
def wsX0_part_r1 : List Cond := [Cond.fieldLink RX0 16 "NoteMix" "bestMix" "[I", Cond.methodLink RX0 29 yX0_requireRange, Cond.static yX0_requireRange, Cond.initialized RX0, Cond.code yX0_requireRange cX0_requireRange 3 none, Cond.classLink RX0 49 "java/lang/IllegalArgumentException", Cond.initialized "java/lang/IllegalArgumentException", Cond.methodLink RX0 33 yX0_findBest, Cond.instanceMethod yX0_findBest, Cond.selects RX0 yX0_findBest yX0_findBest, Cond.code yX0_findBest cX0_findBest 2 none, Cond.classLink RX0 52 "java/util/NoSuchElementException", Cond.initialized "java/util/NoSuchElementException", Cond.fieldLink RX0 23 "NoteMix" "mixCount" "I", Cond.methodLink RX0 37 yX0_survey, Cond.instanceMethod yX0_survey, Cond.selects RX0 yX0_survey yX0_survey, Cond.code yX0_survey cX0_survey 14 none, Cond.fieldLink RX0 19 "NoteMix" "bestSize" "I", Cond.fieldLink RX0 9 "NoteMix" "worthOf" "[I", Cond.methodLink RX0 55 yX0_mostNotes, Cond.instanceMethod yX0_mostNotes, Cond.selects RX0 yX0_mostNotes yX0_mostNotes, Cond.code yX0_mostNotes cX0_mostNotes 5 (some .int)]
def wsX0_part_r2 : List Cond := [Cond.methodLink RX0 63 Lib.Math.max.name, Cond.static Lib.Math.max.name, Cond.initialized "java/lang/Math", Cond.code Lib.Math.max.name Lib.Math.max.code 2 (some .int), Cond.fieldLink RX0 13 "NoteMix" "notesIn" "[I", Cond.methodLink RX0 40 Lib.Math.min.name, Cond.static Lib.Math.min.name, Cond.code Lib.Math.min.name Lib.Math.min.code 2 (some .int), Cond.methodLink RX0 59 yX0_keepMix, Cond.instanceMethod yX0_keepMix, Cond.selects RX0 yX0_keepMix yX0_keepMix, Cond.code yX0_keepMix cX0_keepMix 6 none]
def wsX0_part : List Cond := .code yX0_part cX0_part 3 (some .int) :: ((wsX0_part_r1 ++ wsX0_part_r2) ++ wsX00 ++ (vx_at0 RX0 51 "java/lang/IllegalArgumentException" ["java/lang/RuntimeException", "java/lang/Exception"]).filter goodWord ++ (vx_at0 RX0 54 "java/util/NoSuchElementException" ["java/lang/RuntimeException", "java/lang/Exception"]).filter goodWord)
def wsX0_ways_r1 : List Cond := [Cond.fieldLink RX0 23 "NoteMix" "mixCount" "I", Cond.methodLink RX0 29 yX0_requireRange, Cond.static yX0_requireRange, Cond.initialized RX0, Cond.code yX0_requireRange cX0_requireRange 3 none, Cond.classLink RX0 49 "java/lang/IllegalArgumentException", Cond.initialized "java/lang/IllegalArgumentException", Cond.methodLink RX0 37 yX0_survey, Cond.instanceMethod yX0_survey, Cond.selects RX0 yX0_survey yX0_survey, Cond.code yX0_survey cX0_survey 14 none, Cond.fieldLink RX0 19 "NoteMix" "bestSize" "I", Cond.fieldLink RX0 9 "NoteMix" "worthOf" "[I", Cond.methodLink RX0 55 yX0_mostNotes, Cond.instanceMethod yX0_mostNotes, Cond.selects RX0 yX0_mostNotes yX0_mostNotes, Cond.code yX0_mostNotes cX0_mostNotes 5 (some .int), Cond.methodLink RX0 63 Lib.Math.max.name, Cond.static Lib.Math.max.name, Cond.initialized "java/lang/Math", Cond.code Lib.Math.max.name Lib.Math.max.code 2 (some .int), Cond.fieldLink RX0 13 "NoteMix" "notesIn" "[I", Cond.methodLink RX0 40 Lib.Math.min.name, Cond.static Lib.Math.min.name]
def wsX0_ways_r2 : List Cond := [Cond.code Lib.Math.min.name Lib.Math.min.code 2 (some .int), Cond.methodLink RX0 59 yX0_keepMix, Cond.instanceMethod yX0_keepMix, Cond.selects RX0 yX0_keepMix yX0_keepMix, Cond.code yX0_keepMix cX0_keepMix 6 none, Cond.fieldLink RX0 16 "NoteMix" "bestMix" "[I"]
def wsX0_ways : List Cond := .code yX0_ways cX0_ways 2 (some .int) :: ((wsX0_ways_r1 ++ wsX0_ways_r2) ++ wsX00 ++ (vx_at0 RX0 51 "java/lang/IllegalArgumentException" ["java/lang/RuntimeException", "java/lang/Exception"]).filter goodWord)
def wsX0_pay_r1 : List Cond := [Cond.fieldLink RX0 16 "NoteMix" "bestMix" "[I", Cond.methodLink RX0 40 Lib.Math.min.name, Cond.static Lib.Math.min.name, Cond.initialized "java/lang/Math", Cond.code Lib.Math.min.name Lib.Math.min.code 2 (some .int), Cond.fieldLink RX0 13 "NoteMix" "notesIn" "[I", Cond.fieldLink RX0 9 "NoteMix" "worthOf" "[I", Cond.methodLink RX0 29 yX0_requireRange, Cond.static yX0_requireRange, Cond.initialized RX0, Cond.code yX0_requireRange cX0_requireRange 3 none, Cond.classLink RX0 49 "java/lang/IllegalArgumentException", Cond.initialized "java/lang/IllegalArgumentException", Cond.methodLink RX0 33 yX0_findBest, Cond.instanceMethod yX0_findBest, Cond.selects RX0 yX0_findBest yX0_findBest, Cond.code yX0_findBest cX0_findBest 2 none, Cond.classLink RX0 52 "java/util/NoSuchElementException", Cond.initialized "java/util/NoSuchElementException", Cond.fieldLink RX0 23 "NoteMix" "mixCount" "I", Cond.methodLink RX0 37 yX0_survey, Cond.instanceMethod yX0_survey, Cond.selects RX0 yX0_survey yX0_survey, Cond.code yX0_survey cX0_survey 14 none]
def wsX0_pay_r2 : List Cond := [Cond.fieldLink RX0 19 "NoteMix" "bestSize" "I", Cond.methodLink RX0 55 yX0_mostNotes, Cond.instanceMethod yX0_mostNotes, Cond.selects RX0 yX0_mostNotes yX0_mostNotes, Cond.code yX0_mostNotes cX0_mostNotes 5 (some .int), Cond.methodLink RX0 63 Lib.Math.max.name, Cond.static Lib.Math.max.name, Cond.code Lib.Math.max.name Lib.Math.max.code 2 (some .int), Cond.methodLink RX0 59 yX0_keepMix, Cond.instanceMethod yX0_keepMix, Cond.selects RX0 yX0_keepMix yX0_keepMix, Cond.code yX0_keepMix cX0_keepMix 6 none]
def wsX0_pay : List Cond := .code yX0_pay cX0_pay 7 (some .int) :: ((wsX0_pay_r1 ++ wsX0_pay_r2) ++ wsX00 ++ (vx_at0 RX0 51 "java/lang/IllegalArgumentException" ["java/lang/RuntimeException", "java/lang/Exception"]).filter goodWord ++ (vx_at0 RX0 54 "java/util/NoSuchElementException" ["java/lang/RuntimeException", "java/lang/Exception"]).filter goodWord)
def wsJ7_fill_53178 : List Cond := .code yJ7_fill_53178 cJ7_fill_53178 4 none :: ([])
def wsX0_addBundle : List Cond := .code yX0_addBundle cX0_addBundle 4 none :: ([.fieldLink RX0 26 "NoteMix" "fewest" "[I", .methodLink RX0 40 Lib.Math.min.name, .static Lib.Math.min.name, .initialized "java/lang/Math", .code Lib.Math.min.name Lib.Math.min.code 2 (some .int)] ++ wsX00)
def wsX0_addCassette : List Cond := .code yX0_addCassette cX0_addCassette 5 none :: ([.fieldLink RX0 13 "NoteMix" "notesIn" "[I", .methodLink RX0 40 Lib.Math.min.name, .static Lib.Math.min.name, .initialized "java/lang/Math", .code Lib.Math.min.name Lib.Math.min.code 2 (some .int), .fieldLink RX0 9 "NoteMix" "worthOf" "[I", .methodLink RX0 75 yX0_addBundle, .instanceMethod yX0_addBundle, .selects RX0 yX0_addBundle yX0_addBundle, .initialized RX0, .code yX0_addBundle cX0_addBundle 4 none, .fieldLink RX0 26 "NoteMix" "fewest" "[I"] ++ wsX00)
def wsX0_fillFewest : List Cond := .code yX0_fillFewest cX0_fillFewest 2 none :: ([.fieldLink RX0 26 "NoteMix" "fewest" "[I", .methodLink RX0 66 yJ7_fill_53178, .static yJ7_fill_53178, .initialized RJ7, .code yJ7_fill_53178 cJ7_fill_53178 4 none, .methodLink RX0 72 yX0_addCassette, .instanceMethod yX0_addCassette, .selects RX0 yX0_addCassette yX0_addCassette, .initialized RX0, .code yX0_addCassette cX0_addCassette 5 none, .fieldLink RX0 13 "NoteMix" "notesIn" "[I", .methodLink RX0 40 Lib.Math.min.name, .static Lib.Math.min.name, .initialized "java/lang/Math", .code Lib.Math.min.name Lib.Math.min.code 2 (some .int), .fieldLink RX0 9 "NoteMix" "worthOf" "[I", .methodLink RX0 75 yX0_addBundle, .instanceMethod yX0_addBundle, .selects RX0 yX0_addBundle yX0_addBundle, .code yX0_addBundle cX0_addBundle 4 none] ++ wsX00)
def wsX0_next_r1 : List Cond := [Cond.fieldLink RX0 26 "NoteMix" "fewest" "[I", Cond.methodLink RX0 29 yX0_requireRange, Cond.static yX0_requireRange, Cond.initialized RX0, Cond.code yX0_requireRange cX0_requireRange 3 none, Cond.classLink RX0 49 "java/lang/IllegalArgumentException", Cond.initialized "java/lang/IllegalArgumentException", Cond.methodLink RX0 46 yX0_fillFewest, Cond.instanceMethod yX0_fillFewest, Cond.selects RX0 yX0_fillFewest yX0_fillFewest, Cond.code yX0_fillFewest cX0_fillFewest 2 none, Cond.methodLink RX0 66 yJ7_fill_53178, Cond.static yJ7_fill_53178, Cond.initialized RJ7, Cond.code yJ7_fill_53178 cJ7_fill_53178 4 none, Cond.methodLink RX0 72 yX0_addCassette, Cond.instanceMethod yX0_addCassette, Cond.selects RX0 yX0_addCassette yX0_addCassette, Cond.code yX0_addCassette cX0_addCassette 5 none, Cond.fieldLink RX0 13 "NoteMix" "notesIn" "[I", Cond.methodLink RX0 40 Lib.Math.min.name, Cond.static Lib.Math.min.name, Cond.initialized "java/lang/Math", Cond.code Lib.Math.min.name Lib.Math.min.code 2 (some .int)]
def wsX0_next_r2 : List Cond := [Cond.fieldLink RX0 9 "NoteMix" "worthOf" "[I", Cond.methodLink RX0 75 yX0_addBundle, Cond.instanceMethod yX0_addBundle, Cond.selects RX0 yX0_addBundle yX0_addBundle, Cond.code yX0_addBundle cX0_addBundle 4 none]
def wsX0_next : List Cond := .code yX0_next cX0_next 3 (some .int) :: ((wsX0_next_r1 ++ wsX0_next_r2) ++ wsX00 ++ (vx_at0 RX0 51 "java/lang/IllegalArgumentException" ["java/lang/RuntimeException", "java/lang/Exception"]).filter goodWord)
def wsX0_reach : List Cond := .code yX0_reach cX0_reach 3 (some .int) :: ([.fieldLink RX0 26 "NoteMix" "fewest" "[I", .methodLink RX0 46 yX0_fillFewest, .instanceMethod yX0_fillFewest, .selects RX0 yX0_fillFewest yX0_fillFewest, .initialized RX0, .code yX0_fillFewest cX0_fillFewest 2 none, .methodLink RX0 66 yJ7_fill_53178, .static yJ7_fill_53178, .initialized RJ7, .code yJ7_fill_53178 cJ7_fill_53178 4 none, .methodLink RX0 72 yX0_addCassette, .instanceMethod yX0_addCassette, .selects RX0 yX0_addCassette yX0_addCassette, .code yX0_addCassette cX0_addCassette 5 none, .fieldLink RX0 13 "NoteMix" "notesIn" "[I", .methodLink RX0 40 Lib.Math.min.name, .static Lib.Math.min.name, .initialized "java/lang/Math", .code Lib.Math.min.name Lib.Math.min.code 2 (some .int), .fieldLink RX0 9 "NoteMix" "worthOf" "[I", .methodLink RX0 75 yX0_addBundle, .instanceMethod yX0_addBundle, .selects RX0 yX0_addBundle yX0_addBundle, .code yX0_addBundle cX0_addBundle 4 none] ++ wsX00)
def wsX0_cassette : List Cond := .code yX0_cassette cX0_cassette 3 (some .int) :: ([.fieldLink RX0 9 "NoteMix" "worthOf" "[I", .fieldLink RX0 13 "NoteMix" "notesIn" "[I", .methodLink RX0 29 yX0_requireRange, .static yX0_requireRange, .initialized RX0, .code yX0_requireRange cX0_requireRange 3 none, .classLink RX0 49 "java/lang/IllegalArgumentException", .initialized "java/lang/IllegalArgumentException"] ++ wsX00 ++ (vx_at0 RX0 51 "java/lang/IllegalArgumentException" ["java/lang/RuntimeException", "java/lang/Exception"]).filter goodWord)
def wsX0_value : List Cond := .code yX0_value cX0_value 3 (some .int) :: ([.fieldLink RX0 13 "NoteMix" "notesIn" "[I", .fieldLink RX0 9 "NoteMix" "worthOf" "[I"] ++ wsX00)
def wsX1_init : List Cond := .code yX1_init cX1_init 1 none :: ([.methodLink RX1 1 objectInit, .instanceMethod objectInit, .code objectInit ⟨#[0xb1]⟩ 1 none, .arrayClass .int, .fieldLink RX1 7 "NoteMixModel" "worth" "[I", .fieldLink RX1 13 "NoteMixModel" "notes" "[I", .fieldLink RX1 16 "NoteMixModel" "chosen" "[I", .fieldLink RX1 19 "NoteMixModel" "can" "[Z"] ++ wsX10)
def wsJ9_max_7cf53 : List Cond := .code yJ9_max_7cf53 cJ9_max_7cf53 2 (some .int) :: ([])
def wsJ9_min_7cf53 : List Cond := .code yJ9_min_7cf53 cJ9_min_7cf53 2 (some .int) :: ([])
def wsL_load : List Cond := .codeWith yL_load cL_load 5 (some .int) [(0, 7, 10, 13)] :: ([.classLink RL 13 "java/lang/IllegalArgumentException", .methodLink RL 7 yX0_load, .instanceMethod yX0_load, .selects RX0 yX0_load yX0_load, .initialized RX0, .code yX0_load cX0_load 4 none, .fieldLink RX0 9 "NoteMix" "worthOf" "[I", .fieldLink RX0 13 "NoteMix" "notesIn" "[I", .methodLink RX0 29 yX0_requireRange, .static yX0_requireRange, .code yX0_requireRange cX0_requireRange 3 none, .classLink RX0 49 "java/lang/IllegalArgumentException", .initialized "java/lang/IllegalArgumentException"] ++ wsX00 ++ (vx_at0 RX0 51 "java/lang/IllegalArgumentException" ["java/lang/RuntimeException", "java/lang/Exception"]).filter goodWord)
def wsL_best_r1 : List Cond := [Cond.classLink RL 13 "java/lang/IllegalArgumentException", Cond.classLink RL 19 "java/util/NoSuchElementException", Cond.methodLink RL 15 yX0_best, Cond.instanceMethod yX0_best, Cond.selects RX0 yX0_best yX0_best, Cond.initialized RX0, Cond.code yX0_best cX0_best 2 (some .int), Cond.fieldLink RX0 19 "NoteMix" "bestSize" "I", Cond.methodLink RX0 33 yX0_findBest, Cond.instanceMethod yX0_findBest, Cond.selects RX0 yX0_findBest yX0_findBest, Cond.code yX0_findBest cX0_findBest 2 none, Cond.classLink RX0 52 "java/util/NoSuchElementException", Cond.initialized "java/util/NoSuchElementException", Cond.fieldLink RX0 23 "NoteMix" "mixCount" "I", Cond.methodLink RX0 29 yX0_requireRange, Cond.static yX0_requireRange, Cond.code yX0_requireRange cX0_requireRange 3 none, Cond.classLink RX0 49 "java/lang/IllegalArgumentException", Cond.initialized "java/lang/IllegalArgumentException", Cond.methodLink RX0 37 yX0_survey, Cond.instanceMethod yX0_survey, Cond.selects RX0 yX0_survey yX0_survey, Cond.code yX0_survey cX0_survey 14 none]
def wsL_best_r2 : List Cond := [Cond.fieldLink RX0 9 "NoteMix" "worthOf" "[I", Cond.methodLink RX0 55 yX0_mostNotes, Cond.instanceMethod yX0_mostNotes, Cond.selects RX0 yX0_mostNotes yX0_mostNotes, Cond.code yX0_mostNotes cX0_mostNotes 5 (some .int), Cond.methodLink RX0 63 Lib.Math.max.name, Cond.static Lib.Math.max.name, Cond.initialized "java/lang/Math", Cond.code Lib.Math.max.name Lib.Math.max.code 2 (some .int), Cond.fieldLink RX0 13 "NoteMix" "notesIn" "[I", Cond.methodLink RX0 40 Lib.Math.min.name, Cond.static Lib.Math.min.name, Cond.code Lib.Math.min.name Lib.Math.min.code 2 (some .int), Cond.methodLink RX0 59 yX0_keepMix, Cond.instanceMethod yX0_keepMix, Cond.selects RX0 yX0_keepMix yX0_keepMix, Cond.code yX0_keepMix cX0_keepMix 6 none, Cond.fieldLink RX0 16 "NoteMix" "bestMix" "[I"]
def wsL_best : List Cond := .codeWith yL_best cL_best 4 (some .int) [(0, 9, 12, 13), (0, 9, 15, 19)] :: ((wsL_best_r1 ++ wsL_best_r2) ++ wsX00 ++ (vx_at0 RX0 54 "java/util/NoSuchElementException" ["java/lang/RuntimeException", "java/lang/Exception"]).filter goodWord ++ (vx_at0 RX0 51 "java/lang/IllegalArgumentException" ["java/lang/RuntimeException", "java/lang/Exception"]).filter goodWord)
def wsL_part_r1 : List Cond := [Cond.classLink RL 13 "java/lang/IllegalArgumentException", Cond.classLink RL 19 "java/util/NoSuchElementException", Cond.methodLink RL 21 yX0_part, Cond.instanceMethod yX0_part, Cond.selects RX0 yX0_part yX0_part, Cond.initialized RX0, Cond.code yX0_part cX0_part 3 (some .int), Cond.fieldLink RX0 16 "NoteMix" "bestMix" "[I", Cond.methodLink RX0 29 yX0_requireRange, Cond.static yX0_requireRange, Cond.code yX0_requireRange cX0_requireRange 3 none, Cond.classLink RX0 49 "java/lang/IllegalArgumentException", Cond.initialized "java/lang/IllegalArgumentException", Cond.methodLink RX0 33 yX0_findBest, Cond.instanceMethod yX0_findBest, Cond.selects RX0 yX0_findBest yX0_findBest, Cond.code yX0_findBest cX0_findBest 2 none, Cond.classLink RX0 52 "java/util/NoSuchElementException", Cond.initialized "java/util/NoSuchElementException", Cond.fieldLink RX0 23 "NoteMix" "mixCount" "I", Cond.methodLink RX0 37 yX0_survey, Cond.instanceMethod yX0_survey, Cond.selects RX0 yX0_survey yX0_survey, Cond.code yX0_survey cX0_survey 14 none]
def wsL_part_r2 : List Cond := [Cond.fieldLink RX0 19 "NoteMix" "bestSize" "I", Cond.fieldLink RX0 9 "NoteMix" "worthOf" "[I", Cond.methodLink RX0 55 yX0_mostNotes, Cond.instanceMethod yX0_mostNotes, Cond.selects RX0 yX0_mostNotes yX0_mostNotes, Cond.code yX0_mostNotes cX0_mostNotes 5 (some .int), Cond.methodLink RX0 63 Lib.Math.max.name, Cond.static Lib.Math.max.name, Cond.initialized "java/lang/Math", Cond.code Lib.Math.max.name Lib.Math.max.code 2 (some .int), Cond.fieldLink RX0 13 "NoteMix" "notesIn" "[I", Cond.methodLink RX0 40 Lib.Math.min.name, Cond.static Lib.Math.min.name, Cond.code Lib.Math.min.name Lib.Math.min.code 2 (some .int), Cond.methodLink RX0 59 yX0_keepMix, Cond.instanceMethod yX0_keepMix, Cond.selects RX0 yX0_keepMix yX0_keepMix, Cond.code yX0_keepMix cX0_keepMix 6 none]
def wsL_part : List Cond := .codeWith yL_part cL_part 5 (some .int) [(0, 10, 13, 13), (0, 10, 17, 19)] :: ((wsL_part_r1 ++ wsL_part_r2) ++ wsX00 ++ (vx_at0 RX0 51 "java/lang/IllegalArgumentException" ["java/lang/RuntimeException", "java/lang/Exception"]).filter goodWord ++ (vx_at0 RX0 54 "java/util/NoSuchElementException" ["java/lang/RuntimeException", "java/lang/Exception"]).filter goodWord)
def wsL_ways_r1 : List Cond := [Cond.classLink RL 13 "java/lang/IllegalArgumentException", Cond.methodLink RL 25 yX0_ways, Cond.instanceMethod yX0_ways, Cond.selects RX0 yX0_ways yX0_ways, Cond.initialized RX0, Cond.code yX0_ways cX0_ways 2 (some .int), Cond.fieldLink RX0 23 "NoteMix" "mixCount" "I", Cond.methodLink RX0 29 yX0_requireRange, Cond.static yX0_requireRange, Cond.code yX0_requireRange cX0_requireRange 3 none, Cond.classLink RX0 49 "java/lang/IllegalArgumentException", Cond.initialized "java/lang/IllegalArgumentException", Cond.methodLink RX0 37 yX0_survey, Cond.instanceMethod yX0_survey, Cond.selects RX0 yX0_survey yX0_survey, Cond.code yX0_survey cX0_survey 14 none, Cond.fieldLink RX0 19 "NoteMix" "bestSize" "I", Cond.fieldLink RX0 9 "NoteMix" "worthOf" "[I", Cond.methodLink RX0 55 yX0_mostNotes, Cond.instanceMethod yX0_mostNotes, Cond.selects RX0 yX0_mostNotes yX0_mostNotes, Cond.code yX0_mostNotes cX0_mostNotes 5 (some .int), Cond.methodLink RX0 63 Lib.Math.max.name, Cond.static Lib.Math.max.name]
def wsL_ways_r2 : List Cond := [Cond.initialized "java/lang/Math", Cond.code Lib.Math.max.name Lib.Math.max.code 2 (some .int), Cond.fieldLink RX0 13 "NoteMix" "notesIn" "[I", Cond.methodLink RX0 40 Lib.Math.min.name, Cond.static Lib.Math.min.name, Cond.code Lib.Math.min.name Lib.Math.min.code 2 (some .int), Cond.methodLink RX0 59 yX0_keepMix, Cond.instanceMethod yX0_keepMix, Cond.selects RX0 yX0_keepMix yX0_keepMix, Cond.code yX0_keepMix cX0_keepMix 6 none, Cond.fieldLink RX0 16 "NoteMix" "bestMix" "[I"]
def wsL_ways : List Cond := .codeWith yL_ways cL_ways 4 (some .int) [(0, 9, 12, 13)] :: ((wsL_ways_r1 ++ wsL_ways_r2) ++ wsX00 ++ (vx_at0 RX0 51 "java/lang/IllegalArgumentException" ["java/lang/RuntimeException", "java/lang/Exception"]).filter goodWord)
def wsL_pay_r1 : List Cond := [Cond.classLink RL 13 "java/lang/IllegalArgumentException", Cond.classLink RL 19 "java/util/NoSuchElementException", Cond.methodLink RL 28 yX0_pay, Cond.instanceMethod yX0_pay, Cond.selects RX0 yX0_pay yX0_pay, Cond.initialized RX0, Cond.code yX0_pay cX0_pay 7 (some .int), Cond.fieldLink RX0 16 "NoteMix" "bestMix" "[I", Cond.methodLink RX0 40 Lib.Math.min.name, Cond.static Lib.Math.min.name, Cond.initialized "java/lang/Math", Cond.code Lib.Math.min.name Lib.Math.min.code 2 (some .int), Cond.fieldLink RX0 13 "NoteMix" "notesIn" "[I", Cond.fieldLink RX0 9 "NoteMix" "worthOf" "[I", Cond.methodLink RX0 29 yX0_requireRange, Cond.static yX0_requireRange, Cond.code yX0_requireRange cX0_requireRange 3 none, Cond.classLink RX0 49 "java/lang/IllegalArgumentException", Cond.initialized "java/lang/IllegalArgumentException", Cond.methodLink RX0 33 yX0_findBest, Cond.instanceMethod yX0_findBest, Cond.selects RX0 yX0_findBest yX0_findBest, Cond.code yX0_findBest cX0_findBest 2 none, Cond.classLink RX0 52 "java/util/NoSuchElementException"]
def wsL_pay_r2 : List Cond := [Cond.initialized "java/util/NoSuchElementException", Cond.fieldLink RX0 23 "NoteMix" "mixCount" "I", Cond.methodLink RX0 37 yX0_survey, Cond.instanceMethod yX0_survey, Cond.selects RX0 yX0_survey yX0_survey, Cond.code yX0_survey cX0_survey 14 none, Cond.fieldLink RX0 19 "NoteMix" "bestSize" "I", Cond.methodLink RX0 55 yX0_mostNotes, Cond.instanceMethod yX0_mostNotes, Cond.selects RX0 yX0_mostNotes yX0_mostNotes, Cond.code yX0_mostNotes cX0_mostNotes 5 (some .int), Cond.methodLink RX0 63 Lib.Math.max.name, Cond.static Lib.Math.max.name, Cond.code Lib.Math.max.name Lib.Math.max.code 2 (some .int), Cond.methodLink RX0 59 yX0_keepMix, Cond.instanceMethod yX0_keepMix, Cond.selects RX0 yX0_keepMix yX0_keepMix, Cond.code yX0_keepMix cX0_keepMix 6 none]
def wsL_pay : List Cond := .codeWith yL_pay cL_pay 5 (some .int) [(0, 10, 13, 13), (0, 10, 17, 19)] :: ((wsL_pay_r1 ++ wsL_pay_r2) ++ wsX00 ++ (vx_at0 RX0 51 "java/lang/IllegalArgumentException" ["java/lang/RuntimeException", "java/lang/Exception"]).filter goodWord ++ (vx_at0 RX0 54 "java/util/NoSuchElementException" ["java/lang/RuntimeException", "java/lang/Exception"]).filter goodWord)
def wsL_next_r1 : List Cond := [Cond.classLink RL 13 "java/lang/IllegalArgumentException", Cond.methodLink RL 31 yX0_next, Cond.instanceMethod yX0_next, Cond.selects RX0 yX0_next yX0_next, Cond.initialized RX0, Cond.code yX0_next cX0_next 3 (some .int), Cond.fieldLink RX0 26 "NoteMix" "fewest" "[I", Cond.methodLink RX0 29 yX0_requireRange, Cond.static yX0_requireRange, Cond.code yX0_requireRange cX0_requireRange 3 none, Cond.classLink RX0 49 "java/lang/IllegalArgumentException", Cond.initialized "java/lang/IllegalArgumentException", Cond.methodLink RX0 46 yX0_fillFewest, Cond.instanceMethod yX0_fillFewest, Cond.selects RX0 yX0_fillFewest yX0_fillFewest, Cond.code yX0_fillFewest cX0_fillFewest 2 none, Cond.methodLink RX0 66 yJ7_fill_53178, Cond.static yJ7_fill_53178, Cond.initialized RJ7, Cond.code yJ7_fill_53178 cJ7_fill_53178 4 none, Cond.methodLink RX0 72 yX0_addCassette, Cond.instanceMethod yX0_addCassette, Cond.selects RX0 yX0_addCassette yX0_addCassette, Cond.code yX0_addCassette cX0_addCassette 5 none]
def wsL_next_r2 : List Cond := [Cond.fieldLink RX0 13 "NoteMix" "notesIn" "[I", Cond.methodLink RX0 40 Lib.Math.min.name, Cond.static Lib.Math.min.name, Cond.initialized "java/lang/Math", Cond.code Lib.Math.min.name Lib.Math.min.code 2 (some .int), Cond.fieldLink RX0 9 "NoteMix" "worthOf" "[I", Cond.methodLink RX0 75 yX0_addBundle, Cond.instanceMethod yX0_addBundle, Cond.selects RX0 yX0_addBundle yX0_addBundle, Cond.code yX0_addBundle cX0_addBundle 4 none]
def wsL_next : List Cond := .codeWith yL_next cL_next 4 (some .int) [(0, 9, 12, 13)] :: ((wsL_next_r1 ++ wsL_next_r2) ++ wsX00 ++ (vx_at0 RX0 51 "java/lang/IllegalArgumentException" ["java/lang/RuntimeException", "java/lang/Exception"]).filter goodWord)
def wsL_cassette : List Cond := .codeWith yL_cassette cL_cassette 5 (some .int) [(0, 10, 13, 13)] :: ([.classLink RL 13 "java/lang/IllegalArgumentException", .methodLink RL 34 yX0_cassette, .instanceMethod yX0_cassette, .selects RX0 yX0_cassette yX0_cassette, .initialized RX0, .code yX0_cassette cX0_cassette 3 (some .int), .fieldLink RX0 9 "NoteMix" "worthOf" "[I", .fieldLink RX0 13 "NoteMix" "notesIn" "[I", .methodLink RX0 29 yX0_requireRange, .static yX0_requireRange, .code yX0_requireRange cX0_requireRange 3 none, .classLink RX0 49 "java/lang/IllegalArgumentException", .initialized "java/lang/IllegalArgumentException"] ++ wsX00 ++ (vx_at0 RX0 51 "java/lang/IllegalArgumentException" ["java/lang/RuntimeException", "java/lang/Exception"]).filter goodWord)
def wsL_law0_r1 : List Cond := [Cond.classLink RL 8 RX0, Cond.instantiable RX0 6, Cond.initialized RX0, Cond.classLink RL 39 RX1, Cond.instantiable RX1 7, Cond.initialized RX1, Cond.methodLink RL 38 yX0_init, Cond.instanceMethod yX0_init, Cond.code yX0_init cX0_init 1 none, Cond.methodLink RX0 3 objectInit, Cond.instanceMethod objectInit, Cond.code objectInit ⟨#[0xb1]⟩ 1 none, Cond.arrayClass .int, Cond.fieldLink RX0 9 "NoteMix" "worthOf" "[I", Cond.fieldLink RX0 13 "NoteMix" "notesIn" "[I", Cond.fieldLink RX0 16 "NoteMix" "bestMix" "[I", Cond.fieldLink RX0 19 "NoteMix" "bestSize" "I", Cond.fieldLink RX0 23 "NoteMix" "mixCount" "I", Cond.fieldLink RX0 26 "NoteMix" "fewest" "[I", Cond.methodLink RL 41 yX1_init, Cond.instanceMethod yX1_init, Cond.code yX1_init cX1_init 1 none, Cond.methodLink RX1 1 objectInit, Cond.fieldLink RX1 7 "NoteMixModel" "worth" "[I"]
def wsL_law0_r2 : List Cond := [Cond.fieldLink RX1 13 "NoteMixModel" "notes" "[I", Cond.fieldLink RX1 16 "NoteMixModel" "chosen" "[I", Cond.fieldLink RX1 19 "NoteMixModel" "can" "[Z", Cond.methodLink RL 42 yL_load, Cond.static yL_load, Cond.initialized RL, Cond.codeWith yL_load cL_load 5 (some .int) [(0, 7, 10, 13)], Cond.classLink RL 13 "java/lang/IllegalArgumentException", Cond.methodLink RL 7 yX0_load, Cond.instanceMethod yX0_load, Cond.selects RX0 yX0_load yX0_load, Cond.code yX0_load cX0_load 4 none, Cond.methodLink RX0 29 yX0_requireRange, Cond.static yX0_requireRange, Cond.code yX0_requireRange cX0_requireRange 3 none, Cond.classLink RX0 49 "java/lang/IllegalArgumentException", Cond.initialized "java/lang/IllegalArgumentException", Cond.methodLink RL 52 yL_best, Cond.static yL_best, Cond.codeWith yL_best cL_best 4 (some .int) [(0, 9, 12, 13), (0, 9, 15, 19)], Cond.classLink RL 19 "java/util/NoSuchElementException", Cond.methodLink RL 15 yX0_best, Cond.instanceMethod yX0_best, Cond.selects RX0 yX0_best yX0_best]
def wsL_law0_r3 : List Cond := [Cond.code yX0_best cX0_best 2 (some .int), Cond.methodLink RX0 33 yX0_findBest, Cond.instanceMethod yX0_findBest, Cond.selects RX0 yX0_findBest yX0_findBest, Cond.code yX0_findBest cX0_findBest 2 none, Cond.classLink RX0 52 "java/util/NoSuchElementException", Cond.initialized "java/util/NoSuchElementException", Cond.methodLink RX0 37 yX0_survey, Cond.instanceMethod yX0_survey, Cond.selects RX0 yX0_survey yX0_survey, Cond.code yX0_survey cX0_survey 14 none, Cond.methodLink RX0 55 yX0_mostNotes, Cond.instanceMethod yX0_mostNotes, Cond.selects RX0 yX0_mostNotes yX0_mostNotes, Cond.code yX0_mostNotes cX0_mostNotes 5 (some .int), Cond.methodLink RX0 63 Lib.Math.max.name, Cond.static Lib.Math.max.name, Cond.initialized "java/lang/Math", Cond.code Lib.Math.max.name Lib.Math.max.code 2 (some .int), Cond.methodLink RX0 40 Lib.Math.min.name, Cond.static Lib.Math.min.name, Cond.code Lib.Math.min.name Lib.Math.min.code 2 (some .int), Cond.methodLink RX0 59 yX0_keepMix, Cond.instanceMethod yX0_keepMix]
def wsL_law0_r4 : List Cond := [Cond.selects RX0 yX0_keepMix yX0_keepMix, Cond.code yX0_keepMix cX0_keepMix 6 none, Cond.methodLink RL 56 yL_part, Cond.static yL_part, Cond.codeWith yL_part cL_part 5 (some .int) [(0, 10, 13, 13), (0, 10, 17, 19)], Cond.methodLink RL 21 yX0_part, Cond.instanceMethod yX0_part, Cond.selects RX0 yX0_part yX0_part, Cond.code yX0_part cX0_part 3 (some .int), Cond.methodLink RL 60 yL_ways, Cond.static yL_ways, Cond.codeWith yL_ways cL_ways 4 (some .int) [(0, 9, 12, 13)], Cond.methodLink RL 25 yX0_ways, Cond.instanceMethod yX0_ways, Cond.selects RX0 yX0_ways yX0_ways, Cond.code yX0_ways cX0_ways 2 (some .int), Cond.methodLink RL 63 yL_pay, Cond.static yL_pay, Cond.codeWith yL_pay cL_pay 5 (some .int) [(0, 10, 13, 13), (0, 10, 17, 19)], Cond.methodLink RL 28 yX0_pay, Cond.instanceMethod yX0_pay, Cond.selects RX0 yX0_pay yX0_pay, Cond.code yX0_pay cX0_pay 7 (some .int), Cond.methodLink RL 66 yL_next]
def wsL_law0_r5 : List Cond := [Cond.static yL_next, Cond.codeWith yL_next cL_next 4 (some .int) [(0, 9, 12, 13)], Cond.methodLink RL 31 yX0_next, Cond.instanceMethod yX0_next, Cond.selects RX0 yX0_next yX0_next, Cond.code yX0_next cX0_next 3 (some .int), Cond.methodLink RX0 46 yX0_fillFewest, Cond.instanceMethod yX0_fillFewest, Cond.selects RX0 yX0_fillFewest yX0_fillFewest, Cond.code yX0_fillFewest cX0_fillFewest 2 none, Cond.methodLink RX0 66 yJ7_fill_53178, Cond.static yJ7_fill_53178, Cond.initialized RJ7, Cond.code yJ7_fill_53178 cJ7_fill_53178 4 none, Cond.methodLink RX0 72 yX0_addCassette, Cond.instanceMethod yX0_addCassette, Cond.selects RX0 yX0_addCassette yX0_addCassette, Cond.code yX0_addCassette cX0_addCassette 5 none, Cond.methodLink RX0 75 yX0_addBundle, Cond.instanceMethod yX0_addBundle, Cond.selects RX0 yX0_addBundle yX0_addBundle, Cond.code yX0_addBundle cX0_addBundle 4 none, Cond.methodLink RL 69 yX0_reach, Cond.instanceMethod yX0_reach]
def wsL_law0_r6 : List Cond := [Cond.selects RX0 yX0_reach yX0_reach, Cond.code yX0_reach cX0_reach 3 (some .int), Cond.methodLink RL 73 yL_cassette, Cond.static yL_cassette, Cond.codeWith yL_cassette cL_cassette 5 (some .int) [(0, 10, 13, 13)], Cond.methodLink RL 34 yX0_cassette, Cond.instanceMethod yX0_cassette, Cond.selects RX0 yX0_cassette yX0_cassette, Cond.code yX0_cassette cX0_cassette 3 (some .int), Cond.methodLink RL 77 yX0_value, Cond.instanceMethod yX0_value, Cond.selects RX0 yX0_value yX0_value, Cond.code yX0_value cX0_value 3 (some .int)]
def wsL_law0 : List Cond := (wsL_law0_r1 ++ (wsL_law0_r2 ++ (wsL_law0_r3 ++ (wsL_law0_r4 ++ (wsL_law0_r5 ++ wsL_law0_r6))))) ++ wsX00 ++ wsX10 ++ ([] : List Cond)
def wsL_law : List Cond := wsL_law0 ++ (vx_at0 RX0 51 "java/lang/IllegalArgumentException" ["java/lang/RuntimeException", "java/lang/Exception"]).filter goodWord ++ (vx_at0 RX0 54 "java/util/NoSuchElementException" ["java/lang/RuntimeException", "java/lang/Exception"]).filter goodWord
set_option maxRecDepth 20000 in
theorem wsL_law_in0 : ∀ w ∈ wsL_law0, w ∈ lw_tbl := fun w h => (goodIn_p wsL_law0 [25, 28, 229, 82, 85, 155, 159, 163, 167, 170, 66, 174, 196, 203, 210, 217, 56, 59, 63, 70, 52, 224, 74] (by decide +kernel) (by decide +kernel) w h).1
theorem wsL_law_x0 : ∀ w ∈ (vx_at0 RX0 51 "java/lang/IllegalArgumentException" ["java/lang/RuntimeException", "java/lang/Exception"]).filter goodWord, w ∈ lw_tbl := by decide +kernel
theorem wsL_law_x1 : ∀ w ∈ (vx_at0 RX0 54 "java/util/NoSuchElementException" ["java/lang/RuntimeException", "java/lang/Exception"]).filter goodWord, w ∈ lw_tbl := by decide +kernel
theorem wsL_law_in : ∀ w ∈ wsL_law, w ∈ lw_tbl := fun w h => (List.mem_append.mp h).elim (fun h => (List.mem_append.mp h).elim (fun h => wsL_law_in0 w h) (fun h => wsL_law_x0 w h)) (fun h => wsL_law_x1 w h)
theorem inlX0 : ∀ w ∈ wsX00, w ∈ wsL_law := fun _ h => List.mem_append_left _ (List.mem_append_left _ (List.mem_append_left _ (List.mem_append_left _ (List.mem_append_right _ h))))
theorem inX0 : ∀ w ∈ wsX00, w ∈ lw_tbl := fun w h => wsL_law_in w (inlX0 w h)
theorem inlX1 : ∀ w ∈ wsX10, w ∈ wsL_law := fun _ h => List.mem_append_left _ (List.mem_append_left _ (List.mem_append_left _ (List.mem_append_right _ h)))
theorem inX1 : ∀ w ∈ wsX10, w ∈ lw_tbl := fun w h => wsL_law_in w (inlX1 w h)
theorem inJ9 : ∀ w ∈ wsJ90, w ∈ lw_tbl := by decide +kernel
theorem inJ7 : ∀ w ∈ wsJ70, w ∈ lw_tbl := by decide +kernel
theorem dX0_init_0 : decode cX0_init 0 = .ok (.aload_n 0, 1) := by decide +kernel
theorem dX0_init_1 : decode cX0_init 1 = .ok (.invokespecial 3, 3) := by decide +kernel
theorem dX0_init_4 : decode cX0_init 4 = .ok (.aload_n 0, 1) := by decide +kernel
theorem dX0_init_5 : decode cX0_init 5 = .ok (.iconst 4, 1) := by decide +kernel
theorem dX0_init_6 : decode cX0_init 6 = .ok (.newarray .int, 2) := by decide +kernel
theorem dX0_init_8 : decode cX0_init 8 = .ok (.dup, 1) := by decide +kernel
theorem dX0_init_9 : decode cX0_init 9 = .ok (.iconst 0, 1) := by decide +kernel
theorem dX0_init_10 : decode cX0_init 10 = .ok (.iconst 5, 1) := by decide +kernel
theorem dX0_init_11 : decode cX0_init 11 = .ok (.iastore, 1) := by decide +kernel
theorem dX0_init_12 : decode cX0_init 12 = .ok (.dup, 1) := by decide +kernel
theorem dX0_init_13 : decode cX0_init 13 = .ok (.iconst 1, 1) := by decide +kernel
theorem dX0_init_14 : decode cX0_init 14 = .ok (.bipush 10, 2) := by decide +kernel
theorem dX0_init_16 : decode cX0_init 16 = .ok (.iastore, 1) := by decide +kernel
theorem dX0_init_17 : decode cX0_init 17 = .ok (.dup, 1) := by decide +kernel
theorem dX0_init_18 : decode cX0_init 18 = .ok (.iconst 2, 1) := by decide +kernel
theorem dX0_init_19 : decode cX0_init 19 = .ok (.bipush 20, 2) := by decide +kernel
theorem dX0_init_21 : decode cX0_init 21 = .ok (.iastore, 1) := by decide +kernel
theorem dX0_init_22 : decode cX0_init 22 = .ok (.dup, 1) := by decide +kernel
theorem dX0_init_23 : decode cX0_init 23 = .ok (.iconst 3, 1) := by decide +kernel
theorem dX0_init_24 : decode cX0_init 24 = .ok (.bipush 50, 2) := by decide +kernel
theorem dX0_init_26 : decode cX0_init 26 = .ok (.iastore, 1) := by decide +kernel
theorem dX0_init_27 : decode cX0_init 27 = .ok (.putfield 9, 3) := by decide +kernel
theorem dX0_init_30 : decode cX0_init 30 = .ok (.aload_n 0, 1) := by decide +kernel
theorem dX0_init_31 : decode cX0_init 31 = .ok (.iconst 4, 1) := by decide +kernel
theorem dX0_init_32 : decode cX0_init 32 = .ok (.newarray .int, 2) := by decide +kernel
theorem dX0_init_34 : decode cX0_init 34 = .ok (.dup, 1) := by decide +kernel
theorem dX0_init_35 : decode cX0_init 35 = .ok (.iconst 0, 1) := by decide +kernel
theorem dX0_init_36 : decode cX0_init 36 = .ok (.bipush 30, 2) := by decide +kernel
theorem dX0_init_38 : decode cX0_init 38 = .ok (.iastore, 1) := by decide +kernel
theorem dX0_init_39 : decode cX0_init 39 = .ok (.dup, 1) := by decide +kernel
theorem dX0_init_40 : decode cX0_init 40 = .ok (.iconst 1, 1) := by decide +kernel
theorem dX0_init_41 : decode cX0_init 41 = .ok (.bipush 30, 2) := by decide +kernel
theorem dX0_init_43 : decode cX0_init 43 = .ok (.iastore, 1) := by decide +kernel
theorem dX0_init_44 : decode cX0_init 44 = .ok (.dup, 1) := by decide +kernel
theorem dX0_init_45 : decode cX0_init 45 = .ok (.iconst 2, 1) := by decide +kernel
theorem dX0_init_46 : decode cX0_init 46 = .ok (.bipush 30, 2) := by decide +kernel
theorem dX0_init_48 : decode cX0_init 48 = .ok (.iastore, 1) := by decide +kernel
theorem dX0_init_49 : decode cX0_init 49 = .ok (.dup, 1) := by decide +kernel
theorem dX0_init_50 : decode cX0_init 50 = .ok (.iconst 3, 1) := by decide +kernel
theorem dX0_init_51 : decode cX0_init 51 = .ok (.bipush 30, 2) := by decide +kernel
theorem dX0_init_53 : decode cX0_init 53 = .ok (.iastore, 1) := by decide +kernel
theorem dX0_init_54 : decode cX0_init 54 = .ok (.putfield 13, 3) := by decide +kernel
theorem dX0_init_57 : decode cX0_init 57 = .ok (.aload_n 0, 1) := by decide +kernel
theorem dX0_init_58 : decode cX0_init 58 = .ok (.iconst 4, 1) := by decide +kernel
theorem dX0_init_59 : decode cX0_init 59 = .ok (.newarray .int, 2) := by decide +kernel
theorem dX0_init_61 : decode cX0_init 61 = .ok (.putfield 16, 3) := by decide +kernel
theorem dX0_init_64 : decode cX0_init 64 = .ok (.aload_n 0, 1) := by decide +kernel
theorem dX0_init_65 : decode cX0_init 65 = .ok (.iconst 0, 1) := by decide +kernel
theorem dX0_init_66 : decode cX0_init 66 = .ok (.putfield 19, 3) := by decide +kernel
theorem dX0_init_69 : decode cX0_init 69 = .ok (.aload_n 0, 1) := by decide +kernel
theorem dX0_init_70 : decode cX0_init 70 = .ok (.iconst 0, 1) := by decide +kernel
theorem dX0_init_71 : decode cX0_init 71 = .ok (.putfield 23, 3) := by decide +kernel
theorem dX0_init_74 : decode cX0_init 74 = .ok (.aload_n 0, 1) := by decide +kernel
theorem dX0_init_75 : decode cX0_init 75 = .ok (.sipush 2001, 3) := by decide +kernel
theorem dX0_init_78 : decode cX0_init 78 = .ok (.newarray .int, 2) := by decide +kernel
theorem dX0_init_80 : decode cX0_init 80 = .ok (.putfield 26, 3) := by decide +kernel
theorem dX0_init_83 : decode cX0_init 83 = .ok (.return_, 1) := by decide +kernel
set_option maxRecDepth 20000 in
theorem ggX0_load_X0_requireRange : GoodIn wsX0_load wsX0_requireRange := goodIn_ca (goodIn_r _ [6, 7, 8] (by decide +kernel) (by decide +kernel)) (goodIn_sub (fun _ h => List.mem_cons_of_mem _ (List.mem_append_right _ h)) (by decide +kernel))
set_option maxRecDepth 20000 in
theorem gX0_load_X0_requireRange : GoodIn wsX0_load (va_wsS RX0 29 yX0_requireRange wsX0_requireRange) := goodIn_app (goodIn_of _ (by decide +kernel)) ggX0_load_X0_requireRange
theorem dX0_load_0 : decode cX0_load 0 = .ok (.iload_n 1, 1) := by decide +kernel
theorem dX0_load_1 : decode cX0_load 1 = .ok (.iconst 0, 1) := by decide +kernel
theorem dX0_load_2 : decode cX0_load 2 = .ok (.iconst 3, 1) := by decide +kernel
theorem dX0_load_3 : decode cX0_load 3 = .ok (.invokestatic 29, 3) := by decide +kernel
theorem dX0_load_6 : decode cX0_load 6 = .ok (.iload_n 2, 1) := by decide +kernel
theorem dX0_load_7 : decode cX0_load 7 = .ok (.iconst 1, 1) := by decide +kernel
theorem dX0_load_8 : decode cX0_load 8 = .ok (.sipush 500, 3) := by decide +kernel
theorem dX0_load_11 : decode cX0_load 11 = .ok (.invokestatic 29, 3) := by decide +kernel
theorem dX0_load_14 : decode cX0_load 14 = .ok (.iload_n 3, 1) := by decide +kernel
theorem dX0_load_15 : decode cX0_load 15 = .ok (.iconst 0, 1) := by decide +kernel
theorem dX0_load_16 : decode cX0_load 16 = .ok (.sipush 500, 3) := by decide +kernel
theorem dX0_load_19 : decode cX0_load 19 = .ok (.invokestatic 29, 3) := by decide +kernel
theorem dX0_load_22 : decode cX0_load 22 = .ok (.aload_n 0, 1) := by decide +kernel
theorem dX0_load_23 : decode cX0_load 23 = .ok (.getfield 9, 3) := by decide +kernel
theorem dX0_load_26 : decode cX0_load 26 = .ok (.iload_n 1, 1) := by decide +kernel
theorem dX0_load_27 : decode cX0_load 27 = .ok (.iload_n 2, 1) := by decide +kernel
theorem dX0_load_28 : decode cX0_load 28 = .ok (.iastore, 1) := by decide +kernel
theorem dX0_load_29 : decode cX0_load 29 = .ok (.aload_n 0, 1) := by decide +kernel
theorem dX0_load_30 : decode cX0_load 30 = .ok (.getfield 13, 3) := by decide +kernel
theorem dX0_load_33 : decode cX0_load 33 = .ok (.iload_n 1, 1) := by decide +kernel
theorem dX0_load_34 : decode cX0_load 34 = .ok (.iload_n 3, 1) := by decide +kernel
theorem dX0_load_35 : decode cX0_load 35 = .ok (.iastore, 1) := by decide +kernel
theorem dX0_load_36 : decode cX0_load 36 = .ok (.return_, 1) := by decide +kernel
set_option maxRecDepth 20000 in
theorem ggX0_best_X0_findBest : GoodIn wsX0_best wsX0_findBest := goodIn_ca (goodIn_ca (goodIn_r _ [6, 7, 8, 9, 10, 11, 5, 12, 13, 14, 15, 16, 17, 18, 1, 19, 20, 21, 22, 23, 24, 25, 26, 27, 28, 29, 30, 31, 32, 33, 34, 35, 36, 37, 38, 39, 40, 41, 42] (by decide +kernel) (by decide +kernel)) (goodIn_sub (fun _ h => List.mem_cons_of_mem _ (List.mem_append_left _ (List.mem_append_right _ h))) (by decide +kernel))) (goodIn_sub (fun _ h => List.mem_cons_of_mem _ (List.mem_append_right _ h)) (by decide +kernel))
set_option maxRecDepth 20000 in
theorem gX0_best_X0_findBest : GoodIn wsX0_best (wsV RX0 33 RX0 yX0_findBest wsX0_findBest) := goodIn_app (goodIn_of _ (by decide +kernel)) ggX0_best_X0_findBest
theorem dX0_best_0 : decode cX0_best 0 = .ok (.aload_n 0, 1) := by decide +kernel
theorem dX0_best_1 : decode cX0_best 1 = .ok (.iload_n 1, 1) := by decide +kernel
theorem dX0_best_2 : decode cX0_best 2 = .ok (.invokevirtual 33, 3) := by decide +kernel
theorem dX0_best_5 : decode cX0_best 5 = .ok (.aload_n 0, 1) := by decide +kernel
theorem dX0_best_6 : decode cX0_best 6 = .ok (.getfield 19, 3) := by decide +kernel
theorem dX0_best_9 : decode cX0_best 9 = .ok (.ireturn, 1) := by decide +kernel
set_option maxRecDepth 20000 in
theorem ggX0_part_X0_requireRange : GoodIn wsX0_part wsX0_requireRange := goodIn_ca (goodIn_r _ [5, 6, 7] (by decide +kernel) (by decide +kernel)) (goodIn_sub (fun _ h => List.mem_cons_of_mem _ (List.mem_append_left _ (List.mem_append_right _ h))) (by decide +kernel))
set_option maxRecDepth 20000 in
theorem gX0_part_X0_requireRange : GoodIn wsX0_part (va_wsS RX0 29 yX0_requireRange wsX0_requireRange) := goodIn_app (goodIn_of _ (by decide +kernel)) ggX0_part_X0_requireRange
set_option maxRecDepth 20000 in
theorem ggX0_part_X0_findBest : GoodIn wsX0_part wsX0_findBest := goodIn_ca (goodIn_ca (goodIn_r _ [11, 12, 13, 14, 2, 3, 4, 5, 6, 7, 15, 16, 17, 18, 19, 20, 21, 22, 23, 24, 25, 26, 27, 28, 29, 30, 31, 32, 33, 34, 35, 36, 1, 37, 38, 39, 40, 41, 42] (by decide +kernel) (by decide +kernel)) (goodIn_sub (fun _ h => List.mem_cons_of_mem _ (List.mem_append_right _ h)) (by decide +kernel))) (goodIn_sub (fun _ h => List.mem_cons_of_mem _ (List.mem_append_left _ (List.mem_append_right _ h))) (by decide +kernel))
set_option maxRecDepth 20000 in
theorem gX0_part_X0_findBest : GoodIn wsX0_part (wsV RX0 33 RX0 yX0_findBest wsX0_findBest) := goodIn_app (goodIn_of _ (by decide +kernel)) ggX0_part_X0_findBest
theorem dX0_part_0 : decode cX0_part 0 = .ok (.iload_n 2, 1) := by decide +kernel
theorem dX0_part_1 : decode cX0_part 1 = .ok (.iconst 0, 1) := by decide +kernel
theorem dX0_part_2 : decode cX0_part 2 = .ok (.iconst 3, 1) := by decide +kernel
theorem dX0_part_3 : decode cX0_part 3 = .ok (.invokestatic 29, 3) := by decide +kernel
theorem dX0_part_6 : decode cX0_part 6 = .ok (.aload_n 0, 1) := by decide +kernel
theorem dX0_part_7 : decode cX0_part 7 = .ok (.iload_n 1, 1) := by decide +kernel
theorem dX0_part_8 : decode cX0_part 8 = .ok (.invokevirtual 33, 3) := by decide +kernel
theorem dX0_part_11 : decode cX0_part 11 = .ok (.aload_n 0, 1) := by decide +kernel
theorem dX0_part_12 : decode cX0_part 12 = .ok (.getfield 16, 3) := by decide +kernel
theorem dX0_part_15 : decode cX0_part 15 = .ok (.iload_n 2, 1) := by decide +kernel
theorem dX0_part_16 : decode cX0_part 16 = .ok (.iaload, 1) := by decide +kernel
theorem dX0_part_17 : decode cX0_part 17 = .ok (.ireturn, 1) := by decide +kernel
set_option maxRecDepth 20000 in
theorem ggX0_ways_X0_requireRange : GoodIn wsX0_ways wsX0_requireRange := goodIn_ca (goodIn_r _ [5, 6, 7] (by decide +kernel) (by decide +kernel)) (goodIn_sub (fun _ h => List.mem_cons_of_mem _ (List.mem_append_right _ h)) (by decide +kernel))
set_option maxRecDepth 20000 in
theorem gX0_ways_X0_requireRange : GoodIn wsX0_ways (va_wsS RX0 29 yX0_requireRange wsX0_requireRange) := goodIn_app (goodIn_of _ (by decide +kernel)) ggX0_ways_X0_requireRange
set_option maxRecDepth 20000 in
theorem ggX0_ways_X0_survey : GoodIn wsX0_ways wsX0_survey := goodIn_r _ [11, 1, 12, 13, 14, 15, 16, 4, 17, 18, 19, 20, 21, 22, 23, 24, 25, 26, 27, 28, 29, 30, 31, 32, 33, 34, 35, 36] (by decide +kernel) (by decide +kernel)
set_option maxRecDepth 20000 in
theorem gX0_ways_X0_survey : GoodIn wsX0_ways (wsV RX0 37 RX0 yX0_survey wsX0_survey) := goodIn_app (goodIn_of _ (by decide +kernel)) ggX0_ways_X0_survey
theorem dX0_ways_0 : decode cX0_ways 0 = .ok (.iload_n 1, 1) := by decide +kernel
theorem dX0_ways_1 : decode cX0_ways 1 = .ok (.iconst 0, 1) := by decide +kernel
theorem dX0_ways_2 : decode cX0_ways 2 = .ok (.sipush 2000, 3) := by decide +kernel
theorem dX0_ways_5 : decode cX0_ways 5 = .ok (.invokestatic 29, 3) := by decide +kernel
theorem dX0_ways_8 : decode cX0_ways 8 = .ok (.aload_n 0, 1) := by decide +kernel
theorem dX0_ways_9 : decode cX0_ways 9 = .ok (.iload_n 1, 1) := by decide +kernel
theorem dX0_ways_10 : decode cX0_ways 10 = .ok (.invokevirtual 37, 3) := by decide +kernel
theorem dX0_ways_13 : decode cX0_ways 13 = .ok (.aload_n 0, 1) := by decide +kernel
theorem dX0_ways_14 : decode cX0_ways 14 = .ok (.getfield 23, 3) := by decide +kernel
theorem dX0_ways_17 : decode cX0_ways 17 = .ok (.ireturn, 1) := by decide +kernel
set_option maxRecDepth 20000 in
theorem ggX0_pay_X0_requireRange : GoodIn wsX0_pay wsX0_requireRange := goodIn_ca (goodIn_r _ [11, 12, 13] (by decide +kernel) (by decide +kernel)) (goodIn_sub (fun _ h => List.mem_cons_of_mem _ (List.mem_append_left _ (List.mem_append_right _ h))) (by decide +kernel))
set_option maxRecDepth 20000 in
theorem gX0_pay_X0_requireRange : GoodIn wsX0_pay (va_wsS RX0 29 yX0_requireRange wsX0_requireRange) := goodIn_app (goodIn_of _ (by decide +kernel)) ggX0_pay_X0_requireRange
set_option maxRecDepth 20000 in
theorem ggX0_pay_X0_findBest : GoodIn wsX0_pay wsX0_findBest := goodIn_ca (goodIn_ca (goodIn_r _ [17, 18, 19, 20, 8, 9, 10, 11, 12, 13, 21, 22, 23, 24, 25, 7, 26, 27, 28, 29, 30, 31, 4, 32, 6, 2, 3, 5, 33, 34, 35, 36, 1, 37, 38, 39, 40, 41, 42] (by decide +kernel) (by decide +kernel)) (goodIn_sub (fun _ h => List.mem_cons_of_mem _ (List.mem_append_right _ h)) (by decide +kernel))) (goodIn_sub (fun _ h => List.mem_cons_of_mem _ (List.mem_append_left _ (List.mem_append_right _ h))) (by decide +kernel))
set_option maxRecDepth 20000 in
theorem gX0_pay_X0_findBest : GoodIn wsX0_pay (wsV RX0 33 RX0 yX0_findBest wsX0_findBest) := goodIn_app (goodIn_of _ (by decide +kernel)) ggX0_pay_X0_findBest
theorem dX0_pay_0 : decode cX0_pay 0 = .ok (.iload_n 2, 1) := by decide +kernel
theorem dX0_pay_1 : decode cX0_pay 1 = .ok (.iconst 0, 1) := by decide +kernel
theorem dX0_pay_2 : decode cX0_pay 2 = .ok (.bipush 40, 2) := by decide +kernel
theorem dX0_pay_4 : decode cX0_pay 4 = .ok (.invokestatic 29, 3) := by decide +kernel
theorem dX0_pay_7 : decode cX0_pay 7 = .ok (.aload_n 0, 1) := by decide +kernel
theorem dX0_pay_8 : decode cX0_pay 8 = .ok (.iload_n 1, 1) := by decide +kernel
theorem dX0_pay_9 : decode cX0_pay 9 = .ok (.invokevirtual 33, 3) := by decide +kernel
theorem dX0_pay_12 : decode cX0_pay 12 = .ok (.iload_n 2, 1) := by decide +kernel
theorem dX0_pay_13 : decode cX0_pay 13 = .ok (.istore_n 3, 1) := by decide +kernel
theorem dX0_pay_14 : decode cX0_pay 14 = .ok (.iconst 0, 1) := by decide +kernel
theorem dX0_pay_15 : decode cX0_pay 15 = .ok (.istore 4, 2) := by decide +kernel
theorem dX0_pay_17 : decode cX0_pay 17 = .ok (.iconst 3, 1) := by decide +kernel
theorem dX0_pay_18 : decode cX0_pay 18 = .ok (.istore 5, 2) := by decide +kernel
theorem dX0_pay_20 : decode cX0_pay 20 = .ok (.iload 5, 2) := by decide +kernel
theorem dX0_pay_22 : decode cX0_pay 22 = .ok (.ifCond .lt 54, 3) := by decide +kernel
theorem dX0_pay_25 : decode cX0_pay 25 = .ok (.aload_n 0, 1) := by decide +kernel
theorem dX0_pay_26 : decode cX0_pay 26 = .ok (.getfield 16, 3) := by decide +kernel
theorem dX0_pay_29 : decode cX0_pay 29 = .ok (.iload 5, 2) := by decide +kernel
theorem dX0_pay_31 : decode cX0_pay 31 = .ok (.iaload, 1) := by decide +kernel
theorem dX0_pay_32 : decode cX0_pay 32 = .ok (.iload_n 3, 1) := by decide +kernel
theorem dX0_pay_33 : decode cX0_pay 33 = .ok (.invokestatic 40, 3) := by decide +kernel
theorem dX0_pay_36 : decode cX0_pay 36 = .ok (.istore 6, 2) := by decide +kernel
theorem dX0_pay_38 : decode cX0_pay 38 = .ok (.aload_n 0, 1) := by decide +kernel
theorem dX0_pay_39 : decode cX0_pay 39 = .ok (.getfield 13, 3) := by decide +kernel
theorem dX0_pay_42 : decode cX0_pay 42 = .ok (.iload 5, 2) := by decide +kernel
theorem dX0_pay_44 : decode cX0_pay 44 = .ok (.dup2, 1) := by decide +kernel
theorem dX0_pay_45 : decode cX0_pay 45 = .ok (.iaload, 1) := by decide +kernel
theorem dX0_pay_46 : decode cX0_pay 46 = .ok (.iload 6, 2) := by decide +kernel
theorem dX0_pay_48 : decode cX0_pay 48 = .ok (.isub, 1) := by decide +kernel
theorem dX0_pay_49 : decode cX0_pay 49 = .ok (.iastore, 1) := by decide +kernel
theorem dX0_pay_50 : decode cX0_pay 50 = .ok (.iload_n 3, 1) := by decide +kernel
theorem dX0_pay_51 : decode cX0_pay 51 = .ok (.iload 6, 2) := by decide +kernel
theorem dX0_pay_53 : decode cX0_pay 53 = .ok (.isub, 1) := by decide +kernel
theorem dX0_pay_54 : decode cX0_pay 54 = .ok (.istore_n 3, 1) := by decide +kernel
theorem dX0_pay_55 : decode cX0_pay 55 = .ok (.iload 4, 2) := by decide +kernel
theorem dX0_pay_57 : decode cX0_pay 57 = .ok (.iload 6, 2) := by decide +kernel
theorem dX0_pay_59 : decode cX0_pay 59 = .ok (.aload_n 0, 1) := by decide +kernel
theorem dX0_pay_60 : decode cX0_pay 60 = .ok (.getfield 9, 3) := by decide +kernel
theorem dX0_pay_63 : decode cX0_pay 63 = .ok (.iload 5, 2) := by decide +kernel
theorem dX0_pay_65 : decode cX0_pay 65 = .ok (.iaload, 1) := by decide +kernel
theorem dX0_pay_66 : decode cX0_pay 66 = .ok (.imul, 1) := by decide +kernel
theorem dX0_pay_67 : decode cX0_pay 67 = .ok (.iadd, 1) := by decide +kernel
theorem dX0_pay_68 : decode cX0_pay 68 = .ok (.istore 4, 2) := by decide +kernel
theorem dX0_pay_70 : decode cX0_pay 70 = .ok (.iinc 5 (-1), 3) := by decide +kernel
theorem dX0_pay_73 : decode cX0_pay 73 = .ok (.goto (-53), 3) := by decide +kernel
theorem dX0_pay_76 : decode cX0_pay 76 = .ok (.iload 4, 2) := by decide +kernel
theorem dX0_pay_78 : decode cX0_pay 78 = .ok (.ireturn, 1) := by decide +kernel
set_option maxRecDepth 20000 in
theorem ggX0_next_X0_requireRange : GoodIn wsX0_next wsX0_requireRange := goodIn_ca (goodIn_r _ [5, 6, 7] (by decide +kernel) (by decide +kernel)) (goodIn_sub (fun _ h => List.mem_cons_of_mem _ (List.mem_append_right _ h)) (by decide +kernel))
set_option maxRecDepth 20000 in
theorem gX0_next_X0_requireRange : GoodIn wsX0_next (va_wsS RX0 29 yX0_requireRange wsX0_requireRange) := goodIn_app (goodIn_of _ (by decide +kernel)) ggX0_next_X0_requireRange
set_option maxRecDepth 20000 in
theorem ggX0_next_X0_fillFewest : GoodIn wsX0_next wsX0_fillFewest := goodIn_r _ [11, 1, 12, 13, 14, 15, 16, 17, 18, 4, 19, 20, 21, 22, 23, 24, 25, 26, 27, 28, 29, 30, 31, 32, 33, 34, 35] (by decide +kernel) (by decide +kernel)
set_option maxRecDepth 20000 in
theorem gX0_next_X0_fillFewest : GoodIn wsX0_next (wsV RX0 46 RX0 yX0_fillFewest wsX0_fillFewest) := goodIn_app (goodIn_of _ (by decide +kernel)) ggX0_next_X0_fillFewest
theorem dX0_next_0 : decode cX0_next 0 = .ok (.iload_n 1, 1) := by decide +kernel
theorem dX0_next_1 : decode cX0_next 1 = .ok (.iconst 0, 1) := by decide +kernel
theorem dX0_next_2 : decode cX0_next 2 = .ok (.sipush 2000, 3) := by decide +kernel
theorem dX0_next_5 : decode cX0_next 5 = .ok (.invokestatic 29, 3) := by decide +kernel
theorem dX0_next_8 : decode cX0_next 8 = .ok (.aload_n 0, 1) := by decide +kernel
theorem dX0_next_9 : decode cX0_next 9 = .ok (.invokevirtual 46, 3) := by decide +kernel
theorem dX0_next_12 : decode cX0_next 12 = .ok (.iload_n 1, 1) := by decide +kernel
theorem dX0_next_13 : decode cX0_next 13 = .ok (.istore_n 2, 1) := by decide +kernel
theorem dX0_next_14 : decode cX0_next 14 = .ok (.iload_n 2, 1) := by decide +kernel
theorem dX0_next_15 : decode cX0_next 15 = .ok (.sipush 2000, 3) := by decide +kernel
theorem dX0_next_18 : decode cX0_next 18 = .ok (.if_icmp .gt 22, 3) := by decide +kernel
theorem dX0_next_21 : decode cX0_next 21 = .ok (.aload_n 0, 1) := by decide +kernel
theorem dX0_next_22 : decode cX0_next 22 = .ok (.getfield 26, 3) := by decide +kernel
theorem dX0_next_25 : decode cX0_next 25 = .ok (.iload_n 2, 1) := by decide +kernel
theorem dX0_next_26 : decode cX0_next 26 = .ok (.iaload, 1) := by decide +kernel
theorem dX0_next_27 : decode cX0_next 27 = .ok (.bipush 41, 2) := by decide +kernel
theorem dX0_next_29 : decode cX0_next 29 = .ok (.if_icmp .ge 5, 3) := by decide +kernel
theorem dX0_next_32 : decode cX0_next 32 = .ok (.iload_n 2, 1) := by decide +kernel
theorem dX0_next_33 : decode cX0_next 33 = .ok (.ireturn, 1) := by decide +kernel
theorem dX0_next_34 : decode cX0_next 34 = .ok (.iinc 2 1, 3) := by decide +kernel
theorem dX0_next_37 : decode cX0_next 37 = .ok (.goto (-23), 3) := by decide +kernel
theorem dX0_next_40 : decode cX0_next 40 = .ok (.iconst (-1), 1) := by decide +kernel
theorem dX0_next_41 : decode cX0_next 41 = .ok (.ireturn, 1) := by decide +kernel
set_option maxRecDepth 20000 in
theorem ggX0_reach_X0_fillFewest : GoodIn wsX0_reach wsX0_fillFewest := goodIn_r _ [6, 1, 7, 8, 9, 10, 11, 12, 13, 5, 14, 15, 16, 17, 18, 19, 20, 21, 22, 23, 24, 25, 26, 27, 28, 29, 30] (by decide +kernel) (by decide +kernel)
set_option maxRecDepth 20000 in
theorem gX0_reach_X0_fillFewest : GoodIn wsX0_reach (wsV RX0 46 RX0 yX0_fillFewest wsX0_fillFewest) := goodIn_app (goodIn_of _ (by decide +kernel)) ggX0_reach_X0_fillFewest
theorem dX0_reach_0 : decode cX0_reach 0 = .ok (.aload_n 0, 1) := by decide +kernel
theorem dX0_reach_1 : decode cX0_reach 1 = .ok (.invokevirtual 46, 3) := by decide +kernel
theorem dX0_reach_4 : decode cX0_reach 4 = .ok (.iconst 0, 1) := by decide +kernel
theorem dX0_reach_5 : decode cX0_reach 5 = .ok (.istore_n 1, 1) := by decide +kernel
theorem dX0_reach_6 : decode cX0_reach 6 = .ok (.iconst 0, 1) := by decide +kernel
theorem dX0_reach_7 : decode cX0_reach 7 = .ok (.istore_n 2, 1) := by decide +kernel
theorem dX0_reach_8 : decode cX0_reach 8 = .ok (.iload_n 2, 1) := by decide +kernel
theorem dX0_reach_9 : decode cX0_reach 9 = .ok (.sipush 2000, 3) := by decide +kernel
theorem dX0_reach_12 : decode cX0_reach 12 = .ok (.if_icmp .gt 23, 3) := by decide +kernel
theorem dX0_reach_15 : decode cX0_reach 15 = .ok (.aload_n 0, 1) := by decide +kernel
theorem dX0_reach_16 : decode cX0_reach 16 = .ok (.getfield 26, 3) := by decide +kernel
theorem dX0_reach_19 : decode cX0_reach 19 = .ok (.iload_n 2, 1) := by decide +kernel
theorem dX0_reach_20 : decode cX0_reach 20 = .ok (.iaload, 1) := by decide +kernel
theorem dX0_reach_21 : decode cX0_reach 21 = .ok (.bipush 41, 2) := by decide +kernel
theorem dX0_reach_23 : decode cX0_reach 23 = .ok (.if_icmp .ge 6, 3) := by decide +kernel
theorem dX0_reach_26 : decode cX0_reach 26 = .ok (.iinc 1 1, 3) := by decide +kernel
theorem dX0_reach_29 : decode cX0_reach 29 = .ok (.iinc 2 1, 3) := by decide +kernel
theorem dX0_reach_32 : decode cX0_reach 32 = .ok (.goto (-24), 3) := by decide +kernel
theorem dX0_reach_35 : decode cX0_reach 35 = .ok (.iload_n 1, 1) := by decide +kernel
theorem dX0_reach_36 : decode cX0_reach 36 = .ok (.ireturn, 1) := by decide +kernel
set_option maxRecDepth 20000 in
theorem ggX0_cassette_X0_requireRange : GoodIn wsX0_cassette wsX0_requireRange := goodIn_ca (goodIn_r _ [6, 7, 8] (by decide +kernel) (by decide +kernel)) (goodIn_sub (fun _ h => List.mem_cons_of_mem _ (List.mem_append_right _ h)) (by decide +kernel))
set_option maxRecDepth 20000 in
theorem gX0_cassette_X0_requireRange : GoodIn wsX0_cassette (va_wsS RX0 29 yX0_requireRange wsX0_requireRange) := goodIn_app (goodIn_of _ (by decide +kernel)) ggX0_cassette_X0_requireRange
theorem dX0_cassette_0 : decode cX0_cassette 0 = .ok (.iload_n 1, 1) := by decide +kernel
theorem dX0_cassette_1 : decode cX0_cassette 1 = .ok (.iconst 0, 1) := by decide +kernel
theorem dX0_cassette_2 : decode cX0_cassette 2 = .ok (.iconst 3, 1) := by decide +kernel
theorem dX0_cassette_3 : decode cX0_cassette 3 = .ok (.invokestatic 29, 3) := by decide +kernel
theorem dX0_cassette_6 : decode cX0_cassette 6 = .ok (.iload_n 2, 1) := by decide +kernel
theorem dX0_cassette_7 : decode cX0_cassette 7 = .ok (.ifCond .eq 12, 3) := by decide +kernel
theorem dX0_cassette_10 : decode cX0_cassette 10 = .ok (.aload_n 0, 1) := by decide +kernel
theorem dX0_cassette_11 : decode cX0_cassette 11 = .ok (.getfield 9, 3) := by decide +kernel
theorem dX0_cassette_14 : decode cX0_cassette 14 = .ok (.iload_n 1, 1) := by decide +kernel
theorem dX0_cassette_15 : decode cX0_cassette 15 = .ok (.iaload, 1) := by decide +kernel
theorem dX0_cassette_16 : decode cX0_cassette 16 = .ok (.goto 9, 3) := by decide +kernel
theorem dX0_cassette_19 : decode cX0_cassette 19 = .ok (.aload_n 0, 1) := by decide +kernel
theorem dX0_cassette_20 : decode cX0_cassette 20 = .ok (.getfield 13, 3) := by decide +kernel
theorem dX0_cassette_23 : decode cX0_cassette 23 = .ok (.iload_n 1, 1) := by decide +kernel
theorem dX0_cassette_24 : decode cX0_cassette 24 = .ok (.iaload, 1) := by decide +kernel
theorem dX0_cassette_25 : decode cX0_cassette 25 = .ok (.ireturn, 1) := by decide +kernel
theorem dX0_value_0 : decode cX0_value 0 = .ok (.iconst 0, 1) := by decide +kernel
theorem dX0_value_1 : decode cX0_value 1 = .ok (.istore_n 1, 1) := by decide +kernel
theorem dX0_value_2 : decode cX0_value 2 = .ok (.iconst 0, 1) := by decide +kernel
theorem dX0_value_3 : decode cX0_value 3 = .ok (.istore_n 2, 1) := by decide +kernel
theorem dX0_value_4 : decode cX0_value 4 = .ok (.iload_n 2, 1) := by decide +kernel
theorem dX0_value_5 : decode cX0_value 5 = .ok (.iconst 3, 1) := by decide +kernel
theorem dX0_value_6 : decode cX0_value 6 = .ok (.if_icmp .gt 25, 3) := by decide +kernel
theorem dX0_value_9 : decode cX0_value 9 = .ok (.iload_n 1, 1) := by decide +kernel
theorem dX0_value_10 : decode cX0_value 10 = .ok (.aload_n 0, 1) := by decide +kernel
theorem dX0_value_11 : decode cX0_value 11 = .ok (.getfield 13, 3) := by decide +kernel
theorem dX0_value_14 : decode cX0_value 14 = .ok (.iload_n 2, 1) := by decide +kernel
theorem dX0_value_15 : decode cX0_value 15 = .ok (.iaload, 1) := by decide +kernel
theorem dX0_value_16 : decode cX0_value 16 = .ok (.aload_n 0, 1) := by decide +kernel
theorem dX0_value_17 : decode cX0_value 17 = .ok (.getfield 9, 3) := by decide +kernel
theorem dX0_value_20 : decode cX0_value 20 = .ok (.iload_n 2, 1) := by decide +kernel
theorem dX0_value_21 : decode cX0_value 21 = .ok (.iaload, 1) := by decide +kernel
theorem dX0_value_22 : decode cX0_value 22 = .ok (.imul, 1) := by decide +kernel
theorem dX0_value_23 : decode cX0_value 23 = .ok (.iadd, 1) := by decide +kernel
theorem dX0_value_24 : decode cX0_value 24 = .ok (.istore_n 1, 1) := by decide +kernel
theorem dX0_value_25 : decode cX0_value 25 = .ok (.iinc 2 1, 3) := by decide +kernel
theorem dX0_value_28 : decode cX0_value 28 = .ok (.goto (-24), 3) := by decide +kernel
theorem dX0_value_31 : decode cX0_value 31 = .ok (.iload_n 1, 1) := by decide +kernel
theorem dX0_value_32 : decode cX0_value 32 = .ok (.ireturn, 1) := by decide +kernel
theorem dX0_requireRange_0 : decode cX0_requireRange 0 = .ok (.iload_n 0, 1) := by decide +kernel
theorem dX0_requireRange_1 : decode cX0_requireRange 1 = .ok (.iload_n 1, 1) := by decide +kernel
theorem dX0_requireRange_2 : decode cX0_requireRange 2 = .ok (.if_icmp .lt 8, 3) := by decide +kernel
theorem dX0_requireRange_5 : decode cX0_requireRange 5 = .ok (.iload_n 0, 1) := by decide +kernel
theorem dX0_requireRange_6 : decode cX0_requireRange 6 = .ok (.iload_n 2, 1) := by decide +kernel
theorem dX0_requireRange_7 : decode cX0_requireRange 7 = .ok (.if_icmp .le 11, 3) := by decide +kernel
theorem dX0_requireRange_10 : decode cX0_requireRange 10 = .ok (.new 49, 3) := by decide +kernel
theorem dX0_requireRange_13 : decode cX0_requireRange 13 = .ok (.dup, 1) := by decide +kernel
theorem dX0_requireRange_14 : decode cX0_requireRange 14 = .ok (.invokespecial 51, 3) := by decide +kernel
theorem dX0_requireRange_17 : decode cX0_requireRange 17 = .ok (.athrow, 1) := by decide +kernel
theorem dX0_requireRange_18 : decode cX0_requireRange 18 = .ok (.return_, 1) := by decide +kernel
set_option maxRecDepth 20000 in
theorem ggX0_findBest_X0_requireRange : GoodIn wsX0_findBest wsX0_requireRange := goodIn_ca (goodIn_r _ [7, 8, 9] (by decide +kernel) (by decide +kernel)) (goodIn_sub (fun _ h => List.mem_cons_of_mem _ (List.mem_append_right _ h)) (by decide +kernel))
set_option maxRecDepth 20000 in
theorem gX0_findBest_X0_requireRange : GoodIn wsX0_findBest (va_wsS RX0 29 yX0_requireRange wsX0_requireRange) := goodIn_app (goodIn_of _ (by decide +kernel)) ggX0_findBest_X0_requireRange
set_option maxRecDepth 20000 in
theorem ggX0_findBest_X0_survey : GoodIn wsX0_findBest wsX0_survey := goodIn_r _ [13, 3, 14, 15, 16, 17, 18, 6, 19, 20, 21, 22, 23, 24, 25, 26, 27, 28, 29, 30, 31, 32, 33, 34, 35, 36, 37, 38] (by decide +kernel) (by decide +kernel)
set_option maxRecDepth 20000 in
theorem gX0_findBest_X0_survey : GoodIn wsX0_findBest (wsV RX0 37 RX0 yX0_survey wsX0_survey) := goodIn_app (goodIn_of _ (by decide +kernel)) ggX0_findBest_X0_survey
theorem dX0_findBest_0 : decode cX0_findBest 0 = .ok (.iload_n 1, 1) := by decide +kernel
theorem dX0_findBest_1 : decode cX0_findBest 1 = .ok (.iconst 0, 1) := by decide +kernel
theorem dX0_findBest_2 : decode cX0_findBest 2 = .ok (.sipush 2000, 3) := by decide +kernel
theorem dX0_findBest_5 : decode cX0_findBest 5 = .ok (.invokestatic 29, 3) := by decide +kernel
theorem dX0_findBest_8 : decode cX0_findBest 8 = .ok (.aload_n 0, 1) := by decide +kernel
theorem dX0_findBest_9 : decode cX0_findBest 9 = .ok (.iload_n 1, 1) := by decide +kernel
theorem dX0_findBest_10 : decode cX0_findBest 10 = .ok (.invokevirtual 37, 3) := by decide +kernel
theorem dX0_findBest_13 : decode cX0_findBest 13 = .ok (.aload_n 0, 1) := by decide +kernel
theorem dX0_findBest_14 : decode cX0_findBest 14 = .ok (.getfield 23, 3) := by decide +kernel
theorem dX0_findBest_17 : decode cX0_findBest 17 = .ok (.ifCond .ne 11, 3) := by decide +kernel
theorem dX0_findBest_20 : decode cX0_findBest 20 = .ok (.new 52, 3) := by decide +kernel
theorem dX0_findBest_23 : decode cX0_findBest 23 = .ok (.dup, 1) := by decide +kernel
theorem dX0_findBest_24 : decode cX0_findBest 24 = .ok (.invokespecial 54, 3) := by decide +kernel
theorem dX0_findBest_27 : decode cX0_findBest 27 = .ok (.athrow, 1) := by decide +kernel
theorem dX0_findBest_28 : decode cX0_findBest 28 = .ok (.return_, 1) := by decide +kernel
set_option maxRecDepth 20000 in
theorem ggX0_survey_X0_mostNotes : GoodIn wsX0_survey wsX0_mostNotes := goodIn_r _ [8, 3, 9, 10, 11, 12, 13, 14, 15, 16, 22, 23, 24, 25, 26, 27] (by decide +kernel) (by decide +kernel)
set_option maxRecDepth 20000 in
theorem gX0_survey_X0_mostNotes : GoodIn wsX0_survey (wsV RX0 55 RX0 yX0_mostNotes wsX0_mostNotes) := goodIn_app (goodIn_of _ (by decide +kernel)) ggX0_survey_X0_mostNotes
set_option maxRecDepth 20000 in
theorem ggX0_survey_X0_keepMix : GoodIn wsX0_survey wsX0_keepMix := goodIn_r _ [20, 1, 2, 21, 22, 23, 24, 25, 26, 27] (by decide +kernel) (by decide +kernel)
set_option maxRecDepth 20000 in
theorem gX0_survey_X0_keepMix : GoodIn wsX0_survey (wsV RX0 59 RX0 yX0_keepMix wsX0_keepMix) := goodIn_app (goodIn_of _ (by decide +kernel)) ggX0_survey_X0_keepMix
theorem dX0_survey_0 : decode cX0_survey 0 = .ok (.aload_n 0, 1) := by decide +kernel
theorem dX0_survey_1 : decode cX0_survey 1 = .ok (.iconst 0, 1) := by decide +kernel
theorem dX0_survey_2 : decode cX0_survey 2 = .ok (.putfield 23, 3) := by decide +kernel
theorem dX0_survey_5 : decode cX0_survey 5 = .ok (.aload_n 0, 1) := by decide +kernel
theorem dX0_survey_6 : decode cX0_survey 6 = .ok (.bipush 41, 2) := by decide +kernel
theorem dX0_survey_8 : decode cX0_survey 8 = .ok (.putfield 19, 3) := by decide +kernel
theorem dX0_survey_11 : decode cX0_survey 11 = .ok (.aload_n 0, 1) := by decide +kernel
theorem dX0_survey_12 : decode cX0_survey 12 = .ok (.iconst 3, 1) := by decide +kernel
theorem dX0_survey_13 : decode cX0_survey 13 = .ok (.iload_n 1, 1) := by decide +kernel
theorem dX0_survey_14 : decode cX0_survey 14 = .ok (.bipush 40, 2) := by decide +kernel
theorem dX0_survey_16 : decode cX0_survey 16 = .ok (.invokevirtual 55, 3) := by decide +kernel
theorem dX0_survey_19 : decode cX0_survey 19 = .ok (.istore_n 2, 1) := by decide +kernel
theorem dX0_survey_20 : decode cX0_survey 20 = .ok (.iconst 0, 1) := by decide +kernel
theorem dX0_survey_21 : decode cX0_survey 21 = .ok (.istore_n 3, 1) := by decide +kernel
theorem dX0_survey_22 : decode cX0_survey 22 = .ok (.iload_n 3, 1) := by decide +kernel
theorem dX0_survey_23 : decode cX0_survey 23 = .ok (.iload_n 2, 1) := by decide +kernel
theorem dX0_survey_24 : decode cX0_survey 24 = .ok (.if_icmp .gt 155, 3) := by decide +kernel
theorem dX0_survey_27 : decode cX0_survey 27 = .ok (.iload_n 1, 1) := by decide +kernel
theorem dX0_survey_28 : decode cX0_survey 28 = .ok (.iload_n 3, 1) := by decide +kernel
theorem dX0_survey_29 : decode cX0_survey 29 = .ok (.aload_n 0, 1) := by decide +kernel
theorem dX0_survey_30 : decode cX0_survey 30 = .ok (.getfield 9, 3) := by decide +kernel
theorem dX0_survey_33 : decode cX0_survey 33 = .ok (.iconst 3, 1) := by decide +kernel
theorem dX0_survey_34 : decode cX0_survey 34 = .ok (.iaload, 1) := by decide +kernel
theorem dX0_survey_35 : decode cX0_survey 35 = .ok (.imul, 1) := by decide +kernel
theorem dX0_survey_36 : decode cX0_survey 36 = .ok (.isub, 1) := by decide +kernel
theorem dX0_survey_37 : decode cX0_survey 37 = .ok (.istore 4, 2) := by decide +kernel
theorem dX0_survey_39 : decode cX0_survey 39 = .ok (.bipush 40, 2) := by decide +kernel
theorem dX0_survey_41 : decode cX0_survey 41 = .ok (.iload_n 3, 1) := by decide +kernel
theorem dX0_survey_42 : decode cX0_survey 42 = .ok (.isub, 1) := by decide +kernel
theorem dX0_survey_43 : decode cX0_survey 43 = .ok (.istore 5, 2) := by decide +kernel
theorem dX0_survey_45 : decode cX0_survey 45 = .ok (.aload_n 0, 1) := by decide +kernel
theorem dX0_survey_46 : decode cX0_survey 46 = .ok (.iconst 2, 1) := by decide +kernel
theorem dX0_survey_47 : decode cX0_survey 47 = .ok (.iload 4, 2) := by decide +kernel
theorem dX0_survey_49 : decode cX0_survey 49 = .ok (.iload 5, 2) := by decide +kernel
theorem dX0_survey_51 : decode cX0_survey 51 = .ok (.invokevirtual 55, 3) := by decide +kernel
theorem dX0_survey_54 : decode cX0_survey 54 = .ok (.istore 6, 2) := by decide +kernel
theorem dX0_survey_56 : decode cX0_survey 56 = .ok (.iconst 0, 1) := by decide +kernel
theorem dX0_survey_57 : decode cX0_survey 57 = .ok (.istore 7, 2) := by decide +kernel
theorem dX0_survey_59 : decode cX0_survey 59 = .ok (.iload 7, 2) := by decide +kernel
theorem dX0_survey_61 : decode cX0_survey 61 = .ok (.iload 6, 2) := by decide +kernel
theorem dX0_survey_63 : decode cX0_survey 63 = .ok (.if_icmp .gt 110, 3) := by decide +kernel
theorem dX0_survey_66 : decode cX0_survey 66 = .ok (.iload 4, 2) := by decide +kernel
theorem dX0_survey_68 : decode cX0_survey 68 = .ok (.iload 7, 2) := by decide +kernel
theorem dX0_survey_70 : decode cX0_survey 70 = .ok (.aload_n 0, 1) := by decide +kernel
theorem dX0_survey_71 : decode cX0_survey 71 = .ok (.getfield 9, 3) := by decide +kernel
theorem dX0_survey_74 : decode cX0_survey 74 = .ok (.iconst 2, 1) := by decide +kernel
theorem dX0_survey_75 : decode cX0_survey 75 = .ok (.iaload, 1) := by decide +kernel
theorem dX0_survey_76 : decode cX0_survey 76 = .ok (.imul, 1) := by decide +kernel
theorem dX0_survey_77 : decode cX0_survey 77 = .ok (.isub, 1) := by decide +kernel
theorem dX0_survey_78 : decode cX0_survey 78 = .ok (.istore 8, 2) := by decide +kernel
theorem dX0_survey_80 : decode cX0_survey 80 = .ok (.iload 5, 2) := by decide +kernel
theorem dX0_survey_82 : decode cX0_survey 82 = .ok (.iload 7, 2) := by decide +kernel
theorem dX0_survey_84 : decode cX0_survey 84 = .ok (.isub, 1) := by decide +kernel
theorem dX0_survey_85 : decode cX0_survey 85 = .ok (.istore 9, 2) := by decide +kernel
theorem dX0_survey_87 : decode cX0_survey 87 = .ok (.aload_n 0, 1) := by decide +kernel
theorem dX0_survey_88 : decode cX0_survey 88 = .ok (.iconst 1, 1) := by decide +kernel
theorem dX0_survey_89 : decode cX0_survey 89 = .ok (.iload 8, 2) := by decide +kernel
theorem dX0_survey_91 : decode cX0_survey 91 = .ok (.iload 9, 2) := by decide +kernel
theorem dX0_survey_93 : decode cX0_survey 93 = .ok (.invokevirtual 55, 3) := by decide +kernel
theorem dX0_survey_96 : decode cX0_survey 96 = .ok (.istore 10, 2) := by decide +kernel
theorem dX0_survey_98 : decode cX0_survey 98 = .ok (.iconst 0, 1) := by decide +kernel
theorem dX0_survey_99 : decode cX0_survey 99 = .ok (.istore 11, 2) := by decide +kernel
theorem dX0_survey_101 : decode cX0_survey 101 = .ok (.iload 11, 2) := by decide +kernel
theorem dX0_survey_103 : decode cX0_survey 103 = .ok (.iload 10, 2) := by decide +kernel
theorem dX0_survey_105 : decode cX0_survey 105 = .ok (.if_icmp .gt 62, 3) := by decide +kernel
theorem dX0_survey_108 : decode cX0_survey 108 = .ok (.iload 8, 2) := by decide +kernel
theorem dX0_survey_110 : decode cX0_survey 110 = .ok (.iload 11, 2) := by decide +kernel
theorem dX0_survey_112 : decode cX0_survey 112 = .ok (.aload_n 0, 1) := by decide +kernel
theorem dX0_survey_113 : decode cX0_survey 113 = .ok (.getfield 9, 3) := by decide +kernel
theorem dX0_survey_116 : decode cX0_survey 116 = .ok (.iconst 1, 1) := by decide +kernel
theorem dX0_survey_117 : decode cX0_survey 117 = .ok (.iaload, 1) := by decide +kernel
theorem dX0_survey_118 : decode cX0_survey 118 = .ok (.imul, 1) := by decide +kernel
theorem dX0_survey_119 : decode cX0_survey 119 = .ok (.isub, 1) := by decide +kernel
theorem dX0_survey_120 : decode cX0_survey 120 = .ok (.istore 12, 2) := by decide +kernel
theorem dX0_survey_122 : decode cX0_survey 122 = .ok (.aload_n 0, 1) := by decide +kernel
theorem dX0_survey_123 : decode cX0_survey 123 = .ok (.iconst 0, 1) := by decide +kernel
theorem dX0_survey_124 : decode cX0_survey 124 = .ok (.iload 12, 2) := by decide +kernel
theorem dX0_survey_126 : decode cX0_survey 126 = .ok (.iload 9, 2) := by decide +kernel
theorem dX0_survey_128 : decode cX0_survey 128 = .ok (.iload 11, 2) := by decide +kernel
theorem dX0_survey_130 : decode cX0_survey 130 = .ok (.isub, 1) := by decide +kernel
theorem dX0_survey_131 : decode cX0_survey 131 = .ok (.invokevirtual 55, 3) := by decide +kernel
theorem dX0_survey_134 : decode cX0_survey 134 = .ok (.istore 13, 2) := by decide +kernel
theorem dX0_survey_136 : decode cX0_survey 136 = .ok (.iload 13, 2) := by decide +kernel
theorem dX0_survey_138 : decode cX0_survey 138 = .ok (.aload_n 0, 1) := by decide +kernel
theorem dX0_survey_139 : decode cX0_survey 139 = .ok (.getfield 9, 3) := by decide +kernel
theorem dX0_survey_142 : decode cX0_survey 142 = .ok (.iconst 0, 1) := by decide +kernel
theorem dX0_survey_143 : decode cX0_survey 143 = .ok (.iaload, 1) := by decide +kernel
theorem dX0_survey_144 : decode cX0_survey 144 = .ok (.imul, 1) := by decide +kernel
theorem dX0_survey_145 : decode cX0_survey 145 = .ok (.iload 12, 2) := by decide +kernel
theorem dX0_survey_147 : decode cX0_survey 147 = .ok (.if_icmp .ne 14, 3) := by decide +kernel
theorem dX0_survey_150 : decode cX0_survey 150 = .ok (.aload_n 0, 1) := by decide +kernel
theorem dX0_survey_151 : decode cX0_survey 151 = .ok (.iload 13, 2) := by decide +kernel
theorem dX0_survey_153 : decode cX0_survey 153 = .ok (.iload 11, 2) := by decide +kernel
theorem dX0_survey_155 : decode cX0_survey 155 = .ok (.iload 7, 2) := by decide +kernel
theorem dX0_survey_157 : decode cX0_survey 157 = .ok (.iload_n 3, 1) := by decide +kernel
theorem dX0_survey_158 : decode cX0_survey 158 = .ok (.invokevirtual 59, 3) := by decide +kernel
theorem dX0_survey_161 : decode cX0_survey 161 = .ok (.iinc 11 1, 3) := by decide +kernel
theorem dX0_survey_164 : decode cX0_survey 164 = .ok (.goto (-63), 3) := by decide +kernel
theorem dX0_survey_167 : decode cX0_survey 167 = .ok (.iinc 7 1, 3) := by decide +kernel
theorem dX0_survey_170 : decode cX0_survey 170 = .ok (.goto (-111), 3) := by decide +kernel
theorem dX0_survey_173 : decode cX0_survey 173 = .ok (.iinc 3 1, 3) := by decide +kernel
theorem dX0_survey_176 : decode cX0_survey 176 = .ok (.goto (-154), 3) := by decide +kernel
theorem dX0_survey_179 : decode cX0_survey 179 = .ok (.return_, 1) := by decide +kernel
theorem dX0_mostNotes_0 : decode cX0_mostNotes 0 = .ok (.aload_n 0, 1) := by decide +kernel
theorem dX0_mostNotes_1 : decode cX0_mostNotes 1 = .ok (.getfield 9, 3) := by decide +kernel
theorem dX0_mostNotes_4 : decode cX0_mostNotes 4 = .ok (.iload_n 1, 1) := by decide +kernel
theorem dX0_mostNotes_5 : decode cX0_mostNotes 5 = .ok (.iaload, 1) := by decide +kernel
theorem dX0_mostNotes_6 : decode cX0_mostNotes 6 = .ok (.iconst 1, 1) := by decide +kernel
theorem dX0_mostNotes_7 : decode cX0_mostNotes 7 = .ok (.invokestatic 63, 3) := by decide +kernel
theorem dX0_mostNotes_10 : decode cX0_mostNotes 10 = .ok (.istore 4, 2) := by decide +kernel
theorem dX0_mostNotes_12 : decode cX0_mostNotes 12 = .ok (.aload_n 0, 1) := by decide +kernel
theorem dX0_mostNotes_13 : decode cX0_mostNotes 13 = .ok (.getfield 13, 3) := by decide +kernel
theorem dX0_mostNotes_16 : decode cX0_mostNotes 16 = .ok (.iload_n 1, 1) := by decide +kernel
theorem dX0_mostNotes_17 : decode cX0_mostNotes 17 = .ok (.iaload, 1) := by decide +kernel
theorem dX0_mostNotes_18 : decode cX0_mostNotes 18 = .ok (.iload_n 3, 1) := by decide +kernel
theorem dX0_mostNotes_19 : decode cX0_mostNotes 19 = .ok (.invokestatic 40, 3) := by decide +kernel
theorem dX0_mostNotes_22 : decode cX0_mostNotes 22 = .ok (.iload_n 2, 1) := by decide +kernel
theorem dX0_mostNotes_23 : decode cX0_mostNotes 23 = .ok (.iload 4, 2) := by decide +kernel
theorem dX0_mostNotes_25 : decode cX0_mostNotes 25 = .ok (.idiv, 1) := by decide +kernel
theorem dX0_mostNotes_26 : decode cX0_mostNotes 26 = .ok (.invokestatic 40, 3) := by decide +kernel
theorem dX0_mostNotes_29 : decode cX0_mostNotes 29 = .ok (.ireturn, 1) := by decide +kernel
theorem dX0_keepMix_0 : decode cX0_keepMix 0 = .ok (.aload_n 0, 1) := by decide +kernel
theorem dX0_keepMix_1 : decode cX0_keepMix 1 = .ok (.dup, 1) := by decide +kernel
theorem dX0_keepMix_2 : decode cX0_keepMix 2 = .ok (.getfield 23, 3) := by decide +kernel
theorem dX0_keepMix_5 : decode cX0_keepMix 5 = .ok (.iconst 1, 1) := by decide +kernel
theorem dX0_keepMix_6 : decode cX0_keepMix 6 = .ok (.iadd, 1) := by decide +kernel
theorem dX0_keepMix_7 : decode cX0_keepMix 7 = .ok (.putfield 23, 3) := by decide +kernel
theorem dX0_keepMix_10 : decode cX0_keepMix 10 = .ok (.iload_n 1, 1) := by decide +kernel
theorem dX0_keepMix_11 : decode cX0_keepMix 11 = .ok (.iload_n 2, 1) := by decide +kernel
theorem dX0_keepMix_12 : decode cX0_keepMix 12 = .ok (.iadd, 1) := by decide +kernel
theorem dX0_keepMix_13 : decode cX0_keepMix 13 = .ok (.iload_n 3, 1) := by decide +kernel
theorem dX0_keepMix_14 : decode cX0_keepMix 14 = .ok (.iadd, 1) := by decide +kernel
theorem dX0_keepMix_15 : decode cX0_keepMix 15 = .ok (.iload 4, 2) := by decide +kernel
theorem dX0_keepMix_17 : decode cX0_keepMix 17 = .ok (.iadd, 1) := by decide +kernel
theorem dX0_keepMix_18 : decode cX0_keepMix 18 = .ok (.istore 5, 2) := by decide +kernel
theorem dX0_keepMix_20 : decode cX0_keepMix 20 = .ok (.iload 5, 2) := by decide +kernel
theorem dX0_keepMix_22 : decode cX0_keepMix 22 = .ok (.aload_n 0, 1) := by decide +kernel
theorem dX0_keepMix_23 : decode cX0_keepMix 23 = .ok (.getfield 19, 3) := by decide +kernel
theorem dX0_keepMix_26 : decode cX0_keepMix 26 = .ok (.if_icmp .gt 38, 3) := by decide +kernel
theorem dX0_keepMix_29 : decode cX0_keepMix 29 = .ok (.aload_n 0, 1) := by decide +kernel
theorem dX0_keepMix_30 : decode cX0_keepMix 30 = .ok (.iload 5, 2) := by decide +kernel
theorem dX0_keepMix_32 : decode cX0_keepMix 32 = .ok (.putfield 19, 3) := by decide +kernel
theorem dX0_keepMix_35 : decode cX0_keepMix 35 = .ok (.aload_n 0, 1) := by decide +kernel
theorem dX0_keepMix_36 : decode cX0_keepMix 36 = .ok (.getfield 16, 3) := by decide +kernel
theorem dX0_keepMix_39 : decode cX0_keepMix 39 = .ok (.iconst 0, 1) := by decide +kernel
theorem dX0_keepMix_40 : decode cX0_keepMix 40 = .ok (.iload_n 1, 1) := by decide +kernel
theorem dX0_keepMix_41 : decode cX0_keepMix 41 = .ok (.iastore, 1) := by decide +kernel
theorem dX0_keepMix_42 : decode cX0_keepMix 42 = .ok (.aload_n 0, 1) := by decide +kernel
theorem dX0_keepMix_43 : decode cX0_keepMix 43 = .ok (.getfield 16, 3) := by decide +kernel
theorem dX0_keepMix_46 : decode cX0_keepMix 46 = .ok (.iconst 1, 1) := by decide +kernel
theorem dX0_keepMix_47 : decode cX0_keepMix 47 = .ok (.iload_n 2, 1) := by decide +kernel
theorem dX0_keepMix_48 : decode cX0_keepMix 48 = .ok (.iastore, 1) := by decide +kernel
theorem dX0_keepMix_49 : decode cX0_keepMix 49 = .ok (.aload_n 0, 1) := by decide +kernel
theorem dX0_keepMix_50 : decode cX0_keepMix 50 = .ok (.getfield 16, 3) := by decide +kernel
theorem dX0_keepMix_53 : decode cX0_keepMix 53 = .ok (.iconst 2, 1) := by decide +kernel
theorem dX0_keepMix_54 : decode cX0_keepMix 54 = .ok (.iload_n 3, 1) := by decide +kernel
theorem dX0_keepMix_55 : decode cX0_keepMix 55 = .ok (.iastore, 1) := by decide +kernel
theorem dX0_keepMix_56 : decode cX0_keepMix 56 = .ok (.aload_n 0, 1) := by decide +kernel
theorem dX0_keepMix_57 : decode cX0_keepMix 57 = .ok (.getfield 16, 3) := by decide +kernel
theorem dX0_keepMix_60 : decode cX0_keepMix 60 = .ok (.iconst 3, 1) := by decide +kernel
theorem dX0_keepMix_61 : decode cX0_keepMix 61 = .ok (.iload 4, 2) := by decide +kernel
theorem dX0_keepMix_63 : decode cX0_keepMix 63 = .ok (.iastore, 1) := by decide +kernel
theorem dX0_keepMix_64 : decode cX0_keepMix 64 = .ok (.return_, 1) := by decide +kernel
set_option maxRecDepth 20000 in
theorem ggX0_fillFewest_J7_fill_53178 : GoodIn wsX0_fillFewest wsJ7_fill_53178 := goodIn_r _ [5] (by decide +kernel) (by decide +kernel)
set_option maxRecDepth 20000 in
theorem gX0_fillFewest_J7_fill_53178 : GoodIn wsX0_fillFewest (va_wsS RX0 66 yJ7_fill_53178 wsJ7_fill_53178) := goodIn_app (goodIn_of _ (by decide +kernel)) ggX0_fillFewest_J7_fill_53178
set_option maxRecDepth 20000 in
theorem ggX0_fillFewest_X0_addCassette : GoodIn wsX0_fillFewest wsX0_addCassette := goodIn_r _ [10, 11, 12, 13, 14, 15, 16, 17, 18, 19, 9, 20, 1, 21, 22, 23, 24, 25, 26] (by decide +kernel) (by decide +kernel)
set_option maxRecDepth 20000 in
theorem gX0_fillFewest_X0_addCassette : GoodIn wsX0_fillFewest (wsV RX0 72 RX0 yX0_addCassette wsX0_addCassette) := goodIn_app (goodIn_of _ (by decide +kernel)) ggX0_fillFewest_X0_addCassette
theorem dX0_fillFewest_0 : decode cX0_fillFewest 0 = .ok (.aload_n 0, 1) := by decide +kernel
theorem dX0_fillFewest_1 : decode cX0_fillFewest 1 = .ok (.getfield 26, 3) := by decide +kernel
theorem dX0_fillFewest_4 : decode cX0_fillFewest 4 = .ok (.bipush 41, 2) := by decide +kernel
theorem dX0_fillFewest_6 : decode cX0_fillFewest 6 = .ok (.invokestatic 66, 3) := by decide +kernel
theorem dX0_fillFewest_9 : decode cX0_fillFewest 9 = .ok (.aload_n 0, 1) := by decide +kernel
theorem dX0_fillFewest_10 : decode cX0_fillFewest 10 = .ok (.getfield 26, 3) := by decide +kernel
theorem dX0_fillFewest_13 : decode cX0_fillFewest 13 = .ok (.iconst 0, 1) := by decide +kernel
theorem dX0_fillFewest_14 : decode cX0_fillFewest 14 = .ok (.iconst 0, 1) := by decide +kernel
theorem dX0_fillFewest_15 : decode cX0_fillFewest 15 = .ok (.iastore, 1) := by decide +kernel
theorem dX0_fillFewest_16 : decode cX0_fillFewest 16 = .ok (.iconst 0, 1) := by decide +kernel
theorem dX0_fillFewest_17 : decode cX0_fillFewest 17 = .ok (.istore_n 1, 1) := by decide +kernel
theorem dX0_fillFewest_18 : decode cX0_fillFewest 18 = .ok (.iload_n 1, 1) := by decide +kernel
theorem dX0_fillFewest_19 : decode cX0_fillFewest 19 = .ok (.iconst 3, 1) := by decide +kernel
theorem dX0_fillFewest_20 : decode cX0_fillFewest 20 = .ok (.if_icmp .gt 14, 3) := by decide +kernel
theorem dX0_fillFewest_23 : decode cX0_fillFewest 23 = .ok (.aload_n 0, 1) := by decide +kernel
theorem dX0_fillFewest_24 : decode cX0_fillFewest 24 = .ok (.iload_n 1, 1) := by decide +kernel
theorem dX0_fillFewest_25 : decode cX0_fillFewest 25 = .ok (.invokevirtual 72, 3) := by decide +kernel
theorem dX0_fillFewest_28 : decode cX0_fillFewest 28 = .ok (.iinc 1 1, 3) := by decide +kernel
theorem dX0_fillFewest_31 : decode cX0_fillFewest 31 = .ok (.goto (-13), 3) := by decide +kernel
theorem dX0_fillFewest_34 : decode cX0_fillFewest 34 = .ok (.return_, 1) := by decide +kernel
set_option maxRecDepth 20000 in
theorem ggX0_addCassette_X0_addBundle : GoodIn wsX0_addCassette wsX0_addBundle := goodIn_r _ [11, 12, 2, 3, 4, 5, 13, 14, 15, 16, 17, 18] (by decide +kernel) (by decide +kernel)
set_option maxRecDepth 20000 in
theorem gX0_addCassette_X0_addBundle : GoodIn wsX0_addCassette (wsV RX0 75 RX0 yX0_addBundle wsX0_addBundle) := goodIn_app (goodIn_of _ (by decide +kernel)) ggX0_addCassette_X0_addBundle
theorem dX0_addCassette_0 : decode cX0_addCassette 0 = .ok (.aload_n 0, 1) := by decide +kernel
theorem dX0_addCassette_1 : decode cX0_addCassette 1 = .ok (.getfield 13, 3) := by decide +kernel
theorem dX0_addCassette_4 : decode cX0_addCassette 4 = .ok (.iload_n 1, 1) := by decide +kernel
theorem dX0_addCassette_5 : decode cX0_addCassette 5 = .ok (.iaload, 1) := by decide +kernel
theorem dX0_addCassette_6 : decode cX0_addCassette 6 = .ok (.bipush 40, 2) := by decide +kernel
theorem dX0_addCassette_8 : decode cX0_addCassette 8 = .ok (.invokestatic 40, 3) := by decide +kernel
theorem dX0_addCassette_11 : decode cX0_addCassette 11 = .ok (.istore_n 2, 1) := by decide +kernel
theorem dX0_addCassette_12 : decode cX0_addCassette 12 = .ok (.iconst 1, 1) := by decide +kernel
theorem dX0_addCassette_13 : decode cX0_addCassette 13 = .ok (.istore_n 3, 1) := by decide +kernel
theorem dX0_addCassette_14 : decode cX0_addCassette 14 = .ok (.iload_n 3, 1) := by decide +kernel
theorem dX0_addCassette_15 : decode cX0_addCassette 15 = .ok (.bipush 40, 2) := by decide +kernel
theorem dX0_addCassette_17 : decode cX0_addCassette 17 = .ok (.if_icmp .gt 41, 3) := by decide +kernel
theorem dX0_addCassette_20 : decode cX0_addCassette 20 = .ok (.iload_n 2, 1) := by decide +kernel
theorem dX0_addCassette_21 : decode cX0_addCassette 21 = .ok (.ifCond .le 37, 3) := by decide +kernel
theorem dX0_addCassette_24 : decode cX0_addCassette 24 = .ok (.iload_n 3, 1) := by decide +kernel
theorem dX0_addCassette_25 : decode cX0_addCassette 25 = .ok (.iload_n 2, 1) := by decide +kernel
theorem dX0_addCassette_26 : decode cX0_addCassette 26 = .ok (.invokestatic 40, 3) := by decide +kernel
theorem dX0_addCassette_29 : decode cX0_addCassette 29 = .ok (.istore 4, 2) := by decide +kernel
theorem dX0_addCassette_31 : decode cX0_addCassette 31 = .ok (.aload_n 0, 1) := by decide +kernel
theorem dX0_addCassette_32 : decode cX0_addCassette 32 = .ok (.iload 4, 2) := by decide +kernel
theorem dX0_addCassette_34 : decode cX0_addCassette 34 = .ok (.iload 4, 2) := by decide +kernel
theorem dX0_addCassette_36 : decode cX0_addCassette 36 = .ok (.aload_n 0, 1) := by decide +kernel
theorem dX0_addCassette_37 : decode cX0_addCassette 37 = .ok (.getfield 9, 3) := by decide +kernel
theorem dX0_addCassette_40 : decode cX0_addCassette 40 = .ok (.iload_n 1, 1) := by decide +kernel
theorem dX0_addCassette_41 : decode cX0_addCassette 41 = .ok (.iaload, 1) := by decide +kernel
theorem dX0_addCassette_42 : decode cX0_addCassette 42 = .ok (.imul, 1) := by decide +kernel
theorem dX0_addCassette_43 : decode cX0_addCassette 43 = .ok (.invokevirtual 75, 3) := by decide +kernel
theorem dX0_addCassette_46 : decode cX0_addCassette 46 = .ok (.iload_n 2, 1) := by decide +kernel
theorem dX0_addCassette_47 : decode cX0_addCassette 47 = .ok (.iload 4, 2) := by decide +kernel
theorem dX0_addCassette_49 : decode cX0_addCassette 49 = .ok (.isub, 1) := by decide +kernel
theorem dX0_addCassette_50 : decode cX0_addCassette 50 = .ok (.istore_n 2, 1) := by decide +kernel
theorem dX0_addCassette_51 : decode cX0_addCassette 51 = .ok (.iload_n 3, 1) := by decide +kernel
theorem dX0_addCassette_52 : decode cX0_addCassette 52 = .ok (.iconst 2, 1) := by decide +kernel
theorem dX0_addCassette_53 : decode cX0_addCassette 53 = .ok (.imul, 1) := by decide +kernel
theorem dX0_addCassette_54 : decode cX0_addCassette 54 = .ok (.istore_n 3, 1) := by decide +kernel
theorem dX0_addCassette_55 : decode cX0_addCassette 55 = .ok (.goto (-41), 3) := by decide +kernel
theorem dX0_addCassette_58 : decode cX0_addCassette 58 = .ok (.return_, 1) := by decide +kernel
theorem dX0_addBundle_0 : decode cX0_addBundle 0 = .ok (.sipush 2000, 3) := by decide +kernel
theorem dX0_addBundle_3 : decode cX0_addBundle 3 = .ok (.istore_n 3, 1) := by decide +kernel
theorem dX0_addBundle_4 : decode cX0_addBundle 4 = .ok (.iload_n 3, 1) := by decide +kernel
theorem dX0_addBundle_5 : decode cX0_addBundle 5 = .ok (.iload_n 2, 1) := by decide +kernel
theorem dX0_addBundle_6 : decode cX0_addBundle 6 = .ok (.if_icmp .lt 34, 3) := by decide +kernel
theorem dX0_addBundle_9 : decode cX0_addBundle 9 = .ok (.aload_n 0, 1) := by decide +kernel
theorem dX0_addBundle_10 : decode cX0_addBundle 10 = .ok (.getfield 26, 3) := by decide +kernel
theorem dX0_addBundle_13 : decode cX0_addBundle 13 = .ok (.iload_n 3, 1) := by decide +kernel
theorem dX0_addBundle_14 : decode cX0_addBundle 14 = .ok (.aload_n 0, 1) := by decide +kernel
theorem dX0_addBundle_15 : decode cX0_addBundle 15 = .ok (.getfield 26, 3) := by decide +kernel
theorem dX0_addBundle_18 : decode cX0_addBundle 18 = .ok (.iload_n 3, 1) := by decide +kernel
theorem dX0_addBundle_19 : decode cX0_addBundle 19 = .ok (.iaload, 1) := by decide +kernel
theorem dX0_addBundle_20 : decode cX0_addBundle 20 = .ok (.aload_n 0, 1) := by decide +kernel
theorem dX0_addBundle_21 : decode cX0_addBundle 21 = .ok (.getfield 26, 3) := by decide +kernel
theorem dX0_addBundle_24 : decode cX0_addBundle 24 = .ok (.iload_n 3, 1) := by decide +kernel
theorem dX0_addBundle_25 : decode cX0_addBundle 25 = .ok (.iload_n 2, 1) := by decide +kernel
theorem dX0_addBundle_26 : decode cX0_addBundle 26 = .ok (.isub, 1) := by decide +kernel
theorem dX0_addBundle_27 : decode cX0_addBundle 27 = .ok (.iaload, 1) := by decide +kernel
theorem dX0_addBundle_28 : decode cX0_addBundle 28 = .ok (.iload_n 1, 1) := by decide +kernel
theorem dX0_addBundle_29 : decode cX0_addBundle 29 = .ok (.iadd, 1) := by decide +kernel
theorem dX0_addBundle_30 : decode cX0_addBundle 30 = .ok (.invokestatic 40, 3) := by decide +kernel
theorem dX0_addBundle_33 : decode cX0_addBundle 33 = .ok (.iastore, 1) := by decide +kernel
theorem dX0_addBundle_34 : decode cX0_addBundle 34 = .ok (.iinc 3 (-1), 3) := by decide +kernel
theorem dX0_addBundle_37 : decode cX0_addBundle 37 = .ok (.goto (-33), 3) := by decide +kernel
theorem dX0_addBundle_40 : decode cX0_addBundle 40 = .ok (.return_, 1) := by decide +kernel
theorem dX1_init_0 : decode cX1_init 0 = .ok (.aload_n 0, 1) := by decide +kernel
theorem dX1_init_1 : decode cX1_init 1 = .ok (.invokespecial 1, 3) := by decide +kernel
theorem dX1_init_4 : decode cX1_init 4 = .ok (.aload_n 0, 1) := by decide +kernel
theorem dX1_init_5 : decode cX1_init 5 = .ok (.iconst 4, 1) := by decide +kernel
theorem dX1_init_6 : decode cX1_init 6 = .ok (.newarray .int, 2) := by decide +kernel
theorem dX1_init_8 : decode cX1_init 8 = .ok (.dup, 1) := by decide +kernel
theorem dX1_init_9 : decode cX1_init 9 = .ok (.iconst 0, 1) := by decide +kernel
theorem dX1_init_10 : decode cX1_init 10 = .ok (.iconst 5, 1) := by decide +kernel
theorem dX1_init_11 : decode cX1_init 11 = .ok (.iastore, 1) := by decide +kernel
theorem dX1_init_12 : decode cX1_init 12 = .ok (.dup, 1) := by decide +kernel
theorem dX1_init_13 : decode cX1_init 13 = .ok (.iconst 1, 1) := by decide +kernel
theorem dX1_init_14 : decode cX1_init 14 = .ok (.bipush 10, 2) := by decide +kernel
theorem dX1_init_16 : decode cX1_init 16 = .ok (.iastore, 1) := by decide +kernel
theorem dX1_init_17 : decode cX1_init 17 = .ok (.dup, 1) := by decide +kernel
theorem dX1_init_18 : decode cX1_init 18 = .ok (.iconst 2, 1) := by decide +kernel
theorem dX1_init_19 : decode cX1_init 19 = .ok (.bipush 20, 2) := by decide +kernel
theorem dX1_init_21 : decode cX1_init 21 = .ok (.iastore, 1) := by decide +kernel
theorem dX1_init_22 : decode cX1_init 22 = .ok (.dup, 1) := by decide +kernel
theorem dX1_init_23 : decode cX1_init 23 = .ok (.iconst 3, 1) := by decide +kernel
theorem dX1_init_24 : decode cX1_init 24 = .ok (.bipush 50, 2) := by decide +kernel
theorem dX1_init_26 : decode cX1_init 26 = .ok (.iastore, 1) := by decide +kernel
theorem dX1_init_27 : decode cX1_init 27 = .ok (.putfield 7, 3) := by decide +kernel
theorem dX1_init_30 : decode cX1_init 30 = .ok (.aload_n 0, 1) := by decide +kernel
theorem dX1_init_31 : decode cX1_init 31 = .ok (.iconst 4, 1) := by decide +kernel
theorem dX1_init_32 : decode cX1_init 32 = .ok (.newarray .int, 2) := by decide +kernel
theorem dX1_init_34 : decode cX1_init 34 = .ok (.dup, 1) := by decide +kernel
theorem dX1_init_35 : decode cX1_init 35 = .ok (.iconst 0, 1) := by decide +kernel
theorem dX1_init_36 : decode cX1_init 36 = .ok (.bipush 30, 2) := by decide +kernel
theorem dX1_init_38 : decode cX1_init 38 = .ok (.iastore, 1) := by decide +kernel
theorem dX1_init_39 : decode cX1_init 39 = .ok (.dup, 1) := by decide +kernel
theorem dX1_init_40 : decode cX1_init 40 = .ok (.iconst 1, 1) := by decide +kernel
theorem dX1_init_41 : decode cX1_init 41 = .ok (.bipush 30, 2) := by decide +kernel
theorem dX1_init_43 : decode cX1_init 43 = .ok (.iastore, 1) := by decide +kernel
theorem dX1_init_44 : decode cX1_init 44 = .ok (.dup, 1) := by decide +kernel
theorem dX1_init_45 : decode cX1_init 45 = .ok (.iconst 2, 1) := by decide +kernel
theorem dX1_init_46 : decode cX1_init 46 = .ok (.bipush 30, 2) := by decide +kernel
theorem dX1_init_48 : decode cX1_init 48 = .ok (.iastore, 1) := by decide +kernel
theorem dX1_init_49 : decode cX1_init 49 = .ok (.dup, 1) := by decide +kernel
theorem dX1_init_50 : decode cX1_init 50 = .ok (.iconst 3, 1) := by decide +kernel
theorem dX1_init_51 : decode cX1_init 51 = .ok (.bipush 30, 2) := by decide +kernel
theorem dX1_init_53 : decode cX1_init 53 = .ok (.iastore, 1) := by decide +kernel
theorem dX1_init_54 : decode cX1_init 54 = .ok (.putfield 13, 3) := by decide +kernel
theorem dX1_init_57 : decode cX1_init 57 = .ok (.aload_n 0, 1) := by decide +kernel
theorem dX1_init_58 : decode cX1_init 58 = .ok (.iconst 4, 1) := by decide +kernel
theorem dX1_init_59 : decode cX1_init 59 = .ok (.newarray .int, 2) := by decide +kernel
theorem dX1_init_61 : decode cX1_init 61 = .ok (.putfield 16, 3) := by decide +kernel
theorem dX1_init_64 : decode cX1_init 64 = .ok (.aload_n 0, 1) := by decide +kernel
theorem dX1_init_65 : decode cX1_init 65 = .ok (.sipush 2001, 3) := by decide +kernel
theorem dX1_init_68 : decode cX1_init 68 = .ok (.newarray .boolean, 2) := by decide +kernel
theorem dX1_init_70 : decode cX1_init 70 = .ok (.putfield 19, 3) := by decide +kernel
theorem dX1_init_73 : decode cX1_init 73 = .ok (.return_, 1) := by decide +kernel
theorem dJ9_max_7cf53_0 : decode cJ9_max_7cf53 0 = .ok (.iload_n 0, 1) := by decide +kernel
theorem dJ9_max_7cf53_1 : decode cJ9_max_7cf53 1 = .ok (.iload_n 1, 1) := by decide +kernel
theorem dJ9_max_7cf53_2 : decode cJ9_max_7cf53 2 = .ok (.if_icmp .lt 7, 3) := by decide +kernel
theorem dJ9_max_7cf53_5 : decode cJ9_max_7cf53 5 = .ok (.iload_n 0, 1) := by decide +kernel
theorem dJ9_max_7cf53_6 : decode cJ9_max_7cf53 6 = .ok (.goto 4, 3) := by decide +kernel
theorem dJ9_max_7cf53_9 : decode cJ9_max_7cf53 9 = .ok (.iload_n 1, 1) := by decide +kernel
theorem dJ9_max_7cf53_10 : decode cJ9_max_7cf53 10 = .ok (.ireturn, 1) := by decide +kernel
theorem dJ9_min_7cf53_0 : decode cJ9_min_7cf53 0 = .ok (.iload_n 0, 1) := by decide +kernel
theorem dJ9_min_7cf53_1 : decode cJ9_min_7cf53 1 = .ok (.iload_n 1, 1) := by decide +kernel
theorem dJ9_min_7cf53_2 : decode cJ9_min_7cf53 2 = .ok (.if_icmp .gt 7, 3) := by decide +kernel
theorem dJ9_min_7cf53_5 : decode cJ9_min_7cf53 5 = .ok (.iload_n 0, 1) := by decide +kernel
theorem dJ9_min_7cf53_6 : decode cJ9_min_7cf53 6 = .ok (.goto 4, 3) := by decide +kernel
theorem dJ9_min_7cf53_9 : decode cJ9_min_7cf53 9 = .ok (.iload_n 1, 1) := by decide +kernel
theorem dJ9_min_7cf53_10 : decode cJ9_min_7cf53 10 = .ok (.ireturn, 1) := by decide +kernel
theorem dJ7_fill_53178_0 : decode cJ7_fill_53178 0 = .ok (.iconst 0, 1) := by decide +kernel
theorem dJ7_fill_53178_1 : decode cJ7_fill_53178 1 = .ok (.istore_n 2, 1) := by decide +kernel
theorem dJ7_fill_53178_2 : decode cJ7_fill_53178 2 = .ok (.aload_n 0, 1) := by decide +kernel
theorem dJ7_fill_53178_3 : decode cJ7_fill_53178 3 = .ok (.arraylength, 1) := by decide +kernel
theorem dJ7_fill_53178_4 : decode cJ7_fill_53178 4 = .ok (.istore_n 3, 1) := by decide +kernel
theorem dJ7_fill_53178_5 : decode cJ7_fill_53178 5 = .ok (.iload_n 2, 1) := by decide +kernel
theorem dJ7_fill_53178_6 : decode cJ7_fill_53178 6 = .ok (.iload_n 3, 1) := by decide +kernel
theorem dJ7_fill_53178_7 : decode cJ7_fill_53178 7 = .ok (.if_icmp .ge 13, 3) := by decide +kernel
theorem dJ7_fill_53178_10 : decode cJ7_fill_53178 10 = .ok (.aload_n 0, 1) := by decide +kernel
theorem dJ7_fill_53178_11 : decode cJ7_fill_53178 11 = .ok (.iload_n 2, 1) := by decide +kernel
theorem dJ7_fill_53178_12 : decode cJ7_fill_53178 12 = .ok (.iload_n 1, 1) := by decide +kernel
theorem dJ7_fill_53178_13 : decode cJ7_fill_53178 13 = .ok (.iastore, 1) := by decide +kernel
theorem dJ7_fill_53178_14 : decode cJ7_fill_53178 14 = .ok (.iinc 2 1, 3) := by decide +kernel
theorem dJ7_fill_53178_17 : decode cJ7_fill_53178 17 = .ok (.goto (-12), 3) := by decide +kernel
theorem dJ7_fill_53178_20 : decode cJ7_fill_53178 20 = .ok (.return_, 1) := by decide +kernel
set_option maxRecDepth 20000 in
theorem ggL_load_X0_load : GoodIn wsL_load wsX0_load := goodIn_ca (goodIn_r _ [6, 7, 8, 9, 10, 5, 11, 12, 13, 14, 15, 16, 17, 18, 19] (by decide +kernel) (by decide +kernel)) (goodIn_sub (fun _ h => List.mem_cons_of_mem _ (List.mem_append_right _ h)) (by decide +kernel))
set_option maxRecDepth 20000 in
theorem gL_load_X0_load : GoodIn wsL_load (wsV RL 7 RX0 yX0_load wsX0_load) := goodIn_app (goodIn_of _ (by decide +kernel)) ggL_load_X0_load
theorem dL_load_0 : decode cL_load 0 = .ok (.aload_n 0, 1) := by decide +kernel
theorem dL_load_1 : decode cL_load 1 = .ok (.iload_n 1, 1) := by decide +kernel
theorem dL_load_2 : decode cL_load 2 = .ok (.iload_n 2, 1) := by decide +kernel
theorem dL_load_3 : decode cL_load 3 = .ok (.iload_n 3, 1) := by decide +kernel
theorem dL_load_4 : decode cL_load 4 = .ok (.invokevirtual 7, 3) := by decide +kernel
theorem dL_load_7 : decode cL_load 7 = .ok (.goto 7, 3) := by decide +kernel
theorem dL_load_10 : decode cL_load 10 = .ok (.astore 4, 2) := by decide +kernel
theorem dL_load_12 : decode cL_load 12 = .ok (.iconst 1, 1) := by decide +kernel
theorem dL_load_13 : decode cL_load 13 = .ok (.ireturn, 1) := by decide +kernel
theorem dL_load_14 : decode cL_load 14 = .ok (.iconst 0, 1) := by decide +kernel
theorem dL_load_15 : decode cL_load 15 = .ok (.ireturn, 1) := by decide +kernel
set_option maxRecDepth 20000 in
theorem ggL_best_X0_best : GoodIn wsL_best wsX0_best := goodIn_ca (goodIn_ca (goodIn_r _ [7, 8, 9, 10, 11, 6, 12, 13, 14, 15, 16, 17, 18, 19, 20, 21, 22, 23, 24, 25, 26, 27, 28, 29, 30, 31, 32, 33, 34, 35, 36, 37, 38, 39, 40, 41, 42, 43, 44, 45, 46, 47, 48] (by decide +kernel) (by decide +kernel)) (goodIn_sub (fun _ h => List.mem_cons_of_mem _ (List.mem_append_left _ (List.mem_append_right _ h))) (by decide +kernel))) (goodIn_sub (fun _ h => List.mem_cons_of_mem _ (List.mem_append_right _ h)) (by decide +kernel))
set_option maxRecDepth 20000 in
theorem gL_best_X0_best : GoodIn wsL_best (wsV RL 15 RX0 yX0_best wsX0_best) := goodIn_app (goodIn_of _ (by decide +kernel)) ggL_best_X0_best
theorem dL_best_0 : decode cL_best 0 = .ok (.aload_n 2, 1) := by decide +kernel
theorem dL_best_1 : decode cL_best 1 = .ok (.iconst 0, 1) := by decide +kernel
theorem dL_best_2 : decode cL_best 2 = .ok (.aload_n 0, 1) := by decide +kernel
theorem dL_best_3 : decode cL_best 3 = .ok (.iload_n 1, 1) := by decide +kernel
theorem dL_best_4 : decode cL_best 4 = .ok (.invokevirtual 15, 3) := by decide +kernel
theorem dL_best_7 : decode cL_best 7 = .ok (.i2l, 1) := by decide +kernel
theorem dL_best_8 : decode cL_best 8 = .ok (.lastore, 1) := by decide +kernel
theorem dL_best_9 : decode cL_best 9 = .ok (.goto 9, 3) := by decide +kernel
theorem dL_best_12 : decode cL_best 12 = .ok (.astore_n 3, 1) := by decide +kernel
theorem dL_best_13 : decode cL_best 13 = .ok (.iconst 1, 1) := by decide +kernel
theorem dL_best_14 : decode cL_best 14 = .ok (.ireturn, 1) := by decide +kernel
theorem dL_best_15 : decode cL_best 15 = .ok (.astore_n 3, 1) := by decide +kernel
theorem dL_best_16 : decode cL_best 16 = .ok (.iconst 2, 1) := by decide +kernel
theorem dL_best_17 : decode cL_best 17 = .ok (.ireturn, 1) := by decide +kernel
theorem dL_best_18 : decode cL_best 18 = .ok (.iconst 0, 1) := by decide +kernel
theorem dL_best_19 : decode cL_best 19 = .ok (.ireturn, 1) := by decide +kernel
set_option maxRecDepth 20000 in
theorem ggL_part_X0_part : GoodIn wsL_part wsX0_part := goodIn_ca (goodIn_ca (goodIn_r _ [7, 8, 9, 10, 6, 11, 12, 13, 14, 15, 16, 17, 18, 19, 20, 21, 22, 23, 24, 25, 26, 27, 28, 29, 30, 31, 32, 33, 34, 35, 36, 37, 38, 39, 40, 41, 42, 43, 44, 45, 46, 47, 48] (by decide +kernel) (by decide +kernel)) (goodIn_sub (fun _ h => List.mem_cons_of_mem _ (List.mem_append_left _ (List.mem_append_right _ h))) (by decide +kernel))) (goodIn_sub (fun _ h => List.mem_cons_of_mem _ (List.mem_append_right _ h)) (by decide +kernel))
set_option maxRecDepth 20000 in
theorem gL_part_X0_part : GoodIn wsL_part (wsV RL 21 RX0 yX0_part wsX0_part) := goodIn_app (goodIn_of _ (by decide +kernel)) ggL_part_X0_part
theorem dL_part_0 : decode cL_part 0 = .ok (.aload_n 3, 1) := by decide +kernel
theorem dL_part_1 : decode cL_part 1 = .ok (.iconst 0, 1) := by decide +kernel
theorem dL_part_2 : decode cL_part 2 = .ok (.aload_n 0, 1) := by decide +kernel
theorem dL_part_3 : decode cL_part 3 = .ok (.iload_n 1, 1) := by decide +kernel
theorem dL_part_4 : decode cL_part 4 = .ok (.iload_n 2, 1) := by decide +kernel
theorem dL_part_5 : decode cL_part 5 = .ok (.invokevirtual 21, 3) := by decide +kernel
theorem dL_part_8 : decode cL_part 8 = .ok (.i2l, 1) := by decide +kernel
theorem dL_part_9 : decode cL_part 9 = .ok (.lastore, 1) := by decide +kernel
theorem dL_part_10 : decode cL_part 10 = .ok (.goto 11, 3) := by decide +kernel
theorem dL_part_13 : decode cL_part 13 = .ok (.astore 4, 2) := by decide +kernel
theorem dL_part_15 : decode cL_part 15 = .ok (.iconst 1, 1) := by decide +kernel
theorem dL_part_16 : decode cL_part 16 = .ok (.ireturn, 1) := by decide +kernel
theorem dL_part_17 : decode cL_part 17 = .ok (.astore 4, 2) := by decide +kernel
theorem dL_part_19 : decode cL_part 19 = .ok (.iconst 2, 1) := by decide +kernel
theorem dL_part_20 : decode cL_part 20 = .ok (.ireturn, 1) := by decide +kernel
theorem dL_part_21 : decode cL_part 21 = .ok (.iconst 0, 1) := by decide +kernel
theorem dL_part_22 : decode cL_part 22 = .ok (.ireturn, 1) := by decide +kernel
set_option maxRecDepth 20000 in
theorem ggL_ways_X0_ways : GoodIn wsL_ways wsX0_ways := goodIn_ca (goodIn_r _ [6, 7, 8, 9, 5, 10, 11, 12, 13, 14, 15, 16, 17, 18, 19, 20, 21, 22, 23, 24, 25, 26, 27, 28, 29, 30, 31, 32, 33, 34, 35, 36, 37, 38, 39, 40, 41] (by decide +kernel) (by decide +kernel)) (goodIn_sub (fun _ h => List.mem_cons_of_mem _ (List.mem_append_right _ h)) (by decide +kernel))
set_option maxRecDepth 20000 in
theorem gL_ways_X0_ways : GoodIn wsL_ways (wsV RL 25 RX0 yX0_ways wsX0_ways) := goodIn_app (goodIn_of _ (by decide +kernel)) ggL_ways_X0_ways
theorem dL_ways_0 : decode cL_ways 0 = .ok (.aload_n 2, 1) := by decide +kernel
theorem dL_ways_1 : decode cL_ways 1 = .ok (.iconst 0, 1) := by decide +kernel
theorem dL_ways_2 : decode cL_ways 2 = .ok (.aload_n 0, 1) := by decide +kernel
theorem dL_ways_3 : decode cL_ways 3 = .ok (.iload_n 1, 1) := by decide +kernel
theorem dL_ways_4 : decode cL_ways 4 = .ok (.invokevirtual 25, 3) := by decide +kernel
theorem dL_ways_7 : decode cL_ways 7 = .ok (.i2l, 1) := by decide +kernel
theorem dL_ways_8 : decode cL_ways 8 = .ok (.lastore, 1) := by decide +kernel
theorem dL_ways_9 : decode cL_ways 9 = .ok (.goto 6, 3) := by decide +kernel
theorem dL_ways_12 : decode cL_ways 12 = .ok (.astore_n 3, 1) := by decide +kernel
theorem dL_ways_13 : decode cL_ways 13 = .ok (.iconst 1, 1) := by decide +kernel
theorem dL_ways_14 : decode cL_ways 14 = .ok (.ireturn, 1) := by decide +kernel
theorem dL_ways_15 : decode cL_ways 15 = .ok (.iconst 0, 1) := by decide +kernel
theorem dL_ways_16 : decode cL_ways 16 = .ok (.ireturn, 1) := by decide +kernel
set_option maxRecDepth 20000 in
theorem ggL_pay_X0_pay : GoodIn wsL_pay wsX0_pay := goodIn_ca (goodIn_ca (goodIn_r _ [7, 8, 9, 10, 11, 12, 13, 14, 15, 16, 6, 17, 18, 19, 20, 21, 22, 23, 24, 25, 26, 27, 28, 29, 30, 31, 32, 33, 34, 35, 36, 37, 38, 39, 40, 41, 42, 43, 44, 45, 46, 47, 48] (by decide +kernel) (by decide +kernel)) (goodIn_sub (fun _ h => List.mem_cons_of_mem _ (List.mem_append_left _ (List.mem_append_right _ h))) (by decide +kernel))) (goodIn_sub (fun _ h => List.mem_cons_of_mem _ (List.mem_append_right _ h)) (by decide +kernel))
set_option maxRecDepth 20000 in
theorem gL_pay_X0_pay : GoodIn wsL_pay (wsV RL 28 RX0 yX0_pay wsX0_pay) := goodIn_app (goodIn_of _ (by decide +kernel)) ggL_pay_X0_pay
theorem dL_pay_0 : decode cL_pay 0 = .ok (.aload_n 3, 1) := by decide +kernel
theorem dL_pay_1 : decode cL_pay 1 = .ok (.iconst 0, 1) := by decide +kernel
theorem dL_pay_2 : decode cL_pay 2 = .ok (.aload_n 0, 1) := by decide +kernel
theorem dL_pay_3 : decode cL_pay 3 = .ok (.iload_n 1, 1) := by decide +kernel
theorem dL_pay_4 : decode cL_pay 4 = .ok (.iload_n 2, 1) := by decide +kernel
theorem dL_pay_5 : decode cL_pay 5 = .ok (.invokevirtual 28, 3) := by decide +kernel
theorem dL_pay_8 : decode cL_pay 8 = .ok (.i2l, 1) := by decide +kernel
theorem dL_pay_9 : decode cL_pay 9 = .ok (.lastore, 1) := by decide +kernel
theorem dL_pay_10 : decode cL_pay 10 = .ok (.goto 11, 3) := by decide +kernel
theorem dL_pay_13 : decode cL_pay 13 = .ok (.astore 4, 2) := by decide +kernel
theorem dL_pay_15 : decode cL_pay 15 = .ok (.iconst 1, 1) := by decide +kernel
theorem dL_pay_16 : decode cL_pay 16 = .ok (.ireturn, 1) := by decide +kernel
theorem dL_pay_17 : decode cL_pay 17 = .ok (.astore 4, 2) := by decide +kernel
theorem dL_pay_19 : decode cL_pay 19 = .ok (.iconst 2, 1) := by decide +kernel
theorem dL_pay_20 : decode cL_pay 20 = .ok (.ireturn, 1) := by decide +kernel
theorem dL_pay_21 : decode cL_pay 21 = .ok (.iconst 0, 1) := by decide +kernel
theorem dL_pay_22 : decode cL_pay 22 = .ok (.ireturn, 1) := by decide +kernel
set_option maxRecDepth 20000 in
theorem ggL_next_X0_next : GoodIn wsL_next wsX0_next := goodIn_ca (goodIn_r _ [6, 7, 8, 9, 5, 10, 11, 12, 13, 14, 15, 16, 17, 18, 19, 20, 21, 22, 23, 24, 25, 26, 27, 28, 29, 30, 31, 32, 33, 34, 35, 36, 37, 38, 39, 40] (by decide +kernel) (by decide +kernel)) (goodIn_sub (fun _ h => List.mem_cons_of_mem _ (List.mem_append_right _ h)) (by decide +kernel))
set_option maxRecDepth 20000 in
theorem gL_next_X0_next : GoodIn wsL_next (wsV RL 31 RX0 yX0_next wsX0_next) := goodIn_app (goodIn_of _ (by decide +kernel)) ggL_next_X0_next
theorem dL_next_0 : decode cL_next 0 = .ok (.aload_n 2, 1) := by decide +kernel
theorem dL_next_1 : decode cL_next 1 = .ok (.iconst 0, 1) := by decide +kernel
theorem dL_next_2 : decode cL_next 2 = .ok (.aload_n 0, 1) := by decide +kernel
theorem dL_next_3 : decode cL_next 3 = .ok (.iload_n 1, 1) := by decide +kernel
theorem dL_next_4 : decode cL_next 4 = .ok (.invokevirtual 31, 3) := by decide +kernel
theorem dL_next_7 : decode cL_next 7 = .ok (.i2l, 1) := by decide +kernel
theorem dL_next_8 : decode cL_next 8 = .ok (.lastore, 1) := by decide +kernel
theorem dL_next_9 : decode cL_next 9 = .ok (.goto 6, 3) := by decide +kernel
theorem dL_next_12 : decode cL_next 12 = .ok (.astore_n 3, 1) := by decide +kernel
theorem dL_next_13 : decode cL_next 13 = .ok (.iconst 1, 1) := by decide +kernel
theorem dL_next_14 : decode cL_next 14 = .ok (.ireturn, 1) := by decide +kernel
theorem dL_next_15 : decode cL_next 15 = .ok (.iconst 0, 1) := by decide +kernel
theorem dL_next_16 : decode cL_next 16 = .ok (.ireturn, 1) := by decide +kernel
set_option maxRecDepth 20000 in
theorem ggL_cassette_X0_cassette : GoodIn wsL_cassette wsX0_cassette := goodIn_ca (goodIn_r _ [6, 7, 8, 9, 10, 5, 11, 12, 13, 14, 15, 16, 17, 18, 19] (by decide +kernel) (by decide +kernel)) (goodIn_sub (fun _ h => List.mem_cons_of_mem _ (List.mem_append_right _ h)) (by decide +kernel))
set_option maxRecDepth 20000 in
theorem gL_cassette_X0_cassette : GoodIn wsL_cassette (wsV RL 34 RX0 yX0_cassette wsX0_cassette) := goodIn_app (goodIn_of _ (by decide +kernel)) ggL_cassette_X0_cassette
theorem dL_cassette_0 : decode cL_cassette 0 = .ok (.aload_n 3, 1) := by decide +kernel
theorem dL_cassette_1 : decode cL_cassette 1 = .ok (.iconst 0, 1) := by decide +kernel
theorem dL_cassette_2 : decode cL_cassette 2 = .ok (.aload_n 0, 1) := by decide +kernel
theorem dL_cassette_3 : decode cL_cassette 3 = .ok (.iload_n 1, 1) := by decide +kernel
theorem dL_cassette_4 : decode cL_cassette 4 = .ok (.iload_n 2, 1) := by decide +kernel
theorem dL_cassette_5 : decode cL_cassette 5 = .ok (.invokevirtual 34, 3) := by decide +kernel
theorem dL_cassette_8 : decode cL_cassette 8 = .ok (.i2l, 1) := by decide +kernel
theorem dL_cassette_9 : decode cL_cassette 9 = .ok (.lastore, 1) := by decide +kernel
theorem dL_cassette_10 : decode cL_cassette 10 = .ok (.goto 7, 3) := by decide +kernel
theorem dL_cassette_13 : decode cL_cassette 13 = .ok (.astore 4, 2) := by decide +kernel
theorem dL_cassette_15 : decode cL_cassette 15 = .ok (.iconst 1, 1) := by decide +kernel
theorem dL_cassette_16 : decode cL_cassette 16 = .ok (.ireturn, 1) := by decide +kernel
theorem dL_cassette_17 : decode cL_cassette 17 = .ok (.iconst 0, 1) := by decide +kernel
theorem dL_cassette_18 : decode cL_cassette 18 = .ok (.ireturn, 1) := by decide +kernel
set_option maxRecDepth 20000 in
theorem ggL_law_X0_init : GoodIn wsL_law wsX0_init := goodIn_r _ [8, 9, 10, 11, 12, 13, 14, 15, 16, 17, 18, 133, 134, 135, 136, 137, 138] (by decide +kernel) (by decide +kernel)
set_option maxRecDepth 20000 in
theorem gL_law_X0_init : GoodIn wsL_law (wsX0_init) := ggL_law_X0_init
set_option maxRecDepth 20000 in
theorem ggL_law_X1_init : GoodIn wsL_law wsX1_init := goodIn_r _ [21, 22, 10, 11, 12, 23, 24, 25, 26, 139, 140, 141, 142, 143, 144, 145] (by decide +kernel) (by decide +kernel)
set_option maxRecDepth 20000 in
theorem gL_law_X1_init : GoodIn wsL_law (wsX1_init) := ggL_law_X1_init
set_option maxRecDepth 20000 in
theorem ggL_law_L_load : GoodIn wsL_law wsL_load := goodIn_ca (goodIn_r _ [30, 31, 32, 33, 34, 2, 35, 13, 14, 36, 37, 38, 39, 40, 133, 134, 135, 136, 137, 138] (by decide +kernel) (by decide +kernel)) (goodIn_sub (fun _ h => List.mem_append_left _ (List.mem_append_right _ h)) (by decide +kernel))
set_option maxRecDepth 20000 in
theorem gL_law_L_load : GoodIn wsL_law (va_wsS RL 42 yL_load wsL_load) := goodIn_app (goodIn_of _ (by decide +kernel)) ggL_law_L_load
set_option maxRecDepth 20000 in
theorem ggL_law_L_best : GoodIn wsL_law wsL_best := goodIn_ca (goodIn_ca (goodIn_r _ [43, 31, 44, 45, 46, 47, 2, 48, 16, 49, 50, 51, 52, 53, 54, 17, 36, 37, 38, 39, 40, 55, 56, 57, 58, 13, 59, 60, 61, 62, 63, 64, 65, 66, 14, 67, 68, 69, 70, 71, 72, 73, 15, 133, 134, 135, 136, 137, 138] (by decide +kernel) (by decide +kernel)) (goodIn_sub (fun _ h => List.mem_append_right _ h) (by decide +kernel))) (goodIn_sub (fun _ h => List.mem_append_left _ (List.mem_append_right _ h)) (by decide +kernel))
set_option maxRecDepth 20000 in
theorem gL_law_L_best : GoodIn wsL_law (va_wsS RL 52 yL_best wsL_best) := goodIn_app (goodIn_of _ (by decide +kernel)) ggL_law_L_best
set_option maxRecDepth 20000 in
theorem ggL_law_L_part : GoodIn wsL_law wsL_part := goodIn_ca (goodIn_ca (goodIn_r _ [76, 31, 44, 77, 78, 79, 2, 80, 15, 36, 37, 38, 39, 40, 49, 50, 51, 52, 53, 54, 17, 55, 56, 57, 58, 16, 13, 59, 60, 61, 62, 63, 64, 65, 66, 14, 67, 68, 69, 70, 71, 72, 73, 133, 134, 135, 136, 137, 138] (by decide +kernel) (by decide +kernel)) (goodIn_sub (fun _ h => List.mem_append_left _ (List.mem_append_right _ h)) (by decide +kernel))) (goodIn_sub (fun _ h => List.mem_append_right _ h) (by decide +kernel))
set_option maxRecDepth 20000 in
theorem gL_law_L_part : GoodIn wsL_law (va_wsS RL 56 yL_part wsL_part) := goodIn_app (goodIn_of _ (by decide +kernel)) ggL_law_L_part
set_option maxRecDepth 20000 in
theorem ggL_law_L_ways : GoodIn wsL_law wsL_ways := goodIn_ca (goodIn_r _ [83, 31, 84, 85, 86, 2, 87, 17, 36, 37, 38, 39, 40, 55, 56, 57, 58, 16, 13, 59, 60, 61, 62, 63, 64, 65, 66, 14, 67, 68, 69, 70, 71, 72, 73, 15, 133, 134, 135, 136, 137, 138] (by decide +kernel) (by decide +kernel)) (goodIn_sub (fun _ h => List.mem_append_left _ (List.mem_append_right _ h)) (by decide +kernel))
set_option maxRecDepth 20000 in
theorem gL_law_L_ways : GoodIn wsL_law (va_wsS RL 60 yL_ways wsL_ways) := goodIn_app (goodIn_of _ (by decide +kernel)) ggL_law_L_ways
set_option maxRecDepth 20000 in
theorem ggL_law_L_pay : GoodIn wsL_law wsL_pay := goodIn_ca (goodIn_ca (goodIn_r _ [90, 31, 44, 91, 92, 93, 2, 94, 15, 67, 68, 65, 69, 14, 13, 36, 37, 38, 39, 40, 49, 50, 51, 52, 53, 54, 17, 55, 56, 57, 58, 16, 59, 60, 61, 62, 63, 64, 66, 70, 71, 72, 73, 133, 134, 135, 136, 137, 138] (by decide +kernel) (by decide +kernel)) (goodIn_sub (fun _ h => List.mem_append_left _ (List.mem_append_right _ h)) (by decide +kernel))) (goodIn_sub (fun _ h => List.mem_append_right _ h) (by decide +kernel))
set_option maxRecDepth 20000 in
theorem gL_law_L_pay : GoodIn wsL_law (va_wsS RL 63 yL_pay wsL_pay) := goodIn_app (goodIn_of _ (by decide +kernel)) ggL_law_L_pay
set_option maxRecDepth 20000 in
theorem ggL_law_L_next : GoodIn wsL_law wsL_next := goodIn_ca (goodIn_r _ [97, 31, 98, 99, 100, 2, 101, 18, 36, 37, 38, 39, 40, 102, 103, 104, 105, 106, 107, 108, 109, 110, 111, 112, 113, 14, 67, 68, 65, 69, 13, 114, 115, 116, 117, 133, 134, 135, 136, 137, 138] (by decide +kernel) (by decide +kernel)) (goodIn_sub (fun _ h => List.mem_append_left _ (List.mem_append_right _ h)) (by decide +kernel))
set_option maxRecDepth 20000 in
theorem gL_law_L_next : GoodIn wsL_law (va_wsS RL 66 yL_next wsL_next) := goodIn_app (goodIn_of _ (by decide +kernel)) ggL_law_L_next
set_option maxRecDepth 20000 in
theorem ggL_law_X0_reach : GoodIn wsL_law wsX0_reach := goodIn_r _ [121, 18, 102, 103, 104, 2, 105, 106, 107, 108, 109, 110, 111, 112, 113, 14, 67, 68, 65, 69, 13, 114, 115, 116, 117, 133, 134, 135, 136, 137, 138] (by decide +kernel) (by decide +kernel)
set_option maxRecDepth 20000 in
theorem gL_law_X0_reach : GoodIn wsL_law (wsV RL 69 RX0 yX0_reach wsX0_reach) := goodIn_app (goodIn_of _ (by decide +kernel)) ggL_law_X0_reach
set_option maxRecDepth 20000 in
theorem ggL_law_L_cassette : GoodIn wsL_law wsL_cassette := goodIn_ca (goodIn_r _ [124, 31, 125, 126, 127, 2, 128, 13, 14, 36, 37, 38, 39, 40, 133, 134, 135, 136, 137, 138] (by decide +kernel) (by decide +kernel)) (goodIn_sub (fun _ h => List.mem_append_left _ (List.mem_append_right _ h)) (by decide +kernel))
set_option maxRecDepth 20000 in
theorem gL_law_L_cassette : GoodIn wsL_law (va_wsS RL 73 yL_cassette wsL_cassette) := goodIn_app (goodIn_of _ (by decide +kernel)) ggL_law_L_cassette
set_option maxRecDepth 20000 in
theorem ggL_law_X0_value : GoodIn wsL_law wsX0_value := goodIn_r _ [132, 14, 13, 133, 134, 135, 136, 137, 138] (by decide +kernel) (by decide +kernel)
set_option maxRecDepth 20000 in
theorem gL_law_X0_value : GoodIn wsL_law (wsV RL 77 RX0 yX0_value wsX0_value) := goodIn_app (goodIn_of _ (by decide +kernel)) ggL_law_X0_value
theorem dL_law_0 : decode cL_law 0 = .ok (.new 8, 3) := by decide +kernel
theorem dL_law_3 : decode cL_law 3 = .ok (.dup, 1) := by decide +kernel
theorem dL_law_4 : decode cL_law 4 = .ok (.invokespecial 38, 3) := by decide +kernel
theorem dL_law_7 : decode cL_law 7 = .ok (.astore_n 1, 1) := by decide +kernel
theorem dL_law_8 : decode cL_law 8 = .ok (.new 39, 3) := by decide +kernel
theorem dL_law_11 : decode cL_law 11 = .ok (.dup, 1) := by decide +kernel
theorem dL_law_12 : decode cL_law 12 = .ok (.invokespecial 41, 3) := by decide +kernel
theorem dL_law_15 : decode cL_law 15 = .ok (.astore_n 2, 1) := by decide +kernel
theorem dL_law_16 : decode cL_law 16 = .ok (.iconst 1, 1) := by decide +kernel
theorem dL_law_17 : decode cL_law 17 = .ok (.newarray .long, 2) := by decide +kernel
theorem dL_law_19 : decode cL_law 19 = .ok (.astore_n 3, 1) := by decide +kernel
theorem dL_law_20 : decode cL_law 20 = .ok (.iconst 0, 1) := by decide +kernel
theorem dL_law_21 : decode cL_law 21 = .ok (.istore 4, 2) := by decide +kernel
theorem dL_law_23 : decode cL_law 23 = .ok (.iload 4, 2) := by decide +kernel
theorem dL_law_25 : decode cL_law 25 = .ok (.aload_n 0, 1) := by decide +kernel
theorem dL_law_26 : decode cL_law 26 = .ok (.arraylength, 1) := by decide +kernel
theorem dL_law_27 : decode cL_law 27 = .ok (.iconst 4, 1) := by decide +kernel
theorem dL_law_28 : decode cL_law 28 = .ok (.isub, 1) := by decide +kernel
theorem dL_law_29 : decode cL_law 29 = .ok (.if_icmp .gt 539, 3) := by decide +kernel
theorem dL_law_32 : decode cL_law 32 = .ok (.aload_n 0, 1) := by decide +kernel
theorem dL_law_33 : decode cL_law 33 = .ok (.iload 4, 2) := by decide +kernel
theorem dL_law_35 : decode cL_law 35 = .ok (.iaload, 1) := by decide +kernel
theorem dL_law_36 : decode cL_law 36 = .ok (.bipush 15, 2) := by decide +kernel
theorem dL_law_38 : decode cL_law 38 = .ok (.iand, 1) := by decide +kernel
theorem dL_law_39 : decode cL_law 39 = .ok (.tableswitch 523 0 8 #[49, 109, 165, 233, 289, 357, 413, 426, 510], 49) := by decide +kernel
theorem dL_law_88 : decode cL_law 88 = .ok (.aload_n 1, 1) := by decide +kernel
theorem dL_law_89 : decode cL_law 89 = .ok (.aload_n 0, 1) := by decide +kernel
theorem dL_law_90 : decode cL_law 90 = .ok (.iload 4, 2) := by decide +kernel
theorem dL_law_92 : decode cL_law 92 = .ok (.iconst 1, 1) := by decide +kernel
theorem dL_law_93 : decode cL_law 93 = .ok (.iadd, 1) := by decide +kernel
theorem dL_law_94 : decode cL_law 94 = .ok (.iaload, 1) := by decide +kernel
theorem dL_law_95 : decode cL_law 95 = .ok (.aload_n 0, 1) := by decide +kernel
theorem dL_law_96 : decode cL_law 96 = .ok (.iload 4, 2) := by decide +kernel
theorem dL_law_98 : decode cL_law 98 = .ok (.iconst 2, 1) := by decide +kernel
theorem dL_law_99 : decode cL_law 99 = .ok (.iadd, 1) := by decide +kernel
theorem dL_law_100 : decode cL_law 100 = .ok (.iaload, 1) := by decide +kernel
theorem dL_law_101 : decode cL_law 101 = .ok (.aload_n 0, 1) := by decide +kernel
theorem dL_law_102 : decode cL_law 102 = .ok (.iload 4, 2) := by decide +kernel
theorem dL_law_104 : decode cL_law 104 = .ok (.iconst 3, 1) := by decide +kernel
theorem dL_law_105 : decode cL_law 105 = .ok (.iadd, 1) := by decide +kernel
theorem dL_law_106 : decode cL_law 106 = .ok (.iaload, 1) := by decide +kernel
theorem dL_law_107 : decode cL_law 107 = .ok (.invokestatic 42, 3) := by decide +kernel
theorem dL_law_110 : decode cL_law 110 = .ok (.istore 5, 2) := by decide +kernel
theorem dL_law_112 : decode cL_law 112 = .ok (.aload_n 2, 1) := by decide +kernel
theorem dL_law_113 : decode cL_law 113 = .ok (.aload_n 0, 1) := by decide +kernel
theorem dL_law_114 : decode cL_law 114 = .ok (.iload 4, 2) := by decide +kernel
theorem dL_law_116 : decode cL_law 116 = .ok (.iconst 1, 1) := by decide +kernel
theorem dL_law_117 : decode cL_law 117 = .ok (.iadd, 1) := by decide +kernel
theorem dL_law_118 : decode cL_law 118 = .ok (.iaload, 1) := by decide +kernel
theorem dL_law_119 : decode cL_law 119 = .ok (.aload_n 0, 1) := by decide +kernel
theorem dL_law_120 : decode cL_law 120 = .ok (.iload 4, 2) := by decide +kernel
theorem dL_law_122 : decode cL_law 122 = .ok (.iconst 2, 1) := by decide +kernel
theorem dL_law_123 : decode cL_law 123 = .ok (.iadd, 1) := by decide +kernel
theorem dL_law_124 : decode cL_law 124 = .ok (.iaload, 1) := by decide +kernel
theorem dL_law_125 : decode cL_law 125 = .ok (.aload_n 0, 1) := by decide +kernel
theorem dL_law_126 : decode cL_law 126 = .ok (.iload 4, 2) := by decide +kernel
theorem dL_law_128 : decode cL_law 128 = .ok (.iconst 3, 1) := by decide +kernel
theorem dL_law_129 : decode cL_law 129 = .ok (.iadd, 1) := by decide +kernel
theorem dL_law_130 : decode cL_law 130 = .ok (.iaload, 1) := by decide +kernel
theorem dL_law_131 : decode cL_law 131 = .ok (.invokevirtual 47, 3) := by decide +kernel
theorem dL_law_134 : decode cL_law 134 = .ok (.aload_n 2, 1) := by decide +kernel
theorem dL_law_135 : decode cL_law 135 = .ok (.invokevirtual 48, 3) := by decide +kernel
theorem dL_law_138 : decode cL_law 138 = .ok (.iload 5, 2) := by decide +kernel
theorem dL_law_140 : decode cL_law 140 = .ok (.if_icmp .eq 5, 3) := by decide +kernel
theorem dL_law_143 : decode cL_law 143 = .ok (.iconst 0, 1) := by decide +kernel
theorem dL_law_144 : decode cL_law 144 = .ok (.ireturn, 1) := by decide +kernel
theorem dL_law_145 : decode cL_law 145 = .ok (.goto 417, 3) := by decide +kernel
theorem dL_law_148 : decode cL_law 148 = .ok (.aload_n 1, 1) := by decide +kernel
theorem dL_law_149 : decode cL_law 149 = .ok (.aload_n 0, 1) := by decide +kernel
theorem dL_law_150 : decode cL_law 150 = .ok (.iload 4, 2) := by decide +kernel
theorem dL_law_152 : decode cL_law 152 = .ok (.iconst 1, 1) := by decide +kernel
theorem dL_law_153 : decode cL_law 153 = .ok (.iadd, 1) := by decide +kernel
theorem dL_law_154 : decode cL_law 154 = .ok (.iaload, 1) := by decide +kernel
theorem dL_law_155 : decode cL_law 155 = .ok (.aload_n 3, 1) := by decide +kernel
theorem dL_law_156 : decode cL_law 156 = .ok (.invokestatic 52, 3) := by decide +kernel
theorem dL_law_159 : decode cL_law 159 = .ok (.istore 5, 2) := by decide +kernel
theorem dL_law_161 : decode cL_law 161 = .ok (.aload_n 2, 1) := by decide +kernel
theorem dL_law_162 : decode cL_law 162 = .ok (.aload_n 0, 1) := by decide +kernel
theorem dL_law_163 : decode cL_law 163 = .ok (.iload 4, 2) := by decide +kernel
theorem dL_law_165 : decode cL_law 165 = .ok (.iconst 1, 1) := by decide +kernel
theorem dL_law_166 : decode cL_law 166 = .ok (.iadd, 1) := by decide +kernel
theorem dL_law_167 : decode cL_law 167 = .ok (.iaload, 1) := by decide +kernel
theorem dL_law_168 : decode cL_law 168 = .ok (.invokevirtual 55, 3) := by decide +kernel
theorem dL_law_171 : decode cL_law 171 = .ok (.istore 6, 2) := by decide +kernel
theorem dL_law_173 : decode cL_law 173 = .ok (.aload_n 2, 1) := by decide +kernel
theorem dL_law_174 : decode cL_law 174 = .ok (.invokevirtual 48, 3) := by decide +kernel
theorem dL_law_177 : decode cL_law 177 = .ok (.iload 5, 2) := by decide +kernel
theorem dL_law_179 : decode cL_law 179 = .ok (.if_icmp .eq 5, 3) := by decide +kernel
theorem dL_law_182 : decode cL_law 182 = .ok (.iconst 0, 1) := by decide +kernel
theorem dL_law_183 : decode cL_law 183 = .ok (.ireturn, 1) := by decide +kernel
theorem dL_law_184 : decode cL_law 184 = .ok (.iload 5, 2) := by decide +kernel
theorem dL_law_186 : decode cL_law 186 = .ok (.ifCond .ne 15, 3) := by decide +kernel
theorem dL_law_189 : decode cL_law 189 = .ok (.aload_n 3, 1) := by decide +kernel
theorem dL_law_190 : decode cL_law 190 = .ok (.iconst 0, 1) := by decide +kernel
theorem dL_law_191 : decode cL_law 191 = .ok (.laload, 1) := by decide +kernel
theorem dL_law_192 : decode cL_law 192 = .ok (.iload 6, 2) := by decide +kernel
theorem dL_law_194 : decode cL_law 194 = .ok (.i2l, 1) := by decide +kernel
theorem dL_law_195 : decode cL_law 195 = .ok (.lcmp, 1) := by decide +kernel
theorem dL_law_196 : decode cL_law 196 = .ok (.ifCond .eq 5, 3) := by decide +kernel
theorem dL_law_199 : decode cL_law 199 = .ok (.iconst 0, 1) := by decide +kernel
theorem dL_law_200 : decode cL_law 200 = .ok (.ireturn, 1) := by decide +kernel
theorem dL_law_201 : decode cL_law 201 = .ok (.goto 361, 3) := by decide +kernel
theorem dL_law_204 : decode cL_law 204 = .ok (.aload_n 1, 1) := by decide +kernel
theorem dL_law_205 : decode cL_law 205 = .ok (.aload_n 0, 1) := by decide +kernel
theorem dL_law_206 : decode cL_law 206 = .ok (.iload 4, 2) := by decide +kernel
theorem dL_law_208 : decode cL_law 208 = .ok (.iconst 1, 1) := by decide +kernel
theorem dL_law_209 : decode cL_law 209 = .ok (.iadd, 1) := by decide +kernel
theorem dL_law_210 : decode cL_law 210 = .ok (.iaload, 1) := by decide +kernel
theorem dL_law_211 : decode cL_law 211 = .ok (.aload_n 0, 1) := by decide +kernel
theorem dL_law_212 : decode cL_law 212 = .ok (.iload 4, 2) := by decide +kernel
theorem dL_law_214 : decode cL_law 214 = .ok (.iconst 2, 1) := by decide +kernel
theorem dL_law_215 : decode cL_law 215 = .ok (.iadd, 1) := by decide +kernel
theorem dL_law_216 : decode cL_law 216 = .ok (.iaload, 1) := by decide +kernel
theorem dL_law_217 : decode cL_law 217 = .ok (.aload_n 3, 1) := by decide +kernel
theorem dL_law_218 : decode cL_law 218 = .ok (.invokestatic 56, 3) := by decide +kernel
theorem dL_law_221 : decode cL_law 221 = .ok (.istore 5, 2) := by decide +kernel
theorem dL_law_223 : decode cL_law 223 = .ok (.aload_n 2, 1) := by decide +kernel
theorem dL_law_224 : decode cL_law 224 = .ok (.aload_n 0, 1) := by decide +kernel
theorem dL_law_225 : decode cL_law 225 = .ok (.iload 4, 2) := by decide +kernel
theorem dL_law_227 : decode cL_law 227 = .ok (.iconst 1, 1) := by decide +kernel
theorem dL_law_228 : decode cL_law 228 = .ok (.iadd, 1) := by decide +kernel
theorem dL_law_229 : decode cL_law 229 = .ok (.iaload, 1) := by decide +kernel
theorem dL_law_230 : decode cL_law 230 = .ok (.aload_n 0, 1) := by decide +kernel
theorem dL_law_231 : decode cL_law 231 = .ok (.iload 4, 2) := by decide +kernel
theorem dL_law_233 : decode cL_law 233 = .ok (.iconst 2, 1) := by decide +kernel
theorem dL_law_234 : decode cL_law 234 = .ok (.iadd, 1) := by decide +kernel
theorem dL_law_235 : decode cL_law 235 = .ok (.iaload, 1) := by decide +kernel
theorem dL_law_236 : decode cL_law 236 = .ok (.invokevirtual 59, 3) := by decide +kernel
theorem dL_law_239 : decode cL_law 239 = .ok (.istore 6, 2) := by decide +kernel
theorem dL_law_241 : decode cL_law 241 = .ok (.aload_n 2, 1) := by decide +kernel
theorem dL_law_242 : decode cL_law 242 = .ok (.invokevirtual 48, 3) := by decide +kernel
theorem dL_law_245 : decode cL_law 245 = .ok (.iload 5, 2) := by decide +kernel
theorem dL_law_247 : decode cL_law 247 = .ok (.if_icmp .eq 5, 3) := by decide +kernel
theorem dL_law_250 : decode cL_law 250 = .ok (.iconst 0, 1) := by decide +kernel
theorem dL_law_251 : decode cL_law 251 = .ok (.ireturn, 1) := by decide +kernel
theorem dL_law_252 : decode cL_law 252 = .ok (.iload 5, 2) := by decide +kernel
theorem dL_law_254 : decode cL_law 254 = .ok (.ifCond .ne 15, 3) := by decide +kernel
theorem dL_law_257 : decode cL_law 257 = .ok (.aload_n 3, 1) := by decide +kernel
theorem dL_law_258 : decode cL_law 258 = .ok (.iconst 0, 1) := by decide +kernel
theorem dL_law_259 : decode cL_law 259 = .ok (.laload, 1) := by decide +kernel
theorem dL_law_260 : decode cL_law 260 = .ok (.iload 6, 2) := by decide +kernel
theorem dL_law_262 : decode cL_law 262 = .ok (.i2l, 1) := by decide +kernel
theorem dL_law_263 : decode cL_law 263 = .ok (.lcmp, 1) := by decide +kernel
theorem dL_law_264 : decode cL_law 264 = .ok (.ifCond .eq 5, 3) := by decide +kernel
theorem dL_law_267 : decode cL_law 267 = .ok (.iconst 0, 1) := by decide +kernel
theorem dL_law_268 : decode cL_law 268 = .ok (.ireturn, 1) := by decide +kernel
theorem dL_law_269 : decode cL_law 269 = .ok (.goto 293, 3) := by decide +kernel
theorem dL_law_272 : decode cL_law 272 = .ok (.aload_n 1, 1) := by decide +kernel
theorem dL_law_273 : decode cL_law 273 = .ok (.aload_n 0, 1) := by decide +kernel
theorem dL_law_274 : decode cL_law 274 = .ok (.iload 4, 2) := by decide +kernel
theorem dL_law_276 : decode cL_law 276 = .ok (.iconst 1, 1) := by decide +kernel
theorem dL_law_277 : decode cL_law 277 = .ok (.iadd, 1) := by decide +kernel
theorem dL_law_278 : decode cL_law 278 = .ok (.iaload, 1) := by decide +kernel
theorem dL_law_279 : decode cL_law 279 = .ok (.aload_n 3, 1) := by decide +kernel
theorem dL_law_280 : decode cL_law 280 = .ok (.invokestatic 60, 3) := by decide +kernel
theorem dL_law_283 : decode cL_law 283 = .ok (.istore 5, 2) := by decide +kernel
theorem dL_law_285 : decode cL_law 285 = .ok (.aload_n 2, 1) := by decide +kernel
theorem dL_law_286 : decode cL_law 286 = .ok (.aload_n 0, 1) := by decide +kernel
theorem dL_law_287 : decode cL_law 287 = .ok (.iload 4, 2) := by decide +kernel
theorem dL_law_289 : decode cL_law 289 = .ok (.iconst 1, 1) := by decide +kernel
theorem dL_law_290 : decode cL_law 290 = .ok (.iadd, 1) := by decide +kernel
theorem dL_law_291 : decode cL_law 291 = .ok (.iaload, 1) := by decide +kernel
theorem dL_law_292 : decode cL_law 292 = .ok (.invokevirtual 62, 3) := by decide +kernel
theorem dL_law_295 : decode cL_law 295 = .ok (.istore 6, 2) := by decide +kernel
theorem dL_law_297 : decode cL_law 297 = .ok (.aload_n 2, 1) := by decide +kernel
theorem dL_law_298 : decode cL_law 298 = .ok (.invokevirtual 48, 3) := by decide +kernel
theorem dL_law_301 : decode cL_law 301 = .ok (.iload 5, 2) := by decide +kernel
theorem dL_law_303 : decode cL_law 303 = .ok (.if_icmp .eq 5, 3) := by decide +kernel
theorem dL_law_306 : decode cL_law 306 = .ok (.iconst 0, 1) := by decide +kernel
theorem dL_law_307 : decode cL_law 307 = .ok (.ireturn, 1) := by decide +kernel
theorem dL_law_308 : decode cL_law 308 = .ok (.iload 5, 2) := by decide +kernel
theorem dL_law_310 : decode cL_law 310 = .ok (.ifCond .ne 15, 3) := by decide +kernel
theorem dL_law_313 : decode cL_law 313 = .ok (.aload_n 3, 1) := by decide +kernel
theorem dL_law_314 : decode cL_law 314 = .ok (.iconst 0, 1) := by decide +kernel
theorem dL_law_315 : decode cL_law 315 = .ok (.laload, 1) := by decide +kernel
theorem dL_law_316 : decode cL_law 316 = .ok (.iload 6, 2) := by decide +kernel
theorem dL_law_318 : decode cL_law 318 = .ok (.i2l, 1) := by decide +kernel
theorem dL_law_319 : decode cL_law 319 = .ok (.lcmp, 1) := by decide +kernel
theorem dL_law_320 : decode cL_law 320 = .ok (.ifCond .eq 5, 3) := by decide +kernel
theorem dL_law_323 : decode cL_law 323 = .ok (.iconst 0, 1) := by decide +kernel
theorem dL_law_324 : decode cL_law 324 = .ok (.ireturn, 1) := by decide +kernel
theorem dL_law_325 : decode cL_law 325 = .ok (.goto 237, 3) := by decide +kernel
theorem dL_law_328 : decode cL_law 328 = .ok (.aload_n 1, 1) := by decide +kernel
theorem dL_law_329 : decode cL_law 329 = .ok (.aload_n 0, 1) := by decide +kernel
theorem dL_law_330 : decode cL_law 330 = .ok (.iload 4, 2) := by decide +kernel
theorem dL_law_332 : decode cL_law 332 = .ok (.iconst 1, 1) := by decide +kernel
theorem dL_law_333 : decode cL_law 333 = .ok (.iadd, 1) := by decide +kernel
theorem dL_law_334 : decode cL_law 334 = .ok (.iaload, 1) := by decide +kernel
theorem dL_law_335 : decode cL_law 335 = .ok (.aload_n 0, 1) := by decide +kernel
theorem dL_law_336 : decode cL_law 336 = .ok (.iload 4, 2) := by decide +kernel
theorem dL_law_338 : decode cL_law 338 = .ok (.iconst 2, 1) := by decide +kernel
theorem dL_law_339 : decode cL_law 339 = .ok (.iadd, 1) := by decide +kernel
theorem dL_law_340 : decode cL_law 340 = .ok (.iaload, 1) := by decide +kernel
theorem dL_law_341 : decode cL_law 341 = .ok (.aload_n 3, 1) := by decide +kernel
theorem dL_law_342 : decode cL_law 342 = .ok (.invokestatic 63, 3) := by decide +kernel
theorem dL_law_345 : decode cL_law 345 = .ok (.istore 5, 2) := by decide +kernel
theorem dL_law_347 : decode cL_law 347 = .ok (.aload_n 2, 1) := by decide +kernel
theorem dL_law_348 : decode cL_law 348 = .ok (.aload_n 0, 1) := by decide +kernel
theorem dL_law_349 : decode cL_law 349 = .ok (.iload 4, 2) := by decide +kernel
theorem dL_law_351 : decode cL_law 351 = .ok (.iconst 1, 1) := by decide +kernel
theorem dL_law_352 : decode cL_law 352 = .ok (.iadd, 1) := by decide +kernel
theorem dL_law_353 : decode cL_law 353 = .ok (.iaload, 1) := by decide +kernel
theorem dL_law_354 : decode cL_law 354 = .ok (.aload_n 0, 1) := by decide +kernel
theorem dL_law_355 : decode cL_law 355 = .ok (.iload 4, 2) := by decide +kernel
theorem dL_law_357 : decode cL_law 357 = .ok (.iconst 2, 1) := by decide +kernel
theorem dL_law_358 : decode cL_law 358 = .ok (.iadd, 1) := by decide +kernel
theorem dL_law_359 : decode cL_law 359 = .ok (.iaload, 1) := by decide +kernel
theorem dL_law_360 : decode cL_law 360 = .ok (.invokevirtual 65, 3) := by decide +kernel
theorem dL_law_363 : decode cL_law 363 = .ok (.istore 6, 2) := by decide +kernel
theorem dL_law_365 : decode cL_law 365 = .ok (.aload_n 2, 1) := by decide +kernel
theorem dL_law_366 : decode cL_law 366 = .ok (.invokevirtual 48, 3) := by decide +kernel
theorem dL_law_369 : decode cL_law 369 = .ok (.iload 5, 2) := by decide +kernel
theorem dL_law_371 : decode cL_law 371 = .ok (.if_icmp .eq 5, 3) := by decide +kernel
theorem dL_law_374 : decode cL_law 374 = .ok (.iconst 0, 1) := by decide +kernel
theorem dL_law_375 : decode cL_law 375 = .ok (.ireturn, 1) := by decide +kernel
theorem dL_law_376 : decode cL_law 376 = .ok (.iload 5, 2) := by decide +kernel
theorem dL_law_378 : decode cL_law 378 = .ok (.ifCond .ne 15, 3) := by decide +kernel
theorem dL_law_381 : decode cL_law 381 = .ok (.aload_n 3, 1) := by decide +kernel
theorem dL_law_382 : decode cL_law 382 = .ok (.iconst 0, 1) := by decide +kernel
theorem dL_law_383 : decode cL_law 383 = .ok (.laload, 1) := by decide +kernel
theorem dL_law_384 : decode cL_law 384 = .ok (.iload 6, 2) := by decide +kernel
theorem dL_law_386 : decode cL_law 386 = .ok (.i2l, 1) := by decide +kernel
theorem dL_law_387 : decode cL_law 387 = .ok (.lcmp, 1) := by decide +kernel
theorem dL_law_388 : decode cL_law 388 = .ok (.ifCond .eq 5, 3) := by decide +kernel
theorem dL_law_391 : decode cL_law 391 = .ok (.iconst 0, 1) := by decide +kernel
theorem dL_law_392 : decode cL_law 392 = .ok (.ireturn, 1) := by decide +kernel
theorem dL_law_393 : decode cL_law 393 = .ok (.goto 169, 3) := by decide +kernel
theorem dL_law_396 : decode cL_law 396 = .ok (.aload_n 1, 1) := by decide +kernel
theorem dL_law_397 : decode cL_law 397 = .ok (.aload_n 0, 1) := by decide +kernel
theorem dL_law_398 : decode cL_law 398 = .ok (.iload 4, 2) := by decide +kernel
theorem dL_law_400 : decode cL_law 400 = .ok (.iconst 1, 1) := by decide +kernel
theorem dL_law_401 : decode cL_law 401 = .ok (.iadd, 1) := by decide +kernel
theorem dL_law_402 : decode cL_law 402 = .ok (.iaload, 1) := by decide +kernel
theorem dL_law_403 : decode cL_law 403 = .ok (.aload_n 3, 1) := by decide +kernel
theorem dL_law_404 : decode cL_law 404 = .ok (.invokestatic 66, 3) := by decide +kernel
theorem dL_law_407 : decode cL_law 407 = .ok (.istore 5, 2) := by decide +kernel
theorem dL_law_409 : decode cL_law 409 = .ok (.aload_n 2, 1) := by decide +kernel
theorem dL_law_410 : decode cL_law 410 = .ok (.aload_n 0, 1) := by decide +kernel
theorem dL_law_411 : decode cL_law 411 = .ok (.iload 4, 2) := by decide +kernel
theorem dL_law_413 : decode cL_law 413 = .ok (.iconst 1, 1) := by decide +kernel
theorem dL_law_414 : decode cL_law 414 = .ok (.iadd, 1) := by decide +kernel
theorem dL_law_415 : decode cL_law 415 = .ok (.iaload, 1) := by decide +kernel
theorem dL_law_416 : decode cL_law 416 = .ok (.invokevirtual 68, 3) := by decide +kernel
theorem dL_law_419 : decode cL_law 419 = .ok (.istore 6, 2) := by decide +kernel
theorem dL_law_421 : decode cL_law 421 = .ok (.aload_n 2, 1) := by decide +kernel
theorem dL_law_422 : decode cL_law 422 = .ok (.invokevirtual 48, 3) := by decide +kernel
theorem dL_law_425 : decode cL_law 425 = .ok (.iload 5, 2) := by decide +kernel
theorem dL_law_427 : decode cL_law 427 = .ok (.if_icmp .eq 5, 3) := by decide +kernel
theorem dL_law_430 : decode cL_law 430 = .ok (.iconst 0, 1) := by decide +kernel
theorem dL_law_431 : decode cL_law 431 = .ok (.ireturn, 1) := by decide +kernel
theorem dL_law_432 : decode cL_law 432 = .ok (.iload 5, 2) := by decide +kernel
theorem dL_law_434 : decode cL_law 434 = .ok (.ifCond .ne 15, 3) := by decide +kernel
theorem dL_law_437 : decode cL_law 437 = .ok (.aload_n 3, 1) := by decide +kernel
theorem dL_law_438 : decode cL_law 438 = .ok (.iconst 0, 1) := by decide +kernel
theorem dL_law_439 : decode cL_law 439 = .ok (.laload, 1) := by decide +kernel
theorem dL_law_440 : decode cL_law 440 = .ok (.iload 6, 2) := by decide +kernel
theorem dL_law_442 : decode cL_law 442 = .ok (.i2l, 1) := by decide +kernel
theorem dL_law_443 : decode cL_law 443 = .ok (.lcmp, 1) := by decide +kernel
theorem dL_law_444 : decode cL_law 444 = .ok (.ifCond .eq 5, 3) := by decide +kernel
theorem dL_law_447 : decode cL_law 447 = .ok (.iconst 0, 1) := by decide +kernel
theorem dL_law_448 : decode cL_law 448 = .ok (.ireturn, 1) := by decide +kernel
theorem dL_law_449 : decode cL_law 449 = .ok (.goto 113, 3) := by decide +kernel
theorem dL_law_452 : decode cL_law 452 = .ok (.aload_n 1, 1) := by decide +kernel
theorem dL_law_453 : decode cL_law 453 = .ok (.invokevirtual 69, 3) := by decide +kernel
theorem dL_law_456 : decode cL_law 456 = .ok (.aload_n 2, 1) := by decide +kernel
theorem dL_law_457 : decode cL_law 457 = .ok (.invokevirtual 72, 3) := by decide +kernel
theorem dL_law_460 : decode cL_law 460 = .ok (.if_icmp .eq 102, 3) := by decide +kernel
theorem dL_law_463 : decode cL_law 463 = .ok (.iconst 0, 1) := by decide +kernel
theorem dL_law_464 : decode cL_law 464 = .ok (.ireturn, 1) := by decide +kernel
theorem dL_law_465 : decode cL_law 465 = .ok (.aload_n 1, 1) := by decide +kernel
theorem dL_law_466 : decode cL_law 466 = .ok (.aload_n 0, 1) := by decide +kernel
theorem dL_law_467 : decode cL_law 467 = .ok (.iload 4, 2) := by decide +kernel
theorem dL_law_469 : decode cL_law 469 = .ok (.iconst 1, 1) := by decide +kernel
theorem dL_law_470 : decode cL_law 470 = .ok (.iadd, 1) := by decide +kernel
theorem dL_law_471 : decode cL_law 471 = .ok (.iaload, 1) := by decide +kernel
theorem dL_law_472 : decode cL_law 472 = .ok (.aload_n 0, 1) := by decide +kernel
theorem dL_law_473 : decode cL_law 473 = .ok (.iload 4, 2) := by decide +kernel
theorem dL_law_475 : decode cL_law 475 = .ok (.iconst 2, 1) := by decide +kernel
theorem dL_law_476 : decode cL_law 476 = .ok (.iadd, 1) := by decide +kernel
theorem dL_law_477 : decode cL_law 477 = .ok (.iaload, 1) := by decide +kernel
theorem dL_law_478 : decode cL_law 478 = .ok (.ifCond .eq 7, 3) := by decide +kernel
theorem dL_law_481 : decode cL_law 481 = .ok (.iconst 1, 1) := by decide +kernel
theorem dL_law_482 : decode cL_law 482 = .ok (.goto 4, 3) := by decide +kernel
theorem dL_law_485 : decode cL_law 485 = .ok (.iconst 0, 1) := by decide +kernel
theorem dL_law_486 : decode cL_law 486 = .ok (.aload_n 3, 1) := by decide +kernel
theorem dL_law_487 : decode cL_law 487 = .ok (.invokestatic 73, 3) := by decide +kernel
theorem dL_law_490 : decode cL_law 490 = .ok (.istore 5, 2) := by decide +kernel
theorem dL_law_492 : decode cL_law 492 = .ok (.aload_n 2, 1) := by decide +kernel
theorem dL_law_493 : decode cL_law 493 = .ok (.aload_n 0, 1) := by decide +kernel
theorem dL_law_494 : decode cL_law 494 = .ok (.iload 4, 2) := by decide +kernel
theorem dL_law_496 : decode cL_law 496 = .ok (.iconst 1, 1) := by decide +kernel
theorem dL_law_497 : decode cL_law 497 = .ok (.iadd, 1) := by decide +kernel
theorem dL_law_498 : decode cL_law 498 = .ok (.iaload, 1) := by decide +kernel
theorem dL_law_499 : decode cL_law 499 = .ok (.aload_n 0, 1) := by decide +kernel
theorem dL_law_500 : decode cL_law 500 = .ok (.iload 4, 2) := by decide +kernel
theorem dL_law_502 : decode cL_law 502 = .ok (.iconst 2, 1) := by decide +kernel
theorem dL_law_503 : decode cL_law 503 = .ok (.iadd, 1) := by decide +kernel
theorem dL_law_504 : decode cL_law 504 = .ok (.iaload, 1) := by decide +kernel
theorem dL_law_505 : decode cL_law 505 = .ok (.ifCond .eq 7, 3) := by decide +kernel
theorem dL_law_508 : decode cL_law 508 = .ok (.iconst 1, 1) := by decide +kernel
theorem dL_law_509 : decode cL_law 509 = .ok (.goto 4, 3) := by decide +kernel
theorem dL_law_512 : decode cL_law 512 = .ok (.iconst 0, 1) := by decide +kernel
theorem dL_law_513 : decode cL_law 513 = .ok (.invokevirtual 76, 3) := by decide +kernel
theorem dL_law_516 : decode cL_law 516 = .ok (.istore 6, 2) := by decide +kernel
theorem dL_law_518 : decode cL_law 518 = .ok (.aload_n 2, 1) := by decide +kernel
theorem dL_law_519 : decode cL_law 519 = .ok (.invokevirtual 48, 3) := by decide +kernel
theorem dL_law_522 : decode cL_law 522 = .ok (.iload 5, 2) := by decide +kernel
theorem dL_law_524 : decode cL_law 524 = .ok (.if_icmp .eq 5, 3) := by decide +kernel
theorem dL_law_527 : decode cL_law 527 = .ok (.iconst 0, 1) := by decide +kernel
theorem dL_law_528 : decode cL_law 528 = .ok (.ireturn, 1) := by decide +kernel
theorem dL_law_529 : decode cL_law 529 = .ok (.iload 5, 2) := by decide +kernel
theorem dL_law_531 : decode cL_law 531 = .ok (.ifCond .ne 15, 3) := by decide +kernel
theorem dL_law_534 : decode cL_law 534 = .ok (.aload_n 3, 1) := by decide +kernel
theorem dL_law_535 : decode cL_law 535 = .ok (.iconst 0, 1) := by decide +kernel
theorem dL_law_536 : decode cL_law 536 = .ok (.laload, 1) := by decide +kernel
theorem dL_law_537 : decode cL_law 537 = .ok (.iload 6, 2) := by decide +kernel
theorem dL_law_539 : decode cL_law 539 = .ok (.i2l, 1) := by decide +kernel
theorem dL_law_540 : decode cL_law 540 = .ok (.lcmp, 1) := by decide +kernel
theorem dL_law_541 : decode cL_law 541 = .ok (.ifCond .eq 5, 3) := by decide +kernel
theorem dL_law_544 : decode cL_law 544 = .ok (.iconst 0, 1) := by decide +kernel
theorem dL_law_545 : decode cL_law 545 = .ok (.ireturn, 1) := by decide +kernel
theorem dL_law_546 : decode cL_law 546 = .ok (.goto 16, 3) := by decide +kernel
theorem dL_law_549 : decode cL_law 549 = .ok (.aload_n 1, 1) := by decide +kernel
theorem dL_law_550 : decode cL_law 550 = .ok (.invokevirtual 77, 3) := by decide +kernel
theorem dL_law_553 : decode cL_law 553 = .ok (.aload_n 2, 1) := by decide +kernel
theorem dL_law_554 : decode cL_law 554 = .ok (.invokevirtual 80, 3) := by decide +kernel
theorem dL_law_557 : decode cL_law 557 = .ok (.if_icmp .eq 5, 3) := by decide +kernel
theorem dL_law_560 : decode cL_law 560 = .ok (.iconst 0, 1) := by decide +kernel
theorem dL_law_561 : decode cL_law 561 = .ok (.ireturn, 1) := by decide +kernel
theorem dL_law_562 : decode cL_law 562 = .ok (.iinc 4 4, 3) := by decide +kernel
theorem dL_law_565 : decode cL_law 565 = .ok (.goto (-542), 3) := by decide +kernel
theorem dL_law_568 : decode cL_law 568 = .ok (.iconst 1, 1) := by decide +kernel
theorem dL_law_569 : decode cL_law 569 = .ok (.ireturn, 1) := by decide +kernel
abbrev vwCl : List vw_C := [(RX0, TX0, 6), (RX1, TX1, 7)]
end
section
/-! The mathematics of mixes, apart from the machine: w = worths, n = notes (by cassette), v an amount. -/
/-- (a, b, c, d) notes of the cassettes 0, 1, 2, 3 are a mix of v -/
def mx_M (w n : Nat → Nat) (v a b c d : Nat) : Prop := a ≤ n 0 ∧ b ≤ n 1 ∧ c ≤ n 2 ∧ d ≤ n 3 ∧ a + b + c + d ≤ 40 ∧ a * w 0 + b * w 1 + c * w 2 + d * w 3 = v
/-- the place of (b, c, d) in the order: most of cassette 3, then of 2, then of 1 -/
def mx_k (b c d : Nat) : Nat := d * 1681 + c * 41 + b
def mx_has (w n : Nat → Nat) (v : Nat) : Prop := ∃ a b c d, mx_M w n v a b c d
noncomputable def mx_t (w n : Nat → Nat) (v k : Nat) : Nat := @ite Nat (∃ a, mx_M w n v a (k % 41) (k / 41 % 41) (k / 1681)) (Classical.propDecidable _) 1 0
/-- how many mixes of v stand at places before k -/
noncomputable def mx_c (w n : Nat → Nat) (v : Nat) : Nat → Nat
  | 0 => 0
  | k + 1 => mx_c w n v k + mx_t w n v k
/-- (a, b, c, d) is the best of v -/
def mx_B (w n : Nat → Nat) (v a b c d : Nat) : Prop := mx_M w n v a b c d ∧ ∀ a' b' c' d', mx_M w n v a' b' c' d' → a + b + c + d < a' + b' + c' + d' ∨ (a' + b' + c' + d' = a + b + c + d ∧ mx_k b' c' d' ≤ mx_k b c d)
theorem mx_kd (k : Nat) : mx_k (k % 41) (k / 41 % 41) (k / 1681) = k := by unfold mx_k; omega
theorem mx_kb {b c d : Nat} (hb : b ≤ 40) (hc : c ≤ 40) : mx_k b c d % 41 = b ∧ mx_k b c d / 41 % 41 = c ∧ mx_k b c d / 1681 = d := by
  unfold mx_k
  refine ⟨?_, ?_, ?_⟩ <;> omega
theorem mx_ti {w n : Nat → Nat} {v k : Nat} (h : ∃ a, mx_M w n v a (k % 41) (k / 41 % 41) (k / 1681)) : mx_t w n v k = 1 := by
  unfold mx_t
  exact if_pos h
theorem mx_te {w n : Nat → Nat} {v k : Nat} (h : ¬ ∃ a, mx_M w n v a (k % 41) (k / 41 % 41) (k / 1681)) : mx_t w n v k = 0 := by
  unfold mx_t
  exact if_neg h
theorem mx_M40 {w n : Nat → Nat} {v a b c d : Nat} (h : mx_M w n v a b c d) : a ≤ 40 ∧ b ≤ 40 ∧ c ≤ 40 ∧ d ≤ 40 := by
  obtain ⟨_, _, _, _, h, _⟩ := h
  omega
theorem mx_klt {w n : Nat → Nat} {v a b c d : Nat} (h : mx_M w n v a b c d) : mx_k b c d < 68921 := by
  obtain ⟨_, _, _, _⟩ := mx_M40 h
  unfold mx_k
  omega
theorem mx_t1 {w n : Nat → Nat} {v a b c d : Nat} (h : mx_M w n v a b c d) : mx_t w n v (mx_k b c d) = 1 := by
  obtain ⟨_, hb, hc, _⟩ := mx_M40 h
  obtain ⟨e1, e2, e3⟩ := mx_kb (d := d) hb hc
  refine mx_ti ⟨a, ?_⟩
  rw [e1, e2, e3]
  exact h
theorem mx_skipc {w n : Nat → Nat} {v K : Nat} : ∀ j, (∀ a b c d, mx_M w n v a b c d → ¬ (K ≤ mx_k b c d ∧ mx_k b c d < K + j)) → mx_c w n v (K + j) = mx_c w n v K := by
  intro j
  induction j with
  | zero => intro _; rfl
  | succ j ih =>
    intro h
    have h1 := ih (fun a b c d hm hk => h a b c d hm ⟨hk.1, by omega⟩)
    have h2 : mx_t w n v (K + j) = 0 := mx_te (fun ⟨a, ha⟩ => h a _ _ _ ha (by rw [mx_kd]; omega))
    show mx_c w n v (K + j) + mx_t w n v (K + j) = _
    rw [h1, h2, Nat.add_zero]
theorem mx_same {w n : Nat → Nat} {v a b c d a' b' c' d' : Nat} (h0 : 1 ≤ w 0) (hm : mx_M w n v a b c d) (hm' : mx_M w n v a' b' c' d') (hk : mx_k b' c' d' = mx_k b c d) : a' = a ∧ b' = b ∧ c' = c ∧ d' = d := by
  obtain ⟨_, q2, q3, q4⟩ := mx_M40 hm
  obtain ⟨_, r2, r3, r4⟩ := mx_M40 hm'
  have hb : b' = b ∧ c' = c ∧ d' = d := by
    unfold mx_k at hk
    omega
  obtain ⟨rfl, rfl, rfl⟩ := hb
  obtain ⟨_, _, _, _, _, e⟩ := hm
  obtain ⟨_, _, _, _, _, e'⟩ := hm'
  have h9 : a' * w 0 = a * w 0 := by omega
  exact ⟨Nat.eq_of_mul_eq_mul_right h0 h9, rfl, rfl, rfl⟩
/-- the best is one -/
theorem mx_one {w n : Nat → Nat} {v a b c d a' b' c' d' : Nat} (h : mx_B w n v a b c d) (h' : mx_B w n v a' b' c' d') : a' = a ∧ b' = b ∧ c' = c ∧ d' = d := by
  obtain ⟨_, q2, q3, q4⟩ := mx_M40 h.1
  obtain ⟨_, r2, r3, r4⟩ := mx_M40 h'.1
  have x1 := h.2 _ _ _ _ h'.1
  have x2 := h'.2 _ _ _ _ h.1
  unfold mx_k at x1 x2
  omega
/-- what a walk over the places before K has found: cnt mixes, the best of them bm, of size bs -/
def mx_I (w n : Nat → Nat) (v K cnt bs : Nat) (bm : Nat → Nat) : Prop :=
  cnt = mx_c w n v K ∧ cnt ≤ K ∧ ((cnt = 0 ∧ bs = 41 ∧ ∀ a b c d, mx_M w n v a b c d → ¬ mx_k b c d < K) ∨
    (0 < cnt ∧ mx_M w n v (bm 0) (bm 1) (bm 2) (bm 3) ∧ mx_k (bm 1) (bm 2) (bm 3) < K ∧ bs = bm 0 + bm 1 + bm 2 + bm 3 ∧
      ∀ a b c d, mx_M w n v a b c d → mx_k b c d < K → bs < a + b + c + d ∨ (a + b + c + d = bs ∧ mx_k b c d ≤ mx_k (bm 1) (bm 2) (bm 3))))
theorem mx_I0 {w n bm : Nat → Nat} {v : Nat} : mx_I w n v 0 0 41 bm := ⟨rfl, Nat.le_refl _, Or.inl ⟨rfl, rfl, fun _ _ _ _ _ h => absurd h (Nat.not_lt_zero _)⟩⟩
theorem mx_Ibs {w n bm : Nat → Nat} {v K cnt bs : Nat} (h : mx_I w n v K cnt bs bm) : bs ≤ 41 := by
  obtain ⟨_, _, ⟨_, h, _⟩ | ⟨_, ⟨_, _, _, _, h1, _⟩, _, h2, _⟩⟩ := h <;> omega
theorem mx_Iskip {w n bm : Nat → Nat} {v K K' cnt bs : Nat} (h : mx_I w n v K cnt bs bm) (hK : K ≤ K') (hs : ∀ a b c d, mx_M w n v a b c d → ¬ (K ≤ mx_k b c d ∧ mx_k b c d < K')) : mx_I w n v K' cnt bs bm := by
  obtain ⟨h1, h0, h2⟩ := h
  obtain ⟨j, rfl⟩ : ∃ j, K' = K + j := ⟨K' - K, by omega⟩
  have hk : ∀ a b c d, mx_M w n v a b c d → mx_k b c d < K + j → mx_k b c d < K := fun a b c d hm hlt => by
    have h9 := hs a b c d hm
    omega
  refine ⟨by rw [mx_skipc j hs]; exact h1, by omega, ?_⟩
  rcases h2 with ⟨e1, e2, e3⟩ | ⟨e1, e2, e3, e4, e5⟩
  · exact Or.inl ⟨e1, e2, fun a b c d hm hlt => e3 a b c d hm (hk a b c d hm hlt)⟩
  · exact Or.inr ⟨e1, e2, by omega, e4, fun a b c d hm hlt => e5 a b c d hm (hk a b c d hm hlt)⟩
theorem mx_Inone {w n bm : Nat → Nat} {v b c d cnt bs : Nat} (hb : b ≤ 40) (hc : c ≤ 40) (h : mx_I w n v (mx_k b c d) cnt bs bm) (hn : ∀ a, ¬ mx_M w n v a b c d) : mx_I w n v (mx_k b c d + 1) cnt bs bm := by
  refine mx_Iskip h (Nat.le_succ _) (fun a' b' c' d' hm hk => ?_)
  obtain ⟨_, q2, q3, q4⟩ := mx_M40 hm
  have e : b' = b ∧ c' = c ∧ d' = d := by
    unfold mx_k at hk
    omega
  obtain ⟨rfl, rfl, rfl⟩ := e
  exact hn _ hm
theorem mx_Ifound {w n bm : Nat → Nat} {v a b c d cnt bs : Nat} (h0 : 1 ≤ w 0) (h : mx_I w n v (mx_k b c d) cnt bs bm) (hm : mx_M w n v a b c d) (hle : a + b + c + d ≤ bs) {bm' : Nat → Nat} (e0 : bm' 0 = a) (e1 : bm' 1 = b) (e2 : bm' 2 = c) (e3 : bm' 3 = d) : mx_I w n v (mx_k b c d + 1) (cnt + 1) (a + b + c + d) bm' := by
  obtain ⟨h1, hc0, h2⟩ := h
  have ht := mx_t1 hm
  refine ⟨by show _ = mx_c w n v (mx_k b c d) + mx_t w n v (mx_k b c d); rw [ht, h1], by omega, Or.inr ⟨by omega, by rw [e0, e1, e2, e3]; exact hm, by rw [e1, e2, e3]; omega, by rw [e0, e1, e2, e3], ?_⟩⟩
  intro a' b' c' d' hm' hlt
  rw [e1, e2, e3]
  by_cases hk : mx_k b' c' d' = mx_k b c d
  · obtain ⟨r1, r2, r3, r4⟩ := mx_same h0 hm hm' hk
    rw [r1, r2, r3, r4]
    exact Or.inr ⟨rfl, Nat.le_refl _⟩
  · have hlt' : mx_k b' c' d' < mx_k b c d := by omega
    rcases h2 with ⟨_, _, q⟩ | ⟨_, _, _, q4, q⟩
    · exact absurd hlt' (q a' b' c' d' hm')
    · have q9 := q a' b' c' d' hm' hlt'
      omega
theorem mx_Ikeep {w n bm : Nat → Nat} {v a b c d cnt bs : Nat} (h0 : 1 ≤ w 0) (h : mx_I w n v (mx_k b c d) cnt bs bm) (hm : mx_M w n v a b c d) (hgt : bs < a + b + c + d) : mx_I w n v (mx_k b c d + 1) (cnt + 1) bs bm := by
  obtain ⟨h1, hc0, h2⟩ := h
  have ht := mx_t1 hm
  have h40 : a + b + c + d ≤ 40 := hm.2.2.2.2.1
  refine ⟨by show _ = mx_c w n v (mx_k b c d) + mx_t w n v (mx_k b c d); rw [ht, h1], by omega, Or.inr ?_⟩
  rcases h2 with ⟨_, q, _⟩ | ⟨q1, q2, q3, q4, q⟩
  · omega
  · refine ⟨by omega, q2, by omega, q4, fun a' b' c' d' hm' hlt => ?_⟩
    by_cases hk : mx_k b' c' d' = mx_k b c d
    · obtain ⟨r1, r2, r3, r4⟩ := mx_same h0 hm hm' hk
      rw [r1, r2, r3, r4]
      exact Or.inl hgt
    · exact q a' b' c' d' hm' (by omega)
/-- what a whole survey of v leaves: the count, and the best where there is a mix -/
def mx_E (w n : Nat → Nat) (v cnt bs : Nat) (bm : Nat → Nat) : Prop :=
  cnt = mx_c w n v 68921 ∧ cnt ≤ 68921 ∧ bs ≤ 41 ∧ ((cnt = 0 ∧ ¬ mx_has w n v) ∨ (0 < cnt ∧ mx_has w n v ∧ bs = bm 0 + bm 1 + bm 2 + bm 3 ∧ mx_B w n v (bm 0) (bm 1) (bm 2) (bm 3)))
theorem mx_Iend {w n bm : Nat → Nat} {v cnt bs : Nat} (h : mx_I w n v 68921 cnt bs bm) : mx_E w n v cnt bs bm := by
  have h9 := mx_Ibs h
  obtain ⟨h1, h0, h2⟩ := h
  refine ⟨h1, h0, h9, ?_⟩
  rcases h2 with ⟨q1, _, q⟩ | ⟨q1, q2, _, q4, q⟩
  · exact Or.inl ⟨q1, fun ⟨a, b, c, d, hm⟩ => q a b c d hm (mx_klt hm)⟩
  · refine Or.inr ⟨q1, ⟨_, _, _, _, q2⟩, q4, q2, fun a b c d hm => ?_⟩
    have x := q a b c d hm (mx_klt hm)
    omega
/-- the most notes of a cassette that go into an amount and a room -/
def mx_m (n w amt room : Nat) : Nat := min (min n room) (amt / w)
theorem mx_le {x n w amt room : Nat} (h : x ≤ mx_m n w amt room) : x ≤ n ∧ x ≤ room ∧ x * w ≤ amt := by
  unfold mx_m at h
  have h3 : x ≤ amt / w := by omega
  exact ⟨by omega, by omega, Nat.le_trans (Nat.mul_le_mul_right w h3) (Nat.div_mul_le_self amt w)⟩
theorem mx_ge {x n w amt room : Nat} (hw : 1 ≤ w) (h1 : x ≤ n) (h2 : x ≤ room) (h3 : x * w ≤ amt) : x ≤ mx_m n w amt room := by
  unfold mx_m
  have h9 : x ≤ amt / w := (Nat.le_div_iff_mul_le hw).2 h3
  omega
theorem mx_skip1 {w n : Nat → Nat} {v c d : Nat} (hw : 1 ≤ w 1) (hc : c ≤ 40) : ∀ a' b' c' d', mx_M w n v a' b' c' d' → ¬ (mx_k (mx_m (n 1) (w 1) (v - d * w 3 - c * w 2) (40 - d - c) + 1) c d ≤ mx_k b' c' d' ∧ mx_k b' c' d' < mx_k 0 (c + 1) d) := by
  intro a' b' c' d' hm hk
  obtain ⟨_, q2, q3, q4⟩ := mx_M40 hm
  have e : c' = c ∧ d' = d ∧ mx_m (n 1) (w 1) (v - d * w 3 - c * w 2) (40 - d - c) < b' := by
    unfold mx_k at hk
    omega
  obtain ⟨rfl, rfl, h1⟩ := e
  obtain ⟨m1, m2, m3, m4, m5, m6⟩ := hm
  have h2 := mx_ge (x := b') (n := n 1) (w := w 1) (amt := v - d' * w 3 - c' * w 2) (room := 40 - d' - c') hw m2 (by omega) (by omega)
  omega
theorem mx_skip2 {w n : Nat → Nat} {v d : Nat} (hw : 1 ≤ w 2) : ∀ a' b' c' d', mx_M w n v a' b' c' d' → ¬ (mx_k 0 (mx_m (n 2) (w 2) (v - d * w 3) (40 - d) + 1) d ≤ mx_k b' c' d' ∧ mx_k b' c' d' < mx_k 0 0 (d + 1)) := by
  intro a' b' c' d' hm hk
  obtain ⟨_, q2, q3, q4⟩ := mx_M40 hm
  have e : d' = d ∧ mx_m (n 2) (w 2) (v - d * w 3) (40 - d) < c' := by
    unfold mx_k at hk
    omega
  obtain ⟨rfl, h1⟩ := e
  obtain ⟨m1, m2, m3, m4, m5, m6⟩ := hm
  have h2 := mx_ge (x := c') (n := n 2) (w := w 2) (amt := v - d' * w 3) (room := 40 - d') hw m3 (by omega) (by omega)
  omega
theorem mx_skip3 {w n : Nat → Nat} {v : Nat} (hw : 1 ≤ w 3) : ∀ a' b' c' d', mx_M w n v a' b' c' d' → ¬ (mx_k 0 0 (mx_m (n 3) (w 3) v 40 + 1) ≤ mx_k b' c' d' ∧ mx_k b' c' d' < 68921) := by
  intro a' b' c' d' hm hk
  obtain ⟨_, q2, q3, q4⟩ := mx_M40 hm
  have h1 : mx_m (n 3) (w 3) v 40 < d' := by
    unfold mx_k at hk
    omega
  obtain ⟨m1, m2, m3, m4, m5, m6⟩ := hm
  have h2 := mx_ge (x := d') (n := n 3) (w := w 3) (amt := v) (room := 40) hw m4 (by omega) (by omega)
  omega
/-- what is left for cassette 0 fixes its notes -/
theorem mx_last {w n : Nat → Nat} {v b c d r : Nat} (hw : 1 ≤ w 0) (h1 : b ≤ n 1) (h2 : c ≤ n 2) (h3 : d ≤ n 3) (h4 : b + c + d ≤ 40) (hr : r + b * w 1 + c * w 2 + d * w 3 = v) (he : mx_m (n 0) (w 0) r (40 - d - c - b) * w 0 = r) : mx_M w n v (mx_m (n 0) (w 0) r (40 - d - c - b)) b c d := by
  obtain ⟨q1, q2, q3⟩ := mx_le (x := mx_m (n 0) (w 0) r (40 - d - c - b)) (Nat.le_refl _)
  exact ⟨q1, h1, h2, h3, by omega, by omega⟩
theorem mx_nolast {w n : Nat → Nat} {v b c d r : Nat} (hw : 1 ≤ w 0) (hr : r + b * w 1 + c * w 2 + d * w 3 = v) (he : ¬ mx_m (n 0) (w 0) r (40 - d - c - b) * w 0 = r) : ∀ a, ¬ mx_M w n v a b c d := by
  intro a hm
  obtain ⟨m1, m2, m3, m4, m5, m6⟩ := hm
  have e : a * w 0 = r := by omega
  have h1 := mx_ge (x := a) (n := n 0) (w := w 0) (amt := r) (room := 40 - d - c - b) hw m1 (by omega) (by omega)
  obtain ⟨_, _, q3⟩ := mx_le (x := mx_m (n 0) (w 0) r (40 - d - c - b)) (Nat.le_refl _)
  have h2 := Nat.mul_le_mul_right (w 0) h1
  exact he (by omega)
/-! the fewest notes, by bundles -/
def rc_R (w L : Nat → Nat) (v s : Nat) : Prop := ∃ a b c d, a ≤ L 0 ∧ b ≤ L 1 ∧ c ≤ L 2 ∧ d ≤ L 3 ∧ a + b + c + d = s ∧ a * w 0 + b * w 1 + c * w 2 + d * w 3 = v
def rc_F (w L f : Nat → Nat) : Prop := ∀ v, v ≤ 2000 → f v ≤ 41 ∧ (∀ s, rc_R w L v s → f v ≤ s) ∧ (f v ≤ 40 → rc_R w L v (f v))
theorem rc_mono {w L L' : Nat → Nat} {v s : Nat} (h : rc_R w L v s) (hL : ∀ j, j < 4 → L j ≤ L' j) : rc_R w L' v s := by
  obtain ⟨a, b, c, d, h0, h1, h2, h3, h4, h5⟩ := h
  exact ⟨a, b, c, d, Nat.le_trans h0 (hL 0 (by omega)), Nat.le_trans h1 (hL 1 (by omega)), Nat.le_trans h2 (hL 2 (by omega)), Nat.le_trans h3 (hL 3 (by omega)), h4, h5⟩
theorem rc_add {w L L' : Nat → Nat} {v s c k : Nat} (hc : c < 4) (h : rc_R w L v s) (hL : ∀ j, j < 4 → j ≠ c → L' j = L j) (hk : L' c = L c + k) : rc_R w L' (v + k * w c) (s + k) := by
  obtain ⟨x0, x1, x2, x3, h0, h1, h2, h3, h4, h5⟩ := h
  have e : c = 0 ∨ c = 1 ∨ c = 2 ∨ c = 3 := by omega
  rcases e with rfl | rfl | rfl | rfl
  · refine ⟨x0 + k, x1, x2, x3, by omega, by rw [hL 1 (by omega) (by omega)]; exact h1, by rw [hL 2 (by omega) (by omega)]; exact h2, by rw [hL 3 (by omega) (by omega)]; exact h3, by omega, ?_⟩
    rw [Nat.add_mul]; omega
  · refine ⟨x0, x1 + k, x2, x3, by rw [hL 0 (by omega) (by omega)]; exact h0, by omega, by rw [hL 2 (by omega) (by omega)]; exact h2, by rw [hL 3 (by omega) (by omega)]; exact h3, by omega, ?_⟩
    rw [Nat.add_mul]; omega
  · refine ⟨x0, x1, x2 + k, x3, by rw [hL 0 (by omega) (by omega)]; exact h0, by rw [hL 1 (by omega) (by omega)]; exact h1, by omega, by rw [hL 3 (by omega) (by omega)]; exact h3, by omega, ?_⟩
    rw [Nat.add_mul x2]; omega
  · refine ⟨x0, x1, x2, x3 + k, by rw [hL 0 (by omega) (by omega)]; exact h0, by rw [hL 1 (by omega) (by omega)]; exact h1, by rw [hL 2 (by omega) (by omega)]; exact h2, by omega, by omega, ?_⟩
    rw [Nat.add_mul x3]; omega
theorem rc_inv {w L L' : Nat → Nat} {v s c k : Nat} (hc : c < 4) (h : rc_R w L' v s) (hL : ∀ j, j < 4 → j ≠ c → L' j = L j) (hk : L' c = L c + k) (hk1 : k ≤ L c + 1) : rc_R w L v s ∨ (k * w c ≤ v ∧ k ≤ s ∧ rc_R w L (v - k * w c) (s - k)) := by
  obtain ⟨x0, x1, x2, x3, h0, h1, h2, h3, h4, h5⟩ := h
  have e : c = 0 ∨ c = 1 ∨ c = 2 ∨ c = 3 := by omega
  rcases e with rfl | rfl | rfl | rfl
  · rw [hL 1 (by omega) (by omega)] at h1
    rw [hL 2 (by omega) (by omega)] at h2
    rw [hL 3 (by omega) (by omega)] at h3
    by_cases hx : x0 ≤ L 0
    · exact Or.inl ⟨x0, x1, x2, x3, hx, h1, h2, h3, h4, h5⟩
    · obtain ⟨z, rfl⟩ : ∃ z, x0 = z + k := ⟨x0 - k, by omega⟩
      rw [Nat.add_mul] at h5
      exact Or.inr ⟨by omega, by omega, z, x1, x2, x3, by omega, h1, h2, h3, by omega, by omega⟩
  · rw [hL 0 (by omega) (by omega)] at h0
    rw [hL 2 (by omega) (by omega)] at h2
    rw [hL 3 (by omega) (by omega)] at h3
    by_cases hx : x1 ≤ L 1
    · exact Or.inl ⟨x0, x1, x2, x3, h0, hx, h2, h3, h4, h5⟩
    · obtain ⟨z, rfl⟩ : ∃ z, x1 = z + k := ⟨x1 - k, by omega⟩
      rw [Nat.add_mul] at h5
      exact Or.inr ⟨by omega, by omega, x0, z, x2, x3, h0, by omega, h2, h3, by omega, by omega⟩
  · rw [hL 0 (by omega) (by omega)] at h0
    rw [hL 1 (by omega) (by omega)] at h1
    rw [hL 3 (by omega) (by omega)] at h3
    by_cases hx : x2 ≤ L 2
    · exact Or.inl ⟨x0, x1, x2, x3, h0, h1, hx, h3, h4, h5⟩
    · obtain ⟨z, rfl⟩ : ∃ z, x2 = z + k := ⟨x2 - k, by omega⟩
      rw [Nat.add_mul z] at h5
      exact Or.inr ⟨by omega, by omega, x0, x1, z, x3, h0, h1, by omega, h3, by omega, by omega⟩
  · rw [hL 0 (by omega) (by omega)] at h0
    rw [hL 1 (by omega) (by omega)] at h1
    rw [hL 2 (by omega) (by omega)] at h2
    by_cases hx : x3 ≤ L 3
    · exact Or.inl ⟨x0, x1, x2, x3, h0, h1, h2, hx, h4, h5⟩
    · obtain ⟨z, rfl⟩ : ∃ z, x3 = z + k := ⟨x3 - k, by omega⟩
      rw [Nat.add_mul z] at h5
      exact Or.inr ⟨by omega, by omega, x0, x1, x2, z, h0, h1, h2, by omega, by omega, by omega⟩
/-- a bundle of k notes of cassette c more -/
theorem rc_step {w L L' f f' : Nat → Nat} {c k : Nat} (hc : c < 4) (hL : ∀ j, j < 4 → j ≠ c → L' j = L j) (hk : L' c = L c + k) (hk1 : k ≤ L c + 1) (h : rc_F w L f) (hf1 : ∀ v, v ≤ 2000 → k * w c ≤ v → f' v = min (f v) (f (v - k * w c) + k)) (hf2 : ∀ v, v ≤ 2000 → v < k * w c → f' v = f v) : rc_F w L' f' := by
  intro v hv
  have hLL : ∀ j, j < 4 → L j ≤ L' j := fun j hj => by
    by_cases e : j = c
    · subst e; omega
    · rw [hL j hj e]; exact Nat.le_refl _
  obtain ⟨a1, a2, a3⟩ := h v hv
  by_cases hkv : k * w c ≤ v
  · obtain ⟨b1, b2, b3⟩ := h (v - k * w c) (by omega)
    have e := hf1 v hv hkv
    refine ⟨by omega, fun s hs => ?_, fun h40 => ?_⟩
    · rcases rc_inv hc hs hL hk hk1 with q | ⟨_, q2, q⟩
      · have := a2 s q
        omega
      · have := b2 _ q
        omega
    · by_cases hm : f v ≤ f (v - k * w c) + k
      · have e2 : f' v = f v := by omega
        rw [e2] at h40 ⊢
        exact rc_mono (a3 h40) hLL
      · have e2 : f' v = f (v - k * w c) + k := by omega
        rw [e2] at h40 ⊢
        have q := rc_add hc (b3 (by omega)) hL hk
        rw [Nat.sub_add_cancel hkv] at q
        exact q
  · have e := hf2 v hv (by omega)
    rw [e]
    refine ⟨a1, fun s hs => ?_, fun h40 => rc_mono (a3 h40) hLL⟩
    rcases rc_inv hc hs hL hk hk1 with q | ⟨q1, _, _⟩
    · exact a2 s q
    · omega
theorem rc_F0 {w L f : Nat → Nat} (hL : ∀ j, j < 4 → L j = 0) (h0 : f 0 = 0) (h1 : ∀ v, v ≤ 2000 → 0 < v → f v = 41) : rc_F w L f := by
  intro v hv
  have hR : ∀ s, rc_R w L v s → v = 0 := by
    intro s ⟨a, b, c, d, q0, q1, q2, q3, q4, q5⟩
    rw [hL 0 (by omega)] at q0
    rw [hL 1 (by omega)] at q1
    rw [hL 2 (by omega)] at q2
    rw [hL 3 (by omega)] at q3
    have e0 : a = 0 := by omega
    have e1 : b = 0 := by omega
    have e2 : c = 0 := by omega
    have e3 : d = 0 := by omega
    subst e0 e1 e2 e3
    omega
  by_cases e : v = 0
  · subst e
    rw [h0]
    exact ⟨by omega, fun _ _ => Nat.zero_le _, fun _ => ⟨0, 0, 0, 0, Nat.zero_le _, Nat.zero_le _, Nat.zero_le _, Nat.zero_le _, rfl, by omega⟩⟩
  · rw [h1 v hv (by omega)]
    exact ⟨by omega, fun s hs => absurd (hR s hs) e, fun h => by omega⟩
theorem rc_has {w n L f : Nat → Nat} (hL : ∀ j, j < 4 → L j = min (n j) 40) (h : rc_F w L f) {v : Nat} (hv : v ≤ 2000) : f v < 41 ↔ mx_has w n v := by
  have l0 := hL 0 (by omega)
  have l1 := hL 1 (by omega)
  have l2 := hL 2 (by omega)
  have l3 := hL 3 (by omega)
  obtain ⟨a1, a2, a3⟩ := h v hv
  constructor
  · intro hlt
    obtain ⟨a, b, c, d, q0, q1, q2, q3, q4, q5⟩ := a3 (by omega)
    exact ⟨a, b, c, d, by omega, by omega, by omega, by omega, by omega, q5⟩
  · intro ⟨a, b, c, d, q0, q1, q2, q3, q4, q5⟩
    have := a2 (a + b + c + d) ⟨a, b, c, d, by omega, by omega, by omega, by omega, rfl, q5⟩
    omega
/-- how many amounts below k have a mix -/
noncomputable def mx_u (w n : Nat → Nat) (k : Nat) : Nat := @ite Nat (mx_has w n k) (Classical.propDecidable _) 1 0
noncomputable def mx_r (w n : Nat → Nat) : Nat → Nat
  | 0 => 0
  | k + 1 => mx_r w n k + mx_u w n k
theorem mx_r1 {w n : Nat → Nat} {k : Nat} (h : mx_has w n k) : mx_r w n (k + 1) = mx_r w n k + 1 := by
  have e : mx_u w n k = 1 := by
    unfold mx_u
    exact if_pos h
  show mx_r w n k + mx_u w n k = _
  rw [e]
theorem mx_r0 {w n : Nat → Nat} {k : Nat} (h : ¬ mx_has w n k) : mx_r w n (k + 1) = mx_r w n k := by
  have e : mx_u w n k = 0 := by
    unfold mx_u
    exact if_neg h
  show mx_r w n k + mx_u w n k = _
  rw [e]; rfl
theorem mx_rle (w n : Nat → Nat) : ∀ k, mx_r w n k ≤ k := by
  intro k
  induction k with
  | zero => exact Nat.le_refl _
  | succ k ih =>
    by_cases h : mx_has w n k
    · rw [mx_r1 h]; omega
    · rw [mx_r0 h]; omega
/-- the least amount from v on that has a mix; -1 if none to 2000 has -/
def mx_N (w n : Nat → Nat) (v : Nat) (r : Int32) : Prop :=
  (∃ k, v ≤ k ∧ k ≤ 2000 ∧ mx_has w n k ∧ (∀ j, v ≤ j → j < k → ¬ mx_has w n j) ∧ r = nI k) ∨ ((∀ j, v ≤ j → j ≤ 2000 → ¬ mx_has w n j) ∧ r = -1)
theorem mx_Nu {w n : Nat → Nat} {v : Nat} {r r' : Int32} (h : mx_N w n v r) (h' : mx_N w n v r') : r' = r := by
  rcases h with ⟨k, a1, a2, a3, a4, a5⟩ | ⟨a1, a2⟩ <;> rcases h' with ⟨k', b1, b2, b3, b4, b5⟩ | ⟨b1, b2⟩
  · have e : k' = k := by
      by_cases q : k' < k
      · exact absurd b3 (a4 k' b1 q)
      · by_cases q2 : k < k'
        · exact absurd a3 (b4 k a1 q2)
        · omega
    rw [a5, b5, e]
  · exact absurd a3 (b1 k a1 a2)
  · exact absurd b3 (a1 k' b1 b2)
  · rw [a2, b2]
/-- what is paid of cassette c: x notes of it in the best, left may still come out -/
def mx_p3 (b3 jam : Nat) : Nat := min b3 jam
def mx_p2 (b3 b2 jam : Nat) : Nat := min b2 (jam - mx_p3 b3 jam)
def mx_p1 (b3 b2 b1 jam : Nat) : Nat := min b1 (jam - mx_p3 b3 jam - mx_p2 b3 b2 jam)
def mx_p0 (b3 b2 b1 b0 jam : Nat) : Nat := min b0 (jam - mx_p3 b3 jam - mx_p2 b3 b2 jam - mx_p1 b3 b2 b1 jam)
end
section
/-! Rows of our own over the kit's: numbers by nI, heads, ends and calls that hand the whole world over. -/
theorem zz_c {k : Nat} {n : Int} (h : Int32.ofInt n = Int32.ofNat k) : Int32.ofInt n = nI k := h
theorem zz_i1 (a : Nat) : nI a + Int32.ofInt 1 = nI (a + 1) := nI_1 a
theorem zz_d1 (a : Nat) : nI (a + 1) + Int32.ofInt (-1) = nI a := pk_m1 a
/-- upwards to e -/
theorem zz_up {σ : Type} (P : Nat → σ → Prop) (I : Nat → σ → Prop) (e : Nat) (hx : ∀ z, I e z → P e z) (hs : ∀ i z, i < e → I i z → (∀ z', I (i + 1) z' → P (i + 1) z') → P i z) : ∀ i z, i ≤ e → I i z → P i z := by
  have key : ∀ k i z, i + k = e → I i z → P i z := by
    intro k
    induction k with
    | zero => intro i z h hi; rw [Nat.add_zero] at h; subst h; exact hx z hi
    | succ k ih => intro i z h hi; exact hs i z (by omega) hi (fun z' hz' => ih (i + 1) z' (by omega) hz')
  intro i z h hi
  exact key (e - i) i z (by omega) hi
/-- by a measure that falls -/
theorem zz_me {σ : Type} (P I : σ → Prop) (μ : σ → Nat) (hs : ∀ z, I z → (∀ z', I z' → μ z' < μ z → P z') → P z) : ∀ z, I z → P z := by
  have key : ∀ k z, μ z < k → I z → P z := by
    intro k
    induction k with
    | zero => intro z h; omega
    | succ k ih => intro z h hi; exact hs z hi (fun z' h' hm => ih z' (by omega) h')
  intro z hi
  exact key (μ z + 1) z (by omega) hi
def zz_pre (D : va_G) (tys : List (ClassId × FieldType)) (wl : va_W) (sz : Nat) : State → Prop := fun U => U.heap.size = sz ∧ va_P D vwCl wl U.heap ∧ va_K D vwCl tys U ∧ va_D (fun _ => True) wl
def zz_B {S : Type} (D : va_G) (tys : List (ClassId × FieldType)) (A : Nat → Prop) (wf : S → va_W) : S → State → Prop := fun u t => va_P D vwCl (wf u) t.heap ∧ va_K D vwCl tys t ∧ va_D A (wf u)
/-- words of a throw that the tables decide and that a call doesn't hand on -/
def zx_nw (U : State) : Prop := va_Nw (.castable "java/lang/IllegalArgumentException" "java/lang/IllegalArgumentException") U ∧ va_Nw (.castable "java/util/NoSuchElementException" "java/util/NoSuchElementException") U ∧ va_Nw (.declares ⟨"java/lang/RuntimeException", "<init>", "()V"⟩) U ∧ va_Nw (.declares ⟨"java/lang/Exception", "<init>", "()V"⟩) U ∧ va_Nw (.declares ⟨"java/lang/Throwable", "<init>", "()V"⟩) U
theorem zx_nw.same {u U : State} (h : u.vm = U.vm) (q : zx_nw u) : zx_nw U := ⟨va_Nw.same rfl h q.1, va_Nw.same rfl h q.2.1, va_Nw.same rfl h q.2.2.1, va_Nw.same rfl h q.2.2.2.1, va_Nw.same rfl h q.2.2.2.2⟩
theorem zx_nw.warm {s U : State} (hW : s.WarmedH U.vm) (q : zx_nw s) : zx_nw U := ⟨va_Nw.warmC hW q.1, va_Nw.warmC hW q.2.1, va_Nw.warmD hW q.2.2.1, va_Nw.warmD hW q.2.2.2.1, va_Nw.warmD hW q.2.2.2.2⟩
/-- the two statics that a throw reads, and those words -/
def zx_st (A : Nat → Prop) (U : State) (H : Heap) : Prop := vx_Zq Bundle.tN "UNASSIGNED_STACK" Bundle.steD A U H ∧ vx_Zq Bundle.tN "SUPPRESSED_SENTINEL" Bundle.listD A U H ∧ zx_nw U
def zx_pre (D : va_G) (tys : List (ClassId × FieldType)) (wl : va_W) (sz : Nat) : State → Prop := fun U => zz_pre D tys wl sz U ∧ zx_st (va_A wl sz) U U.heap
def zx_X {S : Type} (pe : String → S → Prop) (D : va_G) (tys : List (ClassId × FieldType)) (A : Nat → Prop) (wf : S → va_W) : String → State → State → Prop := vx_X (fun _ => True) (fun E u t => pe E u ∧ zz_B D tys A wf u t) A
theorem zz_blind {av : List Value} {D : va_G} {tys : List (ClassId × FieldType)} {wl : va_W} {sz : Nat} : FrameBlind (va_Pc av (zz_pre D tys wl sz)) := fun a U g mk q => by
  obtain ⟨q0, q1, qP, qK, qD⟩ := q
  exact ⟨q0, q1, qP, va_K.moved (u := U) (U := U.calling g mk a) (Vm.Alike.refl U.vm) qK, qD⟩
theorem zx_blind {av : List Value} {D : va_G} {tys : List (ClassId × FieldType)} {wl : va_W} {sz : Nat} : FrameBlind (va_Pc av (zx_pre D tys wl sz)) := fun a U g mk q => by
  obtain ⟨q0, ⟨q1, qP, qK, qD⟩, qu, qn, q5⟩ := q
  exact ⟨q0, ⟨q1, qP, va_K.moved (u := U) (U := U.calling g mk a) (Vm.Alike.refl U.vm) qK, qD⟩, vx_Zq.moved (u := U) (U := U.calling g mk a) (Vm.Alike.refl U.vm) qu, vx_Zq.moved (u := U) (U := U.calling g mk a) (Vm.Alike.refl U.vm) qn, zx_nw.same (u := U) (U := U.calling g mk a) rfl q5⟩
theorem zz_in {A : Nat → Prop} {wl : va_W} {H0 H : Heap} {locs : List Loc} (hD : va_D A wl) (hS : va_S A H0 H locs) (hA : ∀ q, H0.size ≤ q → A q) : ∀ q, va_A wl H.size q → A q := by
  intro q h
  rcases h with ⟨k, e, h⟩ | h
  · exact hD.2 k _ h
  · exact hA q (Nat.le_trans hS.1 h)
section ZN
variable {p : Program} {l : Launch} {e : Env} {R : Room} {s : State} {m : MethodId} {args : Array Value} {below : List Frame} {meth : Method} {c : Code} {H : Heap} {locs : List Loc} {cells slots : Nat} {Q : State → Prop}
variable {cc : ByteArray} {pc : Nat} {ls : Array Slot} {rest : List Value}
theorem zn_add {a b : Nat} (hexec : p.tables.exec = Jvm.exec) (hb : c.code = cc) (hdg : decode cc pc = .ok (.iadd, 1)) (k : W p l e R s m args below meth c H locs cells slots Q (F0 m (pc + 1) ls (.int (nI (a + b)) :: rest))) : W p l e R s m args below meth c H locs cells slots Q (F0 m pc ls (.int (nI b) :: .int (nI a) :: rest)) := lv_iadd hexec hb hdg (by rw [nI_add]; exact k)
theorem zn_sub {a b : Nat} (hexec : p.tables.exec = Jvm.exec) (hb : c.code = cc) (h : b ≤ a) (hdg : decode cc pc = .ok (.isub, 1)) (k : W p l e R s m args below meth c H locs cells slots Q (F0 m (pc + 1) ls (.int (nI (a - b)) :: rest))) : W p l e R s m args below meth c H locs cells slots Q (F0 m pc ls (.int (nI b) :: .int (nI a) :: rest)) := lv_isub hexec hb hdg (by rw [pk_sub h]; exact k)
theorem zn_mul {a b : Nat} (hexec : p.tables.exec = Jvm.exec) (hb : c.code = cc) (hdg : decode cc pc = .ok (.imul, 1)) (k : W p l e R s m args below meth c H locs cells slots Q (F0 m (pc + 1) ls (.int (nI (a * b)) :: rest))) : W p l e R s m args below meth c H locs cells slots Q (F0 m pc ls (.int (nI b) :: .int (nI a) :: rest)) := lv_imul hexec hb hdg (by rw [pk_mul]; exact k)
theorem zn_div {a b : Nat} (hexec : p.tables.exec = Jvm.exec) (hb : c.code = cc) (ha : a < 2 ^ 31) (h0 : 0 < b) (hd : b < 2 ^ 31) (hdg : decode cc pc = .ok (.idiv, 1)) (k : W p l e R s m args below meth c H locs cells slots Q (F0 m (pc + 1) ls (.int (nI (a / b)) :: rest))) : W p l e R s m args below meth c H locs cells slots Q (F0 m pc ls (.int (nI b) :: .int (nI a) :: rest)) := lv_idiv hexec hb hdg (nI_ne0 h0 hd) (by rw [pk_div ha h0 hd]; exact k)
theorem zn_gt {a b : Nat} {off : Int} {tgt : Nat} (hexec : p.tables.exec = Jvm.exec) (hb : c.code = cc) (ha : a < 2 ^ 31) (hb2 : b < 2 ^ 31) (hdg : decode cc pc = .ok (.if_icmp .gt off, 3)) (ht : (pc : Int) + off = (tgt : Int)) (kt : b < a → W p l e R s m args below meth c H locs cells slots Q (F0 m tgt ls rest)) (kf : a ≤ b → W p l e R s m args below meth c H locs cells slots Q (F0 m (pc + 3) ls rest)) : W p l e R s m args below meth c H locs cells slots Q (F0 m pc ls (.int (nI b) :: .int (nI a) :: rest)) := lv_icmp_gt hexec hb hdg ht (fun h => kt ((nI_ltI hb2 ha).1 h)) (fun h => kf (Nat.le_of_not_lt (fun h' => h ((nI_ltI hb2 ha).2 h'))))
theorem zn_ge {a b : Nat} {off : Int} {tgt : Nat} (hexec : p.tables.exec = Jvm.exec) (hb : c.code = cc) (ha : a < 2 ^ 31) (hb2 : b < 2 ^ 31) (hdg : decode cc pc = .ok (.if_icmp .ge off, 3)) (ht : (pc : Int) + off = (tgt : Int)) (kt : b ≤ a → W p l e R s m args below meth c H locs cells slots Q (F0 m tgt ls rest)) (kf : a < b → W p l e R s m args below meth c H locs cells slots Q (F0 m (pc + 3) ls rest)) : W p l e R s m args below meth c H locs cells slots Q (F0 m pc ls (.int (nI b) :: .int (nI a) :: rest)) := lv_icmp_ge hexec hb hdg ht (fun h => kt ((nI_leI hb2 ha).1 h)) (fun h => kf (Nat.lt_of_not_le (fun h' => h ((nI_leI hb2 ha).2 h'))))
theorem zn_lt {a b : Nat} {off : Int} {tgt : Nat} (hexec : p.tables.exec = Jvm.exec) (hb : c.code = cc) (ha : a < 2 ^ 31) (hb2 : b < 2 ^ 31) (hdg : decode cc pc = .ok (.if_icmp .lt off, 3)) (ht : (pc : Int) + off = (tgt : Int)) (kt : a < b → W p l e R s m args below meth c H locs cells slots Q (F0 m tgt ls rest)) (kf : b ≤ a → W p l e R s m args below meth c H locs cells slots Q (F0 m (pc + 3) ls rest)) : W p l e R s m args below meth c H locs cells slots Q (F0 m pc ls (.int (nI b) :: .int (nI a) :: rest)) := lv_icmp_lt hexec hb hdg ht (fun h => kt ((nI_ltI ha hb2).1 h)) (fun h => kf (Nat.le_of_not_lt (fun h' => h ((nI_ltI ha hb2).2 h'))))
theorem zn_le {a b : Nat} {off : Int} {tgt : Nat} (hexec : p.tables.exec = Jvm.exec) (hb : c.code = cc) (ha : a < 2 ^ 31) (hb2 : b < 2 ^ 31) (hdg : decode cc pc = .ok (.if_icmp .le off, 3)) (ht : (pc : Int) + off = (tgt : Int)) (kt : a ≤ b → W p l e R s m args below meth c H locs cells slots Q (F0 m tgt ls rest)) (kf : b < a → W p l e R s m args below meth c H locs cells slots Q (F0 m (pc + 3) ls rest)) : W p l e R s m args below meth c H locs cells slots Q (F0 m pc ls (.int (nI b) :: .int (nI a) :: rest)) := lv_icmp_le hexec hb hdg ht (fun h => kt ((nI_leI ha hb2).1 h)) (fun h => kf (Nat.lt_of_not_le (fun h' => h ((nI_leI ha hb2).2 h'))))
theorem zn_eq {a b : Nat} {off : Int} {tgt : Nat} (hexec : p.tables.exec = Jvm.exec) (hb : c.code = cc) (ha : a < 2 ^ 31) (hb2 : b < 2 ^ 31) (hdg : decode cc pc = .ok (.if_icmp .eq off, 3)) (ht : (pc : Int) + off = (tgt : Int)) (kt : a = b → W p l e R s m args below meth c H locs cells slots Q (F0 m tgt ls rest)) (kf : ¬ a = b → W p l e R s m args below meth c H locs cells slots Q (F0 m (pc + 3) ls rest)) : W p l e R s m args below meth c H locs cells slots Q (F0 m pc ls (.int (nI b) :: .int (nI a) :: rest)) := lv_icmp_eq hexec hb hdg ht (fun h => kt ((nI_eq ha hb2).1 h)) (fun h => kf (fun h' => h ((nI_eq ha hb2).2 h')))
theorem zn_ne {a b : Nat} {off : Int} {tgt : Nat} (hexec : p.tables.exec = Jvm.exec) (hb : c.code = cc) (ha : a < 2 ^ 31) (hb2 : b < 2 ^ 31) (hdg : decode cc pc = .ok (.if_icmp .ne off, 3)) (ht : (pc : Int) + off = (tgt : Int)) (kt : ¬ a = b → W p l e R s m args below meth c H locs cells slots Q (F0 m tgt ls rest)) (kf : a = b → W p l e R s m args below meth c H locs cells slots Q (F0 m (pc + 3) ls rest)) : W p l e R s m args below meth c H locs cells slots Q (F0 m pc ls (.int (nI b) :: .int (nI a) :: rest)) := lv_icmp_ne hexec hb hdg ht (fun h => kt (fun h' => h ((nI_eq ha hb2).2 h'))) (fun h => kf ((nI_eq ha hb2).1 h))
theorem zn_if_eq {a : Nat} {off : Int} {tgt : Nat} (hexec : p.tables.exec = Jvm.exec) (hb : c.code = cc) (ha : a < 2 ^ 31) (hdg : decode cc pc = .ok (.ifCond .eq off, 3)) (ht : (pc : Int) + off = (tgt : Int)) (kt : a = 0 → W p l e R s m args below meth c H locs cells slots Q (F0 m tgt ls rest)) (kf : 0 < a → W p l e R s m args below meth c H locs cells slots Q (F0 m (pc + 3) ls rest)) : W p l e R s m args below meth c H locs cells slots Q (F0 m pc ls (.int (nI a) :: rest)) := lv_if_eq hexec hb hdg ht (fun h => kt (by rw [← nI_0] at h; exact (nI_eq ha (by omega)).1 h)) (fun h => kf (Nat.pos_of_ne_zero (fun h' => h (by rw [h', nI_0]))))
theorem zn_if_ne {a : Nat} {off : Int} {tgt : Nat} (hexec : p.tables.exec = Jvm.exec) (hb : c.code = cc) (ha : a < 2 ^ 31) (hdg : decode cc pc = .ok (.ifCond .ne off, 3)) (ht : (pc : Int) + off = (tgt : Int)) (kt : 0 < a → W p l e R s m args below meth c H locs cells slots Q (F0 m tgt ls rest)) (kf : a = 0 → W p l e R s m args below meth c H locs cells slots Q (F0 m (pc + 3) ls rest)) : W p l e R s m args below meth c H locs cells slots Q (F0 m pc ls (.int (nI a) :: rest)) := lv_if_ne hexec hb hdg ht (fun h => kt (Nat.pos_of_ne_zero (fun h' => h (by rw [h', nI_0])))) (fun h => kf (by rw [← nI_0] at h; exact (nI_eq ha (by omega)).1 h))
theorem zn_if_le {a : Nat} {off : Int} {tgt : Nat} (hexec : p.tables.exec = Jvm.exec) (hb : c.code = cc) (ha : a < 2 ^ 31) (hdg : decode cc pc = .ok (.ifCond .le off, 3)) (ht : (pc : Int) + off = (tgt : Int)) (kt : a = 0 → W p l e R s m args below meth c H locs cells slots Q (F0 m tgt ls rest)) (kf : 0 < a → W p l e R s m args below meth c H locs cells slots Q (F0 m (pc + 3) ls rest)) : W p l e R s m args below meth c H locs cells slots Q (F0 m pc ls (.int (nI a) :: rest)) := lv_if_le hexec hb hdg ht (fun h => kt (by rw [← nI_0] at h; exact Nat.le_zero.1 ((nI_leI ha (by omega)).1 h))) (fun h => kf (Nat.pos_of_ne_zero (fun h' => h (by rw [h', nI_0]; exact Int32.le_refl _))))
/-- a number under another name -/
theorem zn_as {x z : Int32} (h : x = z) (k : W p l e R s m args below meth c H locs cells slots Q (F0 m pc ls (.int z :: rest))) : W p l e R s m args below meth c H locs cells slots Q (F0 m pc ls (.int x :: rest)) := h ▸ k
theorem zn_min {a b : Nat} (hexec : p.tables.exec = Jvm.exec) (hb : c.code = cc) (hml : c.maxLocals = ls.size) {own : String} {index : Nat} (hown : s.vm.findClass own = some m.cls) (hlink : (Cond.methodLink own index Lib.Math.min.name).before args s = true) (hstat : (Cond.static Lib.Math.min.name).before args s = true) (hini : (Cond.initialized "java/lang/Math").before args s = true) (hcode : (Cond.code Lib.Math.min.name Lib.Math.min.code 2 (some .int)).before args s = true)
    (hframes : 1 ≤ R.frames) (hlocals : (rest.map fun v => v.category).sum + 13 ≤ R.locals) (hc : cells ≤ R.cells) (hs : slots ≤ R.slots) (ha : a < 2 ^ 31) (hb2 : b < 2 ^ 31) (hdg : decode cc pc = .ok (.invokestatic index, 3))
    (kk : W p l e R s m args below meth c H locs cells slots Q (F0 m (pc + 3) ls (.int (nI (min a b)) :: rest))) : W p l e R s m args below meth c H locs cells slots Q (F0 m pc ls (.int (nI b) :: .int (nI a) :: rest)) := by
  refine va_mmin hexec hb hml hown hlink hstat hini hcode hframes hlocals hc hs hdg (zn_as ?_ kk)
  by_cases h : b < a
  · rw [if_pos ((nI_ltI hb2 ha).2 h), Nat.min_eq_right (Nat.le_of_lt h)]
  · rw [if_neg (fun h' => h ((nI_ltI hb2 ha).1 h')), Nat.min_eq_left (Nat.le_of_not_lt h)]
theorem zn_max {a b : Nat} (hexec : p.tables.exec = Jvm.exec) (hb : c.code = cc) (hml : c.maxLocals = ls.size) {own : String} {index : Nat} (hown : s.vm.findClass own = some m.cls) (hlink : (Cond.methodLink own index Lib.Math.max.name).before args s = true) (hstat : (Cond.static Lib.Math.max.name).before args s = true) (hini : (Cond.initialized "java/lang/Math").before args s = true) (hcode : (Cond.code Lib.Math.max.name Lib.Math.max.code 2 (some .int)).before args s = true)
    (hframes : 1 ≤ R.frames) (hlocals : (rest.map fun v => v.category).sum + 13 ≤ R.locals) (hc : cells ≤ R.cells) (hs : slots ≤ R.slots) (ha : a < 2 ^ 31) (hb2 : b < 2 ^ 31) (hdg : decode cc pc = .ok (.invokestatic index, 3))
    (kk : W p l e R s m args below meth c H locs cells slots Q (F0 m (pc + 3) ls (.int (nI (max a b)) :: rest))) : W p l e R s m args below meth c H locs cells slots Q (F0 m pc ls (.int (nI b) :: .int (nI a) :: rest)) := by
  refine va_mmax hexec hb hml hown hlink hstat hini hcode hframes hlocals hc hs hdg (zn_as ?_ kk)
  by_cases h : a < b
  · rw [if_pos ((nI_ltI ha hb2).2 h), Nat.max_eq_right (Nat.le_of_lt h)]
  · rw [if_neg (fun h' => h ((nI_ltI ha hb2).1 h')), Nat.max_eq_left (Nat.le_of_not_lt h)]
variable {D : va_G} {cl : List vw_C} {tys : List (ClassId × FieldType)} {ws : va_W} {A : Nat → Prop} {H0 : Heap} {a : Nat}
theorem zn_iald (hexec : p.tables.exec = Jvm.exec) (hb : c.code = cc) (hK : va_K D cl tys s) (hP : va_P D cl ws H) (q0 t0 : Nat) {cA : ClassId} {n : Nat} {f : Nat → Int32} (ha : ws[q0]? = some (a, .inl (cA, n, .inl f))) (ht : tys[t0]? = some (cA, .int)) {k : Nat} (hk : k < n) (hn : n < 2 ^ 31) {x : Int32} (hf : f k = x) (hdg : decode cc pc = .ok (.iaload, 1))
    (kk : W p l e R s m args below meth c H locs cells slots Q (F0 m (pc + 1) ls (.int x :: rest))) : W p l e R s m args below meth c H locs cells slots Q (F0 m pc ls (.int (nI k) :: .ref a :: rest)) :=
  va_iald hexec hb hK hP q0 t0 ha ht (vp_in_nI hk hn) hdg (zn_as (by rw [nI_clamp (Nat.lt_trans hk hn)]; exact hf) kk)
theorem zn_zald (hexec : p.tables.exec = Jvm.exec) (hb : c.code = cc) (hK : va_K D cl tys s) (hP : va_P D cl ws H) (q0 t0 : Nat) {cA : ClassId} {n : Nat} {f : Nat → Int32} (ha : ws[q0]? = some (a, .inl (cA, n, .inl f))) (ht : tys[t0]? = some (cA, .boolean)) {k : Nat} (hk : k < n) (hn : n < 2 ^ 31) {x : Int32} (hf : f k = x) (hdg : decode cc pc = .ok (.baload, 1))
    (kk : W p l e R s m args below meth c H locs cells slots Q (F0 m (pc + 1) ls (.int x :: rest))) : W p l e R s m args below meth c H locs cells slots Q (F0 m pc ls (.int (nI k) :: .ref a :: rest)) :=
  va_zald hexec hb hK hP q0 t0 ha ht (vp_in_nI hk hn) hdg (zn_as (by rw [nI_clamp (Nat.lt_trans hk hn)]; exact hf) kk)
theorem zn_iast (hexec : p.tables.exec = Jvm.exec) (hb : c.code = cc) (hK : va_K D cl tys s) (hP : va_P D cl ws H) (hD : va_D A ws) (hS : va_S A H0 H locs) (q0 t0 : Nat) {cA : ClassId} {n : Nat} {f : Nat → Int32} (ha : ws[q0]? = some (a, .inl (cA, n, .inl f))) (ht : tys[t0]? = some (cA, .int)) {k : Nat} {x : Int32} (hk : k < n) (hn : n < 2 ^ 31) (hdg : decode cc pc = .ok (.iastore, 1))
    (kk : ∀ (H1 : Heap) (locs1 : List Loc) (f1 : Nat → Int32), f1 k = x → (∀ j, j ≠ k → f1 j = f j) → va_P D cl (ws.set q0 (a, .inl (cA, n, .inl f1))) H1 → va_D A (ws.set q0 (a, .inl (cA, n, .inl f1))) → va_S A H0 H1 locs1 → W p l e R s m args below meth c H1 locs1 cells slots Q (F0 m (pc + 1) ls rest)) : W p l e R s m args below meth c H locs cells slots Q (F0 m pc ls (.int x :: .int (nI k) :: .ref a :: rest)) := by
  refine va_iast hexec hb hK hP hD hS q0 t0 ha ht (vp_in_nI hk hn) hdg (fun H1 locs1 h1 h2 h3 => ?_)
  rw [nI_clamp (Nat.lt_trans hk hn)] at h1 h2
  exact kk H1 locs1 _ pk_us (fun j h => pk_un h) h1 h2 h3
theorem zn_zast (hexec : p.tables.exec = Jvm.exec) (hb : c.code = cc) (hK : va_K D cl tys s) (hP : va_P D cl ws H) (hD : va_D A ws) (hS : va_S A H0 H locs) (q0 t0 : Nat) {cA : ClassId} {n : Nat} {f : Nat → Int32} (ha : ws[q0]? = some (a, .inl (cA, n, .inl f))) (ht : tys[t0]? = some (cA, .boolean)) {k : Nat} {x : Int32} (hk : k < n) (hn : n < 2 ^ 31) (hx : vp_nar .boolean x = x) (hdg : decode cc pc = .ok (.bastore, 1))
    (kk : ∀ (H1 : Heap) (locs1 : List Loc) (f1 : Nat → Int32), f1 k = x → (∀ j, j ≠ k → f1 j = f j) → va_P D cl (ws.set q0 (a, .inl (cA, n, .inl f1))) H1 → va_D A (ws.set q0 (a, .inl (cA, n, .inl f1))) → va_S A H0 H1 locs1 → W p l e R s m args below meth c H1 locs1 cells slots Q (F0 m (pc + 1) ls rest)) : W p l e R s m args below meth c H locs cells slots Q (F0 m pc ls (.int x :: .int (nI k) :: .ref a :: rest)) := by
  refine va_zast hexec hb hK hP hD hS q0 t0 ha ht (vp_in_nI hk hn) hdg (fun H1 locs1 h1 h2 h3 => ?_)
  rw [nI_clamp (Nat.lt_trans hk hn), hx] at h1 h2
  exact kk H1 locs1 _ pk_us (fun j h => pk_un h) h1 h2 h3
end ZN
section ZH
variable {l : Launch} {y : MethodName} {ws ws' : List Cond} {rm : Room} {av : List Value} {D : va_G} {tys tys2 : List (ClassId × FieldType)} {wl : va_W} {sz mc ms maxL : Nat} {cc : ByteArray}
/-- the head of a method that doesn't throw: an int comes back -/
theorem zz_headI {S : Type} {post : Int32 → S → Prop} {wf : S → va_W} (hy : plainName y.cls = true) (hw : ws = Cond.code y cc maxL (some .int) :: ws') (hn : (lg_sl av).length ≤ maxL)
    (body : ∀ (p : Program) (e : Env) (s : State) (m : MethodId) (below : List Frame) (meth : Method) (c : Code) (A : Nat → Prop) (ls : Array Slot), CallFix p m c cc maxL s av.toArray ws y.cls → meth.sig.returnType = some .int → meth.locks = false → va_P D vwCl wl s.heap → va_K D vwCl tys s → va_D A wl → (∀ q, s.heap.size ≤ q → A q) → va_S A s.heap s.heap [] → lv_has ls maxL (lv_args 0 av) →
      W p l e (headSpec ws rm).room s m av.toArray below meth c s.heap [] 0 0 (MQ below (va_Qi post (zz_B D tys2 A wf) A) av.toArray s mc ms A) (F0 m 0 ls [])) :
    Met l y ws rm (va_Pc av (zz_pre D tys wl sz)) (va_Qi post (zz_B D tys2 (va_A wl sz) wf) (va_A wl sz)) mc ms (va_A wl sz) := by
  refine Met.ofW (cc := cc) (maxL := maxL) (ret := some .int) hy hw ?_
  intro p e s m args below meth c s₁ B hml hv
  obtain ⟨rfl, rfl, hP, hK, hD0⟩ := hv
  rw [lg_entry_eq]
  exact body p e s m below meth c _ _ ⟨B.exec, B.bytes, hml, findClass_of_methodNamed B.named, atoms_spec (ws := ws) B.pre⟩ B.returns B.notSynchronized hP hK hD0.self (fun q h => Or.inr h) va_S.rf (lv_entry av hn)
/-- .. nothing comes back -/
theorem zz_headV {S : Type} {post : S → Prop} {wf : S → va_W} (hy : plainName y.cls = true) (hw : ws = Cond.code y cc maxL none :: ws') (hn : (lg_sl av).length ≤ maxL)
    (body : ∀ (p : Program) (e : Env) (s : State) (m : MethodId) (below : List Frame) (meth : Method) (c : Code) (A : Nat → Prop) (ls : Array Slot), CallFix p m c cc maxL s av.toArray ws y.cls → meth.sig.returnType = none → meth.locks = false → meth.name = y.name → va_P D vwCl wl s.heap → va_K D vwCl tys s → va_D A wl → (∀ q, s.heap.size ≤ q → A q) → va_S A s.heap s.heap [] → lv_has ls maxL (lv_args 0 av) →
      W p l e (headSpec ws rm).room s m av.toArray below meth c s.heap [] 0 0 (MQ below (va_Qv post (zz_B D tys2 A wf) A) av.toArray s mc ms A) (F0 m 0 ls [])) :
    Met l y ws rm (va_Pc av (zz_pre D tys wl sz)) (va_Qv post (zz_B D tys2 (va_A wl sz) wf) (va_A wl sz)) mc ms (va_A wl sz) := by
  refine Met.ofW (cc := cc) (maxL := maxL) (ret := none) hy hw ?_
  intro p e s m args below meth c s₁ B hml hv
  obtain ⟨rfl, rfl, hP, hK, hD0⟩ := hv
  rw [lg_entry_eq]
  exact body p e s m below meth c _ _ ⟨B.exec, B.bytes, hml, findClass_of_methodNamed B.named, atoms_spec (ws := ws) B.pre⟩ B.returns B.notSynchronized (name_of_methodNamed B.named B.method).1 hP hK hD0.self (fun q h => Or.inr h) va_S.rf (lv_entry av hn)
/-- a method that may throw: an int comes back -/
theorem zx_headI {S : Type} {post : Int32 → S → Prop} {wf : S → va_W} {pe : String → S → Prop} (hy : plainName y.cls = true) (hw : ws = Cond.code y cc maxL (some .int) :: ws') (hn : (lg_sl av).length ≤ maxL)
    (body : ∀ (p : Program) (e : Env) (s : State) (m : MethodId) (below : List Frame) (meth : Method) (c : Code) (A : Nat → Prop) (ls : Array Slot), CallFix p m c cc maxL s av.toArray ws y.cls → meth.sig.returnType = some .int → meth.locks = false → (∀ x ∈ c.exceptionTable.toList, False) → va_P D vwCl wl s.heap → va_K D vwCl tys s → va_D A wl → (∀ q, s.heap.size ≤ q → A q) → va_S A s.heap s.heap [] → zx_st A s s.heap → lv_has ls maxL (lv_args 0 av) →
      W p l e (headSpec ws rm).room s m av.toArray below meth c s.heap [] 0 0 (vx_MQ below (va_Qi post (zz_B D tys2 A wf) A) (zx_X pe D tys2 A wf) av.toArray s mc ms A) (F0 m 0 ls [])) :
    vx_Met l y ws rm (va_Pc av (zx_pre D tys wl sz)) (va_Qi post (zz_B D tys2 (va_A wl sz) wf) (va_A wl sz)) (zx_X pe D tys2 (va_A wl sz) wf) mc ms (va_A wl sz) := by
  refine vx_ofW (cc := cc) (maxL := maxL) (ret := some .int) hy hw ?_
  intro p e s m args below meth c s₁ B hml ht hv
  obtain ⟨rfl, ⟨rfl, hP, hK, hD0⟩, hst⟩ := hv
  rw [lg_entry_eq]
  exact body p e s m below meth c _ _ ⟨B.exec, B.bytes, hml, findClass_of_methodNamed B.named, atoms_spec (ws := ws) B.pre⟩ B.returns B.notSynchronized ht hP hK hD0.self (fun q h => Or.inr h) va_S.rf hst (lv_entry av hn)
theorem zx_headV {S : Type} {post : S → Prop} {wf : S → va_W} {pe : String → S → Prop} (hy : plainName y.cls = true) (hw : ws = Cond.code y cc maxL none :: ws') (hn : (lg_sl av).length ≤ maxL)
    (body : ∀ (p : Program) (e : Env) (s : State) (m : MethodId) (below : List Frame) (meth : Method) (c : Code) (A : Nat → Prop) (ls : Array Slot), CallFix p m c cc maxL s av.toArray ws y.cls → meth.sig.returnType = none → meth.locks = false → (∀ x ∈ c.exceptionTable.toList, False) → va_P D vwCl wl s.heap → va_K D vwCl tys s → va_D A wl → (∀ q, s.heap.size ≤ q → A q) → va_S A s.heap s.heap [] → zx_st A s s.heap → lv_has ls maxL (lv_args 0 av) →
      W p l e (headSpec ws rm).room s m av.toArray below meth c s.heap [] 0 0 (vx_MQ below (va_Qv post (zz_B D tys2 A wf) A) (zx_X pe D tys2 A wf) av.toArray s mc ms A) (F0 m 0 ls [])) :
    vx_Met l y ws rm (va_Pc av (zx_pre D tys wl sz)) (va_Qv post (zz_B D tys2 (va_A wl sz) wf) (va_A wl sz)) (zx_X pe D tys2 (va_A wl sz) wf) mc ms (va_A wl sz) := by
  refine vx_ofW (cc := cc) (maxL := maxL) (ret := none) hy hw ?_
  intro p e s m args below meth c s₁ B hml ht hv
  obtain ⟨rfl, ⟨rfl, hP, hK, hD0⟩, hst⟩ := hv
  rw [lg_entry_eq]
  exact body p e s m below meth c _ _ ⟨B.exec, B.bytes, hml, findClass_of_methodNamed B.named, atoms_spec (ws := ws) B.pre⟩ B.returns B.notSynchronized ht hP hK hD0.self (fun q h => Or.inr h) va_S.rf hst (lv_entry av hn)
end ZH
section ZE
variable {p : Program} {l : Launch} {e : Env} {R : Room} {s : State} {m : MethodId} {args : Array Value} {below : List Frame} {meth : Method} {c : Code} {H : Heap} {locs : List Loc} {cells slots mc ms nL : Nat}
variable {cc : ByteArray} {pc : Nat} {ls : Array Slot} {rest : List Value} {Ts : List Cond} {own : String}
variable {D : va_G} {tys : List (ClassId × FieldType)} {A : Nat → Prop} {S : Type} {wf : S → va_W} {v : Int32} {post : Int32 → S → Prop} {postv : S → Prop} {pe : String → S → Prop}
theorem zz_iret (F : CallFix p m c cc nL s args Ts own) (hr : meth.sig.returnType = some .int) (hlocks : meth.locks = false) (hK : va_K D vwCl tys s) (hS : va_S A s.heap H locs) (hdg : decode cc pc = .ok (.ireturn, 1)) (hc : cells ≤ mc) (hs : slots ≤ ms) (u : S) (hp : post v u) (hP : va_P D vwCl (wf u) H) (hD : va_D A (wf u)) :
    W p l e R s m args below meth c H locs cells slots (MQ below (va_Qi post (zz_B D tys A wf) A) args s mc ms A) (F0 m pc ls [.int v]) :=
  W.widen hc hs (W.iret F.1 F.2.1 hr (fun t ht hW => ⟨⟨v, u, rfl, hp, by rw [ht]; exact hP, va_K.moved hW.alike hK, hD⟩, hS.F ht⟩) hS.2.2 hdg hlocks)
theorem zz_vret (F : CallFix p m c cc nL s args Ts own) (hr : meth.sig.returnType = none) (hlocks : meth.locks = false) (hK : va_K D vwCl tys s) (hS : va_S A s.heap H locs) (hdg : decode cc pc = .ok (.return_, 1)) (hc : cells ≤ mc) (hs : slots ≤ ms) (u : S) (hp : postv u) (hP : va_P D vwCl (wf u) H) (hD : va_D A (wf u)) :
    W p l e R s m args below meth c H locs cells slots (MQ below (va_Qv postv (zz_B D tys A wf) A) args s mc ms A) (F0 m pc ls []) :=
  W.widen hc hs (W.vret F.1 F.2.1 hr (fun t ht hW => ⟨⟨u, rfl, hp, by rw [ht]; exact hP, va_K.moved hW.alike hK, hD⟩, hS.F ht⟩) hS.2.2 hdg hlocks)
/-- an exception of a callee goes on to the caller -/
theorem zx_out {Qc : Array Value → State → Outcome → State → Prop} {E : String} {ce : Cell} {q9 : Addr} (ht : ∀ x ∈ c.exceptionTable.toList, False) (hlocks : meth.locks = false) (hK : va_K D vwCl tys s) (hS : va_S A s.heap H locs) (hcell : H[q9]? = some ce) (hv : ce.vm = .none) (hcl : s.vm.findClass E = some ce.cls) (hc : cells ≤ mc) (hs : slots ≤ ms) (u : S) (hp : pe E u) (hP : va_P D vwCl (wf u) H) (hD : va_D A (wf u)) :
    vx_W p l e R s m args below meth c H locs cells slots (vx_MQ below Qc (zx_X pe D tys A wf) args s mc ms A) (F0 m pc ls rest) q9 :=
  vx_out (fun x hx => (ht x hx).elim) hlocks hcell hv hcl (fun t h1 h2 => ⟨u, trivial, ⟨hp, by rw [h1]; exact hP, va_K.moved h2 hK, hD⟩, hS.F h1⟩) hS.2.2 hc hs
end ZE
section ZC
variable {p : Program} {l : Launch} {e : Env} {R : Room} {s : State} {m : MethodId} {args : Array Value} {below : List Frame} {meth : Method} {c : Code} {H : Heap} {locs : List Loc} {cells slots : Nat} {Q : State → Prop}
variable {cc : ByteArray} {pc : Nat} {ls : Array Slot} {rest st0 : List Value} {Ts : List Cond} {own C : String}
variable {D : va_G} {tys tys1 tys2 : List (ClassId × FieldType)} {A : Nat → Prop} {S : Type} {wf : S → va_W} {wl : va_W} {post : Int32 → S → Prop} {postv : S → Prop} {pe : String → S → Prop}
variable {y : MethodName} {bytes : ByteArray} {maxL nL mc ms n index : Nat} {ret : Option FieldType} {ws : List Cond} {rm : Room} {b : Addr} {As : List Value}
theorem zz_preV {q0 ci : Nat} {fs : List Value} {T : u_T} {N : Nat} (hK : va_K D vwCl tys s) (hP : va_P D vwCl wl H) (hD : va_D A wl) (he : wl[q0]? = some (b, .inr (ci, fs))) (hc : vwCl[ci]? = some (C, T, N)) : PreV s H C b (va_Pc (.ref b :: As) (zz_pre D tys wl H.size)) As :=
  ⟨zz_blind, va_recv hK hP hc he, fun U hU hW => ⟨rfl, by rw [hU], by rw [hU]; exact hP, va_K.moved hW.alike hK, hD.weaken (fun _ _ _ _ => trivial)⟩⟩
theorem zz_preS (hK : va_K D vwCl tys s) (hP : va_P D vwCl wl H) (hD : va_D A wl) : PreS s H (va_Pc As (zz_pre D tys wl H.size)) As :=
  ⟨zz_blind, fun U hU hW => ⟨rfl, by rw [hU], by rw [hU]; exact hP, va_K.moved hW.alike hK, hD.weaken (fun _ _ _ _ => trivial)⟩⟩
theorem zx_stH (hst : zx_st A s s.heap) (hS : va_S A s.heap H locs) (hF : ∀ q, va_A wl H.size q → A q) {U : State} (hU : U.heap = H) (hW : s.WarmedH U.vm) : zx_st (va_A wl H.size) U U.heap := by
  rw [hU]
  exact ⟨(vx_Zq.moved hW.alike (hst.1.kept hS.2.1)).narrow hF, (vx_Zq.moved hW.alike (hst.2.1.kept hS.2.1)).narrow hF, hst.2.2.warm hW⟩
theorem zx_preV {q0 ci : Nat} {fs : List Value} {T : u_T} {N : Nat} (hK : va_K D vwCl tys s) (hP : va_P D vwCl wl H) (hD : va_D A wl) (hst : zx_st A s s.heap) (hS : va_S A s.heap H locs) (hF : ∀ q, va_A wl H.size q → A q) (he : wl[q0]? = some (b, .inr (ci, fs))) (hc : vwCl[ci]? = some (C, T, N)) : PreV s H C b (va_Pc (.ref b :: As) (zx_pre D tys wl H.size)) As :=
  ⟨zx_blind, va_recv hK hP hc he, fun U hU hW => ⟨rfl, ⟨by rw [hU], by rw [hU]; exact hP, va_K.moved hW.alike hK, hD.weaken (fun _ _ _ _ => trivial)⟩, zx_stH hst hS hF hU hW⟩⟩
theorem zx_preS (hK : va_K D vwCl tys s) (hP : va_P D vwCl wl H) (hD : va_D A wl) (hst : zx_st A s s.heap) (hS : va_S A s.heap H locs) (hF : ∀ q, va_A wl H.size q → A q) : PreS s H (va_Pc As (zx_pre D tys wl H.size)) As :=
  ⟨zx_blind, fun U hU hW => ⟨rfl, ⟨by rw [hU], by rw [hU]; exact hP, va_K.moved hW.alike hK, hD.weaken (fun _ _ _ _ => trivial)⟩, zx_stH hst hS hF hU hW⟩⟩
/-- a virtual call that gives an int, the whole world handed over -/
theorem zz_callVi {ci : Nat} {fs : List Value} {T : u_T} {N : Nat} (F : CallFix p m c cc nL s args Ts own) (hK : va_K D vwCl tys s) (hP : va_P D vwCl wl H) (hD : va_D A wl) (hS : va_S A s.heap H locs) (hA : ∀ q, s.heap.size ≤ q → A q)
    (hM : Met l y ws rm (va_Pc (.ref b :: As) (zz_pre D tys wl H.size)) (va_Qi post (zz_B D tys2 (va_A wl H.size) wf) (va_A wl H.size)) mc ms (va_A wl H.size)) (cw : CallW R s args own C index y bytes maxL ret ws rm mc ms n) (q0 : Nat) (he : wl[q0]? = some (b, .inr (ci, fs))) (hc : vwCl[ci]? = some (C, T, N))
    (hn : As.length = n) (hsize : ls.size = nL) (hstack : st0 = As.reverse ++ .ref b :: rest) (hW : (rest.map fun v => v.category).sum ≤ 8) (hdg : decode cc pc = .ok (.invokevirtual index, 3)) (hf : cells + mc ≤ R.cells ∧ slots + ms ≤ R.slots)
    (kk : ∀ (r : Int32) (u : S) (H1 : Heap) (locs1 : List Loc), post r u → va_P D vwCl (wf u) H1 → va_D A (wf u) → va_S A s.heap H1 locs1 → W p l e R s m args below meth c H1 locs1 (cells + mc) (slots + ms) Q (F0 m (pc + 3) ls (.int r :: rest))) : W p l e R s m args below meth c H locs cells slots Q (F0 m pc ls st0) := by
  have hFc := zz_in hD hS hA
  refine va_calli (va_runV F hM cw (zz_preV hK hP hD he hc) rfl hn hsize hstack (lv_room hW) hdg hf) hS (fun q _ h => hFc q h) hFc (fun r u t H1 locs1 ht hvm hp hB hz hk hS1 => ?_)
  obtain ⟨hP1, -, hD1⟩ := hB
  rw [ht] at hP1
  exact kk r u H1 locs1 hp hP1 (hD1.weaken (fun _ _ _ h => hFc _ h)) hS1
theorem zz_callVv {ci : Nat} {fs : List Value} {T : u_T} {N : Nat} (F : CallFix p m c cc nL s args Ts own) (hK : va_K D vwCl tys s) (hP : va_P D vwCl wl H) (hD : va_D A wl) (hS : va_S A s.heap H locs) (hA : ∀ q, s.heap.size ≤ q → A q)
    (hM : Met l y ws rm (va_Pc (.ref b :: As) (zz_pre D tys wl H.size)) (va_Qv postv (zz_B D tys2 (va_A wl H.size) wf) (va_A wl H.size)) mc ms (va_A wl H.size)) (cw : CallW R s args own C index y bytes maxL ret ws rm mc ms n) (q0 : Nat) (he : wl[q0]? = some (b, .inr (ci, fs))) (hc : vwCl[ci]? = some (C, T, N))
    (hn : As.length = n) (hsize : ls.size = nL) (hstack : st0 = As.reverse ++ .ref b :: rest) (hW : (rest.map fun v => v.category).sum ≤ 8) (hdg : decode cc pc = .ok (.invokevirtual index, 3)) (hf : cells + mc ≤ R.cells ∧ slots + ms ≤ R.slots)
    (kk : ∀ (u : S) (H1 : Heap) (locs1 : List Loc), postv u → va_P D vwCl (wf u) H1 → va_D A (wf u) → va_S A s.heap H1 locs1 → W p l e R s m args below meth c H1 locs1 (cells + mc) (slots + ms) Q (F0 m (pc + 3) ls rest)) : W p l e R s m args below meth c H locs cells slots Q (F0 m pc ls st0) := by
  have hFc := zz_in hD hS hA
  refine va_callv (va_runV F hM cw (zz_preV hK hP hD he hc) rfl hn hsize hstack (lv_room hW) hdg hf) hS (fun q _ h => hFc q h) hFc (fun u t H1 locs1 ht hvm hp hB hz hk hS1 => ?_)
  obtain ⟨hP1, -, hD1⟩ := hB
  rw [ht] at hP1
  exact kk u H1 locs1 hp hP1 (hD1.weaken (fun _ _ _ h => hFc _ h)) hS1
theorem zz_callSv (F : CallFix p m c cc nL s args Ts own) (hK : va_K D vwCl tys s) (hP : va_P D vwCl wl H) (hD : va_D A wl) (hS : va_S A s.heap H locs) (hA : ∀ q, s.heap.size ≤ q → A q)
    (hM : Met l y ws rm (va_Pc As (zz_pre D tys wl H.size)) (va_Qv postv (zz_B D tys2 (va_A wl H.size) wf) (va_A wl H.size)) mc ms (va_A wl H.size)) (cw : CallB R s args own index y bytes maxL ret ws rm mc ms n ∧ (Cond.static y).before args s = true)
    (hn : As.length = n) (hsize : ls.size = nL) (hstack : st0 = As.reverse ++ rest) (hW : (rest.map fun v => v.category).sum ≤ 8) (hdg : decode cc pc = .ok (.invokestatic index, 3)) (hf : cells + mc ≤ R.cells ∧ slots + ms ≤ R.slots)
    (kk : ∀ (u : S) (H1 : Heap) (locs1 : List Loc), postv u → va_P D vwCl (wf u) H1 → va_D A (wf u) → va_S A s.heap H1 locs1 → W p l e R s m args below meth c H1 locs1 (cells + mc) (slots + ms) Q (F0 m (pc + 3) ls rest)) : W p l e R s m args below meth c H locs cells slots Q (F0 m pc ls st0) := by
  have hFc := zz_in hD hS hA
  refine va_callv (va_runS F hM cw (zz_preS hK hP hD) rfl hn hsize hstack (lv_room hW) hdg hf) hS (fun q _ h => hFc q h) hFc (fun u t H1 locs1 ht hvm hp hB hz hk hS1 => ?_)
  obtain ⟨hP1, -, hD1⟩ := hB
  rw [ht] at hP1
  exact kk u H1 locs1 hp hP1 (hD1.weaken (fun _ _ _ h => hFc _ h)) hS1
/-- a constructor's call -/
theorem zz_callIv (F : CallFix p m c cc nL s args Ts own) (hK : va_K D vwCl tys s) (hP : va_P D vwCl wl H) (hD : va_D A wl) (hS : va_S A s.heap H locs) (hA : ∀ q, s.heap.size ≤ q → A q)
    (hM : Met l y ws rm (va_Pc (.ref b :: As) (zz_pre D tys wl H.size)) (va_Qv postv (zz_B D tys2 (va_A wl H.size) wf) (va_A wl H.size)) mc ms (va_A wl H.size)) (cw : CallB R s args own index y bytes maxL none ws rm mc ms n ∧ y.name = "<init>" ∧ (Cond.instanceMethod y).before args s = true)
    (hn : As.length = n) (hsize : ls.size = nL) (hstack : st0 = As.reverse ++ .ref b :: rest) (hW : (rest.map fun v => v.category).sum ≤ 8) (hdg : decode cc pc = .ok (.invokespecial index, 3)) (hf : cells + mc ≤ R.cells ∧ slots + ms ≤ R.slots)
    (kk : ∀ (u : S) (H1 : Heap) (locs1 : List Loc), postv u → va_P D vwCl (wf u) H1 → va_D A (wf u) → va_S A s.heap H1 locs1 → W p l e R s m args below meth c H1 locs1 (cells + mc) (slots + ms) Q (F0 m (pc + 3) ls rest)) : W p l e R s m args below meth c H locs cells slots Q (F0 m pc ls st0) := by
  have hFc := zz_in hD hS hA
  refine va_callv (va_runI F hM cw (zz_preS hK hP hD) rfl hn hsize hstack (lv_room hW) hdg hf) hS (fun q _ h => hFc q h) hFc (fun u t H1 locs1 ht hvm hp hB hz hk hS1 => ?_)
  obtain ⟨hP1, -, hD1⟩ := hB
  rw [ht] at hP1
  exact kk u H1 locs1 hp hP1 (hD1.weaken (fun _ _ _ h => hFc _ h)) hS1
/-- calls of methods that may throw -/
theorem zx_callVi {ci : Nat} {fs : List Value} {T : u_T} {N : Nat} (F : CallFix p m c cc nL s args Ts own) (hK : va_K D vwCl tys s) (hP : va_P D vwCl wl H) (hD : va_D A wl) (hS : va_S A s.heap H locs) (hA : ∀ q, s.heap.size ≤ q → A q) (hst : zx_st A s s.heap)
    (hM : vx_Met l y ws rm (va_Pc (.ref b :: As) (zx_pre D tys wl H.size)) (va_Qi post (zz_B D tys2 (va_A wl H.size) wf) (va_A wl H.size)) (zx_X pe D tys2 (va_A wl H.size) wf) mc ms (va_A wl H.size)) (cw : CallW R s args own C index y bytes maxL ret ws rm mc ms n) (q0 : Nat) (he : wl[q0]? = some (b, .inr (ci, fs))) (hc : vwCl[ci]? = some (C, T, N))
    (hn : As.length = n) (hsize : ls.size = nL) (hstack : st0 = As.reverse ++ .ref b :: rest) (hW : (rest.map fun v => v.category).sum ≤ 8) (hdg : decode cc pc = .ok (.invokevirtual index, 3)) (hf : cells + mc ≤ R.cells ∧ slots + ms ≤ R.slots)
    (kx : ∀ (E : String) (ce : Cell) (q9 : Addr) (u : S) (H1 : Heap) (locs1 : List Loc), pe E u → va_P D vwCl (wf u) H1 → va_D A (wf u) → va_S A s.heap H1 locs1 → H1[q9]? = some ce → ce.vm = .none → s.vm.findClass E = some ce.cls → vx_W p l e R s m args below meth c H1 locs1 (cells + mc) (slots + ms) Q (F0 m pc ls rest) q9)
    (kk : ∀ (r : Int32) (u : S) (H1 : Heap) (locs1 : List Loc), post r u → va_P D vwCl (wf u) H1 → va_D A (wf u) → va_S A s.heap H1 locs1 → W p l e R s m args below meth c H1 locs1 (cells + mc) (slots + ms) Q (F0 m (pc + 3) ls (.int r :: rest))) : W p l e R s m args below meth c H locs cells slots Q (F0 m pc ls st0) := by
  have hFc := zz_in hD hS hA
  refine vx_calli (vx_runV F hM cw (zx_preV hK hP hD hst hS hFc he hc) rfl hn hsize hstack (lv_room hW) hdg hf) hS (fun q _ h => hFc q h) hFc (fun q _ h => hFc q h) (fun E ce q9 u t H1 locs1 ht hvm _ hB hz hk hS1 h1 h2 h3 => ?_) (fun r u t H1 locs1 ht hvm hp hB hz hk hS1 => ?_)
  · obtain ⟨hp, hP1, -, hD1⟩ := hB
    rw [ht] at hP1
    exact kx E ce q9 u H1 locs1 hp hP1 (hD1.weaken (fun _ _ _ h => hFc _ h)) hS1 h1 h2 h3
  · obtain ⟨hP1, -, hD1⟩ := hB
    rw [ht] at hP1
    exact kk r u H1 locs1 hp hP1 (hD1.weaken (fun _ _ _ h => hFc _ h)) hS1
theorem zx_callVv {ci : Nat} {fs : List Value} {T : u_T} {N : Nat} (F : CallFix p m c cc nL s args Ts own) (hK : va_K D vwCl tys s) (hP : va_P D vwCl wl H) (hD : va_D A wl) (hS : va_S A s.heap H locs) (hA : ∀ q, s.heap.size ≤ q → A q) (hst : zx_st A s s.heap)
    (hM : vx_Met l y ws rm (va_Pc (.ref b :: As) (zx_pre D tys wl H.size)) (va_Qv postv (zz_B D tys2 (va_A wl H.size) wf) (va_A wl H.size)) (zx_X pe D tys2 (va_A wl H.size) wf) mc ms (va_A wl H.size)) (cw : CallW R s args own C index y bytes maxL ret ws rm mc ms n) (q0 : Nat) (he : wl[q0]? = some (b, .inr (ci, fs))) (hc : vwCl[ci]? = some (C, T, N))
    (hn : As.length = n) (hsize : ls.size = nL) (hstack : st0 = As.reverse ++ .ref b :: rest) (hW : (rest.map fun v => v.category).sum ≤ 8) (hdg : decode cc pc = .ok (.invokevirtual index, 3)) (hf : cells + mc ≤ R.cells ∧ slots + ms ≤ R.slots)
    (kx : ∀ (E : String) (ce : Cell) (q9 : Addr) (u : S) (H1 : Heap) (locs1 : List Loc), pe E u → va_P D vwCl (wf u) H1 → va_D A (wf u) → va_S A s.heap H1 locs1 → H1[q9]? = some ce → ce.vm = .none → s.vm.findClass E = some ce.cls → vx_W p l e R s m args below meth c H1 locs1 (cells + mc) (slots + ms) Q (F0 m pc ls rest) q9)
    (kk : ∀ (u : S) (H1 : Heap) (locs1 : List Loc), postv u → va_P D vwCl (wf u) H1 → va_D A (wf u) → va_S A s.heap H1 locs1 → W p l e R s m args below meth c H1 locs1 (cells + mc) (slots + ms) Q (F0 m (pc + 3) ls rest)) : W p l e R s m args below meth c H locs cells slots Q (F0 m pc ls st0) := by
  have hFc := zz_in hD hS hA
  refine vx_callv (vx_runV F hM cw (zx_preV hK hP hD hst hS hFc he hc) rfl hn hsize hstack (lv_room hW) hdg hf) hS (fun q _ h => hFc q h) hFc (fun q _ h => hFc q h) (fun E ce q9 u t H1 locs1 ht hvm _ hB hz hk hS1 h1 h2 h3 => ?_) (fun u t H1 locs1 ht hvm hp hB hz hk hS1 => ?_)
  · obtain ⟨hp, hP1, -, hD1⟩ := hB
    rw [ht] at hP1
    exact kx E ce q9 u H1 locs1 hp hP1 (hD1.weaken (fun _ _ _ h => hFc _ h)) hS1 h1 h2 h3
  · obtain ⟨hP1, -, hD1⟩ := hB
    rw [ht] at hP1
    exact kk u H1 locs1 hp hP1 (hD1.weaken (fun _ _ _ h => hFc _ h)) hS1
theorem zx_callSv (F : CallFix p m c cc nL s args Ts own) (hK : va_K D vwCl tys s) (hP : va_P D vwCl wl H) (hD : va_D A wl) (hS : va_S A s.heap H locs) (hA : ∀ q, s.heap.size ≤ q → A q) (hst : zx_st A s s.heap)
    (hM : vx_Met l y ws rm (va_Pc As (zx_pre D tys wl H.size)) (va_Qv postv (zz_B D tys2 (va_A wl H.size) wf) (va_A wl H.size)) (zx_X pe D tys2 (va_A wl H.size) wf) mc ms (va_A wl H.size)) (cw : CallB R s args own index y bytes maxL ret ws rm mc ms n ∧ (Cond.static y).before args s = true)
    (hn : As.length = n) (hsize : ls.size = nL) (hstack : st0 = As.reverse ++ rest) (hW : (rest.map fun v => v.category).sum ≤ 8) (hdg : decode cc pc = .ok (.invokestatic index, 3)) (hf : cells + mc ≤ R.cells ∧ slots + ms ≤ R.slots)
    (kx : ∀ (E : String) (ce : Cell) (q9 : Addr) (u : S) (H1 : Heap) (locs1 : List Loc), pe E u → va_P D vwCl (wf u) H1 → va_D A (wf u) → va_S A s.heap H1 locs1 → H1[q9]? = some ce → ce.vm = .none → s.vm.findClass E = some ce.cls → vx_W p l e R s m args below meth c H1 locs1 (cells + mc) (slots + ms) Q (F0 m pc ls rest) q9)
    (kk : ∀ (u : S) (H1 : Heap) (locs1 : List Loc), postv u → va_P D vwCl (wf u) H1 → va_D A (wf u) → va_S A s.heap H1 locs1 → W p l e R s m args below meth c H1 locs1 (cells + mc) (slots + ms) Q (F0 m (pc + 3) ls rest)) : W p l e R s m args below meth c H locs cells slots Q (F0 m pc ls st0) := by
  have hFc := zz_in hD hS hA
  refine vx_callv (vx_runS F hM cw (zx_preS hK hP hD hst hS hFc) rfl hn hsize hstack (lv_room hW) hdg hf) hS (fun q _ h => hFc q h) hFc (fun q _ h => hFc q h) (fun E ce q9 u t H1 locs1 ht hvm _ hB hz hk hS1 h1 h2 h3 => ?_) (fun u t H1 locs1 ht hvm hp hB hz hk hS1 => ?_)
  · obtain ⟨hp, hP1, -, hD1⟩ := hB
    rw [ht] at hP1
    exact kx E ce q9 u H1 locs1 hp hP1 (hD1.weaken (fun _ _ _ h => hFc _ h)) hS1 h1 h2 h3
  · obtain ⟨hP1, -, hD1⟩ := hB
    rw [ht] at hP1
    exact kk u H1 locs1 hp hP1 (hD1.weaken (fun _ _ _ h => hFc _ h)) hS1
end ZC
section ZL
variable {p : Program} {l : Launch} {e : Env} {R : Room} {s : State} {m : MethodId} {args : Array Value} {below : List Frame} {meth : Method} {c : Code} {H : Heap} {locs : List Loc} {cells slots : Nat} {Q : State → Prop}
variable {pc : Nat} {ls : Array Slot}
/-- a loop: an invariant at its head, a measure that falls -/
theorem zz_loop {τ : Type} (I : Array Slot → Heap → List Loc → τ → Prop) (μ : τ → Nat)
    (hs : ∀ (ls : Array Slot) (H : Heap) (locs : List Loc) (u : τ), I ls H locs u → (∀ (ls' : Array Slot) (H' : Heap) (locs' : List Loc) (u' : τ), I ls' H' locs' u' → μ u' < μ u → W p l e R s m args below meth c H' locs' cells slots Q (F0 m pc ls' [])) → W p l e R s m args below meth c H locs cells slots Q (F0 m pc ls []))
    (u : τ) (h : I ls H locs u) : W p l e R s m args below meth c H locs cells slots Q (F0 m pc ls []) := by
  have key : ∀ (k : Nat) (ls : Array Slot) (H : Heap) (locs : List Loc) (u : τ), μ u < k → I ls H locs u → W p l e R s m args below meth c H locs cells slots Q (F0 m pc ls []) := by
    intro k
    induction k with
    | zero => intro ls H locs u h; omega
    | succ k ih => intro ls H locs u hk hi; exact hs ls H locs u hi (fun ls' H' locs' u' hi' hm => ih ls' H' locs' u' (by omega) hi')
  exact key (μ u + 1) ls H locs u (by omega) h
/-- .. that may make cells -/
theorem zz_loopC {τ : Type} (I : Array Slot → Heap → List Loc → Nat → Nat → τ → Prop) (μ : τ → Nat)
    (hs : ∀ (ls : Array Slot) (H : Heap) (locs : List Loc) (cells slots : Nat) (u : τ), I ls H locs cells slots u → (∀ (ls' : Array Slot) (H' : Heap) (locs' : List Loc) (cells' slots' : Nat) (u' : τ), I ls' H' locs' cells' slots' u' → μ u' < μ u → W p l e R s m args below meth c H' locs' cells' slots' Q (F0 m pc ls' [])) → W p l e R s m args below meth c H locs cells slots Q (F0 m pc ls []))
    (u : τ) (h : I ls H locs cells slots u) : W p l e R s m args below meth c H locs cells slots Q (F0 m pc ls []) := by
  have key : ∀ (k : Nat) (ls : Array Slot) (H : Heap) (locs : List Loc) (cells slots : Nat) (u : τ), μ u < k → I ls H locs cells slots u → W p l e R s m args below meth c H locs cells slots Q (F0 m pc ls []) := by
    intro k
    induction k with
    | zero => intro ls H locs cells slots u h; omega
    | succ k ih => intro ls H locs cells slots u hk hi; exact hs ls H locs cells slots u hi (fun ls' H' locs' cells' slots' u' hi' hm => ih ls' H' locs' cells' slots' u' (by omega) hi')
  exact key (μ u + 1) ls H locs cells slots u (by omega) h
end ZL
/-- a number is one of lo .. hi -/
def zr (x : Int32) (lo hi : Nat) : Prop := ∃ k : Nat, lo ≤ k ∧ k ≤ hi ∧ x = nI k
theorem zr_of {x : Int32} {lo hi : Nat} (hh : hi < 2 ^ 31) (hlo : lo < 2 ^ 31) (h1 : ¬ x < nI lo) (h2 : x ≤ nI hi) : zr x lo hi := by
  have a1 : (lo : Int) ≤ x.toInt := by
    rw [Int32.lt_iff_toInt_lt, nI_toInt hlo] at h1
    omega
  have a2 : x.toInt ≤ (hi : Int) := by
    rw [Int32.le_iff_toInt_le, nI_toInt hh] at h2
    exact h2
  obtain ⟨j, hj, e⟩ := nI_of (x := x) (by rw [Int32.lt_iff_toInt_lt, Int32.toInt_zero]; omega)
  subst e
  rw [nI_toInt hj] at a1 a2
  exact ⟨j, by omega, by omega, rfl⟩
section ZT
variable {p : Program} {l : Launch} {e : Env} {R : Room} {s : State} {m : MethodId} {args : Array Value} {below : List Frame} {meth : Method} {c : Code} {H : Heap} {locs : List Loc} {cells slots mc ms nL : Nat}
variable {cc : ByteArray} {pc : Nat} {ls : Array Slot} {rest : List Value} {Ts : List Cond} {own : String}
variable {D : va_G} {tys : List (ClassId × FieldType)} {A : Nat → Prop} {S : Type} {wf : S → va_W} {pe : String → S → Prop}
/-- 'throw new E()' in a method without a table -/
theorem zx_throw {Qc : Array Value → State → Outcome → State → Prop} {cls : String} {names : List String} {ik ic : Nat} (F : CallFix p m c cc nL s args Ts own) (hl0 : l.stackTraces = false) (ht : ∀ x ∈ c.exceptionTable.toList, False) (hlocks : meth.locks = false) (hK : va_K D vwCl tys s) (hS : va_S A s.heap H locs) (hst : zx_st A s s.heap)
    (hcls : Bundle.fit cls = true) (hnames : ∀ n ∈ names, Bundle.fit n = true) (hk : (Cond.classLink own ik cls).before args s = true) (hini : (Cond.initialized cls).before args s = true) (hat : ∀ w ∈ vx_at0 own ic cls names, w.before args s = true)
    (hgood : ∀ w ∈ Cond.classLink own ik cls :: Cond.initialized cls :: vx_at0 own ic cls names, vx_ot w = true) (hsize : ls.size = nL)
    (d0 : decode cc pc = .ok (.new ik, 3)) (d3 : decode cc (pc + 3) = .ok (.dup, 1)) (d4 : decode cc (pc + 4) = .ok (.invokespecial ic, 3)) (d7 : decode cc (pc + 7) = .ok (.athrow, 1))
    (hRframes : names.length + 3 < R.frames) (hRlocals : (rest.map fun v => v.category).sum + (13 * (names.length + 1) + 42) ≤ R.locals) (hRcells : cells + 1 ≤ R.cells) (hRslots : slots + 6 ≤ R.slots) (hc : cells + 1 ≤ mc) (hs : slots + 6 ≤ ms)
    (u : S) (hp : pe cls u) (hP : va_P D vwCl (wf u) H) (hD : va_D A (wf u)) :
    W p l e R s m args below meth c H locs cells slots (vx_MQ below Qc (zx_X pe D tys A wf) args s mc ms A) (F0 m pc ls rest) :=
  vx_throw0 (names := names) F.1 F.2.1 hl0 F.2.2.2.1 hcls hnames hk hini hat hgood hst.1 hst.2.1 hS (hsize.trans F.2.2.1.symm) d0 d3 d4 d7 (fun x hx => (ht x hx).elim) hRframes hRlocals hRcells hRslots hlocks
    (fun t h1 h2 h3 => ⟨u, trivial, ⟨hp, hP.kept (fun k q hk => h3 q.1 (hP k q hk).lt), va_K.moved h1 hK, hD⟩, Nat.le_trans hS.1 h2, fun q g1 g2 => (h3 q (Nat.lt_of_lt_of_le g1 hS.1)).trans (hS.2.1 q g1 g2)⟩) hS.2.2 hc hs
end ZT
theorem zz_setself {α : Type} {wl : List α} {q0 : Nat} {x : α} (he : wl[q0]? = some x) : wl.set q0 x = wl := by
  apply List.ext_getElem?
  intro i
  rw [List.getElem?_set]
  split
  · rename_i h
    subst h
    rw [he]
    split
    · rfl
    · rename_i h9
      exact absurd ((List.getElem?_eq_some_iff.mp he).1) h9
  · rfl
theorem zz_arrI {D : va_G} {tys : List (ClassId × FieldType)} {s : State} {cA cI : ClassId} {k : Nat} (hK0 : va_K D vwCl tys s) (hI : tys[k]? = some (cI, .int)) (hK : va_K D vwCl (tys ++ [(cA, .int)]) s) : cA = cI := by
  have h1 : s.vm.findClass ("[" ++ FieldType.int.toString) = some cI := (hK0.2 k _ hI).2
  have h2 : s.vm.findClass ("[" ++ FieldType.int.toString) = some cA := (hK.2 tys.length (cA, .int) (by simp)).2
  exact Option.some.inj (h2.symm.trans h1)
theorem zz_arrZ {D : va_G} {tys : List (ClassId × FieldType)} {s : State} {cA cI : ClassId} {k : Nat} (hK0 : va_K D vwCl tys s) (hI : tys[k]? = some (cI, .boolean)) (hK : va_K D vwCl (tys ++ [(cA, .boolean)]) s) : cA = cI := by
  have h1 : s.vm.findClass ("[" ++ FieldType.boolean.toString) = some cI := (hK0.2 k _ hI).2
  have h2 : s.vm.findClass ("[" ++ FieldType.boolean.toString) = some cA := (hK.2 tys.length (cA, .boolean) (by simp)).2
  exact Option.some.inj (h2.symm.trans h1)
theorem zz_arrL {D : va_G} {tys : List (ClassId × FieldType)} {s : State} {cA cI : ClassId} {k : Nat} (hK0 : va_K D vwCl tys s) (hI : tys[k]? = some (cI, .long)) (hK : va_K D vwCl (tys ++ [(cA, .long)]) s) : cA = cI := by
  have h1 : s.vm.findClass ("[" ++ FieldType.long.toString) = some cI := (hK0.2 k _ hI).2
  have h2 : s.vm.findClass ("[" ++ FieldType.long.toString) = some cA := (hK.2 tys.length (cA, .long) (by simp)).2
  exact Option.some.inj (h2.symm.trans h1)
/-! methods with an exception table (the law's own) -/
def zy_pre (D : va_G) (tys : List (ClassId × FieldType)) (wl : va_W) (sz : Nat) : State → Prop := fun U => zx_pre D tys wl sz U ∧ va_Nc "java/util/NoSuchElementException" "java/lang/IllegalArgumentException" U
theorem zy_blind {av : List Value} {D : va_G} {tys : List (ClassId × FieldType)} {wl : va_W} {sz : Nat} : FrameBlind (va_Pc av (zy_pre D tys wl sz)) := fun a U g mk q => by
  obtain ⟨q0, qx, qn⟩ := q
  have h9 := zx_blind (av := av) a U g mk ⟨q0, qx⟩
  exact ⟨q0, h9.2, va_Nc.moved (u := U) (U := U.calling g mk a) (Vm.Alike.refl U.vm) qn⟩
section ZW
variable {l : Launch} {y : MethodName} {ws ws' : List Cond} {rm : Room} {av : List Value} {D : va_G} {tys tys2 : List (ClassId × FieldType)} {wl : va_W} {sz mc ms maxL : Nat} {cc : ByteArray} {hh : List (Nat × Nat × Nat × Nat)}
theorem zy_headI {S : Type} {post : Int32 → S → Prop} {wf : S → va_W} (hy : plainName y.cls = true) (hw : ws = Cond.codeWith y cc maxL (some .int) hh :: ws') (hn : (lg_sl av).length ≤ maxL)
    (body : ∀ (p : Program) (e : Env) (s : State) (m : MethodId) (below : List Frame) (meth : Method) (c : Code) (A : Nat → Prop) (ls : Array Slot), CallFix p m c cc maxL s av.toArray ws y.cls → meth.sig.returnType = some .int → meth.locks = false → c.exceptionTable.toList = tableOf hh → va_P D vwCl wl s.heap → va_K D vwCl tys s → va_D A wl → (∀ q, s.heap.size ≤ q → A q) → va_S A s.heap s.heap [] → zx_st A s s.heap → va_Nc "java/util/NoSuchElementException" "java/lang/IllegalArgumentException" s → lv_has ls maxL (lv_args 0 av) →
      W p l e (headSpec ws rm).room s m av.toArray below meth c s.heap [] 0 0 (MQ below (va_Qi post (zz_B D tys2 A wf) A) av.toArray s mc ms A) (F0 m 0 ls [])) :
    Met l y ws rm (va_Pc av (zy_pre D tys wl sz)) (va_Qi post (zz_B D tys2 (va_A wl sz) wf) (va_A wl sz)) mc ms (va_A wl sz) := by
  refine va_MetW (cc := cc) (maxL := maxL) (ret := some .int) (hh := hh) hy hw ?_
  intro p e s m args below meth c s₁ B hml hv
  obtain ⟨rfl, ⟨⟨rfl, hP, hK, hD0⟩, hst⟩, hnc⟩ := hv
  have hts := atoms_spec (ws := ws) B.pre
  rw [lg_entry_eq]
  exact body p e s m below meth c _ _ ⟨B.exec, B.bytes, hml, findClass_of_methodNamed B.named, hts⟩ B.returns B.notSynchronized (vx_table (x := y) B (hts _ (by rw [hw]; exact List.mem_cons_self))) hP hK hD0.self (fun q h => Or.inr h) va_S.rf hst hnc (lv_entry av hn)
end ZW
section ZV
variable {p : Program} {l : Launch} {e : Env} {R : Room} {s : State} {m : MethodId} {args : Array Value} {below : List Frame} {meth : Method} {c : Code} {H : Heap} {locs : List Loc} {cells slots : Nat} {Q : State → Prop}
variable {cc : ByteArray} {pc : Nat} {ls : Array Slot} {rest st0 : List Value} {Ts : List Cond} {own C : String}
variable {D : va_G} {tys tys2 : List (ClassId × FieldType)} {A : Nat → Prop} {S : Type} {wf : S → va_W} {wl : va_W} {post : Int32 → S → Prop}
variable {y : MethodName} {bytes : ByteArray} {maxL nL mc ms n index : Nat} {ret : Option FieldType} {hh : List (Nat × Nat × Nat × Nat)} {ws : List Cond} {rm : Room} {As : List Value}
theorem zy_callSi (F : CallFix p m c cc nL s args Ts own) (hK : va_K D vwCl tys s) (hP : va_P D vwCl wl H) (hD : va_D A wl) (hS : va_S A s.heap H locs) (hA : ∀ q, s.heap.size ≤ q → A q) (hst : zx_st A s s.heap) (hnc : va_Nc "java/util/NoSuchElementException" "java/lang/IllegalArgumentException" s)
    (hM : Met l y ws rm (va_Pc As (zy_pre D tys wl H.size)) (va_Qi post (zz_B D tys2 (va_A wl H.size) wf) (va_A wl H.size)) mc ms (va_A wl H.size)) (cw : vx_CSW R s args own index y bytes maxL ret hh ws rm mc ms n)
    (hn : As.length = n) (hsize : ls.size = nL) (hstack : st0 = As.reverse ++ rest) (hW : (rest.map fun v => v.category).sum ≤ 8) (hdg : decode cc pc = .ok (.invokestatic index, 3)) (hf : cells + mc ≤ R.cells ∧ slots + ms ≤ R.slots)
    (kk : ∀ (r : Int32) (u : S) (H1 : Heap) (locs1 : List Loc), post r u → va_P D vwCl (wf u) H1 → va_D A (wf u) → va_S A s.heap H1 locs1 → W p l e R s m args below meth c H1 locs1 (cells + mc) (slots + ms) Q (F0 m (pc + 3) ls (.int r :: rest))) : W p l e R s m args below meth c H locs cells slots Q (F0 m pc ls st0) := by
  have hFc := zz_in hD hS hA
  refine va_calli (vx_runSW F hM cw ⟨zy_blind, fun U hU hW => ⟨rfl, ⟨⟨by rw [hU], by rw [hU]; exact hP, va_K.moved hW.alike hK, hD.weaken (fun _ _ _ _ => trivial)⟩, zx_stH hst hS hFc hU hW⟩, va_Nc.moved hW.alike hnc⟩⟩ rfl hn hsize hstack (lv_room hW) hdg hf) hS (fun q _ h => hFc q h) hFc (fun r u t H1 locs1 ht hvm hp hB hz hk hS1 => ?_)
  obtain ⟨hP1, -, hD1⟩ := hB
  rw [ht] at hP1
  exact kk r u H1 locs1 hp hP1 (hD1.weaken (fun _ _ _ h => hFc _ h)) hS1
end ZV
end
section
/-! the reference's way down: what a walk down to the place K has found -/
def mx_J (w n : Nat → Nat) (v K cnt bs : Nat) (bm : Nat → Nat) : Prop :=
  cnt + mx_c w n v K = mx_c w n v 68921 ∧ cnt ≤ 68921 - K ∧ ((cnt = 0 ∧ bs = 41 ∧ ∀ a b c d, mx_M w n v a b c d → mx_k b c d < K) ∨
    (0 < cnt ∧ mx_M w n v (bm 0) (bm 1) (bm 2) (bm 3) ∧ K ≤ mx_k (bm 1) (bm 2) (bm 3) ∧ bs = bm 0 + bm 1 + bm 2 + bm 3 ∧
      ∀ a b c d, mx_M w n v a b c d → K ≤ mx_k b c d → bs < a + b + c + d ∨ (a + b + c + d = bs ∧ mx_k b c d ≤ mx_k (bm 1) (bm 2) (bm 3))))
theorem mx_J0 {w n bm : Nat → Nat} {v : Nat} : mx_J w n v 68921 0 41 bm := ⟨Nat.zero_add _, Nat.zero_le _, Or.inl ⟨rfl, rfl, fun _ _ _ _ h => mx_klt h⟩⟩
theorem mx_Jbs {w n bm : Nat → Nat} {v K cnt bs : Nat} (h : mx_J w n v K cnt bs bm) : bs ≤ 41 := by
  obtain ⟨_, _, ⟨_, h, _⟩ | ⟨_, ⟨_, _, _, _, h1, _⟩, _, h2, _⟩⟩ := h <;> omega
theorem mx_Jskip {w n bm : Nat → Nat} {v K K' cnt bs : Nat} (h : mx_J w n v K cnt bs bm) (hK : K' ≤ K) (hs : ∀ a b c d, mx_M w n v a b c d → ¬ (K' ≤ mx_k b c d ∧ mx_k b c d < K)) : mx_J w n v K' cnt bs bm := by
  obtain ⟨h1, h0, h2⟩ := h
  obtain ⟨j, rfl⟩ : ∃ j, K = K' + j := ⟨K - K', by omega⟩
  refine ⟨by rw [← mx_skipc j hs]; exact h1, by omega, ?_⟩
  rcases h2 with ⟨e1, e2, e3⟩ | ⟨e1, e2, e3, e4, e5⟩
  · refine Or.inl ⟨e1, e2, fun a b c d hm => ?_⟩
    have x1 := e3 a b c d hm
    have x2 := hs a b c d hm
    omega
  · refine Or.inr ⟨e1, e2, by omega, e4, fun a b c d hm hlt => e5 a b c d hm ?_⟩
    have x2 := hs a b c d hm
    omega
theorem mx_Jnone {w n bm : Nat → Nat} {v b c d cnt bs : Nat} (hb : b ≤ 40) (hc : c ≤ 40) (h : mx_J w n v (mx_k b c d + 1) cnt bs bm) (hn : ∀ a, ¬ mx_M w n v a b c d) : mx_J w n v (mx_k b c d) cnt bs bm := by
  refine mx_Jskip h (Nat.le_succ _) (fun a' b' c' d' hm hk => ?_)
  obtain ⟨_, q2, q3, q4⟩ := mx_M40 hm
  have e : b' = b ∧ c' = c ∧ d' = d := by
    unfold mx_k at hk
    omega
  obtain ⟨rfl, rfl, rfl⟩ := e
  exact hn _ hm
theorem mx_Jfound {w n bm : Nat → Nat} {v a b c d cnt bs : Nat} (h0 : 1 ≤ w 0) (h : mx_J w n v (mx_k b c d + 1) cnt bs bm) (hm : mx_M w n v a b c d) (hlt : a + b + c + d < bs) {bm' : Nat → Nat} (e0 : bm' 0 = a) (e1 : bm' 1 = b) (e2 : bm' 2 = c) (e3 : bm' 3 = d) : mx_J w n v (mx_k b c d) (cnt + 1) (a + b + c + d) bm' := by
  obtain ⟨h1, hc0, h2⟩ := h
  have ht := mx_t1 hm
  have hk := mx_klt hm
  have h1' : cnt + (mx_c w n v (mx_k b c d) + mx_t w n v (mx_k b c d)) = mx_c w n v 68921 := h1
  refine ⟨by omega, by omega, Or.inr ⟨by omega, by rw [e0, e1, e2, e3]; exact hm, by rw [e1, e2, e3]; exact Nat.le_refl _, by rw [e0, e1, e2, e3], ?_⟩⟩
  intro a' b' c' d' hm' hge
  rw [e1, e2, e3]
  by_cases hk : mx_k b' c' d' = mx_k b c d
  · obtain ⟨r1, r2, r3, r4⟩ := mx_same h0 hm hm' hk
    rw [r1, r2, r3, r4]
    exact Or.inr ⟨rfl, Nat.le_refl _⟩
  · rcases h2 with ⟨_, _, q⟩ | ⟨_, _, _, q4, q⟩
    · have q9 := q a' b' c' d' hm'
      omega
    · have q9 := q a' b' c' d' hm' (by omega)
      omega
theorem mx_Jkeep {w n bm : Nat → Nat} {v a b c d cnt bs : Nat} (h0 : 1 ≤ w 0) (h : mx_J w n v (mx_k b c d + 1) cnt bs bm) (hm : mx_M w n v a b c d) (hge : bs ≤ a + b + c + d) : mx_J w n v (mx_k b c d) (cnt + 1) bs bm := by
  obtain ⟨h1, hc0, h2⟩ := h
  have ht := mx_t1 hm
  have hk := mx_klt hm
  have h40 : a + b + c + d ≤ 40 := hm.2.2.2.2.1
  have h1' : cnt + (mx_c w n v (mx_k b c d) + mx_t w n v (mx_k b c d)) = mx_c w n v 68921 := h1
  refine ⟨by omega, by omega, Or.inr ?_⟩
  rcases h2 with ⟨_, q, _⟩ | ⟨q1, q2, q3, q4, q⟩
  · omega
  · refine ⟨by omega, q2, by omega, q4, fun a' b' c' d' hm' hlt => ?_⟩
    by_cases hk : mx_k b' c' d' = mx_k b c d
    · obtain ⟨r1, r2, r3, r4⟩ := mx_same h0 hm hm' hk
      rw [r1, r2, r3, r4]
      omega
    · exact q a' b' c' d' hm' (by omega)
theorem mx_Jend {w n bm : Nat → Nat} {v cnt bs : Nat} (h : mx_J w n v 0 cnt bs bm) : mx_E w n v cnt bs bm := by
  have h9 := mx_Jbs h
  obtain ⟨h1, h0, h2⟩ := h
  refine ⟨h1, h0, h9, ?_⟩
  rcases h2 with ⟨q1, _, q⟩ | ⟨q1, q2, _, q4, q⟩
  · exact Or.inl ⟨q1, fun ⟨a, b, c, d, hm⟩ => absurd (q a b c d hm) (Nat.not_lt_zero _)⟩
  · refine Or.inr ⟨q1, ⟨_, _, _, _, q2⟩, q4, q2, fun a b c d hm => ?_⟩
    have x := q a b c d hm (Nat.zero_le _)
    omega
theorem mx_ks (b c d : Nat) : mx_k (b + 1) c d = mx_k b c d + 1 := by
  unfold mx_k
  omega
theorem md_skip3 {w n : Nat → Nat} {v : Nat} : ∀ a' b' c' d', mx_M w n v a' b' c' d' → ¬ (mx_k 0 0 (min (n 3) 40 + 1) ≤ mx_k b' c' d' ∧ mx_k b' c' d' < 68921) := by
  intro a' b' c' d' hm hk
  obtain ⟨_, q2, q3, q4⟩ := mx_M40 hm
  obtain ⟨m1, m2, m3, m4, m5, m6⟩ := hm
  unfold mx_k at hk
  omega
theorem md_skip2 {w n : Nat → Nat} {v d : Nat} : ∀ a' b' c' d', mx_M w n v a' b' c' d' → ¬ (mx_k 0 (min (n 2) (40 - d) + 1) d ≤ mx_k b' c' d' ∧ mx_k b' c' d' < mx_k 0 0 (d + 1)) := by
  intro a' b' c' d' hm hk
  obtain ⟨_, q2, q3, q4⟩ := mx_M40 hm
  obtain ⟨m1, m2, m3, m4, m5, m6⟩ := hm
  unfold mx_k at hk
  omega
theorem md_skip1 {w n : Nat → Nat} {v c d : Nat} (hc : c ≤ 40) : ∀ a' b' c' d', mx_M w n v a' b' c' d' → ¬ (mx_k (min (n 1) (40 - d - c) + 1) c d ≤ mx_k b' c' d' ∧ mx_k b' c' d' < mx_k 0 (c + 1) d) := by
  intro a' b' c' d' hm hk
  obtain ⟨_, q2, q3, q4⟩ := mx_M40 hm
  obtain ⟨m1, m2, m3, m4, m5, m6⟩ := hm
  unfold mx_k at hk
  omega
/-- what a mix says of what is left for cassette 0 -/
theorem md_inv {w n : Nat → Nat} {v a b c d : Nat} (hw : 1 ≤ w 0) (hm : mx_M w n v a b c d) : d * w 3 + c * w 2 + b * w 1 ≤ v ∧ (v - d * w 3 - c * w 2 - b * w 1) % w 0 = 0 ∧ (v - d * w 3 - c * w 2 - b * w 1) / w 0 = a := by
  obtain ⟨m1, m2, m3, m4, m5, m6⟩ := hm
  have e : v - d * w 3 - c * w 2 - b * w 1 = a * w 0 := by omega
  rw [e]
  exact ⟨by omega, Nat.mul_mod_left _ _, Nat.mul_div_cancel _ hw⟩
theorem md_mix {w n : Nat → Nat} {v b c d : Nat} (h1 : b ≤ n 1) (h2 : c ≤ n 2) (h3 : d ≤ n 3) (hle : d * w 3 + c * w 2 + b * w 1 ≤ v) (hr : (v - d * w 3 - c * w 2 - b * w 1) % w 0 = 0) (hn : (v - d * w 3 - c * w 2 - b * w 1) / w 0 ≤ n 0) (hs : d + c + b + (v - d * w 3 - c * w 2 - b * w 1) / w 0 ≤ 40) : mx_M w n v ((v - d * w 3 - c * w 2 - b * w 1) / w 0) b c d := by
  have e : (v - d * w 3 - c * w 2 - b * w 1) / w 0 * w 0 = v - d * w 3 - c * w 2 - b * w 1 := by
    have h9 := Nat.div_add_mod (v - d * w 3 - c * w 2 - b * w 1) (w 0)
    rw [hr, Nat.add_zero, Nat.mul_comm] at h9
    exact h9
  exact ⟨hn, h1, h2, h3, by omega, by omega⟩
theorem zz_m1 (a : Nat) : nI a + Int32.ofInt (-1) = nI a - 1 := by
  rw [Int32.sub_eq_add_neg]
  rfl
theorem zz_neg3 {v p q r : Nat} (hv : v < 2 ^ 20) (hp : p < 2 ^ 20) (hq : q < 2 ^ 20) (hr : r < 2 ^ 20) (h : v < p + q + r) : nI v - nI p - nI q - nI r < 0 := by
  have e1 : (nI v - nI p).toInt = (v : Int) - p := pk_sub_toInt (by omega) (by omega)
  have e2 : (nI v - nI p - nI q).toInt = (v : Int) - p - q := by
    rw [Int32.toInt_sub, e1, nI_toInt (by omega)]
    exact Int.bmod_eq_of_le (by omega) (by omega)
  have e3 : (nI v - nI p - nI q - nI r).toInt = (v : Int) - p - q - r := by
    rw [Int32.toInt_sub, e2, nI_toInt (by omega)]
    exact Int.bmod_eq_of_le (by omega) (by omega)
  rw [Int32.lt_iff_toInt_lt, e3, Int32.toInt_zero]
  omega
theorem zz_pos3 {v p q r : Nat} (h : p + q + r ≤ v) : nI v - nI p - nI q - nI r = nI (v - p - q - r) := by
  rw [pk_sub (by omega), pk_sub (by omega), pk_sub (by omega)]
section ZM
variable {p : Program} {l : Launch} {e : Env} {R : Room} {s : State} {m : MethodId} {args : Array Value} {below : List Frame} {meth : Method} {c : Code} {H : Heap} {locs : List Loc} {cells slots : Nat} {Q : State → Prop}
variable {cc : ByteArray} {pc : Nat} {ls : Array Slot} {rest : List Value}
theorem zn_if_ltm {a : Nat} {off : Int} {tgt : Nat} (hexec : p.tables.exec = Jvm.exec) (hb : c.code = cc) (ha : a < 2 ^ 31) (hdg : decode cc pc = .ok (.ifCond .lt off, 3)) (ht : (pc : Int) + off = (tgt : Int)) (kt : a = 0 → W p l e R s m args below meth c H locs cells slots Q (F0 m tgt ls rest)) (kf : 0 < a → W p l e R s m args below meth c H locs cells slots Q (F0 m (pc + 3) ls rest)) : W p l e R s m args below meth c H locs cells slots Q (F0 m pc ls (.int (nI a - 1) :: rest)) := by
  refine lv_if_lt hexec hb hdg ht (fun h => ?_) (fun h => ?_)
  · refine kt ?_
    by_cases h0 : a = 0
    · exact h0
    · obtain ⟨k, rfl⟩ : ∃ k, a = k + 1 := ⟨a - 1, by omega⟩
      rw [nI_pred] at h
      exact absurd h (nI_pos (by omega))
  · refine kf ?_
    by_cases h0 : a = 0
    · subst h0
      exact absurd (by decide +kernel) h
    · omega
theorem zn_rem {a b : Nat} (hexec : p.tables.exec = Jvm.exec) (hb : c.code = cc) (ha : a < 2 ^ 31) (h0 : 0 < b) (hd : b < 2 ^ 31) (hdg : decode cc pc = .ok (.irem, 1)) (k : W p l e R s m args below meth c H locs cells slots Q (F0 m (pc + 1) ls (.int (nI (a % b)) :: rest))) : W p l e R s m args below meth c H locs cells slots Q (F0 m pc ls (.int (nI b) :: .int (nI a) :: rest)) := lv_irem hexec hb hdg (nI_ne0 h0 hd) (by rw [pk_rem ha h0 hd]; exact k)
end ZM
section ZH2
variable {l : Launch} {y : MethodName} {ws ws' : List Cond} {rm : Room} {av : List Value} {D : va_G} {tys tys2 : List (ClassId × FieldType)} {wl : va_W} {sz mc ms maxL : Nat} {cc : ByteArray}
/-- .. a boolean comes back -/
theorem zz_headZ {S : Type} {post : Int32 → S → Prop} {wf : S → va_W} (hy : plainName y.cls = true) (hw : ws = Cond.code y cc maxL (some .boolean) :: ws') (hn : (lg_sl av).length ≤ maxL)
    (body : ∀ (p : Program) (e : Env) (s : State) (m : MethodId) (below : List Frame) (meth : Method) (c : Code) (A : Nat → Prop) (ls : Array Slot), CallFix p m c cc maxL s av.toArray ws y.cls → meth.sig.returnType = some .boolean → meth.locks = false → va_P D vwCl wl s.heap → va_K D vwCl tys s → va_D A wl → (∀ q, s.heap.size ≤ q → A q) → va_S A s.heap s.heap [] → lv_has ls maxL (lv_args 0 av) →
      W p l e (headSpec ws rm).room s m av.toArray below meth c s.heap [] 0 0 (MQ below (va_Qi post (zz_B D tys2 A wf) A) av.toArray s mc ms A) (F0 m 0 ls [])) :
    Met l y ws rm (va_Pc av (zz_pre D tys wl sz)) (va_Qi post (zz_B D tys2 (va_A wl sz) wf) (va_A wl sz)) mc ms (va_A wl sz) := by
  refine Met.ofW (cc := cc) (maxL := maxL) (ret := some .boolean) hy hw ?_
  intro p e s m args below meth c s₁ B hml hv
  obtain ⟨rfl, rfl, hP, hK, hD0⟩ := hv
  rw [lg_entry_eq]
  exact body p e s m below meth c _ _ ⟨B.exec, B.bytes, hml, findClass_of_methodNamed B.named, atoms_spec (ws := ws) B.pre⟩ B.returns B.notSynchronized hP hK hD0.self (fun q h => Or.inr h) va_S.rf (lv_entry av hn)
end ZH2
section ZE2
variable {p : Program} {l : Launch} {e : Env} {R : Room} {s : State} {m : MethodId} {args : Array Value} {below : List Frame} {meth : Method} {c : Code} {H : Heap} {locs : List Loc} {cells slots mc ms nL : Nat}
variable {cc : ByteArray} {pc : Nat} {ls : Array Slot} {rest : List Value} {Ts : List Cond} {own : String}
variable {D : va_G} {tys : List (ClassId × FieldType)} {A : Nat → Prop} {S : Type} {wf : S → va_W} {v : Int32} {post : Int32 → S → Prop} {postv : S → Prop} {pe : String → S → Prop}
theorem zz_zret (F : CallFix p m c cc nL s args Ts own) (hr : meth.sig.returnType = some .boolean) (hlocks : meth.locks = false) (hn : narrow .boolean (.int v) = .int v) (hK : va_K D vwCl tys s) (hS : va_S A s.heap H locs) (hdg : decode cc pc = .ok (.ireturn, 1)) (hc : cells ≤ mc) (hs : slots ≤ ms) (u : S) (hp : post v u) (hP : va_P D vwCl (wf u) H) (hD : va_D A (wf u)) :
    W p l e R s m args below meth c H locs cells slots (MQ below (va_Qi post (zz_B D tys A wf) A) args s mc ms A) (F0 m pc ls [.int v]) :=
  W.widen hc hs (W.zret F.1 F.2.1 hr hn (fun t ht hW => ⟨⟨v, u, rfl, hp, by rw [ht]; exact hP, va_K.moved hW.alike hK, hD⟩, hS.F ht⟩) hS.2.2 hdg hlocks)
end ZE2
section ZC2
variable {p : Program} {l : Launch} {e : Env} {R : Room} {s : State} {m : MethodId} {args : Array Value} {below : List Frame} {meth : Method} {c : Code} {H : Heap} {locs : List Loc} {cells slots : Nat} {Q : State → Prop}
variable {cc : ByteArray} {pc : Nat} {ls : Array Slot} {rest st0 : List Value} {Ts : List Cond} {own C : String}
variable {D : va_G} {tys tys1 tys2 : List (ClassId × FieldType)} {A : Nat → Prop} {S : Type} {wf : S → va_W} {wl : va_W} {post : Int32 → S → Prop} {postv : S → Prop} {pe : String → S → Prop}
variable {y : MethodName} {bytes : ByteArray} {maxL nL mc ms n index : Nat} {ret : Option FieldType} {ws : List Cond} {rm : Room} {b : Addr} {As : List Value}
theorem zz_callSi (F : CallFix p m c cc nL s args Ts own) (hK : va_K D vwCl tys s) (hP : va_P D vwCl wl H) (hD : va_D A wl) (hS : va_S A s.heap H locs) (hA : ∀ q, s.heap.size ≤ q → A q)
    (hM : Met l y ws rm (va_Pc As (zz_pre D tys wl H.size)) (va_Qi post (zz_B D tys2 (va_A wl H.size) wf) (va_A wl H.size)) mc ms (va_A wl H.size)) (cw : CallB R s args own index y bytes maxL ret ws rm mc ms n ∧ (Cond.static y).before args s = true)
    (hn : As.length = n) (hsize : ls.size = nL) (hstack : st0 = As.reverse ++ rest) (hW : (rest.map fun v => v.category).sum ≤ 8) (hdg : decode cc pc = .ok (.invokestatic index, 3)) (hf : cells + mc ≤ R.cells ∧ slots + ms ≤ R.slots)
    (kk : ∀ (r : Int32) (u : S) (H1 : Heap) (locs1 : List Loc), post r u → va_P D vwCl (wf u) H1 → va_D A (wf u) → va_S A s.heap H1 locs1 → W p l e R s m args below meth c H1 locs1 (cells + mc) (slots + ms) Q (F0 m (pc + 3) ls (.int r :: rest))) : W p l e R s m args below meth c H locs cells slots Q (F0 m pc ls st0) := by
  have hFc := zz_in hD hS hA
  refine va_calli (va_runS F hM cw (zz_preS hK hP hD) rfl hn hsize hstack (lv_room hW) hdg hf) hS (fun q _ h => hFc q h) hFc (fun r u t H1 locs1 ht hvm hp hB hz hk hS1 => ?_)
  obtain ⟨hP1, -, hD1⟩ := hB
  rw [ht] at hP1
  exact kk r u H1 locs1 hp hP1 (hD1.weaken (fun _ _ _ h => hFc _ h)) hS1
end ZC2
end
section
theorem zz_setat {α : Type} {wl : List α} {q0 : Nat} {x y : α} (he : wl[q0]? = some x) : (wl.set q0 y)[q0]? = some y := by
  have h := (List.getElem?_eq_some_iff.mp he).1
  rw [List.getElem?_set, if_pos rfl, if_pos h]
set_option maxRecDepth 100000 in
set_option maxHeartbeats 4000000 in
/-- java.util.Arrays.fill(int[], int), on an array of any world -/
theorem c_fill (l : Launch) (D : va_G) (tys : List (ClassId × FieldType)) (cI : ClassId) (hI : tys[0]? = some (cI, .int)) (wl : va_W) (q0 a n : Nat) (f : Nat → Int32) (sz : Nat) (he : wl[q0]? = some (a, .inl (cI, n, .inl f))) (hn : n < 2 ^ 31) (x : Int32) : Met l yJ7_fill_53178 wsJ7_fill_53178 ({ frames := 0, cells := 0, slots := 0, locals := 0 }) (va_Pc [.ref a, .int x] (zz_pre D tys wl sz)) (va_Qv (fun (u : Nat → Int32) => ∀ j, j < n → u j = x) (zz_B D tys (va_A wl sz) (fun u => wl.set q0 (a, .inl (cI, n, .inl u)))) (va_A wl sz)) 0 0 (va_A wl sz) := by
  refine zz_headV (cc := cJ7_fill_53178) (by decide) rfl (Nat.le_of_ble_eq_true rfl) ?_
  intro p e s m below meth cd A ls F hr hlocks hin hP hK hD hA hS hl
  obtain ⟨hx, hb, hml, hown, hts⟩ := id F
  have hl : lv_has ls 4 [(0, .ref a), (1, .int x)] := hl
  refine lv_iconst (v := nI 0) hx hb dJ7_fill_53178_0 (by decide +kernel) ?_
  refine lv_istore_n (lv' := [(2, .int (nI 0)), (0, .ref a), (1, .int x)]) hx hb dJ7_fill_53178_1 rfl hl (by decide) rfl (fun ls hl => ?_)
  refine lv_aload_n hx hb dJ7_fill_53178_2 rfl (lv_at hl 1 rfl) ?_
  refine va_alen (v := nI n) hx hb hK hP q0 _ he hI rfl dJ7_fill_53178_3 ?_
  refine lv_istore_n (lv' := [(3, .int (nI n)), (2, .int (nI 0)), (0, .ref a), (1, .int x)]) hx hb dJ7_fill_53178_4 rfl hl (by decide) rfl (fun ls hl => ?_)
  have hl : lv_has ls 4 [(2, .int (nI 0)), (3, .int (nI n)), (0, .ref a), (1, .int x)] := lv_sub hl [1, 0, 2, 3] rfl
  refine zz_loop (fun ls H locs (u : Nat × (Nat → Int32)) => lv_has ls 4 [(2, .int (nI u.1)), (3, .int (nI n)), (0, .ref a), (1, .int x)] ∧ va_P D vwCl (wl.set q0 (a, .inl (cI, n, .inl u.2))) H ∧ va_D A (wl.set q0 (a, .inl (cI, n, .inl u.2))) ∧ va_S A s.heap H locs ∧ u.1 ≤ n ∧ ∀ j, j < u.1 → u.2 j = x) (fun u => n - u.1) ?_ (0, f) ⟨hl, by show va_P D vwCl (wl.set q0 (a, .inl (cI, n, .inl f))) s.heap; rw [zz_setself he]; exact hP, by show va_D A (wl.set q0 (a, .inl (cI, n, .inl f))); rw [zz_setself he]; exact hD, hS, Nat.zero_le _, fun j hj => absurd hj (Nat.not_lt_zero _)⟩
  rintro ls H locs ⟨i, g⟩ ⟨hl, hP, hD, hS, hi, hg⟩ kk
  dsimp only at hl hP hD hi hg kk
  refine lv_iload_n hx hb dJ7_fill_53178_5 rfl (lv_at hl 0 rfl) ?_
  refine lv_iload_n hx hb dJ7_fill_53178_6 rfl (lv_at hl 1 rfl) ?_
  refine zn_ge hx hb (by omega) hn dJ7_fill_53178_7 rfl (fun hc => ?_) (fun hc => ?_)
  · exact zz_vret F hr hlocks hK hS dJ7_fill_53178_20 (by decide) (by decide) g (fun j hj => hg j (by omega)) hP hD
  · refine lv_aload_n hx hb dJ7_fill_53178_10 rfl (lv_at hl 2 rfl) ?_
    refine lv_iload_n hx hb dJ7_fill_53178_11 rfl (lv_at hl 0 rfl) ?_
    refine lv_iload_n hx hb dJ7_fill_53178_12 rfl (lv_at hl 3 rfl) ?_
    refine zn_iast (k := i) hx hb hK hP hD hS q0 _ (zz_setat he) hI hc hn dJ7_fill_53178_13 (fun H locs g1 g1e g1n hP hD hS => ?_)
    rw [List.set_set] at hP hD
    refine lv_iinc (k := 0) (lv' := [(2, .int (nI (i + 1))), (3, .int (nI n)), (0, .ref a), (1, .int x)]) hx hb dJ7_fill_53178_14 hl rfl (zz_i1 _) (by decide) rfl (fun ls hl => ?_)
    refine lv_goto hx hb dJ7_fill_53178_17 rfl ?_
    refine kk _ _ _ (i + 1, g1) ⟨hl, hP, hD, hS, by show i + 1 ≤ n; omega, fun j hj => ?_⟩ (by show n - (i + 1) < n - i; omega)
    by_cases e9 : j = i
    · subst e9
      exact g1e
    · show g1 j = x
      rw [g1n j e9]
      exact hg j (by have h9 : j < i + 1 := hj; omega)
end
section
/-! the reference's methods: code, name, words, decode rows (laid by wip/gen/mdnames.py) -/
abbrev cX1_thrown : ByteArray := prog_3_method_2_code
def yX1_thrown : MethodName := ⟨RX1, "thrown", "()I"⟩
abbrev cX1_in_ : ByteArray := prog_3_method_3_code
def yX1_in_ : MethodName := ⟨RX1, "in", "(III)Z"⟩
abbrev cX1_load : ByteArray := prog_3_method_4_code
def yX1_load : MethodName := ⟨RX1, "load", "(III)V"⟩
abbrev cX1_look : ByteArray := prog_3_method_5_code
def yX1_look : MethodName := ⟨RX1, "look", "(I)V"⟩
abbrev cX1_isBest : ByteArray := prog_3_method_6_code
def yX1_isBest : MethodName := ⟨RX1, "isBest", "(I)Z"⟩
abbrev cX1_best : ByteArray := prog_3_method_7_code
def yX1_best : MethodName := ⟨RX1, "best", "(I)I"⟩
abbrev cX1_part : ByteArray := prog_3_method_8_code
def yX1_part : MethodName := ⟨RX1, "part", "(II)I"⟩
abbrev cX1_ways : ByteArray := prog_3_method_9_code
def yX1_ways : MethodName := ⟨RX1, "ways", "(I)I"⟩
abbrev cX1_pay : ByteArray := prog_3_method_10_code
def yX1_pay : MethodName := ⟨RX1, "pay", "(II)I"⟩
abbrev cX1_all : ByteArray := prog_3_method_11_code
def yX1_all : MethodName := ⟨RX1, "all", "()V"⟩
abbrev cX1_next : ByteArray := prog_3_method_12_code
def yX1_next : MethodName := ⟨RX1, "next", "(I)I"⟩
abbrev cX1_reach : ByteArray := prog_3_method_13_code
def yX1_reach : MethodName := ⟨RX1, "reach", "()I"⟩
abbrev cX1_cassette : ByteArray := prog_3_method_14_code
def yX1_cassette : MethodName := ⟨RX1, "cassette", "(IZ)I"⟩
abbrev cX1_value : ByteArray := prog_3_method_15_code
def yX1_value : MethodName := ⟨RX1, "value", "()I"⟩
def wsX1_thrown : List Cond := .code yX1_thrown cX1_thrown 1 (some .int) :: ([.fieldLink RX1 23 "NoteMixModel" "thrown" "I"] ++ wsX10)
def wsX1_in_ : List Cond := .code yX1_in_ cX1_in_ 3 (some .boolean) :: ([])
def wsX1_load : List Cond := .code yX1_load cX1_load 4 none :: ([.methodLink RX1 27 yX1_in_, .static yX1_in_, .initialized RX1, .code yX1_in_ cX1_in_ 3 (some .boolean), .fieldLink RX1 23 "NoteMixModel" "thrown" "I", .fieldLink RX1 7 "NoteMixModel" "worth" "[I", .fieldLink RX1 13 "NoteMixModel" "notes" "[I"] ++ wsX10)
def wsX1_look : List Cond := .code yX1_look cX1_look 7 none :: ([.fieldLink RX1 31 "NoteMixModel" "mixes" "I", .fieldLink RX1 34 "NoteMixModel" "fewest" "I", .fieldLink RX1 13 "NoteMixModel" "notes" "[I", .methodLink RX1 37 Lib.Math.min.name, .static Lib.Math.min.name, .initialized "java/lang/Math", .code Lib.Math.min.name Lib.Math.min.code 2 (some .int), .fieldLink RX1 7 "NoteMixModel" "worth" "[I", .fieldLink RX1 16 "NoteMixModel" "chosen" "[I"] ++ wsX10)
def wsX1_isBest : List Cond := .code yX1_isBest cX1_isBest 2 (some .boolean) :: ([.methodLink RX1 27 yX1_in_, .static yX1_in_, .initialized RX1, .code yX1_in_ cX1_in_ 3 (some .boolean), .fieldLink RX1 23 "NoteMixModel" "thrown" "I", .methodLink RX1 43 yX1_look, .instanceMethod yX1_look, .selects RX1 yX1_look yX1_look, .code yX1_look cX1_look 7 none, .fieldLink RX1 31 "NoteMixModel" "mixes" "I", .fieldLink RX1 34 "NoteMixModel" "fewest" "I", .fieldLink RX1 13 "NoteMixModel" "notes" "[I", .methodLink RX1 37 Lib.Math.min.name, .static Lib.Math.min.name, .initialized "java/lang/Math", .code Lib.Math.min.name Lib.Math.min.code 2 (some .int), .fieldLink RX1 7 "NoteMixModel" "worth" "[I", .fieldLink RX1 16 "NoteMixModel" "chosen" "[I"] ++ wsX10)
def wsX1_best : List Cond := .code yX1_best cX1_best 2 (some .int) :: ([.methodLink RX1 47 yX1_isBest, .instanceMethod yX1_isBest, .selects RX1 yX1_isBest yX1_isBest, .initialized RX1, .code yX1_isBest cX1_isBest 2 (some .boolean), .methodLink RX1 27 yX1_in_, .static yX1_in_, .code yX1_in_ cX1_in_ 3 (some .boolean), .fieldLink RX1 23 "NoteMixModel" "thrown" "I", .methodLink RX1 43 yX1_look, .instanceMethod yX1_look, .selects RX1 yX1_look yX1_look, .code yX1_look cX1_look 7 none, .fieldLink RX1 31 "NoteMixModel" "mixes" "I", .fieldLink RX1 34 "NoteMixModel" "fewest" "I", .fieldLink RX1 13 "NoteMixModel" "notes" "[I", .methodLink RX1 37 Lib.Math.min.name, .static Lib.Math.min.name, .initialized "java/lang/Math", .code Lib.Math.min.name Lib.Math.min.code 2 (some .int), .fieldLink RX1 7 "NoteMixModel" "worth" "[I", .fieldLink RX1 16 "NoteMixModel" "chosen" "[I"] ++ wsX10)
def wsX1_part : List Cond := .code yX1_part cX1_part 3 (some .int) :: ([.methodLink RX1 27 yX1_in_, .static yX1_in_, .initialized RX1, .code yX1_in_ cX1_in_ 3 (some .boolean), .fieldLink RX1 23 "NoteMixModel" "thrown" "I", .methodLink RX1 47 yX1_isBest, .instanceMethod yX1_isBest, .selects RX1 yX1_isBest yX1_isBest, .code yX1_isBest cX1_isBest 2 (some .boolean), .methodLink RX1 43 yX1_look, .instanceMethod yX1_look, .selects RX1 yX1_look yX1_look, .code yX1_look cX1_look 7 none, .fieldLink RX1 31 "NoteMixModel" "mixes" "I", .fieldLink RX1 34 "NoteMixModel" "fewest" "I", .fieldLink RX1 13 "NoteMixModel" "notes" "[I", .methodLink RX1 37 Lib.Math.min.name, .static Lib.Math.min.name, .initialized "java/lang/Math", .code Lib.Math.min.name Lib.Math.min.code 2 (some .int), .fieldLink RX1 7 "NoteMixModel" "worth" "[I", .fieldLink RX1 16 "NoteMixModel" "chosen" "[I"] ++ wsX10)
def wsX1_ways : List Cond := .code yX1_ways cX1_ways 2 (some .int) :: ([.methodLink RX1 27 yX1_in_, .static yX1_in_, .initialized RX1, .code yX1_in_ cX1_in_ 3 (some .boolean), .fieldLink RX1 23 "NoteMixModel" "thrown" "I", .methodLink RX1 43 yX1_look, .instanceMethod yX1_look, .selects RX1 yX1_look yX1_look, .code yX1_look cX1_look 7 none, .fieldLink RX1 31 "NoteMixModel" "mixes" "I", .fieldLink RX1 34 "NoteMixModel" "fewest" "I", .fieldLink RX1 13 "NoteMixModel" "notes" "[I", .methodLink RX1 37 Lib.Math.min.name, .static Lib.Math.min.name, .initialized "java/lang/Math", .code Lib.Math.min.name Lib.Math.min.code 2 (some .int), .fieldLink RX1 7 "NoteMixModel" "worth" "[I", .fieldLink RX1 16 "NoteMixModel" "chosen" "[I"] ++ wsX10)
def wsX1_pay : List Cond := .code yX1_pay cX1_pay 7 (some .int) :: ([.methodLink RX1 27 yX1_in_, .static yX1_in_, .initialized RX1, .code yX1_in_ cX1_in_ 3 (some .boolean), .fieldLink RX1 23 "NoteMixModel" "thrown" "I", .methodLink RX1 47 yX1_isBest, .instanceMethod yX1_isBest, .selects RX1 yX1_isBest yX1_isBest, .code yX1_isBest cX1_isBest 2 (some .boolean), .methodLink RX1 43 yX1_look, .instanceMethod yX1_look, .selects RX1 yX1_look yX1_look, .code yX1_look cX1_look 7 none, .fieldLink RX1 31 "NoteMixModel" "mixes" "I", .fieldLink RX1 34 "NoteMixModel" "fewest" "I", .fieldLink RX1 13 "NoteMixModel" "notes" "[I", .methodLink RX1 37 Lib.Math.min.name, .static Lib.Math.min.name, .initialized "java/lang/Math", .code Lib.Math.min.name Lib.Math.min.code 2 (some .int), .fieldLink RX1 7 "NoteMixModel" "worth" "[I", .fieldLink RX1 16 "NoteMixModel" "chosen" "[I"] ++ wsX10)
def wsX1_all : List Cond := .code yX1_all cX1_all 6 none :: ([.fieldLink RX1 19 "NoteMixModel" "can" "[Z", .fieldLink RX1 13 "NoteMixModel" "notes" "[I", .methodLink RX1 37 Lib.Math.min.name, .static Lib.Math.min.name, .initialized "java/lang/Math", .code Lib.Math.min.name Lib.Math.min.code 2 (some .int), .fieldLink RX1 7 "NoteMixModel" "worth" "[I"] ++ wsX10)
def wsX1_next : List Cond := .code yX1_next cX1_next 3 (some .int) :: ([.methodLink RX1 27 yX1_in_, .static yX1_in_, .initialized RX1, .code yX1_in_ cX1_in_ 3 (some .boolean), .fieldLink RX1 23 "NoteMixModel" "thrown" "I", .methodLink RX1 51 yX1_all, .instanceMethod yX1_all, .selects RX1 yX1_all yX1_all, .code yX1_all cX1_all 6 none, .fieldLink RX1 19 "NoteMixModel" "can" "[Z", .fieldLink RX1 13 "NoteMixModel" "notes" "[I", .methodLink RX1 37 Lib.Math.min.name, .static Lib.Math.min.name, .initialized "java/lang/Math", .code Lib.Math.min.name Lib.Math.min.code 2 (some .int), .fieldLink RX1 7 "NoteMixModel" "worth" "[I"] ++ wsX10)
def wsX1_reach : List Cond := .code yX1_reach cX1_reach 3 (some .int) :: ([.fieldLink RX1 23 "NoteMixModel" "thrown" "I", .methodLink RX1 51 yX1_all, .instanceMethod yX1_all, .selects RX1 yX1_all yX1_all, .initialized RX1, .code yX1_all cX1_all 6 none, .fieldLink RX1 19 "NoteMixModel" "can" "[Z", .fieldLink RX1 13 "NoteMixModel" "notes" "[I", .methodLink RX1 37 Lib.Math.min.name, .static Lib.Math.min.name, .initialized "java/lang/Math", .code Lib.Math.min.name Lib.Math.min.code 2 (some .int), .fieldLink RX1 7 "NoteMixModel" "worth" "[I"] ++ wsX10)
def wsX1_cassette : List Cond := .code yX1_cassette cX1_cassette 3 (some .int) :: ([.methodLink RX1 27 yX1_in_, .static yX1_in_, .initialized RX1, .code yX1_in_ cX1_in_ 3 (some .boolean), .fieldLink RX1 23 "NoteMixModel" "thrown" "I", .fieldLink RX1 7 "NoteMixModel" "worth" "[I", .fieldLink RX1 13 "NoteMixModel" "notes" "[I"] ++ wsX10)
def wsX1_value : List Cond := .code yX1_value cX1_value 3 (some .int) :: ([.fieldLink RX1 23 "NoteMixModel" "thrown" "I", .fieldLink RX1 13 "NoteMixModel" "notes" "[I", .fieldLink RX1 7 "NoteMixModel" "worth" "[I"] ++ wsX10)
theorem dX1_thrown_0 : decode cX1_thrown 0 = .ok (.aload_n 0, 1) := by decide +kernel
theorem dX1_thrown_1 : decode cX1_thrown 1 = .ok (.getfield 23, 3) := by decide +kernel
theorem dX1_thrown_4 : decode cX1_thrown 4 = .ok (.ireturn, 1) := by decide +kernel
theorem dX1_in__0 : decode cX1_in_ 0 = .ok (.iload_n 0, 1) := by decide +kernel
theorem dX1_in__1 : decode cX1_in_ 1 = .ok (.iload_n 1, 1) := by decide +kernel
theorem dX1_in__2 : decode cX1_in_ 2 = .ok (.if_icmp .lt 12, 3) := by decide +kernel
theorem dX1_in__5 : decode cX1_in_ 5 = .ok (.iload_n 0, 1) := by decide +kernel
theorem dX1_in__6 : decode cX1_in_ 6 = .ok (.iload_n 2, 1) := by decide +kernel
theorem dX1_in__7 : decode cX1_in_ 7 = .ok (.if_icmp .gt 7, 3) := by decide +kernel
theorem dX1_in__10 : decode cX1_in_ 10 = .ok (.iconst 1, 1) := by decide +kernel
theorem dX1_in__11 : decode cX1_in_ 11 = .ok (.goto 4, 3) := by decide +kernel
theorem dX1_in__14 : decode cX1_in_ 14 = .ok (.iconst 0, 1) := by decide +kernel
theorem dX1_in__15 : decode cX1_in_ 15 = .ok (.ireturn, 1) := by decide +kernel
theorem dX1_load_0 : decode cX1_load 0 = .ok (.aload_n 0, 1) := by decide +kernel
theorem dX1_load_1 : decode cX1_load 1 = .ok (.iload_n 1, 1) := by decide +kernel
theorem dX1_load_2 : decode cX1_load 2 = .ok (.iconst 0, 1) := by decide +kernel
theorem dX1_load_3 : decode cX1_load 3 = .ok (.iconst 3, 1) := by decide +kernel
theorem dX1_load_4 : decode cX1_load 4 = .ok (.invokestatic 27, 3) := by decide +kernel
theorem dX1_load_7 : decode cX1_load 7 = .ok (.ifCond .eq 29, 3) := by decide +kernel
theorem dX1_load_10 : decode cX1_load 10 = .ok (.iload_n 2, 1) := by decide +kernel
theorem dX1_load_11 : decode cX1_load 11 = .ok (.iconst 1, 1) := by decide +kernel
theorem dX1_load_12 : decode cX1_load 12 = .ok (.sipush 500, 3) := by decide +kernel
theorem dX1_load_15 : decode cX1_load 15 = .ok (.invokestatic 27, 3) := by decide +kernel
theorem dX1_load_18 : decode cX1_load 18 = .ok (.ifCond .eq 18, 3) := by decide +kernel
theorem dX1_load_21 : decode cX1_load 21 = .ok (.iload_n 3, 1) := by decide +kernel
theorem dX1_load_22 : decode cX1_load 22 = .ok (.iconst 0, 1) := by decide +kernel
theorem dX1_load_23 : decode cX1_load 23 = .ok (.sipush 500, 3) := by decide +kernel
theorem dX1_load_26 : decode cX1_load 26 = .ok (.invokestatic 27, 3) := by decide +kernel
theorem dX1_load_29 : decode cX1_load 29 = .ok (.ifCond .eq 7, 3) := by decide +kernel
theorem dX1_load_32 : decode cX1_load 32 = .ok (.iconst 0, 1) := by decide +kernel
theorem dX1_load_33 : decode cX1_load 33 = .ok (.goto 4, 3) := by decide +kernel
theorem dX1_load_36 : decode cX1_load 36 = .ok (.iconst 1, 1) := by decide +kernel
theorem dX1_load_37 : decode cX1_load 37 = .ok (.putfield 23, 3) := by decide +kernel
theorem dX1_load_40 : decode cX1_load 40 = .ok (.aload_n 0, 1) := by decide +kernel
theorem dX1_load_41 : decode cX1_load 41 = .ok (.getfield 23, 3) := by decide +kernel
theorem dX1_load_44 : decode cX1_load 44 = .ok (.ifCond .le 4, 3) := by decide +kernel
theorem dX1_load_47 : decode cX1_load 47 = .ok (.return_, 1) := by decide +kernel
theorem dX1_load_48 : decode cX1_load 48 = .ok (.aload_n 0, 1) := by decide +kernel
theorem dX1_load_49 : decode cX1_load 49 = .ok (.getfield 7, 3) := by decide +kernel
theorem dX1_load_52 : decode cX1_load 52 = .ok (.iload_n 1, 1) := by decide +kernel
theorem dX1_load_53 : decode cX1_load 53 = .ok (.iload_n 2, 1) := by decide +kernel
theorem dX1_load_54 : decode cX1_load 54 = .ok (.iastore, 1) := by decide +kernel
theorem dX1_load_55 : decode cX1_load 55 = .ok (.aload_n 0, 1) := by decide +kernel
theorem dX1_load_56 : decode cX1_load 56 = .ok (.getfield 13, 3) := by decide +kernel
theorem dX1_load_59 : decode cX1_load 59 = .ok (.iload_n 1, 1) := by decide +kernel
theorem dX1_load_60 : decode cX1_load 60 = .ok (.iload_n 3, 1) := by decide +kernel
theorem dX1_load_61 : decode cX1_load 61 = .ok (.iastore, 1) := by decide +kernel
theorem dX1_load_62 : decode cX1_load 62 = .ok (.return_, 1) := by decide +kernel
theorem dX1_look_0 : decode cX1_look 0 = .ok (.aload_n 0, 1) := by decide +kernel
theorem dX1_look_1 : decode cX1_look 1 = .ok (.iconst 0, 1) := by decide +kernel
theorem dX1_look_2 : decode cX1_look 2 = .ok (.putfield 31, 3) := by decide +kernel
theorem dX1_look_5 : decode cX1_look 5 = .ok (.aload_n 0, 1) := by decide +kernel
theorem dX1_look_6 : decode cX1_look 6 = .ok (.bipush 41, 2) := by decide +kernel
theorem dX1_look_8 : decode cX1_look 8 = .ok (.putfield 34, 3) := by decide +kernel
theorem dX1_look_11 : decode cX1_look 11 = .ok (.aload_n 0, 1) := by decide +kernel
theorem dX1_look_12 : decode cX1_look 12 = .ok (.getfield 13, 3) := by decide +kernel
theorem dX1_look_15 : decode cX1_look 15 = .ok (.iconst 3, 1) := by decide +kernel
theorem dX1_look_16 : decode cX1_look 16 = .ok (.iaload, 1) := by decide +kernel
theorem dX1_look_17 : decode cX1_look 17 = .ok (.bipush 40, 2) := by decide +kernel
theorem dX1_look_19 : decode cX1_look 19 = .ok (.invokestatic 37, 3) := by decide +kernel
theorem dX1_look_22 : decode cX1_look 22 = .ok (.istore_n 2, 1) := by decide +kernel
theorem dX1_look_23 : decode cX1_look 23 = .ok (.iload_n 2, 1) := by decide +kernel
theorem dX1_look_24 : decode cX1_look 24 = .ok (.ifCond .lt 223, 3) := by decide +kernel
theorem dX1_look_27 : decode cX1_look 27 = .ok (.aload_n 0, 1) := by decide +kernel
theorem dX1_look_28 : decode cX1_look 28 = .ok (.getfield 13, 3) := by decide +kernel
theorem dX1_look_31 : decode cX1_look 31 = .ok (.iconst 2, 1) := by decide +kernel
theorem dX1_look_32 : decode cX1_look 32 = .ok (.iaload, 1) := by decide +kernel
theorem dX1_look_33 : decode cX1_look 33 = .ok (.bipush 40, 2) := by decide +kernel
theorem dX1_look_35 : decode cX1_look 35 = .ok (.iload_n 2, 1) := by decide +kernel
theorem dX1_look_36 : decode cX1_look 36 = .ok (.isub, 1) := by decide +kernel
theorem dX1_look_37 : decode cX1_look 37 = .ok (.invokestatic 37, 3) := by decide +kernel
theorem dX1_look_40 : decode cX1_look 40 = .ok (.istore_n 3, 1) := by decide +kernel
theorem dX1_look_41 : decode cX1_look 41 = .ok (.iload_n 3, 1) := by decide +kernel
theorem dX1_look_42 : decode cX1_look 42 = .ok (.ifCond .lt 199, 3) := by decide +kernel
theorem dX1_look_45 : decode cX1_look 45 = .ok (.aload_n 0, 1) := by decide +kernel
theorem dX1_look_46 : decode cX1_look 46 = .ok (.getfield 13, 3) := by decide +kernel
theorem dX1_look_49 : decode cX1_look 49 = .ok (.iconst 1, 1) := by decide +kernel
theorem dX1_look_50 : decode cX1_look 50 = .ok (.iaload, 1) := by decide +kernel
theorem dX1_look_51 : decode cX1_look 51 = .ok (.bipush 40, 2) := by decide +kernel
theorem dX1_look_53 : decode cX1_look 53 = .ok (.iload_n 2, 1) := by decide +kernel
theorem dX1_look_54 : decode cX1_look 54 = .ok (.isub, 1) := by decide +kernel
theorem dX1_look_55 : decode cX1_look 55 = .ok (.iload_n 3, 1) := by decide +kernel
theorem dX1_look_56 : decode cX1_look 56 = .ok (.isub, 1) := by decide +kernel
theorem dX1_look_57 : decode cX1_look 57 = .ok (.invokestatic 37, 3) := by decide +kernel
theorem dX1_look_60 : decode cX1_look 60 = .ok (.istore 4, 2) := by decide +kernel
theorem dX1_look_62 : decode cX1_look 62 = .ok (.iload 4, 2) := by decide +kernel
theorem dX1_look_64 : decode cX1_look 64 = .ok (.ifCond .lt 171, 3) := by decide +kernel
theorem dX1_look_67 : decode cX1_look 67 = .ok (.iload_n 1, 1) := by decide +kernel
theorem dX1_look_68 : decode cX1_look 68 = .ok (.iload_n 2, 1) := by decide +kernel
theorem dX1_look_69 : decode cX1_look 69 = .ok (.aload_n 0, 1) := by decide +kernel
theorem dX1_look_70 : decode cX1_look 70 = .ok (.getfield 7, 3) := by decide +kernel
theorem dX1_look_73 : decode cX1_look 73 = .ok (.iconst 3, 1) := by decide +kernel
theorem dX1_look_74 : decode cX1_look 74 = .ok (.iaload, 1) := by decide +kernel
theorem dX1_look_75 : decode cX1_look 75 = .ok (.imul, 1) := by decide +kernel
theorem dX1_look_76 : decode cX1_look 76 = .ok (.isub, 1) := by decide +kernel
theorem dX1_look_77 : decode cX1_look 77 = .ok (.iload_n 3, 1) := by decide +kernel
theorem dX1_look_78 : decode cX1_look 78 = .ok (.aload_n 0, 1) := by decide +kernel
theorem dX1_look_79 : decode cX1_look 79 = .ok (.getfield 7, 3) := by decide +kernel
theorem dX1_look_82 : decode cX1_look 82 = .ok (.iconst 2, 1) := by decide +kernel
theorem dX1_look_83 : decode cX1_look 83 = .ok (.iaload, 1) := by decide +kernel
theorem dX1_look_84 : decode cX1_look 84 = .ok (.imul, 1) := by decide +kernel
theorem dX1_look_85 : decode cX1_look 85 = .ok (.isub, 1) := by decide +kernel
theorem dX1_look_86 : decode cX1_look 86 = .ok (.iload 4, 2) := by decide +kernel
theorem dX1_look_88 : decode cX1_look 88 = .ok (.aload_n 0, 1) := by decide +kernel
theorem dX1_look_89 : decode cX1_look 89 = .ok (.getfield 7, 3) := by decide +kernel
theorem dX1_look_92 : decode cX1_look 92 = .ok (.iconst 1, 1) := by decide +kernel
theorem dX1_look_93 : decode cX1_look 93 = .ok (.iaload, 1) := by decide +kernel
theorem dX1_look_94 : decode cX1_look 94 = .ok (.imul, 1) := by decide +kernel
theorem dX1_look_95 : decode cX1_look 95 = .ok (.isub, 1) := by decide +kernel
theorem dX1_look_96 : decode cX1_look 96 = .ok (.istore 5, 2) := by decide +kernel
theorem dX1_look_98 : decode cX1_look 98 = .ok (.iload 5, 2) := by decide +kernel
theorem dX1_look_100 : decode cX1_look 100 = .ok (.ifCond .lt 129, 3) := by decide +kernel
theorem dX1_look_103 : decode cX1_look 103 = .ok (.iload 5, 2) := by decide +kernel
theorem dX1_look_105 : decode cX1_look 105 = .ok (.aload_n 0, 1) := by decide +kernel
theorem dX1_look_106 : decode cX1_look 106 = .ok (.getfield 7, 3) := by decide +kernel
theorem dX1_look_109 : decode cX1_look 109 = .ok (.iconst 0, 1) := by decide +kernel
theorem dX1_look_110 : decode cX1_look 110 = .ok (.iaload, 1) := by decide +kernel
theorem dX1_look_111 : decode cX1_look 111 = .ok (.irem, 1) := by decide +kernel
theorem dX1_look_112 : decode cX1_look 112 = .ok (.ifCond .eq 6, 3) := by decide +kernel
theorem dX1_look_115 : decode cX1_look 115 = .ok (.goto 114, 3) := by decide +kernel
theorem dX1_look_118 : decode cX1_look 118 = .ok (.iload 5, 2) := by decide +kernel
theorem dX1_look_120 : decode cX1_look 120 = .ok (.aload_n 0, 1) := by decide +kernel
theorem dX1_look_121 : decode cX1_look 121 = .ok (.getfield 7, 3) := by decide +kernel
theorem dX1_look_124 : decode cX1_look 124 = .ok (.iconst 0, 1) := by decide +kernel
theorem dX1_look_125 : decode cX1_look 125 = .ok (.iaload, 1) := by decide +kernel
theorem dX1_look_126 : decode cX1_look 126 = .ok (.idiv, 1) := by decide +kernel
theorem dX1_look_127 : decode cX1_look 127 = .ok (.istore 6, 2) := by decide +kernel
theorem dX1_look_129 : decode cX1_look 129 = .ok (.iload 6, 2) := by decide +kernel
theorem dX1_look_131 : decode cX1_look 131 = .ok (.aload_n 0, 1) := by decide +kernel
theorem dX1_look_132 : decode cX1_look 132 = .ok (.getfield 13, 3) := by decide +kernel
theorem dX1_look_135 : decode cX1_look 135 = .ok (.iconst 0, 1) := by decide +kernel
theorem dX1_look_136 : decode cX1_look 136 = .ok (.iaload, 1) := by decide +kernel
theorem dX1_look_137 : decode cX1_look 137 = .ok (.if_icmp .gt 92, 3) := by decide +kernel
theorem dX1_look_140 : decode cX1_look 140 = .ok (.iload_n 2, 1) := by decide +kernel
theorem dX1_look_141 : decode cX1_look 141 = .ok (.iload_n 3, 1) := by decide +kernel
theorem dX1_look_142 : decode cX1_look 142 = .ok (.iadd, 1) := by decide +kernel
theorem dX1_look_143 : decode cX1_look 143 = .ok (.iload 4, 2) := by decide +kernel
theorem dX1_look_145 : decode cX1_look 145 = .ok (.iadd, 1) := by decide +kernel
theorem dX1_look_146 : decode cX1_look 146 = .ok (.iload 6, 2) := by decide +kernel
theorem dX1_look_148 : decode cX1_look 148 = .ok (.iadd, 1) := by decide +kernel
theorem dX1_look_149 : decode cX1_look 149 = .ok (.bipush 40, 2) := by decide +kernel
theorem dX1_look_151 : decode cX1_look 151 = .ok (.if_icmp .le 6, 3) := by decide +kernel
theorem dX1_look_154 : decode cX1_look 154 = .ok (.goto 75, 3) := by decide +kernel
theorem dX1_look_157 : decode cX1_look 157 = .ok (.aload_n 0, 1) := by decide +kernel
theorem dX1_look_158 : decode cX1_look 158 = .ok (.dup, 1) := by decide +kernel
theorem dX1_look_159 : decode cX1_look 159 = .ok (.getfield 31, 3) := by decide +kernel
theorem dX1_look_162 : decode cX1_look 162 = .ok (.iconst 1, 1) := by decide +kernel
theorem dX1_look_163 : decode cX1_look 163 = .ok (.iadd, 1) := by decide +kernel
theorem dX1_look_164 : decode cX1_look 164 = .ok (.putfield 31, 3) := by decide +kernel
theorem dX1_look_167 : decode cX1_look 167 = .ok (.iload_n 2, 1) := by decide +kernel
theorem dX1_look_168 : decode cX1_look 168 = .ok (.iload_n 3, 1) := by decide +kernel
theorem dX1_look_169 : decode cX1_look 169 = .ok (.iadd, 1) := by decide +kernel
theorem dX1_look_170 : decode cX1_look 170 = .ok (.iload 4, 2) := by decide +kernel
theorem dX1_look_172 : decode cX1_look 172 = .ok (.iadd, 1) := by decide +kernel
theorem dX1_look_173 : decode cX1_look 173 = .ok (.iload 6, 2) := by decide +kernel
theorem dX1_look_175 : decode cX1_look 175 = .ok (.iadd, 1) := by decide +kernel
theorem dX1_look_176 : decode cX1_look 176 = .ok (.aload_n 0, 1) := by decide +kernel
theorem dX1_look_177 : decode cX1_look 177 = .ok (.getfield 34, 3) := by decide +kernel
theorem dX1_look_180 : decode cX1_look 180 = .ok (.if_icmp .lt 6, 3) := by decide +kernel
theorem dX1_look_183 : decode cX1_look 183 = .ok (.goto 46, 3) := by decide +kernel
theorem dX1_look_186 : decode cX1_look 186 = .ok (.aload_n 0, 1) := by decide +kernel
theorem dX1_look_187 : decode cX1_look 187 = .ok (.iload_n 2, 1) := by decide +kernel
theorem dX1_look_188 : decode cX1_look 188 = .ok (.iload_n 3, 1) := by decide +kernel
theorem dX1_look_189 : decode cX1_look 189 = .ok (.iadd, 1) := by decide +kernel
theorem dX1_look_190 : decode cX1_look 190 = .ok (.iload 4, 2) := by decide +kernel
theorem dX1_look_192 : decode cX1_look 192 = .ok (.iadd, 1) := by decide +kernel
theorem dX1_look_193 : decode cX1_look 193 = .ok (.iload 6, 2) := by decide +kernel
theorem dX1_look_195 : decode cX1_look 195 = .ok (.iadd, 1) := by decide +kernel
theorem dX1_look_196 : decode cX1_look 196 = .ok (.putfield 34, 3) := by decide +kernel
theorem dX1_look_199 : decode cX1_look 199 = .ok (.aload_n 0, 1) := by decide +kernel
theorem dX1_look_200 : decode cX1_look 200 = .ok (.getfield 16, 3) := by decide +kernel
theorem dX1_look_203 : decode cX1_look 203 = .ok (.iconst 0, 1) := by decide +kernel
theorem dX1_look_204 : decode cX1_look 204 = .ok (.iload 6, 2) := by decide +kernel
theorem dX1_look_206 : decode cX1_look 206 = .ok (.iastore, 1) := by decide +kernel
theorem dX1_look_207 : decode cX1_look 207 = .ok (.aload_n 0, 1) := by decide +kernel
theorem dX1_look_208 : decode cX1_look 208 = .ok (.getfield 16, 3) := by decide +kernel
theorem dX1_look_211 : decode cX1_look 211 = .ok (.iconst 1, 1) := by decide +kernel
theorem dX1_look_212 : decode cX1_look 212 = .ok (.iload 4, 2) := by decide +kernel
theorem dX1_look_214 : decode cX1_look 214 = .ok (.iastore, 1) := by decide +kernel
theorem dX1_look_215 : decode cX1_look 215 = .ok (.aload_n 0, 1) := by decide +kernel
theorem dX1_look_216 : decode cX1_look 216 = .ok (.getfield 16, 3) := by decide +kernel
theorem dX1_look_219 : decode cX1_look 219 = .ok (.iconst 2, 1) := by decide +kernel
theorem dX1_look_220 : decode cX1_look 220 = .ok (.iload_n 3, 1) := by decide +kernel
theorem dX1_look_221 : decode cX1_look 221 = .ok (.iastore, 1) := by decide +kernel
theorem dX1_look_222 : decode cX1_look 222 = .ok (.aload_n 0, 1) := by decide +kernel
theorem dX1_look_223 : decode cX1_look 223 = .ok (.getfield 16, 3) := by decide +kernel
theorem dX1_look_226 : decode cX1_look 226 = .ok (.iconst 3, 1) := by decide +kernel
theorem dX1_look_227 : decode cX1_look 227 = .ok (.iload_n 2, 1) := by decide +kernel
theorem dX1_look_228 : decode cX1_look 228 = .ok (.iastore, 1) := by decide +kernel
theorem dX1_look_229 : decode cX1_look 229 = .ok (.iinc 4 (-1), 3) := by decide +kernel
theorem dX1_look_232 : decode cX1_look 232 = .ok (.goto (-170), 3) := by decide +kernel
theorem dX1_look_235 : decode cX1_look 235 = .ok (.iinc 3 (-1), 3) := by decide +kernel
theorem dX1_look_238 : decode cX1_look 238 = .ok (.goto (-197), 3) := by decide +kernel
theorem dX1_look_241 : decode cX1_look 241 = .ok (.iinc 2 (-1), 3) := by decide +kernel
theorem dX1_look_244 : decode cX1_look 244 = .ok (.goto (-221), 3) := by decide +kernel
theorem dX1_look_247 : decode cX1_look 247 = .ok (.return_, 1) := by decide +kernel
theorem dX1_isBest_0 : decode cX1_isBest 0 = .ok (.aload_n 0, 1) := by decide +kernel
theorem dX1_isBest_1 : decode cX1_isBest 1 = .ok (.iload_n 1, 1) := by decide +kernel
theorem dX1_isBest_2 : decode cX1_isBest 2 = .ok (.iconst 0, 1) := by decide +kernel
theorem dX1_isBest_3 : decode cX1_isBest 3 = .ok (.sipush 2000, 3) := by decide +kernel
theorem dX1_isBest_6 : decode cX1_isBest 6 = .ok (.invokestatic 27, 3) := by decide +kernel
theorem dX1_isBest_9 : decode cX1_isBest 9 = .ok (.ifCond .eq 7, 3) := by decide +kernel
theorem dX1_isBest_12 : decode cX1_isBest 12 = .ok (.iconst 0, 1) := by decide +kernel
theorem dX1_isBest_13 : decode cX1_isBest 13 = .ok (.goto 4, 3) := by decide +kernel
theorem dX1_isBest_16 : decode cX1_isBest 16 = .ok (.iconst 1, 1) := by decide +kernel
theorem dX1_isBest_17 : decode cX1_isBest 17 = .ok (.putfield 23, 3) := by decide +kernel
theorem dX1_isBest_20 : decode cX1_isBest 20 = .ok (.aload_n 0, 1) := by decide +kernel
theorem dX1_isBest_21 : decode cX1_isBest 21 = .ok (.getfield 23, 3) := by decide +kernel
theorem dX1_isBest_24 : decode cX1_isBest 24 = .ok (.ifCond .le 5, 3) := by decide +kernel
theorem dX1_isBest_27 : decode cX1_isBest 27 = .ok (.iconst 0, 1) := by decide +kernel
theorem dX1_isBest_28 : decode cX1_isBest 28 = .ok (.ireturn, 1) := by decide +kernel
theorem dX1_isBest_29 : decode cX1_isBest 29 = .ok (.aload_n 0, 1) := by decide +kernel
theorem dX1_isBest_30 : decode cX1_isBest 30 = .ok (.iload_n 1, 1) := by decide +kernel
theorem dX1_isBest_31 : decode cX1_isBest 31 = .ok (.invokevirtual 43, 3) := by decide +kernel
theorem dX1_isBest_34 : decode cX1_isBest 34 = .ok (.aload_n 0, 1) := by decide +kernel
theorem dX1_isBest_35 : decode cX1_isBest 35 = .ok (.aload_n 0, 1) := by decide +kernel
theorem dX1_isBest_36 : decode cX1_isBest 36 = .ok (.getfield 31, 3) := by decide +kernel
theorem dX1_isBest_39 : decode cX1_isBest 39 = .ok (.ifCond .ne 7, 3) := by decide +kernel
theorem dX1_isBest_42 : decode cX1_isBest 42 = .ok (.iconst 2, 1) := by decide +kernel
theorem dX1_isBest_43 : decode cX1_isBest 43 = .ok (.goto 4, 3) := by decide +kernel
theorem dX1_isBest_46 : decode cX1_isBest 46 = .ok (.iconst 0, 1) := by decide +kernel
theorem dX1_isBest_47 : decode cX1_isBest 47 = .ok (.putfield 23, 3) := by decide +kernel
theorem dX1_isBest_50 : decode cX1_isBest 50 = .ok (.aload_n 0, 1) := by decide +kernel
theorem dX1_isBest_51 : decode cX1_isBest 51 = .ok (.getfield 23, 3) := by decide +kernel
theorem dX1_isBest_54 : decode cX1_isBest 54 = .ok (.ifCond .ne 7, 3) := by decide +kernel
theorem dX1_isBest_57 : decode cX1_isBest 57 = .ok (.iconst 1, 1) := by decide +kernel
theorem dX1_isBest_58 : decode cX1_isBest 58 = .ok (.goto 4, 3) := by decide +kernel
theorem dX1_isBest_61 : decode cX1_isBest 61 = .ok (.iconst 0, 1) := by decide +kernel
theorem dX1_isBest_62 : decode cX1_isBest 62 = .ok (.ireturn, 1) := by decide +kernel
theorem dX1_best_0 : decode cX1_best 0 = .ok (.aload_n 0, 1) := by decide +kernel
theorem dX1_best_1 : decode cX1_best 1 = .ok (.iload_n 1, 1) := by decide +kernel
theorem dX1_best_2 : decode cX1_best 2 = .ok (.invokevirtual 47, 3) := by decide +kernel
theorem dX1_best_5 : decode cX1_best 5 = .ok (.ifCond .eq 10, 3) := by decide +kernel
theorem dX1_best_8 : decode cX1_best 8 = .ok (.aload_n 0, 1) := by decide +kernel
theorem dX1_best_9 : decode cX1_best 9 = .ok (.getfield 34, 3) := by decide +kernel
theorem dX1_best_12 : decode cX1_best 12 = .ok (.goto 4, 3) := by decide +kernel
theorem dX1_best_15 : decode cX1_best 15 = .ok (.iconst 0, 1) := by decide +kernel
theorem dX1_best_16 : decode cX1_best 16 = .ok (.ireturn, 1) := by decide +kernel
theorem dX1_part_0 : decode cX1_part 0 = .ok (.aload_n 0, 1) := by decide +kernel
theorem dX1_part_1 : decode cX1_part 1 = .ok (.iload_n 2, 1) := by decide +kernel
theorem dX1_part_2 : decode cX1_part 2 = .ok (.iconst 0, 1) := by decide +kernel
theorem dX1_part_3 : decode cX1_part 3 = .ok (.iconst 3, 1) := by decide +kernel
theorem dX1_part_4 : decode cX1_part 4 = .ok (.invokestatic 27, 3) := by decide +kernel
theorem dX1_part_7 : decode cX1_part 7 = .ok (.ifCond .eq 7, 3) := by decide +kernel
theorem dX1_part_10 : decode cX1_part 10 = .ok (.iconst 0, 1) := by decide +kernel
theorem dX1_part_11 : decode cX1_part 11 = .ok (.goto 4, 3) := by decide +kernel
theorem dX1_part_14 : decode cX1_part 14 = .ok (.iconst 1, 1) := by decide +kernel
theorem dX1_part_15 : decode cX1_part 15 = .ok (.putfield 23, 3) := by decide +kernel
theorem dX1_part_18 : decode cX1_part 18 = .ok (.aload_n 0, 1) := by decide +kernel
theorem dX1_part_19 : decode cX1_part 19 = .ok (.getfield 23, 3) := by decide +kernel
theorem dX1_part_22 : decode cX1_part 22 = .ok (.ifCond .ne 20, 3) := by decide +kernel
theorem dX1_part_25 : decode cX1_part 25 = .ok (.aload_n 0, 1) := by decide +kernel
theorem dX1_part_26 : decode cX1_part 26 = .ok (.iload_n 1, 1) := by decide +kernel
theorem dX1_part_27 : decode cX1_part 27 = .ok (.invokevirtual 47, 3) := by decide +kernel
theorem dX1_part_30 : decode cX1_part 30 = .ok (.ifCond .eq 12, 3) := by decide +kernel
theorem dX1_part_33 : decode cX1_part 33 = .ok (.aload_n 0, 1) := by decide +kernel
theorem dX1_part_34 : decode cX1_part 34 = .ok (.getfield 16, 3) := by decide +kernel
theorem dX1_part_37 : decode cX1_part 37 = .ok (.iload_n 2, 1) := by decide +kernel
theorem dX1_part_38 : decode cX1_part 38 = .ok (.iaload, 1) := by decide +kernel
theorem dX1_part_39 : decode cX1_part 39 = .ok (.goto 4, 3) := by decide +kernel
theorem dX1_part_42 : decode cX1_part 42 = .ok (.iconst 0, 1) := by decide +kernel
theorem dX1_part_43 : decode cX1_part 43 = .ok (.ireturn, 1) := by decide +kernel
theorem dX1_ways_0 : decode cX1_ways 0 = .ok (.aload_n 0, 1) := by decide +kernel
theorem dX1_ways_1 : decode cX1_ways 1 = .ok (.iload_n 1, 1) := by decide +kernel
theorem dX1_ways_2 : decode cX1_ways 2 = .ok (.iconst 0, 1) := by decide +kernel
theorem dX1_ways_3 : decode cX1_ways 3 = .ok (.sipush 2000, 3) := by decide +kernel
theorem dX1_ways_6 : decode cX1_ways 6 = .ok (.invokestatic 27, 3) := by decide +kernel
theorem dX1_ways_9 : decode cX1_ways 9 = .ok (.ifCond .eq 7, 3) := by decide +kernel
theorem dX1_ways_12 : decode cX1_ways 12 = .ok (.iconst 0, 1) := by decide +kernel
theorem dX1_ways_13 : decode cX1_ways 13 = .ok (.goto 4, 3) := by decide +kernel
theorem dX1_ways_16 : decode cX1_ways 16 = .ok (.iconst 1, 1) := by decide +kernel
theorem dX1_ways_17 : decode cX1_ways 17 = .ok (.putfield 23, 3) := by decide +kernel
theorem dX1_ways_20 : decode cX1_ways 20 = .ok (.aload_n 0, 1) := by decide +kernel
theorem dX1_ways_21 : decode cX1_ways 21 = .ok (.getfield 23, 3) := by decide +kernel
theorem dX1_ways_24 : decode cX1_ways 24 = .ok (.ifCond .le 5, 3) := by decide +kernel
theorem dX1_ways_27 : decode cX1_ways 27 = .ok (.iconst 0, 1) := by decide +kernel
theorem dX1_ways_28 : decode cX1_ways 28 = .ok (.ireturn, 1) := by decide +kernel
theorem dX1_ways_29 : decode cX1_ways 29 = .ok (.aload_n 0, 1) := by decide +kernel
theorem dX1_ways_30 : decode cX1_ways 30 = .ok (.iload_n 1, 1) := by decide +kernel
theorem dX1_ways_31 : decode cX1_ways 31 = .ok (.invokevirtual 43, 3) := by decide +kernel
theorem dX1_ways_34 : decode cX1_ways 34 = .ok (.aload_n 0, 1) := by decide +kernel
theorem dX1_ways_35 : decode cX1_ways 35 = .ok (.getfield 31, 3) := by decide +kernel
theorem dX1_ways_38 : decode cX1_ways 38 = .ok (.ireturn, 1) := by decide +kernel
theorem dX1_pay_0 : decode cX1_pay 0 = .ok (.aload_n 0, 1) := by decide +kernel
theorem dX1_pay_1 : decode cX1_pay 1 = .ok (.iload_n 2, 1) := by decide +kernel
theorem dX1_pay_2 : decode cX1_pay 2 = .ok (.iconst 0, 1) := by decide +kernel
theorem dX1_pay_3 : decode cX1_pay 3 = .ok (.bipush 40, 2) := by decide +kernel
theorem dX1_pay_5 : decode cX1_pay 5 = .ok (.invokestatic 27, 3) := by decide +kernel
theorem dX1_pay_8 : decode cX1_pay 8 = .ok (.ifCond .eq 7, 3) := by decide +kernel
theorem dX1_pay_11 : decode cX1_pay 11 = .ok (.iconst 0, 1) := by decide +kernel
theorem dX1_pay_12 : decode cX1_pay 12 = .ok (.goto 4, 3) := by decide +kernel
theorem dX1_pay_15 : decode cX1_pay 15 = .ok (.iconst 1, 1) := by decide +kernel
theorem dX1_pay_16 : decode cX1_pay 16 = .ok (.putfield 23, 3) := by decide +kernel
theorem dX1_pay_19 : decode cX1_pay 19 = .ok (.aload_n 0, 1) := by decide +kernel
theorem dX1_pay_20 : decode cX1_pay 20 = .ok (.getfield 23, 3) := by decide +kernel
theorem dX1_pay_23 : decode cX1_pay 23 = .ok (.ifCond .gt 11, 3) := by decide +kernel
theorem dX1_pay_26 : decode cX1_pay 26 = .ok (.aload_n 0, 1) := by decide +kernel
theorem dX1_pay_27 : decode cX1_pay 27 = .ok (.iload_n 1, 1) := by decide +kernel
theorem dX1_pay_28 : decode cX1_pay 28 = .ok (.invokevirtual 47, 3) := by decide +kernel
theorem dX1_pay_31 : decode cX1_pay 31 = .ok (.ifCond .ne 5, 3) := by decide +kernel
theorem dX1_pay_34 : decode cX1_pay 34 = .ok (.iconst 0, 1) := by decide +kernel
theorem dX1_pay_35 : decode cX1_pay 35 = .ok (.ireturn, 1) := by decide +kernel
theorem dX1_pay_36 : decode cX1_pay 36 = .ok (.iload_n 2, 1) := by decide +kernel
theorem dX1_pay_37 : decode cX1_pay 37 = .ok (.istore_n 3, 1) := by decide +kernel
theorem dX1_pay_38 : decode cX1_pay 38 = .ok (.iconst 0, 1) := by decide +kernel
theorem dX1_pay_39 : decode cX1_pay 39 = .ok (.istore 4, 2) := by decide +kernel
theorem dX1_pay_41 : decode cX1_pay 41 = .ok (.iconst 3, 1) := by decide +kernel
theorem dX1_pay_42 : decode cX1_pay 42 = .ok (.istore 5, 2) := by decide +kernel
theorem dX1_pay_44 : decode cX1_pay 44 = .ok (.iload 5, 2) := by decide +kernel
theorem dX1_pay_46 : decode cX1_pay 46 = .ok (.ifCond .lt 54, 3) := by decide +kernel
theorem dX1_pay_49 : decode cX1_pay 49 = .ok (.iload_n 3, 1) := by decide +kernel
theorem dX1_pay_50 : decode cX1_pay 50 = .ok (.aload_n 0, 1) := by decide +kernel
theorem dX1_pay_51 : decode cX1_pay 51 = .ok (.getfield 16, 3) := by decide +kernel
theorem dX1_pay_54 : decode cX1_pay 54 = .ok (.iload 5, 2) := by decide +kernel
theorem dX1_pay_56 : decode cX1_pay 56 = .ok (.iaload, 1) := by decide +kernel
theorem dX1_pay_57 : decode cX1_pay 57 = .ok (.invokestatic 37, 3) := by decide +kernel
theorem dX1_pay_60 : decode cX1_pay 60 = .ok (.istore 6, 2) := by decide +kernel
theorem dX1_pay_62 : decode cX1_pay 62 = .ok (.aload_n 0, 1) := by decide +kernel
theorem dX1_pay_63 : decode cX1_pay 63 = .ok (.getfield 13, 3) := by decide +kernel
theorem dX1_pay_66 : decode cX1_pay 66 = .ok (.iload 5, 2) := by decide +kernel
theorem dX1_pay_68 : decode cX1_pay 68 = .ok (.dup2, 1) := by decide +kernel
theorem dX1_pay_69 : decode cX1_pay 69 = .ok (.iaload, 1) := by decide +kernel
theorem dX1_pay_70 : decode cX1_pay 70 = .ok (.iload 6, 2) := by decide +kernel
theorem dX1_pay_72 : decode cX1_pay 72 = .ok (.isub, 1) := by decide +kernel
theorem dX1_pay_73 : decode cX1_pay 73 = .ok (.iastore, 1) := by decide +kernel
theorem dX1_pay_74 : decode cX1_pay 74 = .ok (.iload_n 3, 1) := by decide +kernel
theorem dX1_pay_75 : decode cX1_pay 75 = .ok (.iload 6, 2) := by decide +kernel
theorem dX1_pay_77 : decode cX1_pay 77 = .ok (.isub, 1) := by decide +kernel
theorem dX1_pay_78 : decode cX1_pay 78 = .ok (.istore_n 3, 1) := by decide +kernel
theorem dX1_pay_79 : decode cX1_pay 79 = .ok (.iload 4, 2) := by decide +kernel
theorem dX1_pay_81 : decode cX1_pay 81 = .ok (.iload 6, 2) := by decide +kernel
theorem dX1_pay_83 : decode cX1_pay 83 = .ok (.aload_n 0, 1) := by decide +kernel
theorem dX1_pay_84 : decode cX1_pay 84 = .ok (.getfield 7, 3) := by decide +kernel
theorem dX1_pay_87 : decode cX1_pay 87 = .ok (.iload 5, 2) := by decide +kernel
theorem dX1_pay_89 : decode cX1_pay 89 = .ok (.iaload, 1) := by decide +kernel
theorem dX1_pay_90 : decode cX1_pay 90 = .ok (.imul, 1) := by decide +kernel
theorem dX1_pay_91 : decode cX1_pay 91 = .ok (.iadd, 1) := by decide +kernel
theorem dX1_pay_92 : decode cX1_pay 92 = .ok (.istore 4, 2) := by decide +kernel
theorem dX1_pay_94 : decode cX1_pay 94 = .ok (.iinc 5 (-1), 3) := by decide +kernel
theorem dX1_pay_97 : decode cX1_pay 97 = .ok (.goto (-53), 3) := by decide +kernel
theorem dX1_pay_100 : decode cX1_pay 100 = .ok (.iload 4, 2) := by decide +kernel
theorem dX1_pay_102 : decode cX1_pay 102 = .ok (.ireturn, 1) := by decide +kernel
theorem dX1_all_0 : decode cX1_all 0 = .ok (.iconst 0, 1) := by decide +kernel
theorem dX1_all_1 : decode cX1_all 1 = .ok (.istore_n 1, 1) := by decide +kernel
theorem dX1_all_2 : decode cX1_all 2 = .ok (.iload_n 1, 1) := by decide +kernel
theorem dX1_all_3 : decode cX1_all 3 = .ok (.sipush 2000, 3) := by decide +kernel
theorem dX1_all_6 : decode cX1_all 6 = .ok (.if_icmp .gt 16, 3) := by decide +kernel
theorem dX1_all_9 : decode cX1_all 9 = .ok (.aload_n 0, 1) := by decide +kernel
theorem dX1_all_10 : decode cX1_all 10 = .ok (.getfield 19, 3) := by decide +kernel
theorem dX1_all_13 : decode cX1_all 13 = .ok (.iload_n 1, 1) := by decide +kernel
theorem dX1_all_14 : decode cX1_all 14 = .ok (.iconst 0, 1) := by decide +kernel
theorem dX1_all_15 : decode cX1_all 15 = .ok (.bastore, 1) := by decide +kernel
theorem dX1_all_16 : decode cX1_all 16 = .ok (.iinc 1 1, 3) := by decide +kernel
theorem dX1_all_19 : decode cX1_all 19 = .ok (.goto (-17), 3) := by decide +kernel
theorem dX1_all_22 : decode cX1_all 22 = .ok (.iconst 0, 1) := by decide +kernel
theorem dX1_all_23 : decode cX1_all 23 = .ok (.istore_n 1, 1) := by decide +kernel
theorem dX1_all_24 : decode cX1_all 24 = .ok (.iload_n 1, 1) := by decide +kernel
theorem dX1_all_25 : decode cX1_all 25 = .ok (.aload_n 0, 1) := by decide +kernel
theorem dX1_all_26 : decode cX1_all 26 = .ok (.getfield 13, 3) := by decide +kernel
theorem dX1_all_29 : decode cX1_all 29 = .ok (.iconst 3, 1) := by decide +kernel
theorem dX1_all_30 : decode cX1_all 30 = .ok (.iaload, 1) := by decide +kernel
theorem dX1_all_31 : decode cX1_all 31 = .ok (.bipush 40, 2) := by decide +kernel
theorem dX1_all_33 : decode cX1_all 33 = .ok (.invokestatic 37, 3) := by decide +kernel
theorem dX1_all_36 : decode cX1_all 36 = .ok (.if_icmp .gt 147, 3) := by decide +kernel
theorem dX1_all_39 : decode cX1_all 39 = .ok (.iconst 0, 1) := by decide +kernel
theorem dX1_all_40 : decode cX1_all 40 = .ok (.istore_n 2, 1) := by decide +kernel
theorem dX1_all_41 : decode cX1_all 41 = .ok (.iload_n 2, 1) := by decide +kernel
theorem dX1_all_42 : decode cX1_all 42 = .ok (.aload_n 0, 1) := by decide +kernel
theorem dX1_all_43 : decode cX1_all 43 = .ok (.getfield 13, 3) := by decide +kernel
theorem dX1_all_46 : decode cX1_all 46 = .ok (.iconst 2, 1) := by decide +kernel
theorem dX1_all_47 : decode cX1_all 47 = .ok (.iaload, 1) := by decide +kernel
theorem dX1_all_48 : decode cX1_all 48 = .ok (.bipush 40, 2) := by decide +kernel
theorem dX1_all_50 : decode cX1_all 50 = .ok (.iload_n 1, 1) := by decide +kernel
theorem dX1_all_51 : decode cX1_all 51 = .ok (.isub, 1) := by decide +kernel
theorem dX1_all_52 : decode cX1_all 52 = .ok (.invokestatic 37, 3) := by decide +kernel
theorem dX1_all_55 : decode cX1_all 55 = .ok (.if_icmp .gt 122, 3) := by decide +kernel
theorem dX1_all_58 : decode cX1_all 58 = .ok (.iconst 0, 1) := by decide +kernel
theorem dX1_all_59 : decode cX1_all 59 = .ok (.istore_n 3, 1) := by decide +kernel
theorem dX1_all_60 : decode cX1_all 60 = .ok (.iload_n 3, 1) := by decide +kernel
theorem dX1_all_61 : decode cX1_all 61 = .ok (.aload_n 0, 1) := by decide +kernel
theorem dX1_all_62 : decode cX1_all 62 = .ok (.getfield 13, 3) := by decide +kernel
theorem dX1_all_65 : decode cX1_all 65 = .ok (.iconst 1, 1) := by decide +kernel
theorem dX1_all_66 : decode cX1_all 66 = .ok (.iaload, 1) := by decide +kernel
theorem dX1_all_67 : decode cX1_all 67 = .ok (.bipush 40, 2) := by decide +kernel
theorem dX1_all_69 : decode cX1_all 69 = .ok (.iload_n 1, 1) := by decide +kernel
theorem dX1_all_70 : decode cX1_all 70 = .ok (.isub, 1) := by decide +kernel
theorem dX1_all_71 : decode cX1_all 71 = .ok (.iload_n 2, 1) := by decide +kernel
theorem dX1_all_72 : decode cX1_all 72 = .ok (.isub, 1) := by decide +kernel
theorem dX1_all_73 : decode cX1_all 73 = .ok (.invokestatic 37, 3) := by decide +kernel
theorem dX1_all_76 : decode cX1_all 76 = .ok (.if_icmp .gt 95, 3) := by decide +kernel
theorem dX1_all_79 : decode cX1_all 79 = .ok (.iload_n 1, 1) := by decide +kernel
theorem dX1_all_80 : decode cX1_all 80 = .ok (.aload_n 0, 1) := by decide +kernel
theorem dX1_all_81 : decode cX1_all 81 = .ok (.getfield 7, 3) := by decide +kernel
theorem dX1_all_84 : decode cX1_all 84 = .ok (.iconst 3, 1) := by decide +kernel
theorem dX1_all_85 : decode cX1_all 85 = .ok (.iaload, 1) := by decide +kernel
theorem dX1_all_86 : decode cX1_all 86 = .ok (.imul, 1) := by decide +kernel
theorem dX1_all_87 : decode cX1_all 87 = .ok (.iload_n 2, 1) := by decide +kernel
theorem dX1_all_88 : decode cX1_all 88 = .ok (.aload_n 0, 1) := by decide +kernel
theorem dX1_all_89 : decode cX1_all 89 = .ok (.getfield 7, 3) := by decide +kernel
theorem dX1_all_92 : decode cX1_all 92 = .ok (.iconst 2, 1) := by decide +kernel
theorem dX1_all_93 : decode cX1_all 93 = .ok (.iaload, 1) := by decide +kernel
theorem dX1_all_94 : decode cX1_all 94 = .ok (.imul, 1) := by decide +kernel
theorem dX1_all_95 : decode cX1_all 95 = .ok (.iadd, 1) := by decide +kernel
theorem dX1_all_96 : decode cX1_all 96 = .ok (.iload_n 3, 1) := by decide +kernel
theorem dX1_all_97 : decode cX1_all 97 = .ok (.aload_n 0, 1) := by decide +kernel
theorem dX1_all_98 : decode cX1_all 98 = .ok (.getfield 7, 3) := by decide +kernel
theorem dX1_all_101 : decode cX1_all 101 = .ok (.iconst 1, 1) := by decide +kernel
theorem dX1_all_102 : decode cX1_all 102 = .ok (.iaload, 1) := by decide +kernel
theorem dX1_all_103 : decode cX1_all 103 = .ok (.imul, 1) := by decide +kernel
theorem dX1_all_104 : decode cX1_all 104 = .ok (.iadd, 1) := by decide +kernel
theorem dX1_all_105 : decode cX1_all 105 = .ok (.istore 4, 2) := by decide +kernel
theorem dX1_all_107 : decode cX1_all 107 = .ok (.iconst 0, 1) := by decide +kernel
theorem dX1_all_108 : decode cX1_all 108 = .ok (.istore 5, 2) := by decide +kernel
theorem dX1_all_110 : decode cX1_all 110 = .ok (.iload 5, 2) := by decide +kernel
theorem dX1_all_112 : decode cX1_all 112 = .ok (.aload_n 0, 1) := by decide +kernel
theorem dX1_all_113 : decode cX1_all 113 = .ok (.getfield 13, 3) := by decide +kernel
theorem dX1_all_116 : decode cX1_all 116 = .ok (.iconst 0, 1) := by decide +kernel
theorem dX1_all_117 : decode cX1_all 117 = .ok (.iaload, 1) := by decide +kernel
theorem dX1_all_118 : decode cX1_all 118 = .ok (.bipush 40, 2) := by decide +kernel
theorem dX1_all_120 : decode cX1_all 120 = .ok (.iload_n 1, 1) := by decide +kernel
theorem dX1_all_121 : decode cX1_all 121 = .ok (.isub, 1) := by decide +kernel
theorem dX1_all_122 : decode cX1_all 122 = .ok (.iload_n 2, 1) := by decide +kernel
theorem dX1_all_123 : decode cX1_all 123 = .ok (.isub, 1) := by decide +kernel
theorem dX1_all_124 : decode cX1_all 124 = .ok (.iload_n 3, 1) := by decide +kernel
theorem dX1_all_125 : decode cX1_all 125 = .ok (.isub, 1) := by decide +kernel
theorem dX1_all_126 : decode cX1_all 126 = .ok (.invokestatic 37, 3) := by decide +kernel
theorem dX1_all_129 : decode cX1_all 129 = .ok (.if_icmp .gt 36, 3) := by decide +kernel
theorem dX1_all_132 : decode cX1_all 132 = .ok (.iload 4, 2) := by decide +kernel
theorem dX1_all_134 : decode cX1_all 134 = .ok (.sipush 2000, 3) := by decide +kernel
theorem dX1_all_137 : decode cX1_all 137 = .ok (.if_icmp .gt 28, 3) := by decide +kernel
theorem dX1_all_140 : decode cX1_all 140 = .ok (.aload_n 0, 1) := by decide +kernel
theorem dX1_all_141 : decode cX1_all 141 = .ok (.getfield 19, 3) := by decide +kernel
theorem dX1_all_144 : decode cX1_all 144 = .ok (.iload 4, 2) := by decide +kernel
theorem dX1_all_146 : decode cX1_all 146 = .ok (.iconst 1, 1) := by decide +kernel
theorem dX1_all_147 : decode cX1_all 147 = .ok (.bastore, 1) := by decide +kernel
theorem dX1_all_148 : decode cX1_all 148 = .ok (.iload 4, 2) := by decide +kernel
theorem dX1_all_150 : decode cX1_all 150 = .ok (.aload_n 0, 1) := by decide +kernel
theorem dX1_all_151 : decode cX1_all 151 = .ok (.getfield 7, 3) := by decide +kernel
theorem dX1_all_154 : decode cX1_all 154 = .ok (.iconst 0, 1) := by decide +kernel
theorem dX1_all_155 : decode cX1_all 155 = .ok (.iaload, 1) := by decide +kernel
theorem dX1_all_156 : decode cX1_all 156 = .ok (.iadd, 1) := by decide +kernel
theorem dX1_all_157 : decode cX1_all 157 = .ok (.istore 4, 2) := by decide +kernel
theorem dX1_all_159 : decode cX1_all 159 = .ok (.iinc 5 1, 3) := by decide +kernel
theorem dX1_all_162 : decode cX1_all 162 = .ok (.goto (-52), 3) := by decide +kernel
theorem dX1_all_165 : decode cX1_all 165 = .ok (.iinc 3 1, 3) := by decide +kernel
theorem dX1_all_168 : decode cX1_all 168 = .ok (.goto (-108), 3) := by decide +kernel
theorem dX1_all_171 : decode cX1_all 171 = .ok (.iinc 2 1, 3) := by decide +kernel
theorem dX1_all_174 : decode cX1_all 174 = .ok (.goto (-133), 3) := by decide +kernel
theorem dX1_all_177 : decode cX1_all 177 = .ok (.iinc 1 1, 3) := by decide +kernel
theorem dX1_all_180 : decode cX1_all 180 = .ok (.goto (-156), 3) := by decide +kernel
theorem dX1_all_183 : decode cX1_all 183 = .ok (.return_, 1) := by decide +kernel
theorem dX1_next_0 : decode cX1_next 0 = .ok (.aload_n 0, 1) := by decide +kernel
theorem dX1_next_1 : decode cX1_next 1 = .ok (.iload_n 1, 1) := by decide +kernel
theorem dX1_next_2 : decode cX1_next 2 = .ok (.iconst 0, 1) := by decide +kernel
theorem dX1_next_3 : decode cX1_next 3 = .ok (.sipush 2000, 3) := by decide +kernel
theorem dX1_next_6 : decode cX1_next 6 = .ok (.invokestatic 27, 3) := by decide +kernel
theorem dX1_next_9 : decode cX1_next 9 = .ok (.ifCond .eq 7, 3) := by decide +kernel
theorem dX1_next_12 : decode cX1_next 12 = .ok (.iconst 0, 1) := by decide +kernel
theorem dX1_next_13 : decode cX1_next 13 = .ok (.goto 4, 3) := by decide +kernel
theorem dX1_next_16 : decode cX1_next 16 = .ok (.iconst 1, 1) := by decide +kernel
theorem dX1_next_17 : decode cX1_next 17 = .ok (.putfield 23, 3) := by decide +kernel
theorem dX1_next_20 : decode cX1_next 20 = .ok (.aload_n 0, 1) := by decide +kernel
theorem dX1_next_21 : decode cX1_next 21 = .ok (.getfield 23, 3) := by decide +kernel
theorem dX1_next_24 : decode cX1_next 24 = .ok (.ifCond .le 5, 3) := by decide +kernel
theorem dX1_next_27 : decode cX1_next 27 = .ok (.iconst 0, 1) := by decide +kernel
theorem dX1_next_28 : decode cX1_next 28 = .ok (.ireturn, 1) := by decide +kernel
theorem dX1_next_29 : decode cX1_next 29 = .ok (.aload_n 0, 1) := by decide +kernel
theorem dX1_next_30 : decode cX1_next 30 = .ok (.invokevirtual 51, 3) := by decide +kernel
theorem dX1_next_33 : decode cX1_next 33 = .ok (.iload_n 1, 1) := by decide +kernel
theorem dX1_next_34 : decode cX1_next 34 = .ok (.istore_n 2, 1) := by decide +kernel
theorem dX1_next_35 : decode cX1_next 35 = .ok (.iload_n 2, 1) := by decide +kernel
theorem dX1_next_36 : decode cX1_next 36 = .ok (.sipush 2000, 3) := by decide +kernel
theorem dX1_next_39 : decode cX1_next 39 = .ok (.if_icmp .gt 20, 3) := by decide +kernel
theorem dX1_next_42 : decode cX1_next 42 = .ok (.aload_n 0, 1) := by decide +kernel
theorem dX1_next_43 : decode cX1_next 43 = .ok (.getfield 19, 3) := by decide +kernel
theorem dX1_next_46 : decode cX1_next 46 = .ok (.iload_n 2, 1) := by decide +kernel
theorem dX1_next_47 : decode cX1_next 47 = .ok (.baload, 1) := by decide +kernel
theorem dX1_next_48 : decode cX1_next 48 = .ok (.ifCond .eq 5, 3) := by decide +kernel
theorem dX1_next_51 : decode cX1_next 51 = .ok (.iload_n 2, 1) := by decide +kernel
theorem dX1_next_52 : decode cX1_next 52 = .ok (.ireturn, 1) := by decide +kernel
theorem dX1_next_53 : decode cX1_next 53 = .ok (.iinc 2 1, 3) := by decide +kernel
theorem dX1_next_56 : decode cX1_next 56 = .ok (.goto (-21), 3) := by decide +kernel
theorem dX1_next_59 : decode cX1_next 59 = .ok (.iconst (-1), 1) := by decide +kernel
theorem dX1_next_60 : decode cX1_next 60 = .ok (.ireturn, 1) := by decide +kernel
theorem dX1_reach_0 : decode cX1_reach 0 = .ok (.aload_n 0, 1) := by decide +kernel
theorem dX1_reach_1 : decode cX1_reach 1 = .ok (.iconst 0, 1) := by decide +kernel
theorem dX1_reach_2 : decode cX1_reach 2 = .ok (.putfield 23, 3) := by decide +kernel
theorem dX1_reach_5 : decode cX1_reach 5 = .ok (.aload_n 0, 1) := by decide +kernel
theorem dX1_reach_6 : decode cX1_reach 6 = .ok (.invokevirtual 51, 3) := by decide +kernel
theorem dX1_reach_9 : decode cX1_reach 9 = .ok (.iconst 0, 1) := by decide +kernel
theorem dX1_reach_10 : decode cX1_reach 10 = .ok (.istore_n 1, 1) := by decide +kernel
theorem dX1_reach_11 : decode cX1_reach 11 = .ok (.iconst 0, 1) := by decide +kernel
theorem dX1_reach_12 : decode cX1_reach 12 = .ok (.istore_n 2, 1) := by decide +kernel
theorem dX1_reach_13 : decode cX1_reach 13 = .ok (.iload_n 2, 1) := by decide +kernel
theorem dX1_reach_14 : decode cX1_reach 14 = .ok (.sipush 2000, 3) := by decide +kernel
theorem dX1_reach_17 : decode cX1_reach 17 = .ok (.if_icmp .gt 21, 3) := by decide +kernel
theorem dX1_reach_20 : decode cX1_reach 20 = .ok (.aload_n 0, 1) := by decide +kernel
theorem dX1_reach_21 : decode cX1_reach 21 = .ok (.getfield 19, 3) := by decide +kernel
theorem dX1_reach_24 : decode cX1_reach 24 = .ok (.iload_n 2, 1) := by decide +kernel
theorem dX1_reach_25 : decode cX1_reach 25 = .ok (.baload, 1) := by decide +kernel
theorem dX1_reach_26 : decode cX1_reach 26 = .ok (.ifCond .eq 6, 3) := by decide +kernel
theorem dX1_reach_29 : decode cX1_reach 29 = .ok (.iinc 1 1, 3) := by decide +kernel
theorem dX1_reach_32 : decode cX1_reach 32 = .ok (.iinc 2 1, 3) := by decide +kernel
theorem dX1_reach_35 : decode cX1_reach 35 = .ok (.goto (-22), 3) := by decide +kernel
theorem dX1_reach_38 : decode cX1_reach 38 = .ok (.iload_n 1, 1) := by decide +kernel
theorem dX1_reach_39 : decode cX1_reach 39 = .ok (.ireturn, 1) := by decide +kernel
theorem dX1_cassette_0 : decode cX1_cassette 0 = .ok (.aload_n 0, 1) := by decide +kernel
theorem dX1_cassette_1 : decode cX1_cassette 1 = .ok (.iload_n 1, 1) := by decide +kernel
theorem dX1_cassette_2 : decode cX1_cassette 2 = .ok (.iconst 0, 1) := by decide +kernel
theorem dX1_cassette_3 : decode cX1_cassette 3 = .ok (.iconst 3, 1) := by decide +kernel
theorem dX1_cassette_4 : decode cX1_cassette 4 = .ok (.invokestatic 27, 3) := by decide +kernel
theorem dX1_cassette_7 : decode cX1_cassette 7 = .ok (.ifCond .eq 7, 3) := by decide +kernel
theorem dX1_cassette_10 : decode cX1_cassette 10 = .ok (.iconst 0, 1) := by decide +kernel
theorem dX1_cassette_11 : decode cX1_cassette 11 = .ok (.goto 4, 3) := by decide +kernel
theorem dX1_cassette_14 : decode cX1_cassette 14 = .ok (.iconst 1, 1) := by decide +kernel
theorem dX1_cassette_15 : decode cX1_cassette 15 = .ok (.putfield 23, 3) := by decide +kernel
theorem dX1_cassette_18 : decode cX1_cassette 18 = .ok (.aload_n 0, 1) := by decide +kernel
theorem dX1_cassette_19 : decode cX1_cassette 19 = .ok (.getfield 23, 3) := by decide +kernel
theorem dX1_cassette_22 : decode cX1_cassette 22 = .ok (.ifCond .le 5, 3) := by decide +kernel
theorem dX1_cassette_25 : decode cX1_cassette 25 = .ok (.iconst 0, 1) := by decide +kernel
theorem dX1_cassette_26 : decode cX1_cassette 26 = .ok (.ireturn, 1) := by decide +kernel
theorem dX1_cassette_27 : decode cX1_cassette 27 = .ok (.iload_n 2, 1) := by decide +kernel
theorem dX1_cassette_28 : decode cX1_cassette 28 = .ok (.ifCond .eq 12, 3) := by decide +kernel
theorem dX1_cassette_31 : decode cX1_cassette 31 = .ok (.aload_n 0, 1) := by decide +kernel
theorem dX1_cassette_32 : decode cX1_cassette 32 = .ok (.getfield 7, 3) := by decide +kernel
theorem dX1_cassette_35 : decode cX1_cassette 35 = .ok (.iload_n 1, 1) := by decide +kernel
theorem dX1_cassette_36 : decode cX1_cassette 36 = .ok (.iaload, 1) := by decide +kernel
theorem dX1_cassette_37 : decode cX1_cassette 37 = .ok (.goto 9, 3) := by decide +kernel
theorem dX1_cassette_40 : decode cX1_cassette 40 = .ok (.aload_n 0, 1) := by decide +kernel
theorem dX1_cassette_41 : decode cX1_cassette 41 = .ok (.getfield 13, 3) := by decide +kernel
theorem dX1_cassette_44 : decode cX1_cassette 44 = .ok (.iload_n 1, 1) := by decide +kernel
theorem dX1_cassette_45 : decode cX1_cassette 45 = .ok (.iaload, 1) := by decide +kernel
theorem dX1_cassette_46 : decode cX1_cassette 46 = .ok (.ireturn, 1) := by decide +kernel
theorem dX1_value_0 : decode cX1_value 0 = .ok (.aload_n 0, 1) := by decide +kernel
theorem dX1_value_1 : decode cX1_value 1 = .ok (.iconst 0, 1) := by decide +kernel
theorem dX1_value_2 : decode cX1_value 2 = .ok (.putfield 23, 3) := by decide +kernel
theorem dX1_value_5 : decode cX1_value 5 = .ok (.iconst 0, 1) := by decide +kernel
theorem dX1_value_6 : decode cX1_value 6 = .ok (.istore_n 1, 1) := by decide +kernel
theorem dX1_value_7 : decode cX1_value 7 = .ok (.iconst 0, 1) := by decide +kernel
theorem dX1_value_8 : decode cX1_value 8 = .ok (.istore_n 2, 1) := by decide +kernel
theorem dX1_value_9 : decode cX1_value 9 = .ok (.iload_n 2, 1) := by decide +kernel
theorem dX1_value_10 : decode cX1_value 10 = .ok (.iconst 4, 1) := by decide +kernel
theorem dX1_value_11 : decode cX1_value 11 = .ok (.if_icmp .ge 25, 3) := by decide +kernel
theorem dX1_value_14 : decode cX1_value 14 = .ok (.iload_n 1, 1) := by decide +kernel
theorem dX1_value_15 : decode cX1_value 15 = .ok (.aload_n 0, 1) := by decide +kernel
theorem dX1_value_16 : decode cX1_value 16 = .ok (.getfield 13, 3) := by decide +kernel
theorem dX1_value_19 : decode cX1_value 19 = .ok (.iload_n 2, 1) := by decide +kernel
theorem dX1_value_20 : decode cX1_value 20 = .ok (.iaload, 1) := by decide +kernel
theorem dX1_value_21 : decode cX1_value 21 = .ok (.aload_n 0, 1) := by decide +kernel
theorem dX1_value_22 : decode cX1_value 22 = .ok (.getfield 7, 3) := by decide +kernel
theorem dX1_value_25 : decode cX1_value 25 = .ok (.iload_n 2, 1) := by decide +kernel
theorem dX1_value_26 : decode cX1_value 26 = .ok (.iaload, 1) := by decide +kernel
theorem dX1_value_27 : decode cX1_value 27 = .ok (.imul, 1) := by decide +kernel
theorem dX1_value_28 : decode cX1_value 28 = .ok (.iadd, 1) := by decide +kernel
theorem dX1_value_29 : decode cX1_value 29 = .ok (.istore_n 1, 1) := by decide +kernel
theorem dX1_value_30 : decode cX1_value 30 = .ok (.iinc 2 1, 3) := by decide +kernel
theorem dX1_value_33 : decode cX1_value 33 = .ok (.goto (-24), 3) := by decide +kernel
theorem dX1_value_36 : decode cX1_value 36 = .ok (.iload_n 1, 1) := by decide +kernel
theorem dX1_value_37 : decode cX1_value 37 = .ok (.ireturn, 1) := by decide +kernel
set_option maxRecDepth 20000 in
theorem inX1_thrown : ∀ w ∈ u_ws RX1 TX1 7, w ∈ wsX1_thrown := by decide +kernel
set_option maxRecDepth 20000 in
theorem ggX1_load_X1_in_ : GoodIn wsX1_load wsX1_in_ := goodIn_r _ [4] (by decide +kernel) (by decide +kernel)
set_option maxRecDepth 20000 in
theorem gX1_load_X1_in_ : GoodIn wsX1_load (va_wsS RX1 27 yX1_in_ wsX1_in_) := goodIn_app (goodIn_of _ (by decide +kernel)) ggX1_load_X1_in_
set_option maxRecDepth 20000 in
theorem inX1_load : ∀ w ∈ u_ws RX1 TX1 7, w ∈ wsX1_load := by decide +kernel
set_option maxRecDepth 20000 in
theorem inX1_look : ∀ w ∈ u_ws RX1 TX1 7, w ∈ wsX1_look := by decide +kernel
set_option maxRecDepth 20000 in
theorem ggX1_isBest_X1_in_ : GoodIn wsX1_isBest wsX1_in_ := goodIn_r _ [4] (by decide +kernel) (by decide +kernel)
set_option maxRecDepth 20000 in
theorem gX1_isBest_X1_in_ : GoodIn wsX1_isBest (va_wsS RX1 27 yX1_in_ wsX1_in_) := goodIn_app (goodIn_of _ (by decide +kernel)) ggX1_isBest_X1_in_
set_option maxRecDepth 20000 in
theorem ggX1_isBest_X1_look : GoodIn wsX1_isBest wsX1_look := goodIn_r _ [9, 10, 11, 12, 13, 14, 15, 16, 17, 18, 19, 20, 21, 22, 23, 24, 25] (by decide +kernel) (by decide +kernel)
set_option maxRecDepth 20000 in
theorem gX1_isBest_X1_look : GoodIn wsX1_isBest (wsV RX1 43 RX1 yX1_look wsX1_look) := goodIn_app (goodIn_of _ (by decide +kernel)) ggX1_isBest_X1_look
set_option maxRecDepth 20000 in
theorem inX1_isBest : ∀ w ∈ u_ws RX1 TX1 7, w ∈ wsX1_isBest := by decide +kernel
set_option maxRecDepth 20000 in
theorem ggX1_best_X1_isBest : GoodIn wsX1_best wsX1_isBest := goodIn_r _ [5, 6, 7, 4, 8, 9, 10, 11, 12, 13, 14, 15, 16, 17, 18, 19, 20, 21, 22, 23, 24, 25, 26, 27, 28, 29] (by decide +kernel) (by decide +kernel)
set_option maxRecDepth 20000 in
theorem gX1_best_X1_isBest : GoodIn wsX1_best (wsV RX1 47 RX1 yX1_isBest wsX1_isBest) := goodIn_app (goodIn_of _ (by decide +kernel)) ggX1_best_X1_isBest
set_option maxRecDepth 20000 in
theorem inX1_best : ∀ w ∈ u_ws RX1 TX1 7, w ∈ wsX1_best := by decide +kernel
set_option maxRecDepth 20000 in
theorem ggX1_part_X1_in_ : GoodIn wsX1_part wsX1_in_ := goodIn_r _ [4] (by decide +kernel) (by decide +kernel)
set_option maxRecDepth 20000 in
theorem gX1_part_X1_in_ : GoodIn wsX1_part (va_wsS RX1 27 yX1_in_ wsX1_in_) := goodIn_app (goodIn_of _ (by decide +kernel)) ggX1_part_X1_in_
set_option maxRecDepth 20000 in
theorem ggX1_part_X1_isBest : GoodIn wsX1_part wsX1_isBest := goodIn_r _ [9, 1, 2, 3, 4, 5, 10, 11, 12, 13, 14, 15, 16, 17, 18, 19, 20, 21, 22, 23, 24, 25, 26, 27, 28, 29] (by decide +kernel) (by decide +kernel)
set_option maxRecDepth 20000 in
theorem gX1_part_X1_isBest : GoodIn wsX1_part (wsV RX1 47 RX1 yX1_isBest wsX1_isBest) := goodIn_app (goodIn_of _ (by decide +kernel)) ggX1_part_X1_isBest
set_option maxRecDepth 20000 in
theorem inX1_part : ∀ w ∈ u_ws RX1 TX1 7, w ∈ wsX1_part := by decide +kernel
set_option maxRecDepth 20000 in
theorem ggX1_ways_X1_in_ : GoodIn wsX1_ways wsX1_in_ := goodIn_r _ [4] (by decide +kernel) (by decide +kernel)
set_option maxRecDepth 20000 in
theorem gX1_ways_X1_in_ : GoodIn wsX1_ways (va_wsS RX1 27 yX1_in_ wsX1_in_) := goodIn_app (goodIn_of _ (by decide +kernel)) ggX1_ways_X1_in_
set_option maxRecDepth 20000 in
theorem ggX1_ways_X1_look : GoodIn wsX1_ways wsX1_look := goodIn_r _ [9, 10, 11, 12, 13, 14, 15, 16, 17, 18, 19, 20, 21, 22, 23, 24, 25] (by decide +kernel) (by decide +kernel)
set_option maxRecDepth 20000 in
theorem gX1_ways_X1_look : GoodIn wsX1_ways (wsV RX1 43 RX1 yX1_look wsX1_look) := goodIn_app (goodIn_of _ (by decide +kernel)) ggX1_ways_X1_look
set_option maxRecDepth 20000 in
theorem inX1_ways : ∀ w ∈ u_ws RX1 TX1 7, w ∈ wsX1_ways := by decide +kernel
set_option maxRecDepth 20000 in
theorem ggX1_pay_X1_in_ : GoodIn wsX1_pay wsX1_in_ := goodIn_r _ [4] (by decide +kernel) (by decide +kernel)
set_option maxRecDepth 20000 in
theorem gX1_pay_X1_in_ : GoodIn wsX1_pay (va_wsS RX1 27 yX1_in_ wsX1_in_) := goodIn_app (goodIn_of _ (by decide +kernel)) ggX1_pay_X1_in_
set_option maxRecDepth 20000 in
theorem ggX1_pay_X1_isBest : GoodIn wsX1_pay wsX1_isBest := goodIn_r _ [9, 1, 2, 3, 4, 5, 10, 11, 12, 13, 14, 15, 16, 17, 18, 19, 20, 21, 22, 23, 24, 25, 26, 27, 28, 29] (by decide +kernel) (by decide +kernel)
set_option maxRecDepth 20000 in
theorem gX1_pay_X1_isBest : GoodIn wsX1_pay (wsV RX1 47 RX1 yX1_isBest wsX1_isBest) := goodIn_app (goodIn_of _ (by decide +kernel)) ggX1_pay_X1_isBest
set_option maxRecDepth 20000 in
theorem inX1_pay : ∀ w ∈ u_ws RX1 TX1 7, w ∈ wsX1_pay := by decide +kernel
set_option maxRecDepth 20000 in
theorem inX1_all : ∀ w ∈ u_ws RX1 TX1 7, w ∈ wsX1_all := by decide +kernel
set_option maxRecDepth 20000 in
theorem ggX1_next_X1_in_ : GoodIn wsX1_next wsX1_in_ := goodIn_r _ [4] (by decide +kernel) (by decide +kernel)
set_option maxRecDepth 20000 in
theorem gX1_next_X1_in_ : GoodIn wsX1_next (va_wsS RX1 27 yX1_in_ wsX1_in_) := goodIn_app (goodIn_of _ (by decide +kernel)) ggX1_next_X1_in_
set_option maxRecDepth 20000 in
theorem ggX1_next_X1_all : GoodIn wsX1_next wsX1_all := goodIn_r _ [9, 10, 11, 12, 13, 14, 15, 16, 17, 18, 19, 20, 21, 22, 23] (by decide +kernel) (by decide +kernel)
set_option maxRecDepth 20000 in
theorem gX1_next_X1_all : GoodIn wsX1_next (wsV RX1 51 RX1 yX1_all wsX1_all) := goodIn_app (goodIn_of _ (by decide +kernel)) ggX1_next_X1_all
set_option maxRecDepth 20000 in
theorem inX1_next : ∀ w ∈ u_ws RX1 TX1 7, w ∈ wsX1_next := by decide +kernel
set_option maxRecDepth 20000 in
theorem ggX1_reach_X1_all : GoodIn wsX1_reach wsX1_all := goodIn_r _ [6, 7, 8, 9, 10, 11, 12, 13, 14, 15, 16, 17, 18, 19, 20] (by decide +kernel) (by decide +kernel)
set_option maxRecDepth 20000 in
theorem gX1_reach_X1_all : GoodIn wsX1_reach (wsV RX1 51 RX1 yX1_all wsX1_all) := goodIn_app (goodIn_of _ (by decide +kernel)) ggX1_reach_X1_all
set_option maxRecDepth 20000 in
theorem inX1_reach : ∀ w ∈ u_ws RX1 TX1 7, w ∈ wsX1_reach := by decide +kernel
set_option maxRecDepth 20000 in
theorem ggX1_cassette_X1_in_ : GoodIn wsX1_cassette wsX1_in_ := goodIn_r _ [4] (by decide +kernel) (by decide +kernel)
set_option maxRecDepth 20000 in
theorem gX1_cassette_X1_in_ : GoodIn wsX1_cassette (va_wsS RX1 27 yX1_in_ wsX1_in_) := goodIn_app (goodIn_of _ (by decide +kernel)) ggX1_cassette_X1_in_
set_option maxRecDepth 20000 in
theorem inX1_cassette : ∀ w ∈ u_ws RX1 TX1 7, w ∈ wsX1_cassette := by decide +kernel
set_option maxRecDepth 20000 in
theorem inX1_value : ∀ w ∈ u_ws RX1 TX1 7, w ∈ wsX1_value := by decide +kernel
end
section
/-! the class's cells and its value -/
abbrev nmW (cI : ClassId) (h a1 a2 a3 a4 : Nat) (wf nf bf : Nat → Int32) (bs mc : Int32) (ff : Nat → Int32) (fr : va_W) : va_W :=
  (h, .inr (0, [.ref a1, .ref a2, .ref a3, .int bs, .int mc, .ref a4])) :: (a1, .inl (cI, 4, .inl wf)) :: (a2, .inl (cI, 4, .inl nf)) :: (a3, .inl (cI, 4, .inl bf)) :: (a4, .inl (cI, 2001, .inl ff)) :: fr
/-- the arrays hold w and n, and these are as the document has them -/
def nmOk (wf nf : Nat → Int32) (w n : Nat → Nat) : Prop := (∀ j, j < 4 → wf j = nI (w j)) ∧ (∀ j, j < 4 → nf j = nI (n j)) ∧ ∀ j, j < 4 → 1 ≤ w j ∧ w j ≤ 500 ∧ n j ≤ 500
set_option maxRecDepth 100000 in
set_option maxHeartbeats 4000000 in
theorem inX0_mostNotes : ∀ w ∈ u_ws RX0 TX0 6, w ∈ wsX0_mostNotes := by decide +kernel
set_option maxRecDepth 100000 in
set_option maxHeartbeats 4000000 in
theorem inX0_keepMix : ∀ w ∈ u_ws RX0 TX0 6, w ∈ wsX0_keepMix := by decide +kernel
set_option maxRecDepth 100000 in
set_option maxHeartbeats 4000000 in
theorem inX0_survey : ∀ w ∈ u_ws RX0 TX0 6, w ∈ wsX0_survey := by decide +kernel
set_option maxRecDepth 100000 in
set_option maxHeartbeats 4000000 in
theorem inX0_findBest : ∀ w ∈ u_ws RX0 TX0 6, w ∈ wsX0_findBest := by decide +kernel
set_option maxRecDepth 100000 in
set_option maxHeartbeats 4000000 in
theorem inX0_addBundle : ∀ w ∈ u_ws RX0 TX0 6, w ∈ wsX0_addBundle := by decide +kernel
set_option maxRecDepth 100000 in
set_option maxHeartbeats 4000000 in
theorem inX0_addCassette : ∀ w ∈ u_ws RX0 TX0 6, w ∈ wsX0_addCassette := by decide +kernel
set_option maxRecDepth 100000 in
set_option maxHeartbeats 4000000 in
theorem inX0_fillFewest : ∀ w ∈ u_ws RX0 TX0 6, w ∈ wsX0_fillFewest := by decide +kernel
set_option maxRecDepth 100000 in
set_option maxHeartbeats 4000000 in
theorem inX0_load : ∀ w ∈ u_ws RX0 TX0 6, w ∈ wsX0_load := by decide +kernel
set_option maxRecDepth 100000 in
set_option maxHeartbeats 4000000 in
theorem inX0_best : ∀ w ∈ u_ws RX0 TX0 6, w ∈ wsX0_best := by decide +kernel
set_option maxRecDepth 100000 in
set_option maxHeartbeats 4000000 in
theorem inX0_part : ∀ w ∈ u_ws RX0 TX0 6, w ∈ wsX0_part := by decide +kernel
set_option maxRecDepth 100000 in
set_option maxHeartbeats 4000000 in
theorem inX0_ways : ∀ w ∈ u_ws RX0 TX0 6, w ∈ wsX0_ways := by decide +kernel
set_option maxRecDepth 100000 in
set_option maxHeartbeats 4000000 in
theorem inX0_pay : ∀ w ∈ u_ws RX0 TX0 6, w ∈ wsX0_pay := by decide +kernel
set_option maxRecDepth 100000 in
set_option maxHeartbeats 4000000 in
theorem inX0_next : ∀ w ∈ u_ws RX0 TX0 6, w ∈ wsX0_next := by decide +kernel
set_option maxRecDepth 100000 in
set_option maxHeartbeats 4000000 in
theorem inX0_reach : ∀ w ∈ u_ws RX0 TX0 6, w ∈ wsX0_reach := by decide +kernel
set_option maxRecDepth 100000 in
set_option maxHeartbeats 4000000 in
theorem inX0_cassette : ∀ w ∈ u_ws RX0 TX0 6, w ∈ wsX0_cassette := by decide +kernel
set_option maxRecDepth 100000 in
set_option maxHeartbeats 4000000 in
theorem inX0_value : ∀ w ∈ u_ws RX0 TX0 6, w ∈ wsX0_value := by decide +kernel
end
section
set_option maxRecDepth 100000 in
set_option maxHeartbeats 4000000 in
theorem c_mostNotes (l : Launch) (D : va_G) (tys : List (ClassId × FieldType)) (cI : ClassId) (hI : tys[0]? = some (cI, .int)) (h a1 a2 a3 a4 : Nat) (fr : va_W) (sz : Nat) (wf nf bf : Nat → Int32) (bs mc : Int32) (ff : Nat → Int32) (w n : Nat → Nat) (ok : nmOk wf nf w n) (c amt rm : Nat) (hc : c < 4) (ha : amt ≤ 2000) (hrm : rm ≤ 40) : Met l yX0_mostNotes wsX0_mostNotes ({ frames := 1, cells := 0, slots := 0, locals := 20 }) (va_Pc [.ref h, .int (nI c), .int (nI amt), .int (nI rm)] (zz_pre D tys (nmW cI h a1 a2 a3 a4 wf nf bf bs mc ff fr) sz)) (va_Qi (fun r (_ : Unit) => r = nI (mx_m (n c) (w c) amt rm)) (zz_B D tys (va_A (nmW cI h a1 a2 a3 a4 wf nf bf bs mc ff fr) sz) (fun _ => nmW cI h a1 a2 a3 a4 wf nf bf bs mc ff fr)) (va_A (nmW cI h a1 a2 a3 a4 wf nf bf bs mc ff fr) sz)) 0 0 (va_A (nmW cI h a1 a2 a3 a4 wf nf bf bs mc ff fr) sz) := by
  refine zz_headI (cc := cX0_mostNotes) (by decide) rfl (Nat.le_of_ble_eq_true rfl) ?_
  intro p e s m below meth cd A ls F hr hlocks hP hK hD hA hS hl
  obtain ⟨hx, hb, hml, hown, hts⟩ := id F
  have hl : lv_has ls 5 [(0, .ref h), (1, .int (nI c)), (2, .int (nI amt)), (3, .int (nI rm))] := hl
  obtain ⟨k1, k2, k3⟩ := ok.2.2 c hc
  have hdv := Nat.div_le_self amt (w c)
  refine lv_aload_n hx hb dX0_mostNotes_0 rfl (lv_at hl 0 rfl) ?_
  refine va_get (D := D) (ci := 0) (v := .ref a1) (C := RX0) (T := TX0) (N := 6) hx hb hts (inX0_mostNotes) hown hK hP 0 rfl rfl 0 (by decide) (hts (.fieldLink RX0 9 "NoteMix" "worthOf" "[I") (by decide +kernel)) (fun _ h9 => h9) rfl dX0_mostNotes_1 ?_
  refine lv_iload_n hx hb dX0_mostNotes_4 rfl (lv_at hl 1 rfl) ?_
  refine zn_iald (k := c) hx hb hK hP 1 _ rfl hI (by omega) (by decide) (ok.1 c (by omega)) dX0_mostNotes_5 ?_
  refine lv_iconst (v := nI 1) hx hb dX0_mostNotes_6 (by decide +kernel) ?_
  refine zn_max hx hb (hml.trans hl.1.symm) hown (hts (.methodLink RX0 63 Lib.Math.max.name) (by decide +kernel)) (hts (.static Lib.Math.max.name) (by decide +kernel)) (hts (.initialized "java/lang/Math") (by decide +kernel)) (hts (.code Lib.Math.max.name Lib.Math.max.code 2 (some .int)) (by decide +kernel)) (Nat.le_of_ble_eq_true rfl) (Nat.le_of_ble_eq_true rfl) (Nat.le_of_ble_eq_true rfl) (Nat.le_of_ble_eq_true rfl) (by omega) (by omega) dX0_mostNotes_7 ?_
  refine zn_as (show nI (max (w c) 1) = nI (w c) from (by rw [Nat.max_eq_left k1])) ?_
  refine lv_istore (lv' := [(4, .int (nI (w c))), (0, .ref h), (1, .int (nI c)), (2, .int (nI amt)), (3, .int (nI rm))]) hx hb dX0_mostNotes_10 hl (by decide) rfl (fun ls hl => ?_)
  refine lv_aload_n hx hb dX0_mostNotes_12 rfl (lv_at hl 1 rfl) ?_
  refine va_get (D := D) (ci := 0) (v := .ref a2) (C := RX0) (T := TX0) (N := 6) hx hb hts (inX0_mostNotes) hown hK hP 0 rfl rfl 1 (by decide) (hts (.fieldLink RX0 13 "NoteMix" "notesIn" "[I") (by decide +kernel)) (fun _ h9 => h9) rfl dX0_mostNotes_13 ?_
  refine lv_iload_n hx hb dX0_mostNotes_16 rfl (lv_at hl 2 rfl) ?_
  refine zn_iald (k := c) hx hb hK hP 2 _ rfl hI (by omega) (by decide) (ok.2.1 c (by omega)) dX0_mostNotes_17 ?_
  refine lv_iload_n hx hb dX0_mostNotes_18 rfl (lv_at hl 4 rfl) ?_
  refine zn_min hx hb (hml.trans hl.1.symm) hown (hts (.methodLink RX0 40 Lib.Math.min.name) (by decide +kernel)) (hts (.static Lib.Math.min.name) (by decide +kernel)) (hts (.initialized "java/lang/Math") (by decide +kernel)) (hts (.code Lib.Math.min.name Lib.Math.min.code 2 (some .int)) (by decide +kernel)) (Nat.le_of_ble_eq_true rfl) (Nat.le_of_ble_eq_true rfl) (Nat.le_of_ble_eq_true rfl) (Nat.le_of_ble_eq_true rfl) (by omega) (by omega) dX0_mostNotes_19 ?_
  refine lv_iload_n hx hb dX0_mostNotes_22 rfl (lv_at hl 3 rfl) ?_
  refine lv_iload hx hb dX0_mostNotes_23 (lv_at hl 0 rfl) ?_
  refine zn_div hx hb (by omega) (by omega) (by omega) dX0_mostNotes_25 ?_
  refine zn_min hx hb (hml.trans hl.1.symm) hown (hts (.methodLink RX0 40 Lib.Math.min.name) (by decide +kernel)) (hts (.static Lib.Math.min.name) (by decide +kernel)) (hts (.initialized "java/lang/Math") (by decide +kernel)) (hts (.code Lib.Math.min.name Lib.Math.min.code 2 (some .int)) (by decide +kernel)) (Nat.le_of_ble_eq_true rfl) (Nat.le_of_ble_eq_true rfl) (Nat.le_of_ble_eq_true rfl) (Nat.le_of_ble_eq_true rfl) (by omega) (by omega) dX0_mostNotes_26 ?_
  exact zz_iret F hr hlocks hK hS dX0_mostNotes_29 (by decide) (by decide) () rfl hP hD
end
section
set_option maxRecDepth 100000 in
set_option maxHeartbeats 4000000 in
theorem c_keepMix (l : Launch) (D : va_G) (tys : List (ClassId × FieldType)) (cI : ClassId) (hI : tys[0]? = some (cI, .int)) (h a1 a2 a3 a4 : Nat) (fr : va_W) (sz : Nat) (wf nf bf : Nat → Int32) (b cnt : Nat) (ff : Nat → Int32) (x0 x1 x2 x3 : Nat) (hb4 : b ≤ 41) (h0 : x0 + x1 + x2 + x3 ≤ 40) : Met l yX0_keepMix wsX0_keepMix ({ frames := 0, cells := 0, slots := 0, locals := 0 }) (va_Pc [.ref h, .int (nI x0), .int (nI x1), .int (nI x2), .int (nI x3)] (zz_pre D tys (nmW cI h a1 a2 a3 a4 wf nf bf (nI b) (nI cnt) ff fr) sz)) (va_Qv (fun (u : (Nat → Int32) × Int32 × Int32) => u.2.2 = nI (cnt + 1) ∧ (x0 + x1 + x2 + x3 ≤ b → u.2.1 = nI (x0 + x1 + x2 + x3) ∧ u.1 0 = nI x0 ∧ u.1 1 = nI x1 ∧ u.1 2 = nI x2 ∧ u.1 3 = nI x3) ∧ (b < x0 + x1 + x2 + x3 → u.2.1 = nI b ∧ u.1 = bf)) (zz_B D tys (va_A (nmW cI h a1 a2 a3 a4 wf nf bf (nI b) (nI cnt) ff fr) sz) (fun u => nmW cI h a1 a2 a3 a4 wf nf u.1 u.2.1 u.2.2 ff fr)) (va_A (nmW cI h a1 a2 a3 a4 wf nf bf (nI b) (nI cnt) ff fr) sz)) 0 0 (va_A (nmW cI h a1 a2 a3 a4 wf nf bf (nI b) (nI cnt) ff fr) sz) := by
  refine zz_headV (cc := cX0_keepMix) (by decide) rfl (Nat.le_of_ble_eq_true rfl) ?_
  intro p e s m below meth cd A ls F hr hlocks hin hP hK hD hA hS hl
  obtain ⟨hx, hb, hml, hown, hts⟩ := id F
  have hl : lv_has ls 6 [(0, .ref h), (1, .int (nI x0)), (2, .int (nI x1)), (3, .int (nI x2)), (4, .int (nI x3))] := hl
  refine lv_aload_n hx hb dX0_keepMix_0 rfl (lv_at hl 0 rfl) ?_
  refine lv_dup hx hb dX0_keepMix_1 rfl ?_
  refine va_get (D := D) (ci := 0) (v := .int (nI cnt)) (C := RX0) (T := TX0) (N := 6) hx hb hts (inX0_keepMix) hown hK hP 0 rfl rfl 4 (by decide) (hts (.fieldLink RX0 23 "NoteMix" "mixCount" "I") (by decide +kernel)) (fun _ h9 => h9) rfl dX0_keepMix_2 ?_
  refine lv_iconst (v := nI 1) hx hb dX0_keepMix_5 (by decide +kernel) ?_
  refine zn_add hx hb dX0_keepMix_6 ?_
  refine va_put (D := D) (ci := 0) (v := .int (nI (cnt + 1))) (ty := .int) (C := RX0) (T := TX0) (N := 6) hx hb hts (inX0_keepMix) tyX0 tyX0_ok nmX0 hown hK hP hD hS 0 rfl rfl 4 (by decide) (hts (.fieldLink RX0 23 "NoteMix" "mixCount" "I") (by decide +kernel)) (fun _ h9 => h9) rfl (by decide +kernel) rfl rfl (Nat.le_of_ble_eq_true rfl) dX0_keepMix_7 (fun H locs hP hD hS => ?_)
  have hP : va_P D vwCl (nmW cI h a1 a2 a3 a4 wf nf bf (nI b) (nI (cnt + 1)) ff fr) H := hP
  have hD : va_D A (nmW cI h a1 a2 a3 a4 wf nf bf (nI b) (nI (cnt + 1)) ff fr) := hD
  refine lv_iload_n hx hb dX0_keepMix_10 rfl (lv_at hl 1 rfl) ?_
  refine lv_iload_n hx hb dX0_keepMix_11 rfl (lv_at hl 2 rfl) ?_
  refine zn_add hx hb dX0_keepMix_12 ?_
  refine lv_iload_n hx hb dX0_keepMix_13 rfl (lv_at hl 3 rfl) ?_
  refine zn_add hx hb dX0_keepMix_14 ?_
  refine lv_iload hx hb dX0_keepMix_15 (lv_at hl 4 rfl) ?_
  refine zn_add hx hb dX0_keepMix_17 ?_
  refine lv_istore (lv' := [(5, .int (nI (((x0 + x1) + x2) + x3))), (0, .ref h), (1, .int (nI x0)), (2, .int (nI x1)), (3, .int (nI x2)), (4, .int (nI x3))]) hx hb dX0_keepMix_18 hl (by decide) rfl (fun ls hl => ?_)
  refine lv_iload hx hb dX0_keepMix_20 (lv_at hl 0 rfl) ?_
  refine lv_aload_n hx hb dX0_keepMix_22 rfl (lv_at hl 1 rfl) ?_
  refine va_get (D := D) (ci := 0) (v := .int (nI b)) (C := RX0) (T := TX0) (N := 6) hx hb hts (inX0_keepMix) hown hK hP 0 rfl rfl 3 (by decide) (hts (.fieldLink RX0 19 "NoteMix" "bestSize" "I") (by decide +kernel)) (fun _ h9 => h9) rfl dX0_keepMix_23 ?_
  refine zn_gt hx hb (by omega) (by omega) dX0_keepMix_26 rfl (fun hc => ?_) (fun hc => ?_)
  · exact zz_vret F hr hlocks hK hS dX0_keepMix_64 (by decide) (by decide) (bf, nI b, nI (cnt + 1)) ⟨rfl, fun h9 => absurd h9 (by omega), fun _ => ⟨rfl, rfl⟩⟩ hP hD
  · refine lv_aload_n hx hb dX0_keepMix_29 rfl (lv_at hl 1 rfl) ?_
    refine lv_iload hx hb dX0_keepMix_30 (lv_at hl 0 rfl) ?_
    refine va_put (D := D) (ci := 0) (v := .int (nI (((x0 + x1) + x2) + x3))) (ty := .int) (C := RX0) (T := TX0) (N := 6) hx hb hts (inX0_keepMix) tyX0 tyX0_ok nmX0 hown hK hP hD hS 0 rfl rfl 3 (by decide) (hts (.fieldLink RX0 19 "NoteMix" "bestSize" "I") (by decide +kernel)) (fun _ h9 => h9) rfl (by decide +kernel) rfl rfl (Nat.le_of_ble_eq_true rfl) dX0_keepMix_32 (fun H locs hP hD hS => ?_)
    have hP : va_P D vwCl (nmW cI h a1 a2 a3 a4 wf nf bf (nI (((x0 + x1) + x2) + x3)) (nI (cnt + 1)) ff fr) H := hP
    have hD : va_D A (nmW cI h a1 a2 a3 a4 wf nf bf (nI (((x0 + x1) + x2) + x3)) (nI (cnt + 1)) ff fr) := hD
    refine lv_aload_n hx hb dX0_keepMix_35 rfl (lv_at hl 1 rfl) ?_
    refine va_get (D := D) (ci := 0) (v := .ref a3) (C := RX0) (T := TX0) (N := 6) hx hb hts (inX0_keepMix) hown hK hP 0 rfl rfl 2 (by decide) (hts (.fieldLink RX0 16 "NoteMix" "bestMix" "[I") (by decide +kernel)) (fun _ h9 => h9) rfl dX0_keepMix_36 ?_
    refine lv_iconst (v := nI 0) hx hb dX0_keepMix_39 (by decide +kernel) ?_
    refine lv_iload_n hx hb dX0_keepMix_40 rfl (lv_at hl 2 rfl) ?_
    refine zn_iast (k := 0) hx hb hK hP hD hS 3 _ rfl hI (by decide) (by decide) dX0_keepMix_41 (fun H locs bf1 bf1e bf1n hP hD hS => ?_)
    have hP : va_P D vwCl (nmW cI h a1 a2 a3 a4 wf nf bf1 (nI (((x0 + x1) + x2) + x3)) (nI (cnt + 1)) ff fr) H := hP
    have hD : va_D A (nmW cI h a1 a2 a3 a4 wf nf bf1 (nI (((x0 + x1) + x2) + x3)) (nI (cnt + 1)) ff fr) := hD
    refine lv_aload_n hx hb dX0_keepMix_42 rfl (lv_at hl 1 rfl) ?_
    refine va_get (D := D) (ci := 0) (v := .ref a3) (C := RX0) (T := TX0) (N := 6) hx hb hts (inX0_keepMix) hown hK hP 0 rfl rfl 2 (by decide) (hts (.fieldLink RX0 16 "NoteMix" "bestMix" "[I") (by decide +kernel)) (fun _ h9 => h9) rfl dX0_keepMix_43 ?_
    refine lv_iconst (v := nI 1) hx hb dX0_keepMix_46 (by decide +kernel) ?_
    refine lv_iload_n hx hb dX0_keepMix_47 rfl (lv_at hl 3 rfl) ?_
    refine zn_iast (k := 1) hx hb hK hP hD hS 3 _ rfl hI (by decide) (by decide) dX0_keepMix_48 (fun H locs bf2 bf2e bf2n hP hD hS => ?_)
    have hP : va_P D vwCl (nmW cI h a1 a2 a3 a4 wf nf bf2 (nI (((x0 + x1) + x2) + x3)) (nI (cnt + 1)) ff fr) H := hP
    have hD : va_D A (nmW cI h a1 a2 a3 a4 wf nf bf2 (nI (((x0 + x1) + x2) + x3)) (nI (cnt + 1)) ff fr) := hD
    refine lv_aload_n hx hb dX0_keepMix_49 rfl (lv_at hl 1 rfl) ?_
    refine va_get (D := D) (ci := 0) (v := .ref a3) (C := RX0) (T := TX0) (N := 6) hx hb hts (inX0_keepMix) hown hK hP 0 rfl rfl 2 (by decide) (hts (.fieldLink RX0 16 "NoteMix" "bestMix" "[I") (by decide +kernel)) (fun _ h9 => h9) rfl dX0_keepMix_50 ?_
    refine lv_iconst (v := nI 2) hx hb dX0_keepMix_53 (by decide +kernel) ?_
    refine lv_iload_n hx hb dX0_keepMix_54 rfl (lv_at hl 4 rfl) ?_
    refine zn_iast (k := 2) hx hb hK hP hD hS 3 _ rfl hI (by decide) (by decide) dX0_keepMix_55 (fun H locs bf3 bf3e bf3n hP hD hS => ?_)
    have hP : va_P D vwCl (nmW cI h a1 a2 a3 a4 wf nf bf3 (nI (((x0 + x1) + x2) + x3)) (nI (cnt + 1)) ff fr) H := hP
    have hD : va_D A (nmW cI h a1 a2 a3 a4 wf nf bf3 (nI (((x0 + x1) + x2) + x3)) (nI (cnt + 1)) ff fr) := hD
    refine lv_aload_n hx hb dX0_keepMix_56 rfl (lv_at hl 1 rfl) ?_
    refine va_get (D := D) (ci := 0) (v := .ref a3) (C := RX0) (T := TX0) (N := 6) hx hb hts (inX0_keepMix) hown hK hP 0 rfl rfl 2 (by decide) (hts (.fieldLink RX0 16 "NoteMix" "bestMix" "[I") (by decide +kernel)) (fun _ h9 => h9) rfl dX0_keepMix_57 ?_
    refine lv_iconst (v := nI 3) hx hb dX0_keepMix_60 (by decide +kernel) ?_
    refine lv_iload hx hb dX0_keepMix_61 (lv_at hl 5 rfl) ?_
    refine zn_iast (k := 3) hx hb hK hP hD hS 3 _ rfl hI (by decide) (by decide) dX0_keepMix_63 (fun H locs bf4 bf4e bf4n hP hD hS => ?_)
    have hP : va_P D vwCl (nmW cI h a1 a2 a3 a4 wf nf bf4 (nI (((x0 + x1) + x2) + x3)) (nI (cnt + 1)) ff fr) H := hP
    have hD : va_D A (nmW cI h a1 a2 a3 a4 wf nf bf4 (nI (((x0 + x1) + x2) + x3)) (nI (cnt + 1)) ff fr) := hD
    exact zz_vret F hr hlocks hK hS dX0_keepMix_64 (by decide) (by decide) (bf4, nI (x0 + x1 + x2 + x3), nI (cnt + 1)) ⟨rfl, fun _ => ⟨rfl, (by show bf4 0 = nI x0; rw [bf4n 0 (by decide), bf3n 0 (by decide), bf2n 0 (by decide), bf1e]), (by show bf4 1 = nI x1; rw [bf4n 1 (by decide), bf3n 1 (by decide), bf2e]), (by show bf4 2 = nI x2; rw [bf4n 2 (by decide), bf3e]), bf4e⟩, fun h9 => absurd h9 (by omega)⟩ hP hD
end
section
set_option maxRecDepth 100000 in
set_option maxHeartbeats 4000000 in
theorem c_addBundle (l : Launch) (D : va_G) (tys : List (ClassId × FieldType)) (cI : ClassId) (hI : tys[0]? = some (cI, .int)) (h a1 a2 a3 a4 : Nat) (fr : va_W) (sz : Nat) (wf nf bf : Nat → Int32) (bs mc : Int32) (ff : Nat → Int32) (f : Nat → Nat) (hff : ∀ j, j ≤ 2000 → ff j = nI (f j)) (hf41 : ∀ j, j ≤ 2000 → f j ≤ 41) (k am : Nat) (hk : k ≤ 40) (ha1 : 1 ≤ am) (ha2 : am ≤ 20000) : Met l yX0_addBundle wsX0_addBundle ({ frames := 1, cells := 0, slots := 0, locals := 20 }) (va_Pc [.ref h, .int (nI k), .int (nI am)] (zz_pre D tys (nmW cI h a1 a2 a3 a4 wf nf bf bs mc ff fr) sz)) (va_Qv (fun (u : Nat → Int32) => ∀ j, j ≤ 2000 → u j = nI (if am ≤ j then min (f j) (f (j - am) + k) else f j)) (zz_B D tys (va_A (nmW cI h a1 a2 a3 a4 wf nf bf bs mc ff fr) sz) (fun u => nmW cI h a1 a2 a3 a4 wf nf bf bs mc u fr)) (va_A (nmW cI h a1 a2 a3 a4 wf nf bf bs mc ff fr) sz)) 0 0 (va_A (nmW cI h a1 a2 a3 a4 wf nf bf bs mc ff fr) sz) := by
  refine zz_headV (cc := cX0_addBundle) (by decide) rfl (Nat.le_of_ble_eq_true rfl) ?_
  intro p e s m below meth cd A ls F hr hlocks hin hP hK hD hA hS hl
  obtain ⟨hx, hb, hml, hown, hts⟩ := id F
  have hl : lv_has ls 4 [(0, .ref h), (1, .int (nI k)), (2, .int (nI am))] := hl
  refine lv_sipush (v := nI 2000) hx hb dX0_addBundle_0 (by decide +kernel) ?_
  refine lv_istore_n (lv' := [(3, .int (nI 2000)), (0, .ref h), (1, .int (nI k)), (2, .int (nI am))]) hx hb dX0_addBundle_3 rfl hl (by decide) rfl (fun ls hl => ?_)
  have hl : lv_has ls 4 [(3, .int (nI 2000)), (2, .int (nI am)), (1, .int (nI k)), (0, .ref h)] := lv_sub hl [0, 3, 2, 1] rfl
  refine zz_loop (fun ls H locs (u : Nat × (Nat → Int32)) => lv_has ls 4 [(3, .int (nI u.1)), (2, .int (nI am)), (1, .int (nI k)), (0, .ref h)] ∧ va_P D vwCl (nmW cI h a1 a2 a3 a4 wf nf bf bs mc u.2 fr) H ∧ va_D A (nmW cI h a1 a2 a3 a4 wf nf bf bs mc u.2 fr) ∧ va_S A s.heap H locs ∧ u.1 ≤ 2000 ∧ (am ≤ 2000 → am ≤ u.1 + 1) ∧ (∀ j, j ≤ u.1 → u.2 j = nI (f j)) ∧ (∀ j, u.1 < j → j ≤ 2000 → u.2 j = nI (if am ≤ j then min (f j) (f (j - am) + k) else f j))) (fun u => u.1) ?_ (2000, ff) ⟨hl, hP, hD, hS, Nat.le_refl _, fun h9 => by show am ≤ 2000 + 1; omega, fun j hj => hff j hj, fun j h1 h2 => absurd h1 (by show ¬ 2000 < j; omega)⟩
  rintro ls H locs ⟨v, g⟩ ⟨hl, hP, hD, hS, h1, h2, h3, h4⟩ kk
  dsimp only at hl hP hD h1 h2 h3 h4 kk
  refine lv_iload_n hx hb dX0_addBundle_4 rfl (lv_at hl 0 rfl) ?_
  refine lv_iload_n hx hb dX0_addBundle_5 rfl (lv_at hl 1 rfl) ?_
  refine zn_lt hx hb (by omega) (by omega) dX0_addBundle_6 rfl (fun hc => ?_) (fun hc => ?_)
  · exact zz_vret F hr hlocks hK hS dX0_addBundle_40 (by decide) (by decide) g (fun j hj => (Nat.lt_or_ge v j).elim (fun q9 => h4 j q9 hj) (fun q9 => (h3 j q9).trans (by rw [if_neg (by omega)]))) hP hD
  · have hfv := hf41 v h1
    have hfa := hf41 (v - am) (by omega)
    refine lv_aload_n hx hb dX0_addBundle_9 rfl (lv_at hl 3 rfl) ?_
    refine va_get (D := D) (ci := 0) (v := .ref a4) (C := RX0) (T := TX0) (N := 6) hx hb hts (inX0_addBundle) hown hK hP 0 rfl rfl 5 (by decide) (hts (.fieldLink RX0 26 "NoteMix" "fewest" "[I") (by decide +kernel)) (fun _ h9 => h9) rfl dX0_addBundle_10 ?_
    refine lv_iload_n hx hb dX0_addBundle_13 rfl (lv_at hl 0 rfl) ?_
    refine lv_aload_n hx hb dX0_addBundle_14 rfl (lv_at hl 3 rfl) ?_
    refine va_get (D := D) (ci := 0) (v := .ref a4) (C := RX0) (T := TX0) (N := 6) hx hb hts (inX0_addBundle) hown hK hP 0 rfl rfl 5 (by decide) (hts (.fieldLink RX0 26 "NoteMix" "fewest" "[I") (by decide +kernel)) (fun _ h9 => h9) rfl dX0_addBundle_15 ?_
    refine lv_iload_n hx hb dX0_addBundle_18 rfl (lv_at hl 0 rfl) ?_
    refine zn_iald (k := v) hx hb hK hP 4 _ rfl hI (by omega) (by decide) (h3 v (by omega)) dX0_addBundle_19 ?_
    refine lv_aload_n hx hb dX0_addBundle_20 rfl (lv_at hl 3 rfl) ?_
    refine va_get (D := D) (ci := 0) (v := .ref a4) (C := RX0) (T := TX0) (N := 6) hx hb hts (inX0_addBundle) hown hK hP 0 rfl rfl 5 (by decide) (hts (.fieldLink RX0 26 "NoteMix" "fewest" "[I") (by decide +kernel)) (fun _ h9 => h9) rfl dX0_addBundle_21 ?_
    refine lv_iload_n hx hb dX0_addBundle_24 rfl (lv_at hl 0 rfl) ?_
    refine lv_iload_n hx hb dX0_addBundle_25 rfl (lv_at hl 1 rfl) ?_
    refine zn_sub hx hb (by omega) dX0_addBundle_26 ?_
    refine zn_iald (k := v - am) hx hb hK hP 4 _ rfl hI (by omega) (by decide) (h3 (v - am) (by omega)) dX0_addBundle_27 ?_
    refine lv_iload_n hx hb dX0_addBundle_28 rfl (lv_at hl 2 rfl) ?_
    refine zn_add hx hb dX0_addBundle_29 ?_
    refine zn_min hx hb (hml.trans hl.1.symm) hown (hts (.methodLink RX0 40 Lib.Math.min.name) (by decide +kernel)) (hts (.static Lib.Math.min.name) (by decide +kernel)) (hts (.initialized "java/lang/Math") (by decide +kernel)) (hts (.code Lib.Math.min.name Lib.Math.min.code 2 (some .int)) (by decide +kernel)) (Nat.le_of_ble_eq_true rfl) (Nat.le_of_ble_eq_true rfl) (Nat.le_of_ble_eq_true rfl) (Nat.le_of_ble_eq_true rfl) (by omega) (by omega) dX0_addBundle_30 ?_
    refine zn_iast (k := v) hx hb hK hP hD hS 4 _ rfl hI (by omega) (by decide) dX0_addBundle_33 (fun H locs g1 g1e g1n hP hD hS => ?_)
    have hP : va_P D vwCl (nmW cI h a1 a2 a3 a4 wf nf bf bs mc g1 fr) H := hP
    have hD : va_D A (nmW cI h a1 a2 a3 a4 wf nf bf bs mc g1 fr) := hD
    obtain ⟨v1, rfl⟩ : ∃ v1, v = v1 + 1 := ⟨v - 1, by omega⟩
    refine lv_iinc (k := 0) (lv' := [(3, .int (nI v1)), (2, .int (nI am)), (1, .int (nI k)), (0, .ref h)]) hx hb dX0_addBundle_34 hl rfl (zz_d1 _) (by decide) rfl (fun ls hl => ?_)
    refine lv_goto hx hb dX0_addBundle_37 rfl ?_
    refine kk _ _ _ (v1, g1) ⟨hl, hP, hD, hS, by show v1 ≤ 2000; omega, fun _ => by show am ≤ v1 + 1; omega, fun j hj => (g1n j (by have h9 : j ≤ v1 := hj; omega)).trans (h3 j (by have h9 : j ≤ v1 := hj; omega)), fun j hj1 hj2 => ?_⟩ (by show v1 < v1 + 1; omega)
    show g1 j = nI (if am ≤ j then min (f j) (f (j - am) + k) else f j)
    by_cases e9 : j = v1 + 1
    · subst e9
      rw [if_pos (by omega)]
      exact g1e
    · rw [g1n j e9]
      exact h4 j (by have h9 : v1 < j := hj1; omega) hj2
end
section
set_option maxRecDepth 100000 in
set_option maxHeartbeats 4000000 in
theorem c_survey (l : Launch) (D : va_G) (tys : List (ClassId × FieldType)) (cI : ClassId) (hI : tys[0]? = some (cI, .int)) (h a1 a2 a3 a4 : Nat) (fr : va_W) (sz : Nat) (wf nf bf : Nat → Int32) (bs mc : Int32) (ff : Nat → Int32) (w n : Nat → Nat) (ok : nmOk wf nf w n) (v : Nat) (hv : v ≤ 2000) : Met l yX0_survey wsX0_survey ({ frames := 2, cells := 0, slots := 0, locals := 60 }) (va_Pc [.ref h, .int (nI v)] (zz_pre D tys (nmW cI h a1 a2 a3 a4 wf nf bf bs mc ff fr) sz)) (va_Qv (fun (u : (Nat → Int32) × Int32 × Int32) => ∃ (cnt b : Nat) (bm : Nat → Nat), u.2.1 = nI b ∧ u.2.2 = nI cnt ∧ (0 < cnt → ∀ j, j < 4 → u.1 j = nI (bm j)) ∧ mx_E w n v cnt b bm) (zz_B D tys (va_A (nmW cI h a1 a2 a3 a4 wf nf bf bs mc ff fr) sz) (fun u => nmW cI h a1 a2 a3 a4 wf nf u.1 u.2.1 u.2.2 ff fr)) (va_A (nmW cI h a1 a2 a3 a4 wf nf bf bs mc ff fr) sz)) 0 0 (va_A (nmW cI h a1 a2 a3 a4 wf nf bf bs mc ff fr) sz) := by
  refine zz_headV (cc := cX0_survey) (by decide) rfl (Nat.le_of_ble_eq_true rfl) ?_
  intro p e s m below meth cd A ls F hr hlocks hin hP hK hD hA hS hl
  obtain ⟨hx, hb, hml, hown, hts⟩ := id F
  have hl : lv_has ls 14 [(0, .ref h), (1, .int (nI v))] := hl
  obtain ⟨p0, p1, p2⟩ := ok.2.2 0 (by decide)
  obtain ⟨q0, q1, q2⟩ := ok.2.2 1 (by decide)
  obtain ⟨r0, r1, r2⟩ := ok.2.2 2 (by decide)
  obtain ⟨t0, t1, t2⟩ := ok.2.2 3 (by decide)
  refine lv_aload_n hx hb dX0_survey_0 rfl (lv_at hl 0 rfl) ?_
  refine lv_iconst (v := nI 0) hx hb dX0_survey_1 (by decide +kernel) ?_
  refine va_put (D := D) (ci := 0) (v := .int (nI 0)) (ty := .int) (C := RX0) (T := TX0) (N := 6) hx hb hts (inX0_survey) tyX0 tyX0_ok nmX0 hown hK hP hD hS 0 rfl rfl 4 (by decide) (hts (.fieldLink RX0 23 "NoteMix" "mixCount" "I") (by decide +kernel)) (fun _ h9 => h9) rfl (by decide +kernel) rfl rfl (Nat.le_of_ble_eq_true rfl) dX0_survey_2 (fun H locs hP hD hS => ?_)
  have hP : va_P D vwCl (nmW cI h a1 a2 a3 a4 wf nf bf bs (nI 0) ff fr) H := hP
  have hD : va_D A (nmW cI h a1 a2 a3 a4 wf nf bf bs (nI 0) ff fr) := hD
  refine lv_aload_n hx hb dX0_survey_5 rfl (lv_at hl 0 rfl) ?_
  refine lv_bipush (v := nI 41) hx hb dX0_survey_6 (by decide +kernel) ?_
  refine va_put (D := D) (ci := 0) (v := .int (nI 41)) (ty := .int) (C := RX0) (T := TX0) (N := 6) hx hb hts (inX0_survey) tyX0 tyX0_ok nmX0 hown hK hP hD hS 0 rfl rfl 3 (by decide) (hts (.fieldLink RX0 19 "NoteMix" "bestSize" "I") (by decide +kernel)) (fun _ h9 => h9) rfl (by decide +kernel) rfl rfl (Nat.le_of_ble_eq_true rfl) dX0_survey_8 (fun H locs hP hD hS => ?_)
  have hP : va_P D vwCl (nmW cI h a1 a2 a3 a4 wf nf bf (nI 41) (nI 0) ff fr) H := hP
  have hD : va_D A (nmW cI h a1 a2 a3 a4 wf nf bf (nI 41) (nI 0) ff fr) := hD
  refine lv_aload_n hx hb dX0_survey_11 rfl (lv_at hl 0 rfl) ?_
  refine lv_iconst (v := nI 3) hx hb dX0_survey_12 (by decide +kernel) ?_
  refine lv_iload_n hx hb dX0_survey_13 rfl (lv_at hl 1 rfl) ?_
  refine lv_bipush (v := nI 40) hx hb dX0_survey_14 (by decide +kernel) ?_
  refine zz_callVi (As := [.int (nI 3), .int (nI v), .int (nI 40)]) (rest := []) F hK hP hD hS hA (c_mostNotes l D tys cI hI h a1 a2 a3 a4 fr _ wf nf bf (nI 41) (nI 0) ff w n ok 3 (v) (40) (by decide) hv (by decide)) (cwV 3 hts gX0_survey_X0_mostNotes rfl rfl rfl (by decide +kernel) ⟨Nat.le_of_ble_eq_true rfl, Nat.le_of_ble_eq_true rfl⟩) 0 rfl rfl rfl hl.1 rfl (by decide) dX0_survey_16 ⟨Nat.le_of_ble_eq_true rfl, Nat.le_of_ble_eq_true rfl⟩ (fun rr _ H locs er hP hD hS => ?_)
  try dsimp only at er
  subst er
  obtain ⟨m3, hm3⟩ : ∃ z, z = mx_m (n 3) (w 3) v 40 := ⟨_, rfl⟩
  rw [← hm3]
  refine lv_istore_n (lv' := [(2, .int (nI m3)), (0, .ref h), (1, .int (nI v))]) hx hb dX0_survey_19 rfl hl (by decide) rfl (fun ls hl => ?_)
  refine lv_iconst (v := nI 0) hx hb dX0_survey_20 (by decide +kernel) ?_
  refine lv_istore_n (lv' := [(3, .int (nI 0)), (2, .int (nI m3)), (0, .ref h), (1, .int (nI v))]) hx hb dX0_survey_21 rfl hl (by decide) rfl (fun ls hl => ?_)
  have hl : lv_has ls 14 [(3, .int (nI 0)), (2, .int (nI m3)), (1, .int (nI v)), (0, .ref h)] := lv_sub hl [0, 1, 3, 2] rfl
  refine zz_loop (fun ls H locs (u : Nat × (Nat → Int32) × Nat × Nat × (Nat → Nat)) => lv_has ls 14 [(3, .int (nI u.1)), (2, .int (nI m3)), (1, .int (nI v)), (0, .ref h)] ∧ va_P D vwCl (nmW cI h a1 a2 a3 a4 wf nf u.2.1 (nI u.2.2.1) (nI u.2.2.2.1) ff fr) H ∧ va_D A (nmW cI h a1 a2 a3 a4 wf nf u.2.1 (nI u.2.2.1) (nI u.2.2.2.1) ff fr) ∧ va_S A s.heap H locs ∧ (0 < u.2.2.2.1 → ∀ j, j < 4 → u.2.1 j = nI (u.2.2.2.2 j)) ∧ mx_I w n v (mx_k 0 0 u.1) u.2.2.2.1 u.2.2.1 u.2.2.2.2 ∧ u.1 ≤ m3 + 1) (fun u => m3 + 1 - u.1) ?_ (0, bf, 41, 0, fun _ => 0) ⟨hl, hP, hD, hS, fun h9 => absurd h9 (Nat.lt_irrefl 0), mx_I0, Nat.zero_le _⟩
  rintro ls H locs ⟨d, bf, b, cnt, bm⟩ ⟨hl, hP, hD, hS, hbm, hI3, hd⟩ k3
  dsimp only at hl hP hD hbm hI3 hd k3
  have hm40 := mx_le (x := m3) (n := n 3) (w := w 3) (amt := v) (room := 40) (Nat.le_of_eq hm3)
  refine lv_iload_n hx hb dX0_survey_22 rfl (lv_at hl 0 rfl) ?_
  refine lv_iload_n hx hb dX0_survey_23 rfl (lv_at hl 1 rfl) ?_
  refine zn_gt hx hb (by omega) (by omega) dX0_survey_24 rfl (fun hc3 => ?_) (fun hc3 => ?_)
  · have hd3 : d = m3 + 1 := by omega
    rw [hd3, hm3] at hI3
    have hE := mx_Iend (mx_Iskip hI3 (by have := hm40.2.1; rw [hm3] at this; unfold mx_k; omega) (mx_skip3 t0))
    exact zz_vret F hr hlocks hK hS dX0_survey_179 (by decide) (by decide) (bf, nI b, nI cnt) ⟨cnt, b, bm, rfl, rfl, hbm, hE⟩ hP hD
  · obtain ⟨d1, d2, d3⟩ := mx_le (x := d) (n := n 3) (w := w 3) (amt := v) (room := 40) (by rw [← hm3]; exact hc3)
    refine lv_iload_n hx hb dX0_survey_27 rfl (lv_at hl 2 rfl) ?_
    refine lv_iload_n hx hb dX0_survey_28 rfl (lv_at hl 0 rfl) ?_
    refine lv_aload_n hx hb dX0_survey_29 rfl (lv_at hl 3 rfl) ?_
    refine va_get (D := D) (ci := 0) (v := .ref a1) (C := RX0) (T := TX0) (N := 6) hx hb hts (inX0_survey) hown hK hP 0 rfl rfl 0 (by decide) (hts (.fieldLink RX0 9 "NoteMix" "worthOf" "[I") (by decide +kernel)) (fun _ h9 => h9) rfl dX0_survey_30 ?_
    refine lv_iconst (v := nI 3) hx hb dX0_survey_33 (by decide +kernel) ?_
    refine zn_iald (k := 3) hx hb hK hP 1 _ rfl hI (by omega) (by decide) (ok.1 3 (by omega)) dX0_survey_34 ?_
    refine zn_mul hx hb dX0_survey_35 ?_
    refine zn_sub hx hb d3 dX0_survey_36 ?_
    refine lv_istore (lv' := [(4, .int (nI (v - (d * (w 3))))), (3, .int (nI d)), (2, .int (nI m3)), (1, .int (nI v)), (0, .ref h)]) hx hb dX0_survey_37 hl (by decide) rfl (fun ls hl => ?_)
    refine lv_bipush (v := nI 40) hx hb dX0_survey_39 (by decide +kernel) ?_
    refine lv_iload_n hx hb dX0_survey_41 rfl (lv_at hl 1 rfl) ?_
    refine zn_sub hx hb (by omega) dX0_survey_42 ?_
    refine lv_istore (lv' := [(5, .int (nI (40 - d))), (4, .int (nI (v - (d * (w 3))))), (3, .int (nI d)), (2, .int (nI m3)), (1, .int (nI v)), (0, .ref h)]) hx hb dX0_survey_43 hl (by decide) rfl (fun ls hl => ?_)
    refine lv_aload_n hx hb dX0_survey_45 rfl (lv_at hl 5 rfl) ?_
    refine lv_iconst (v := nI 2) hx hb dX0_survey_46 (by decide +kernel) ?_
    refine lv_iload hx hb dX0_survey_47 (lv_at hl 1 rfl) ?_
    refine lv_iload hx hb dX0_survey_49 (lv_at hl 0 rfl) ?_
    refine zz_callVi (As := [.int (nI 2), .int (nI (v - (d * (w 3)))), .int (nI (40 - d))]) (rest := []) F hK hP hD hS hA (c_mostNotes l D tys cI hI h a1 a2 a3 a4 fr _ wf nf bf (nI b) (nI cnt) ff w n ok 2 (v - d * w 3) (40 - d) (by decide) (by omega) (by omega)) (cwV 3 hts gX0_survey_X0_mostNotes rfl rfl rfl (by decide +kernel) ⟨Nat.le_of_ble_eq_true rfl, Nat.le_of_ble_eq_true rfl⟩) 0 rfl rfl rfl hl.1 rfl (by decide) dX0_survey_51 ⟨Nat.le_of_ble_eq_true rfl, Nat.le_of_ble_eq_true rfl⟩ (fun rr _ H locs er hP hD hS => ?_)
    try dsimp only at er
    subst er
    obtain ⟨m2, hm2⟩ : ∃ z, z = mx_m (n 2) (w 2) (v - d * w 3) (40 - d) := ⟨_, rfl⟩
    rw [← hm2]
    refine lv_istore (lv' := [(6, .int (nI m2)), (5, .int (nI (40 - d))), (4, .int (nI (v - (d * (w 3))))), (3, .int (nI d)), (2, .int (nI m3)), (1, .int (nI v)), (0, .ref h)]) hx hb dX0_survey_54 hl (by decide) rfl (fun ls hl => ?_)
    refine lv_iconst (v := nI 0) hx hb dX0_survey_56 (by decide +kernel) ?_
    refine lv_istore (lv' := [(7, .int (nI 0)), (6, .int (nI m2)), (5, .int (nI (40 - d))), (4, .int (nI (v - (d * (w 3))))), (3, .int (nI d)), (2, .int (nI m3)), (1, .int (nI v)), (0, .ref h)]) hx hb dX0_survey_57 hl (by decide) rfl (fun ls hl => ?_)
    have hl : lv_has ls 14 [(7, .int (nI 0)), (6, .int (nI m2)), (5, .int (nI (40 - d))), (4, .int (nI (v - (d * (w 3))))), (3, .int (nI d)), (2, .int (nI m3)), (1, .int (nI v)), (0, .ref h)] := lv_sub hl [0, 1, 2, 3, 4, 5, 6, 7] rfl
    refine zz_loop (fun ls H locs (u : Nat × (Nat → Int32) × Nat × Nat × (Nat → Nat)) => lv_has ls 14 [(7, .int (nI u.1)), (6, .int (nI m2)), (5, .int (nI (40 - d))), (4, .int (nI (v - (d * (w 3))))), (3, .int (nI d)), (2, .int (nI m3)), (1, .int (nI v)), (0, .ref h)] ∧ va_P D vwCl (nmW cI h a1 a2 a3 a4 wf nf u.2.1 (nI u.2.2.1) (nI u.2.2.2.1) ff fr) H ∧ va_D A (nmW cI h a1 a2 a3 a4 wf nf u.2.1 (nI u.2.2.1) (nI u.2.2.2.1) ff fr) ∧ va_S A s.heap H locs ∧ (0 < u.2.2.2.1 → ∀ j, j < 4 → u.2.1 j = nI (u.2.2.2.2 j)) ∧ mx_I w n v (mx_k 0 u.1 d) u.2.2.2.1 u.2.2.1 u.2.2.2.2 ∧ u.1 ≤ m2 + 1) (fun u => m2 + 1 - u.1) ?_ (0, bf, b, cnt, bm) ⟨hl, hP, hD, hS, hbm, hI3, Nat.zero_le _⟩
    rintro ls H locs ⟨c2, bf, b, cnt, bm⟩ ⟨hl, hP, hD, hS, hbm, hI2, hc⟩ k2
    dsimp only at hl hP hD hbm hI2 hc k2
    have hm20 := mx_le (x := m2) (n := n 2) (w := w 2) (amt := v - d * w 3) (room := 40 - d) (Nat.le_of_eq hm2)
    refine lv_iload hx hb dX0_survey_59 (lv_at hl 0 rfl) ?_
    refine lv_iload hx hb dX0_survey_61 (lv_at hl 1 rfl) ?_
    refine zn_gt hx hb (by omega) (by omega) dX0_survey_63 rfl (fun hc2 => ?_) (fun hc2 => ?_)
    · have hd2 : c2 = m2 + 1 := by omega
      rw [hd2, hm2] at hI2
      have hI3 := mx_Iskip hI2 (by have := hm20.2.1; rw [hm2] at this; unfold mx_k; omega) (mx_skip2 r0)
      refine lv_iinc (k := 4) (lv' := [(3, .int (nI (d + 1))), (7, .int (nI c2)), (6, .int (nI m2)), (5, .int (nI (40 - d))), (4, .int (nI (v - (d * (w 3))))), (2, .int (nI m3)), (1, .int (nI v)), (0, .ref h)]) hx hb dX0_survey_173 hl rfl (zz_i1 _) (by decide) rfl (fun ls hl => ?_)
      refine lv_goto hx hb dX0_survey_176 rfl ?_
      have hl : lv_has ls 14 [(3, .int (nI (d + 1))), (2, .int (nI m3)), (1, .int (nI v)), (0, .ref h)] := lv_sub hl [0, 5, 6, 7] rfl
      exact k3 _ _ _ (d + 1, bf, b, cnt, bm) ⟨hl, hP, hD, hS, hbm, hI3, by show d + 1 ≤ m3 + 1; omega⟩ (by show m3 + 1 - (d + 1) < m3 + 1 - d; omega)
    · obtain ⟨e1, e2, e3⟩ := mx_le (x := c2) (n := n 2) (w := w 2) (amt := v - d * w 3) (room := 40 - d) (by rw [← hm2]; exact hc2)
      refine lv_iload hx hb dX0_survey_66 (lv_at hl 3 rfl) ?_
      refine lv_iload hx hb dX0_survey_68 (lv_at hl 0 rfl) ?_
      refine lv_aload_n hx hb dX0_survey_70 rfl (lv_at hl 7 rfl) ?_
      refine va_get (D := D) (ci := 0) (v := .ref a1) (C := RX0) (T := TX0) (N := 6) hx hb hts (inX0_survey) hown hK hP 0 rfl rfl 0 (by decide) (hts (.fieldLink RX0 9 "NoteMix" "worthOf" "[I") (by decide +kernel)) (fun _ h9 => h9) rfl dX0_survey_71 ?_
      refine lv_iconst (v := nI 2) hx hb dX0_survey_74 (by decide +kernel) ?_
      refine zn_iald (k := 2) hx hb hK hP 1 _ rfl hI (by omega) (by decide) (ok.1 2 (by omega)) dX0_survey_75 ?_
      refine zn_mul hx hb dX0_survey_76 ?_
      refine zn_sub hx hb e3 dX0_survey_77 ?_
      refine lv_istore (lv' := [(8, .int (nI ((v - (d * (w 3))) - (c2 * (w 2))))), (7, .int (nI c2)), (6, .int (nI m2)), (5, .int (nI (40 - d))), (4, .int (nI (v - (d * (w 3))))), (3, .int (nI d)), (2, .int (nI m3)), (1, .int (nI v)), (0, .ref h)]) hx hb dX0_survey_78 hl (by decide) rfl (fun ls hl => ?_)
      refine lv_iload hx hb dX0_survey_80 (lv_at hl 3 rfl) ?_
      refine lv_iload hx hb dX0_survey_82 (lv_at hl 1 rfl) ?_
      refine zn_sub hx hb (by omega) dX0_survey_84 ?_
      refine lv_istore (lv' := [(9, .int (nI ((40 - d) - c2))), (8, .int (nI ((v - (d * (w 3))) - (c2 * (w 2))))), (7, .int (nI c2)), (6, .int (nI m2)), (5, .int (nI (40 - d))), (4, .int (nI (v - (d * (w 3))))), (3, .int (nI d)), (2, .int (nI m3)), (1, .int (nI v)), (0, .ref h)]) hx hb dX0_survey_85 hl (by decide) rfl (fun ls hl => ?_)
      refine lv_aload_n hx hb dX0_survey_87 rfl (lv_at hl 9 rfl) ?_
      refine lv_iconst (v := nI 1) hx hb dX0_survey_88 (by decide +kernel) ?_
      refine lv_iload hx hb dX0_survey_89 (lv_at hl 1 rfl) ?_
      refine lv_iload hx hb dX0_survey_91 (lv_at hl 0 rfl) ?_
      refine zz_callVi (As := [.int (nI 1), .int (nI ((v - (d * (w 3))) - (c2 * (w 2)))), .int (nI ((40 - d) - c2))]) (rest := []) F hK hP hD hS hA (c_mostNotes l D tys cI hI h a1 a2 a3 a4 fr _ wf nf bf (nI b) (nI cnt) ff w n ok 1 (v - d * w 3 - c2 * w 2) (40 - d - c2) (by decide) (by omega) (by omega)) (cwV 3 hts gX0_survey_X0_mostNotes rfl rfl rfl (by decide +kernel) ⟨Nat.le_of_ble_eq_true rfl, Nat.le_of_ble_eq_true rfl⟩) 0 rfl rfl rfl hl.1 rfl (by decide) dX0_survey_93 ⟨Nat.le_of_ble_eq_true rfl, Nat.le_of_ble_eq_true rfl⟩ (fun rr _ H locs er hP hD hS => ?_)
      try dsimp only at er
      subst er
      obtain ⟨m1, hm1⟩ : ∃ z, z = mx_m (n 1) (w 1) (v - d * w 3 - c2 * w 2) (40 - d - c2) := ⟨_, rfl⟩
      rw [← hm1]
      refine lv_istore (lv' := [(10, .int (nI m1)), (9, .int (nI ((40 - d) - c2))), (8, .int (nI ((v - (d * (w 3))) - (c2 * (w 2))))), (7, .int (nI c2)), (6, .int (nI m2)), (5, .int (nI (40 - d))), (4, .int (nI (v - (d * (w 3))))), (3, .int (nI d)), (2, .int (nI m3)), (1, .int (nI v)), (0, .ref h)]) hx hb dX0_survey_96 hl (by decide) rfl (fun ls hl => ?_)
      refine lv_iconst (v := nI 0) hx hb dX0_survey_98 (by decide +kernel) ?_
      refine lv_istore (lv' := [(11, .int (nI 0)), (10, .int (nI m1)), (9, .int (nI ((40 - d) - c2))), (8, .int (nI ((v - (d * (w 3))) - (c2 * (w 2))))), (7, .int (nI c2)), (6, .int (nI m2)), (5, .int (nI (40 - d))), (4, .int (nI (v - (d * (w 3))))), (3, .int (nI d)), (2, .int (nI m3)), (1, .int (nI v)), (0, .ref h)]) hx hb dX0_survey_99 hl (by decide) rfl (fun ls hl => ?_)
      have hl : lv_has ls 14 [(11, .int (nI 0)), (10, .int (nI m1)), (9, .int (nI ((40 - d) - c2))), (8, .int (nI ((v - (d * (w 3))) - (c2 * (w 2))))), (7, .int (nI c2)), (6, .int (nI m2)), (5, .int (nI (40 - d))), (4, .int (nI (v - (d * (w 3))))), (3, .int (nI d)), (2, .int (nI m3)), (1, .int (nI v)), (0, .ref h)] := lv_sub hl [0, 1, 2, 3, 4, 5, 6, 7, 8, 9, 10, 11] rfl
      refine zz_loop (fun ls H locs (u : Nat × (Nat → Int32) × Nat × Nat × (Nat → Nat)) => lv_has ls 14 [(11, .int (nI u.1)), (10, .int (nI m1)), (9, .int (nI ((40 - d) - c2))), (8, .int (nI ((v - (d * (w 3))) - (c2 * (w 2))))), (7, .int (nI c2)), (6, .int (nI m2)), (5, .int (nI (40 - d))), (4, .int (nI (v - (d * (w 3))))), (3, .int (nI d)), (2, .int (nI m3)), (1, .int (nI v)), (0, .ref h)] ∧ va_P D vwCl (nmW cI h a1 a2 a3 a4 wf nf u.2.1 (nI u.2.2.1) (nI u.2.2.2.1) ff fr) H ∧ va_D A (nmW cI h a1 a2 a3 a4 wf nf u.2.1 (nI u.2.2.1) (nI u.2.2.2.1) ff fr) ∧ va_S A s.heap H locs ∧ (0 < u.2.2.2.1 → ∀ j, j < 4 → u.2.1 j = nI (u.2.2.2.2 j)) ∧ mx_I w n v (mx_k u.1 c2 d) u.2.2.2.1 u.2.2.1 u.2.2.2.2 ∧ u.1 ≤ m1 + 1) (fun u => m1 + 1 - u.1) ?_ (0, bf, b, cnt, bm) ⟨hl, hP, hD, hS, hbm, hI2, Nat.zero_le _⟩
      rintro ls H locs ⟨b1, bf, b, cnt, bm⟩ ⟨hl, hP, hD, hS, hbm, hI1, hb1⟩ k1
      dsimp only at hl hP hD hbm hI1 hb1 k1
      have hm10 := mx_le (x := m1) (n := n 1) (w := w 1) (amt := v - d * w 3 - c2 * w 2) (room := 40 - d - c2) (Nat.le_of_eq hm1)
      refine lv_iload hx hb dX0_survey_101 (lv_at hl 0 rfl) ?_
      refine lv_iload hx hb dX0_survey_103 (lv_at hl 1 rfl) ?_
      refine zn_gt hx hb (by omega) (by omega) dX0_survey_105 rfl (fun hc1 => ?_) (fun hc1 => ?_)
      · have hd1 : b1 = m1 + 1 := by omega
        rw [hd1, hm1] at hI1
        have hI2 := mx_Iskip hI1 (by have := hm10.2.1; rw [hm1] at this; unfold mx_k; omega) (mx_skip1 q0 (by omega))
        refine lv_iinc (k := 4) (lv' := [(7, .int (nI (c2 + 1))), (11, .int (nI b1)), (10, .int (nI m1)), (9, .int (nI ((40 - d) - c2))), (8, .int (nI ((v - (d * (w 3))) - (c2 * (w 2))))), (6, .int (nI m2)), (5, .int (nI (40 - d))), (4, .int (nI (v - (d * (w 3))))), (3, .int (nI d)), (2, .int (nI m3)), (1, .int (nI v)), (0, .ref h)]) hx hb dX0_survey_167 hl rfl (zz_i1 _) (by decide) rfl (fun ls hl => ?_)
        refine lv_goto hx hb dX0_survey_170 rfl ?_
        have hl : lv_has ls 14 [(7, .int (nI (c2 + 1))), (6, .int (nI m2)), (5, .int (nI (40 - d))), (4, .int (nI (v - (d * (w 3))))), (3, .int (nI d)), (2, .int (nI m3)), (1, .int (nI v)), (0, .ref h)] := lv_sub hl [0, 5, 6, 7, 8, 9, 10, 11] rfl
        exact k2 _ _ _ (c2 + 1, bf, b, cnt, bm) ⟨hl, hP, hD, hS, hbm, hI2, by show c2 + 1 ≤ m2 + 1; omega⟩ (by show m2 + 1 - (c2 + 1) < m2 + 1 - c2; omega)
      · obtain ⟨f1, f2, f3⟩ := mx_le (x := b1) (n := n 1) (w := w 1) (amt := v - d * w 3 - c2 * w 2) (room := 40 - d - c2) (by rw [← hm1]; exact hc1)
        have hb41 := mx_Ibs hI1
        refine lv_iload hx hb dX0_survey_108 (lv_at hl 3 rfl) ?_
        refine lv_iload hx hb dX0_survey_110 (lv_at hl 0 rfl) ?_
        refine lv_aload_n hx hb dX0_survey_112 rfl (lv_at hl 11 rfl) ?_
        refine va_get (D := D) (ci := 0) (v := .ref a1) (C := RX0) (T := TX0) (N := 6) hx hb hts (inX0_survey) hown hK hP 0 rfl rfl 0 (by decide) (hts (.fieldLink RX0 9 "NoteMix" "worthOf" "[I") (by decide +kernel)) (fun _ h9 => h9) rfl dX0_survey_113 ?_
        refine lv_iconst (v := nI 1) hx hb dX0_survey_116 (by decide +kernel) ?_
        refine zn_iald (k := 1) hx hb hK hP 1 _ rfl hI (by omega) (by decide) (ok.1 1 (by omega)) dX0_survey_117 ?_
        refine zn_mul hx hb dX0_survey_118 ?_
        refine zn_sub hx hb f3 dX0_survey_119 ?_
        refine lv_istore (lv' := [(12, .int (nI (((v - (d * (w 3))) - (c2 * (w 2))) - (b1 * (w 1))))), (11, .int (nI b1)), (10, .int (nI m1)), (9, .int (nI ((40 - d) - c2))), (8, .int (nI ((v - (d * (w 3))) - (c2 * (w 2))))), (7, .int (nI c2)), (6, .int (nI m2)), (5, .int (nI (40 - d))), (4, .int (nI (v - (d * (w 3))))), (3, .int (nI d)), (2, .int (nI m3)), (1, .int (nI v)), (0, .ref h)]) hx hb dX0_survey_120 hl (by decide) rfl (fun ls hl => ?_)
        refine lv_aload_n hx hb dX0_survey_122 rfl (lv_at hl 12 rfl) ?_
        refine lv_iconst (v := nI 0) hx hb dX0_survey_123 (by decide +kernel) ?_
        refine lv_iload hx hb dX0_survey_124 (lv_at hl 0 rfl) ?_
        refine lv_iload hx hb dX0_survey_126 (lv_at hl 3 rfl) ?_
        refine lv_iload hx hb dX0_survey_128 (lv_at hl 1 rfl) ?_
        refine zn_sub hx hb (by omega) dX0_survey_130 ?_
        refine zz_callVi (As := [.int (nI 0), .int (nI (((v - (d * (w 3))) - (c2 * (w 2))) - (b1 * (w 1)))), .int (nI (((40 - d) - c2) - b1))]) (rest := []) F hK hP hD hS hA (c_mostNotes l D tys cI hI h a1 a2 a3 a4 fr _ wf nf bf (nI b) (nI cnt) ff w n ok 0 (v - d * w 3 - c2 * w 2 - b1 * w 1) (40 - d - c2 - b1) (by decide) (by omega) (by omega)) (cwV 3 hts gX0_survey_X0_mostNotes rfl rfl rfl (by decide +kernel) ⟨Nat.le_of_ble_eq_true rfl, Nat.le_of_ble_eq_true rfl⟩) 0 rfl rfl rfl hl.1 rfl (by decide) dX0_survey_131 ⟨Nat.le_of_ble_eq_true rfl, Nat.le_of_ble_eq_true rfl⟩ (fun rr _ H locs er hP hD hS => ?_)
        try dsimp only at er
        subst er
        obtain ⟨g1, g2, g3⟩ := mx_le (x := mx_m (n 0) (w 0) (v - d * w 3 - c2 * w 2 - b1 * w 1) (40 - d - c2 - b1)) (Nat.le_refl _)
        have hlast := @mx_last w n v b1 c2 d (v - d * w 3 - c2 * w 2 - b1 * w 1) p0 f1 e1 d1 (by omega) (by omega)
        have hnolast := @mx_nolast w n v b1 c2 d (v - d * w 3 - c2 * w 2 - b1 * w 1) p0 (by omega)
        generalize mx_m (n 0) (w 0) (v - d * w 3 - c2 * w 2 - b1 * w 1) (40 - d - c2 - b1) = x0 at g1 g2 g3 hlast hnolast ⊢
        refine lv_istore (lv' := [(13, .int (nI x0)), (12, .int (nI (((v - (d * (w 3))) - (c2 * (w 2))) - (b1 * (w 1))))), (11, .int (nI b1)), (10, .int (nI m1)), (9, .int (nI ((40 - d) - c2))), (8, .int (nI ((v - (d * (w 3))) - (c2 * (w 2))))), (7, .int (nI c2)), (6, .int (nI m2)), (5, .int (nI (40 - d))), (4, .int (nI (v - (d * (w 3))))), (3, .int (nI d)), (2, .int (nI m3)), (1, .int (nI v)), (0, .ref h)]) hx hb dX0_survey_134 hl (by decide) rfl (fun ls hl => ?_)
        refine lv_iload hx hb dX0_survey_136 (lv_at hl 0 rfl) ?_
        refine lv_aload_n hx hb dX0_survey_138 rfl (lv_at hl 13 rfl) ?_
        refine va_get (D := D) (ci := 0) (v := .ref a1) (C := RX0) (T := TX0) (N := 6) hx hb hts (inX0_survey) hown hK hP 0 rfl rfl 0 (by decide) (hts (.fieldLink RX0 9 "NoteMix" "worthOf" "[I") (by decide +kernel)) (fun _ h9 => h9) rfl dX0_survey_139 ?_
        refine lv_iconst (v := nI 0) hx hb dX0_survey_142 (by decide +kernel) ?_
        refine zn_iald (k := 0) hx hb hK hP 1 _ rfl hI (by omega) (by decide) (ok.1 0 (by omega)) dX0_survey_143 ?_
        refine zn_mul hx hb dX0_survey_144 ?_
        refine lv_iload hx hb dX0_survey_145 (lv_at hl 1 rfl) ?_
        refine zn_ne hx hb (by omega) (by omega) dX0_survey_147 rfl (fun hq => ?_) (fun hq => ?_)
        · refine lv_iinc (k := 2) (lv' := [(11, .int (nI (b1 + 1))), (13, .int (nI x0)), (12, .int (nI (((v - (d * (w 3))) - (c2 * (w 2))) - (b1 * (w 1))))), (10, .int (nI m1)), (9, .int (nI ((40 - d) - c2))), (8, .int (nI ((v - (d * (w 3))) - (c2 * (w 2))))), (7, .int (nI c2)), (6, .int (nI m2)), (5, .int (nI (40 - d))), (4, .int (nI (v - (d * (w 3))))), (3, .int (nI d)), (2, .int (nI m3)), (1, .int (nI v)), (0, .ref h)]) hx hb dX0_survey_161 hl rfl (zz_i1 _) (by decide) rfl (fun ls hl => ?_)
          refine lv_goto hx hb dX0_survey_164 rfl ?_
          have hl : lv_has ls 14 [(11, .int (nI (b1 + 1))), (10, .int (nI m1)), (9, .int (nI ((40 - d) - c2))), (8, .int (nI ((v - (d * (w 3))) - (c2 * (w 2))))), (7, .int (nI c2)), (6, .int (nI m2)), (5, .int (nI (40 - d))), (4, .int (nI (v - (d * (w 3))))), (3, .int (nI d)), (2, .int (nI m3)), (1, .int (nI v)), (0, .ref h)] := lv_sub hl [0, 3, 4, 5, 6, 7, 8, 9, 10, 11, 12, 13] rfl
          have hI9 : mx_I w n v (mx_k (b1 + 1) c2 d) (cnt) (b) bm := by rw [mx_ks]; exact (mx_Inone (by omega) (by omega) hI1 (hnolast hq))
          exact k1 _ _ _ (b1 + 1, bf, b, cnt, bm) ⟨hl, hP, hD, hS, hbm, hI9, by show b1 + 1 ≤ m1 + 1; omega⟩ (by show m1 + 1 - (b1 + 1) < m1 + 1 - b1; omega)
        · refine lv_aload_n hx hb dX0_survey_150 rfl (lv_at hl 13 rfl) ?_
          refine lv_iload hx hb dX0_survey_151 (lv_at hl 0 rfl) ?_
          refine lv_iload hx hb dX0_survey_153 (lv_at hl 2 rfl) ?_
          refine lv_iload hx hb dX0_survey_155 (lv_at hl 6 rfl) ?_
          refine lv_iload_n hx hb dX0_survey_157 rfl (lv_at hl 10 rfl) ?_
          have hmix := hlast hq
          refine zz_callVv (As := [.int (nI x0), .int (nI b1), .int (nI c2), .int (nI d)]) (rest := []) F hK hP hD hS hA (c_keepMix l D tys cI hI h a1 a2 a3 a4 fr _ wf nf bf b cnt ff x0 b1 c2 d hb41 (by omega)) (cwV 4 hts gX0_survey_X0_keepMix rfl rfl rfl (by decide +kernel) ⟨Nat.le_of_ble_eq_true rfl, Nat.le_of_ble_eq_true rfl⟩) 0 rfl rfl rfl hl.1 rfl (by decide) dX0_survey_158 ⟨Nat.le_of_ble_eq_true rfl, Nat.le_of_ble_eq_true rfl⟩ (fun u H locs hu hP hD hS => ?_)
          obtain ⟨bf1, bs1, mc1⟩ := u
          obtain ⟨hu1, hu2, hu3⟩ := hu
          dsimp only at hu1 hu2 hu3
          subst hu1
          by_cases hsz : x0 + b1 + c2 + d ≤ b
          · obtain ⟨z0, z1, z2, z3, z4⟩ := hu2 hsz
            subst z0
            have hP : va_P D vwCl (nmW cI h a1 a2 a3 a4 wf nf bf1 (nI (x0 + b1 + c2 + d)) (nI (cnt + 1)) ff fr) H := hP
            have hD : va_D A (nmW cI h a1 a2 a3 a4 wf nf bf1 (nI (x0 + b1 + c2 + d)) (nI (cnt + 1)) ff fr) := hD
            refine lv_iinc (k := 2) (lv' := [(11, .int (nI (b1 + 1))), (13, .int (nI x0)), (12, .int (nI (((v - (d * (w 3))) - (c2 * (w 2))) - (b1 * (w 1))))), (10, .int (nI m1)), (9, .int (nI ((40 - d) - c2))), (8, .int (nI ((v - (d * (w 3))) - (c2 * (w 2))))), (7, .int (nI c2)), (6, .int (nI m2)), (5, .int (nI (40 - d))), (4, .int (nI (v - (d * (w 3))))), (3, .int (nI d)), (2, .int (nI m3)), (1, .int (nI v)), (0, .ref h)]) hx hb dX0_survey_161 hl rfl (zz_i1 _) (by decide) rfl (fun ls hl => ?_)
            refine lv_goto hx hb dX0_survey_164 rfl ?_
            have hl : lv_has ls 14 [(11, .int (nI (b1 + 1))), (10, .int (nI m1)), (9, .int (nI ((40 - d) - c2))), (8, .int (nI ((v - (d * (w 3))) - (c2 * (w 2))))), (7, .int (nI c2)), (6, .int (nI m2)), (5, .int (nI (40 - d))), (4, .int (nI (v - (d * (w 3))))), (3, .int (nI d)), (2, .int (nI m3)), (1, .int (nI v)), (0, .ref h)] := lv_sub hl [0, 3, 4, 5, 6, 7, 8, 9, 10, 11, 12, 13] rfl
            have hI9 : mx_I w n v (mx_k (b1 + 1) c2 d) (cnt + 1) (x0 + b1 + c2 + d) (fun j => if j = 0 then x0 else if j = 1 then b1 else if j = 2 then c2 else d) := by rw [mx_ks]; exact (mx_Ifound p0 hI1 hmix hsz rfl rfl rfl rfl)
            exact k1 _ _ _ (b1 + 1, bf1, x0 + b1 + c2 + d, cnt + 1, (fun j => if j = 0 then x0 else if j = 1 then b1 else if j = 2 then c2 else d)) ⟨hl, hP, hD, hS, (fun _ j hj => by rcases (show j = 0 ∨ j = 1 ∨ j = 2 ∨ j = 3 by omega) with rfl | rfl | rfl | rfl <;> assumption), hI9, by show b1 + 1 ≤ m1 + 1; omega⟩ (by show m1 + 1 - (b1 + 1) < m1 + 1 - b1; omega)
          · obtain ⟨z0, z1⟩ := hu3 (by omega)
            rw [z0, z1] at hP hD
            have hP : va_P D vwCl (nmW cI h a1 a2 a3 a4 wf nf bf (nI b) (nI (cnt + 1)) ff fr) H := hP
            have hD : va_D A (nmW cI h a1 a2 a3 a4 wf nf bf (nI b) (nI (cnt + 1)) ff fr) := hD
            refine lv_iinc (k := 2) (lv' := [(11, .int (nI (b1 + 1))), (13, .int (nI x0)), (12, .int (nI (((v - (d * (w 3))) - (c2 * (w 2))) - (b1 * (w 1))))), (10, .int (nI m1)), (9, .int (nI ((40 - d) - c2))), (8, .int (nI ((v - (d * (w 3))) - (c2 * (w 2))))), (7, .int (nI c2)), (6, .int (nI m2)), (5, .int (nI (40 - d))), (4, .int (nI (v - (d * (w 3))))), (3, .int (nI d)), (2, .int (nI m3)), (1, .int (nI v)), (0, .ref h)]) hx hb dX0_survey_161 hl rfl (zz_i1 _) (by decide) rfl (fun ls hl => ?_)
            refine lv_goto hx hb dX0_survey_164 rfl ?_
            have hl : lv_has ls 14 [(11, .int (nI (b1 + 1))), (10, .int (nI m1)), (9, .int (nI ((40 - d) - c2))), (8, .int (nI ((v - (d * (w 3))) - (c2 * (w 2))))), (7, .int (nI c2)), (6, .int (nI m2)), (5, .int (nI (40 - d))), (4, .int (nI (v - (d * (w 3))))), (3, .int (nI d)), (2, .int (nI m3)), (1, .int (nI v)), (0, .ref h)] := lv_sub hl [0, 3, 4, 5, 6, 7, 8, 9, 10, 11, 12, 13] rfl
            have hI9 : mx_I w n v (mx_k (b1 + 1) c2 d) (cnt + 1) (b) bm := by rw [mx_ks]; exact (mx_Ikeep p0 hI1 hmix (by omega))
            exact k1 _ _ _ (b1 + 1, bf, b, cnt + 1, bm) ⟨hl, hP, hD, hS, (fun _ j hj => hbm (by rcases hI1.2.2 with ⟨_, q, _⟩ | ⟨q, _⟩ <;> omega) j hj), hI9, by show b1 + 1 ≤ m1 + 1; omega⟩ (by show m1 + 1 - (b1 + 1) < m1 + 1 - b1; omega)
end
section
set_option maxRecDepth 100000 in
set_option maxHeartbeats 4000000 in
theorem c_addCassette (l : Launch) (D : va_G) (tys : List (ClassId × FieldType)) (cI : ClassId) (hI : tys[0]? = some (cI, .int)) (h a1 a2 a3 a4 : Nat) (fr : va_W) (sz : Nat) (wf nf bf : Nat → Int32) (bs mc : Int32) (ff : Nat → Int32) (w n : Nat → Nat) (ok : nmOk wf nf w n) (f L : Nat → Nat) (hff : ∀ j, j ≤ 2000 → ff j = nI (f j)) (hF : rc_F w L f) (c : Nat) (hc : c < 4) (hL0 : L c = 0) : Met l yX0_addCassette wsX0_addCassette ({ frames := 2, cells := 0, slots := 0, locals := 60 }) (va_Pc [.ref h, .int (nI c)] (zz_pre D tys (nmW cI h a1 a2 a3 a4 wf nf bf bs mc ff fr) sz)) (va_Qv (fun (u : Nat → Int32) => ∃ (f1 L1 : Nat → Nat), (∀ j, j ≤ 2000 → u j = nI (f1 j)) ∧ L1 c = min (n c) 40 ∧ (∀ j, j < 4 → j ≠ c → L1 j = L j) ∧ rc_F w L1 f1) (zz_B D tys (va_A (nmW cI h a1 a2 a3 a4 wf nf bf bs mc ff fr) sz) (fun u => nmW cI h a1 a2 a3 a4 wf nf bf bs mc u fr)) (va_A (nmW cI h a1 a2 a3 a4 wf nf bf bs mc ff fr) sz)) 0 0 (va_A (nmW cI h a1 a2 a3 a4 wf nf bf bs mc ff fr) sz) := by
  refine zz_headV (cc := cX0_addCassette) (by decide) rfl (Nat.le_of_ble_eq_true rfl) ?_
  intro p e s m below meth cd A ls F hr hlocks hin hP hK hD hA hS hl
  obtain ⟨hx, hb, hml, hown, hts⟩ := id F
  have hl : lv_has ls 5 [(0, .ref h), (1, .int (nI c))] := hl
  obtain ⟨k1, k2, k3⟩ := ok.2.2 c hc
  refine lv_aload_n hx hb dX0_addCassette_0 rfl (lv_at hl 0 rfl) ?_
  refine va_get (D := D) (ci := 0) (v := .ref a2) (C := RX0) (T := TX0) (N := 6) hx hb hts (inX0_addCassette) hown hK hP 0 rfl rfl 1 (by decide) (hts (.fieldLink RX0 13 "NoteMix" "notesIn" "[I") (by decide +kernel)) (fun _ h9 => h9) rfl dX0_addCassette_1 ?_
  refine lv_iload_n hx hb dX0_addCassette_4 rfl (lv_at hl 1 rfl) ?_
  refine zn_iald (k := c) hx hb hK hP 2 _ rfl hI (by omega) (by decide) (ok.2.1 c (by omega)) dX0_addCassette_5 ?_
  refine lv_bipush (v := nI 40) hx hb dX0_addCassette_6 (by decide +kernel) ?_
  refine zn_min hx hb (hml.trans hl.1.symm) hown (hts (.methodLink RX0 40 Lib.Math.min.name) (by decide +kernel)) (hts (.static Lib.Math.min.name) (by decide +kernel)) (hts (.initialized "java/lang/Math") (by decide +kernel)) (hts (.code Lib.Math.min.name Lib.Math.min.code 2 (some .int)) (by decide +kernel)) (Nat.le_of_ble_eq_true rfl) (Nat.le_of_ble_eq_true rfl) (Nat.le_of_ble_eq_true rfl) (Nat.le_of_ble_eq_true rfl) (by omega) (by omega) dX0_addCassette_8 ?_
  refine lv_istore_n (lv' := [(2, .int (nI (min (n c) 40))), (0, .ref h), (1, .int (nI c))]) hx hb dX0_addCassette_11 rfl hl (by decide) rfl (fun ls hl => ?_)
  refine lv_iconst (v := nI 1) hx hb dX0_addCassette_12 (by decide +kernel) ?_
  refine lv_istore_n (lv' := [(3, .int (nI 1)), (2, .int (nI (min (n c) 40))), (0, .ref h), (1, .int (nI c))]) hx hb dX0_addCassette_13 rfl hl (by decide) rfl (fun ls hl => ?_)
  have hl : lv_has ls 5 [(3, .int (nI 1)), (2, .int (nI (min (n c) 40))), (1, .int (nI c)), (0, .ref h)] := lv_sub hl [0, 1, 3, 2] rfl
  refine zz_loop (fun ls H locs (u : Nat × Nat × (Nat → Int32) × (Nat → Nat) × (Nat → Nat)) => lv_has ls 5 [(3, .int (nI u.1)), (2, .int (nI u.2.1)), (1, .int (nI c)), (0, .ref h)] ∧ va_P D vwCl (nmW cI h a1 a2 a3 a4 wf nf bf bs mc u.2.2.1 fr) H ∧ va_D A (nmW cI h a1 a2 a3 a4 wf nf bf bs mc u.2.2.1 fr) ∧ va_S A s.heap H locs ∧ (∀ j, j ≤ 2000 → u.2.2.1 j = nI (u.2.2.2.1 j)) ∧ rc_F w u.2.2.2.2 u.2.2.2.1 ∧ (∀ j, j < 4 → j ≠ c → u.2.2.2.2 j = L j) ∧ u.2.2.2.2 c + u.2.1 = min (n c) 40 ∧ (u.2.2.2.2 c + 1 = u.1 ∨ u.2.1 = 0) ∧ u.1 ≤ 100) (fun u => u.2.1) ?_ (1, min (n c) 40, ff, f, L) ⟨hl, hP, hD, hS, hff, hF, fun _ _ _ => rfl, by show L c + min (n c) 40 = min (n c) 40; omega, Or.inl (by show L c + 1 = 1; omega), by show 1 ≤ 100; omega⟩
  rintro ls H locs ⟨size, left, g, f, L1⟩ ⟨hl, hP, hD, hS, hg, hF, hL1, hL2, hL3, hL4⟩ kk
  dsimp only at hl hP hD hg hF hL1 hL2 hL3 hL4 kk
  refine lv_iload_n hx hb dX0_addCassette_14 rfl (lv_at hl 0 rfl) ?_
  refine lv_bipush (v := nI 40) hx hb dX0_addCassette_15 (by decide +kernel) ?_
  refine zn_gt hx hb (by omega) (by omega) dX0_addCassette_17 rfl (fun hc1 => ?_) (fun hc1 => ?_)
  · exact zz_vret F hr hlocks hK hS dX0_addCassette_58 (by decide) (by decide) g ⟨f, L1, hg, by omega, hL1, hF⟩ hP hD
  · refine lv_iload_n hx hb dX0_addCassette_20 rfl (lv_at hl 1 rfl) ?_
    refine zn_if_le hx hb (by omega) dX0_addCassette_21 rfl (fun hc2 => ?_) (fun hc2 => ?_)
    · exact zz_vret F hr hlocks hK hS dX0_addCassette_58 (by decide) (by decide) g ⟨f, L1, hg, by omega, hL1, hF⟩ hP hD
    · refine lv_iload_n hx hb dX0_addCassette_24 rfl (lv_at hl 0 rfl) ?_
      refine lv_iload_n hx hb dX0_addCassette_25 rfl (lv_at hl 1 rfl) ?_
      refine zn_min hx hb (hml.trans hl.1.symm) hown (hts (.methodLink RX0 40 Lib.Math.min.name) (by decide +kernel)) (hts (.static Lib.Math.min.name) (by decide +kernel)) (hts (.initialized "java/lang/Math") (by decide +kernel)) (hts (.code Lib.Math.min.name Lib.Math.min.code 2 (some .int)) (by decide +kernel)) (Nat.le_of_ble_eq_true rfl) (Nat.le_of_ble_eq_true rfl) (Nat.le_of_ble_eq_true rfl) (Nat.le_of_ble_eq_true rfl) (by omega) (by omega) dX0_addCassette_26 ?_
      obtain ⟨k, hk⟩ : ∃ k, k = min size left := ⟨_, rfl⟩
      rw [← hk]
      have hkw : 1 ≤ k * w c := Nat.mul_pos (show 0 < k by omega) k1
      have hkw2 : k * w c ≤ 40 * 500 := Nat.mul_le_mul (by omega) k2
      refine lv_istore (lv' := [(4, .int (nI k)), (3, .int (nI size)), (2, .int (nI left)), (1, .int (nI c)), (0, .ref h)]) hx hb dX0_addCassette_29 hl (by decide) rfl (fun ls hl => ?_)
      refine lv_aload_n hx hb dX0_addCassette_31 rfl (lv_at hl 4 rfl) ?_
      refine lv_iload hx hb dX0_addCassette_32 (lv_at hl 0 rfl) ?_
      refine lv_iload hx hb dX0_addCassette_34 (lv_at hl 0 rfl) ?_
      refine lv_aload_n hx hb dX0_addCassette_36 rfl (lv_at hl 4 rfl) ?_
      refine va_get (D := D) (ci := 0) (v := .ref a1) (C := RX0) (T := TX0) (N := 6) hx hb hts (inX0_addCassette) hown hK hP 0 rfl rfl 0 (by decide) (hts (.fieldLink RX0 9 "NoteMix" "worthOf" "[I") (by decide +kernel)) (fun _ h9 => h9) rfl dX0_addCassette_37 ?_
      refine lv_iload_n hx hb dX0_addCassette_40 rfl (lv_at hl 3 rfl) ?_
      refine zn_iald (k := c) hx hb hK hP 1 _ rfl hI (by omega) (by decide) (ok.1 c (by omega)) dX0_addCassette_41 ?_
      refine zn_mul hx hb dX0_addCassette_42 ?_
      refine zz_callVv (As := [.int (nI k), .int (nI (k * (w c)))]) (rest := []) F hK hP hD hS hA (c_addBundle l D tys cI hI h a1 a2 a3 a4 fr _ wf nf bf bs mc g f hg (fun j hj => (hF j hj).1) k (k * w c) (by omega) hkw (by omega)) (cwV 2 hts gX0_addCassette_X0_addBundle rfl rfl rfl (by decide +kernel) ⟨Nat.le_of_ble_eq_true rfl, Nat.le_of_ble_eq_true rfl⟩) 0 rfl rfl rfl hl.1 rfl (by decide) dX0_addCassette_43 ⟨Nat.le_of_ble_eq_true rfl, Nat.le_of_ble_eq_true rfl⟩ (fun g1 H locs hg1 hP hD hS => ?_)
      have hP : va_P D vwCl (nmW cI h a1 a2 a3 a4 wf nf bf bs mc g1 fr) H := hP
      have hD : va_D A (nmW cI h a1 a2 a3 a4 wf nf bf bs mc g1 fr) := hD
      refine lv_iload_n hx hb dX0_addCassette_46 rfl (lv_at hl 2 rfl) ?_
      refine lv_iload hx hb dX0_addCassette_47 (lv_at hl 0 rfl) ?_
      refine zn_sub hx hb (by omega) dX0_addCassette_49 ?_
      refine lv_istore_n (lv' := [(2, .int (nI (left - k))), (4, .int (nI k)), (3, .int (nI size)), (1, .int (nI c)), (0, .ref h)]) hx hb dX0_addCassette_50 rfl hl (by decide) rfl (fun ls hl => ?_)
      refine lv_iload_n hx hb dX0_addCassette_51 rfl (lv_at hl 2 rfl) ?_
      refine lv_iconst (v := nI 2) hx hb dX0_addCassette_52 (by decide +kernel) ?_
      refine zn_mul hx hb dX0_addCassette_53 ?_
      refine lv_istore_n (lv' := [(3, .int (nI (size * 2))), (2, .int (nI (left - k))), (4, .int (nI k)), (1, .int (nI c)), (0, .ref h)]) hx hb dX0_addCassette_54 rfl hl (by decide) rfl (fun ls hl => ?_)
      refine lv_goto hx hb dX0_addCassette_55 rfl ?_
      have hl : lv_has ls 5 [(3, .int (nI (size * 2))), (2, .int (nI (left - k))), (1, .int (nI c)), (0, .ref h)] := lv_sub hl [0, 1, 3, 4] rfl
      exact kk _ _ _ (size * 2, left - k, g1, (fun j => if k * w c ≤ j then min (f j) (f (j - k * w c) + k) else f j), (fun j => if j = c then L1 c + k else L1 j)) ⟨hl, hP, hD, hS, hg1, rc_step (k := k) hc (fun j _ hj => if_neg hj) (if_pos rfl) (by omega) hF (fun v _ hv => if_pos hv) (fun v _ hv => if_neg (by omega)), fun j hj hjc => (if_neg hjc).trans (hL1 j hj hjc), by show (if c = c then L1 c + k else L1 c) + (left - k) = _; rw [if_pos rfl]; omega, by show (if c = c then L1 c + k else L1 c) + 1 = size * 2 ∨ left - k = 0; rw [if_pos rfl]; omega, by show size * 2 ≤ 100; omega⟩ (by show left - k < left; omega)
end
section
set_option maxRecDepth 100000 in
set_option maxHeartbeats 4000000 in
theorem c_value (l : Launch) (D : va_G) (tys : List (ClassId × FieldType)) (cI : ClassId) (hI : tys[0]? = some (cI, .int)) (h a1 a2 a3 a4 : Nat) (fr : va_W) (sz : Nat) (wf nf bf : Nat → Int32) (bs mc : Int32) (ff : Nat → Int32) (w n : Nat → Nat) (ok : nmOk wf nf w n) : Met l yX0_value wsX0_value ({ frames := 0, cells := 0, slots := 0, locals := 0 }) (va_Pc [.ref h] (zz_pre D tys (nmW cI h a1 a2 a3 a4 wf nf bf bs mc ff fr) sz)) (va_Qi (fun r (_ : Unit) => r = nI (0 + n 0 * w 0 + n 1 * w 1 + n 2 * w 2 + n 3 * w 3)) (zz_B D tys (va_A (nmW cI h a1 a2 a3 a4 wf nf bf bs mc ff fr) sz) (fun _ => nmW cI h a1 a2 a3 a4 wf nf bf bs mc ff fr)) (va_A (nmW cI h a1 a2 a3 a4 wf nf bf bs mc ff fr) sz)) 0 0 (va_A (nmW cI h a1 a2 a3 a4 wf nf bf bs mc ff fr) sz) := by
  refine zz_headI (cc := cX0_value) (by decide) rfl (Nat.le_of_ble_eq_true rfl) ?_
  intro p e s m below meth cd A ls F hr hlocks hP hK hD hA hS hl
  obtain ⟨hx, hb, hml, hown, hts⟩ := id F
  have hl : lv_has ls 3 [(0, .ref h)] := hl
  obtain ⟨p0, q0, r0⟩ := ok.2.2 0 (by decide)
  obtain ⟨p1, q1, r1⟩ := ok.2.2 1 (by decide)
  obtain ⟨p2, q2, r2⟩ := ok.2.2 2 (by decide)
  obtain ⟨p3, q3, r3⟩ := ok.2.2 3 (by decide)
  refine lv_iconst (v := nI 0) hx hb dX0_value_0 (by decide +kernel) ?_
  refine lv_istore_n (lv' := [(1, .int (nI 0)), (0, .ref h)]) hx hb dX0_value_1 rfl hl (by decide) rfl (fun ls hl => ?_)
  refine lv_iconst (v := nI 0) hx hb dX0_value_2 (by decide +kernel) ?_
  refine lv_istore_n (lv' := [(2, .int (nI 0)), (1, .int (nI 0)), (0, .ref h)]) hx hb dX0_value_3 rfl hl (by decide) rfl (fun ls hl => ?_)
  refine lv_iload_n hx hb dX0_value_4 rfl (lv_at hl 0 rfl) ?_
  refine lv_iconst (v := nI 3) hx hb dX0_value_5 (by decide +kernel) ?_
  refine zn_gt hx hb (by decide) (by decide) dX0_value_6 rfl (fun hc => absurd hc (by decide)) (fun _ => ?_)
  refine lv_iload_n hx hb dX0_value_9 rfl (lv_at hl 1 rfl) ?_
  refine lv_aload_n hx hb dX0_value_10 rfl (lv_at hl 2 rfl) ?_
  refine va_get (D := D) (ci := 0) (v := .ref a2) (C := RX0) (T := TX0) (N := 6) hx hb hts (inX0_value) hown hK hP 0 rfl rfl 1 (by decide) (hts (.fieldLink RX0 13 "NoteMix" "notesIn" "[I") (by decide +kernel)) (fun _ h9 => h9) rfl dX0_value_11 ?_
  refine lv_iload_n hx hb dX0_value_14 rfl (lv_at hl 0 rfl) ?_
  refine zn_iald (k := 0) hx hb hK hP 2 _ rfl hI (by decide) (by decide) (ok.2.1 0 (by omega)) dX0_value_15 ?_
  refine lv_aload_n hx hb dX0_value_16 rfl (lv_at hl 2 rfl) ?_
  refine va_get (D := D) (ci := 0) (v := .ref a1) (C := RX0) (T := TX0) (N := 6) hx hb hts (inX0_value) hown hK hP 0 rfl rfl 0 (by decide) (hts (.fieldLink RX0 9 "NoteMix" "worthOf" "[I") (by decide +kernel)) (fun _ h9 => h9) rfl dX0_value_17 ?_
  refine lv_iload_n hx hb dX0_value_20 rfl (lv_at hl 0 rfl) ?_
  refine zn_iald (k := 0) hx hb hK hP 1 _ rfl hI (by decide) (by decide) (ok.1 0 (by omega)) dX0_value_21 ?_
  refine zn_mul hx hb dX0_value_22 ?_
  refine zn_add hx hb dX0_value_23 ?_
  refine lv_istore_n (lv' := [(1, .int (nI (0 + ((n 0) * (w 0))))), (2, .int (nI 0)), (0, .ref h)]) hx hb dX0_value_24 rfl hl (by decide) rfl (fun ls hl => ?_)
  refine lv_iinc (k := 1) (lv' := [(2, .int (nI (0 + 1))), (1, .int (nI (0 + ((n 0) * (w 0))))), (0, .ref h)]) hx hb dX0_value_25 hl rfl (zz_i1 _) (by decide) rfl (fun ls hl => ?_)
  have hl : lv_has ls 3 [(2, .int (nI 1)), (1, .int (nI (0 + ((n 0) * (w 0))))), (0, .ref h)] := hl
  refine lv_goto hx hb dX0_value_28 rfl ?_
  refine lv_iload_n hx hb dX0_value_4 rfl (lv_at hl 0 rfl) ?_
  refine lv_iconst (v := nI 3) hx hb dX0_value_5 (by decide +kernel) ?_
  refine zn_gt hx hb (by decide) (by decide) dX0_value_6 rfl (fun hc => absurd hc (by decide)) (fun _ => ?_)
  refine lv_iload_n hx hb dX0_value_9 rfl (lv_at hl 1 rfl) ?_
  refine lv_aload_n hx hb dX0_value_10 rfl (lv_at hl 2 rfl) ?_
  refine va_get (D := D) (ci := 0) (v := .ref a2) (C := RX0) (T := TX0) (N := 6) hx hb hts (inX0_value) hown hK hP 0 rfl rfl 1 (by decide) (hts (.fieldLink RX0 13 "NoteMix" "notesIn" "[I") (by decide +kernel)) (fun _ h9 => h9) rfl dX0_value_11 ?_
  refine lv_iload_n hx hb dX0_value_14 rfl (lv_at hl 0 rfl) ?_
  refine zn_iald (k := 1) hx hb hK hP 2 _ rfl hI (by decide) (by decide) (ok.2.1 1 (by omega)) dX0_value_15 ?_
  refine lv_aload_n hx hb dX0_value_16 rfl (lv_at hl 2 rfl) ?_
  refine va_get (D := D) (ci := 0) (v := .ref a1) (C := RX0) (T := TX0) (N := 6) hx hb hts (inX0_value) hown hK hP 0 rfl rfl 0 (by decide) (hts (.fieldLink RX0 9 "NoteMix" "worthOf" "[I") (by decide +kernel)) (fun _ h9 => h9) rfl dX0_value_17 ?_
  refine lv_iload_n hx hb dX0_value_20 rfl (lv_at hl 0 rfl) ?_
  refine zn_iald (k := 1) hx hb hK hP 1 _ rfl hI (by decide) (by decide) (ok.1 1 (by omega)) dX0_value_21 ?_
  refine zn_mul hx hb dX0_value_22 ?_
  refine zn_add hx hb dX0_value_23 ?_
  refine lv_istore_n (lv' := [(1, .int (nI ((0 + ((n 0) * (w 0))) + ((n 1) * (w 1))))), (2, .int (nI 1)), (0, .ref h)]) hx hb dX0_value_24 rfl hl (by decide) rfl (fun ls hl => ?_)
  refine lv_iinc (k := 1) (lv' := [(2, .int (nI (1 + 1))), (1, .int (nI ((0 + ((n 0) * (w 0))) + ((n 1) * (w 1))))), (0, .ref h)]) hx hb dX0_value_25 hl rfl (zz_i1 _) (by decide) rfl (fun ls hl => ?_)
  have hl : lv_has ls 3 [(2, .int (nI 2)), (1, .int (nI ((0 + ((n 0) * (w 0))) + ((n 1) * (w 1))))), (0, .ref h)] := hl
  refine lv_goto hx hb dX0_value_28 rfl ?_
  refine lv_iload_n hx hb dX0_value_4 rfl (lv_at hl 0 rfl) ?_
  refine lv_iconst (v := nI 3) hx hb dX0_value_5 (by decide +kernel) ?_
  refine zn_gt hx hb (by decide) (by decide) dX0_value_6 rfl (fun hc => absurd hc (by decide)) (fun _ => ?_)
  refine lv_iload_n hx hb dX0_value_9 rfl (lv_at hl 1 rfl) ?_
  refine lv_aload_n hx hb dX0_value_10 rfl (lv_at hl 2 rfl) ?_
  refine va_get (D := D) (ci := 0) (v := .ref a2) (C := RX0) (T := TX0) (N := 6) hx hb hts (inX0_value) hown hK hP 0 rfl rfl 1 (by decide) (hts (.fieldLink RX0 13 "NoteMix" "notesIn" "[I") (by decide +kernel)) (fun _ h9 => h9) rfl dX0_value_11 ?_
  refine lv_iload_n hx hb dX0_value_14 rfl (lv_at hl 0 rfl) ?_
  refine zn_iald (k := 2) hx hb hK hP 2 _ rfl hI (by decide) (by decide) (ok.2.1 2 (by omega)) dX0_value_15 ?_
  refine lv_aload_n hx hb dX0_value_16 rfl (lv_at hl 2 rfl) ?_
  refine va_get (D := D) (ci := 0) (v := .ref a1) (C := RX0) (T := TX0) (N := 6) hx hb hts (inX0_value) hown hK hP 0 rfl rfl 0 (by decide) (hts (.fieldLink RX0 9 "NoteMix" "worthOf" "[I") (by decide +kernel)) (fun _ h9 => h9) rfl dX0_value_17 ?_
  refine lv_iload_n hx hb dX0_value_20 rfl (lv_at hl 0 rfl) ?_
  refine zn_iald (k := 2) hx hb hK hP 1 _ rfl hI (by decide) (by decide) (ok.1 2 (by omega)) dX0_value_21 ?_
  refine zn_mul hx hb dX0_value_22 ?_
  refine zn_add hx hb dX0_value_23 ?_
  refine lv_istore_n (lv' := [(1, .int (nI (((0 + ((n 0) * (w 0))) + ((n 1) * (w 1))) + ((n 2) * (w 2))))), (2, .int (nI 2)), (0, .ref h)]) hx hb dX0_value_24 rfl hl (by decide) rfl (fun ls hl => ?_)
  refine lv_iinc (k := 1) (lv' := [(2, .int (nI (2 + 1))), (1, .int (nI (((0 + ((n 0) * (w 0))) + ((n 1) * (w 1))) + ((n 2) * (w 2))))), (0, .ref h)]) hx hb dX0_value_25 hl rfl (zz_i1 _) (by decide) rfl (fun ls hl => ?_)
  have hl : lv_has ls 3 [(2, .int (nI 3)), (1, .int (nI (((0 + ((n 0) * (w 0))) + ((n 1) * (w 1))) + ((n 2) * (w 2))))), (0, .ref h)] := hl
  refine lv_goto hx hb dX0_value_28 rfl ?_
  refine lv_iload_n hx hb dX0_value_4 rfl (lv_at hl 0 rfl) ?_
  refine lv_iconst (v := nI 3) hx hb dX0_value_5 (by decide +kernel) ?_
  refine zn_gt hx hb (by decide) (by decide) dX0_value_6 rfl (fun hc => absurd hc (by decide)) (fun _ => ?_)
  refine lv_iload_n hx hb dX0_value_9 rfl (lv_at hl 1 rfl) ?_
  refine lv_aload_n hx hb dX0_value_10 rfl (lv_at hl 2 rfl) ?_
  refine va_get (D := D) (ci := 0) (v := .ref a2) (C := RX0) (T := TX0) (N := 6) hx hb hts (inX0_value) hown hK hP 0 rfl rfl 1 (by decide) (hts (.fieldLink RX0 13 "NoteMix" "notesIn" "[I") (by decide +kernel)) (fun _ h9 => h9) rfl dX0_value_11 ?_
  refine lv_iload_n hx hb dX0_value_14 rfl (lv_at hl 0 rfl) ?_
  refine zn_iald (k := 3) hx hb hK hP 2 _ rfl hI (by decide) (by decide) (ok.2.1 3 (by omega)) dX0_value_15 ?_
  refine lv_aload_n hx hb dX0_value_16 rfl (lv_at hl 2 rfl) ?_
  refine va_get (D := D) (ci := 0) (v := .ref a1) (C := RX0) (T := TX0) (N := 6) hx hb hts (inX0_value) hown hK hP 0 rfl rfl 0 (by decide) (hts (.fieldLink RX0 9 "NoteMix" "worthOf" "[I") (by decide +kernel)) (fun _ h9 => h9) rfl dX0_value_17 ?_
  refine lv_iload_n hx hb dX0_value_20 rfl (lv_at hl 0 rfl) ?_
  refine zn_iald (k := 3) hx hb hK hP 1 _ rfl hI (by decide) (by decide) (ok.1 3 (by omega)) dX0_value_21 ?_
  refine zn_mul hx hb dX0_value_22 ?_
  refine zn_add hx hb dX0_value_23 ?_
  refine lv_istore_n (lv' := [(1, .int (nI ((((0 + ((n 0) * (w 0))) + ((n 1) * (w 1))) + ((n 2) * (w 2))) + ((n 3) * (w 3))))), (2, .int (nI 3)), (0, .ref h)]) hx hb dX0_value_24 rfl hl (by decide) rfl (fun ls hl => ?_)
  refine lv_iinc (k := 1) (lv' := [(2, .int (nI (3 + 1))), (1, .int (nI ((((0 + ((n 0) * (w 0))) + ((n 1) * (w 1))) + ((n 2) * (w 2))) + ((n 3) * (w 3))))), (0, .ref h)]) hx hb dX0_value_25 hl rfl (zz_i1 _) (by decide) rfl (fun ls hl => ?_)
  have hl : lv_has ls 3 [(2, .int (nI 4)), (1, .int (nI ((((0 + ((n 0) * (w 0))) + ((n 1) * (w 1))) + ((n 2) * (w 2))) + ((n 3) * (w 3))))), (0, .ref h)] := hl
  refine lv_goto hx hb dX0_value_28 rfl ?_
  refine lv_iload_n hx hb dX0_value_4 rfl (lv_at hl 0 rfl) ?_
  refine lv_iconst (v := nI 3) hx hb dX0_value_5 (by decide +kernel) ?_
  refine zn_gt hx hb (by decide) (by decide) dX0_value_6 rfl (fun _ => ?_) (fun hc => absurd hc (by decide))
  refine lv_iload_n hx hb dX0_value_31 rfl (lv_at hl 1 rfl) ?_
  exact zz_iret F hr hlocks hK hS dX0_value_32 (by decide) (by decide) () rfl hP hD
end
section
set_option maxRecDepth 100000 in
set_option maxHeartbeats 4000000 in
theorem c_fillFewest (l : Launch) (D : va_G) (tys : List (ClassId × FieldType)) (cI : ClassId) (hI : tys[0]? = some (cI, .int)) (h a1 a2 a3 a4 : Nat) (fr : va_W) (sz : Nat) (wf nf bf : Nat → Int32) (bs mc : Int32) (ff : Nat → Int32) (w n : Nat → Nat) (ok : nmOk wf nf w n) : Met l yX0_fillFewest wsX0_fillFewest ({ frames := 3, cells := 0, slots := 0, locals := 90 }) (va_Pc [.ref h] (zz_pre D tys (nmW cI h a1 a2 a3 a4 wf nf bf bs mc ff fr) sz)) (va_Qv (fun (u : Nat → Int32) => ∃ f : Nat → Nat, (∀ j, j ≤ 2000 → u j = nI (f j)) ∧ ∀ v, v ≤ 2000 → f v ≤ 41 ∧ (f v < 41 ↔ mx_has w n v)) (zz_B D tys (va_A (nmW cI h a1 a2 a3 a4 wf nf bf bs mc ff fr) sz) (fun u => nmW cI h a1 a2 a3 a4 wf nf bf bs mc u fr)) (va_A (nmW cI h a1 a2 a3 a4 wf nf bf bs mc ff fr) sz)) 0 0 (va_A (nmW cI h a1 a2 a3 a4 wf nf bf bs mc ff fr) sz) := by
  refine zz_headV (cc := cX0_fillFewest) (by decide) rfl (Nat.le_of_ble_eq_true rfl) ?_
  intro p e s m below meth cd A ls F hr hlocks hin hP hK hD hA hS hl
  obtain ⟨hx, hb, hml, hown, hts⟩ := id F
  have hl : lv_has ls 2 [(0, .ref h)] := hl
  refine lv_aload_n hx hb dX0_fillFewest_0 rfl (lv_at hl 0 rfl) ?_
  refine va_get (D := D) (ci := 0) (v := .ref a4) (C := RX0) (T := TX0) (N := 6) hx hb hts (inX0_fillFewest) hown hK hP 0 rfl rfl 5 (by decide) (hts (.fieldLink RX0 26 "NoteMix" "fewest" "[I") (by decide +kernel)) (fun _ h9 => h9) rfl dX0_fillFewest_1 ?_
  refine lv_bipush (v := nI 41) hx hb dX0_fillFewest_4 (by decide +kernel) ?_
  refine zz_callSv (As := [.ref a4, .int (nI 41)]) (rest := []) F hK hP hD hS hA (c_fill l D tys cI hI _ 4 a4 2001 ff _ rfl (by decide) (nI 41)) (va_cwS 2 hts gX0_fillFewest_J7_fill_53178 rfl rfl rfl (by decide +kernel) ⟨Nat.le_of_ble_eq_true rfl, Nat.le_of_ble_eq_true rfl⟩) rfl hl.1 rfl (by decide) dX0_fillFewest_6 ⟨Nat.le_of_ble_eq_true rfl, Nat.le_of_ble_eq_true rfl⟩ (fun g H locs hg hP hD hS => ?_)
  have hP : va_P D vwCl (nmW cI h a1 a2 a3 a4 wf nf bf bs mc g fr) H := hP
  have hD : va_D A (nmW cI h a1 a2 a3 a4 wf nf bf bs mc g fr) := hD
  refine lv_aload_n hx hb dX0_fillFewest_9 rfl (lv_at hl 0 rfl) ?_
  refine va_get (D := D) (ci := 0) (v := .ref a4) (C := RX0) (T := TX0) (N := 6) hx hb hts (inX0_fillFewest) hown hK hP 0 rfl rfl 5 (by decide) (hts (.fieldLink RX0 26 "NoteMix" "fewest" "[I") (by decide +kernel)) (fun _ h9 => h9) rfl dX0_fillFewest_10 ?_
  refine lv_iconst (v := nI 0) hx hb dX0_fillFewest_13 (by decide +kernel) ?_
  refine lv_iconst (v := nI 0) hx hb dX0_fillFewest_14 (by decide +kernel) ?_
  refine zn_iast (k := 0) hx hb hK hP hD hS 4 _ rfl hI (by decide) (by decide) dX0_fillFewest_15 (fun H locs g1 g1e g1n hP hD hS => ?_)
  have hP : va_P D vwCl (nmW cI h a1 a2 a3 a4 wf nf bf bs mc g1 fr) H := hP
  have hD : va_D A (nmW cI h a1 a2 a3 a4 wf nf bf bs mc g1 fr) := hD
  refine lv_iconst (v := nI 0) hx hb dX0_fillFewest_16 (by decide +kernel) ?_
  refine lv_istore_n (lv' := [(1, .int (nI 0)), (0, .ref h)]) hx hb dX0_fillFewest_17 rfl hl (by decide) rfl (fun ls hl => ?_)
  have hl : lv_has ls 2 [(1, .int (nI 0)), (0, .ref h)] := lv_sub hl [0, 1] rfl
  refine zz_loop (fun ls H locs (u : Nat × (Nat → Int32) × (Nat → Nat) × (Nat → Nat)) => lv_has ls 2 [(1, .int (nI u.1)), (0, .ref h)] ∧ va_P D vwCl (nmW cI h a1 a2 a3 a4 wf nf bf bs mc u.2.1 fr) H ∧ va_D A (nmW cI h a1 a2 a3 a4 wf nf bf bs mc u.2.1 fr) ∧ va_S A s.heap H locs ∧ u.1 ≤ 4 ∧ (∀ j, j ≤ 2000 → u.2.1 j = nI (u.2.2.1 j)) ∧ rc_F w u.2.2.2 u.2.2.1 ∧ (∀ j, j < u.1 → u.2.2.2 j = min (n j) 40) ∧ (∀ j, u.1 ≤ j → j < 4 → u.2.2.2 j = 0)) (fun u => 4 - u.1) ?_ (0, g1, (fun j => if j = 0 then 0 else 41), (fun _ => 0)) ⟨hl, hP, hD, hS, Nat.zero_le _, fun j hj => ?_, rc_F0 (fun _ _ => rfl) rfl (fun v _ hv => if_neg (by omega)), fun j hj => absurd hj (Nat.not_lt_zero _), fun _ _ _ => rfl⟩
  · rintro ls H locs ⟨c, g, f, L⟩ ⟨hl, hP, hD, hS, hc, hg, hF, hL1, hL2⟩ kk
    dsimp only at hl hP hD hc hg hF hL1 hL2 kk
    refine lv_iload_n hx hb dX0_fillFewest_18 rfl (lv_at hl 0 rfl) ?_
    refine lv_iconst (v := nI 3) hx hb dX0_fillFewest_19 (by decide +kernel) ?_
    refine zn_gt hx hb (by omega) (by omega) dX0_fillFewest_20 rfl (fun hc1 => ?_) (fun hc1 => ?_)
    · exact zz_vret F hr hlocks hK hS dX0_fillFewest_34 (by decide) (by decide) g ⟨f, hg, fun v hv => ⟨(hF v hv).1, rc_has (L := L) (fun j hj => hL1 j (by omega)) hF hv⟩⟩ hP hD
    · refine lv_aload_n hx hb dX0_fillFewest_23 rfl (lv_at hl 1 rfl) ?_
      refine lv_iload_n hx hb dX0_fillFewest_24 rfl (lv_at hl 0 rfl) ?_
      refine zz_callVv (As := [.int (nI c)]) (rest := []) F hK hP hD hS hA (c_addCassette l D tys cI hI h a1 a2 a3 a4 fr _ wf nf bf bs mc g w n ok f L hg hF c (by omega) (hL2 c (Nat.le_refl _) (by omega))) (cwV 1 hts gX0_fillFewest_X0_addCassette rfl rfl rfl (by decide +kernel) ⟨Nat.le_of_ble_eq_true rfl, Nat.le_of_ble_eq_true rfl⟩) 0 rfl rfl rfl hl.1 rfl (by decide) dX0_fillFewest_25 ⟨Nat.le_of_ble_eq_true rfl, Nat.le_of_ble_eq_true rfl⟩ (fun g1 H locs hg1 hP hD hS => ?_)
      have hP : va_P D vwCl (nmW cI h a1 a2 a3 a4 wf nf bf bs mc g1 fr) H := hP
      have hD : va_D A (nmW cI h a1 a2 a3 a4 wf nf bf bs mc g1 fr) := hD
      obtain ⟨f1, L1, hg1, e1, e2, hF1⟩ := hg1
      refine lv_iinc (k := 0) (lv' := [(1, .int (nI (c + 1))), (0, .ref h)]) hx hb dX0_fillFewest_28 hl rfl (zz_i1 _) (by decide) rfl (fun ls hl => ?_)
      refine lv_goto hx hb dX0_fillFewest_31 rfl ?_
      have hl : lv_has ls 2 [(1, .int (nI (c + 1))), (0, .ref h)] := lv_sub hl [0, 1] rfl
      refine kk _ _ _ (c + 1, g1, f1, L1) ⟨hl, hP, hD, hS, by show c + 1 ≤ 4; omega, hg1, hF1, fun j hj => ?_, fun j hj1 hj2 => ?_⟩ (by show 4 - (c + 1) < 4 - c; omega)
      · by_cases e9 : j = c
        · subst e9
          exact e1
        · have hj9 : j < c + 1 := hj
          exact (e2 j (by omega) e9).trans (hL1 j (by omega))
      · have hj9 : c + 1 ≤ j := hj1
        exact (e2 j hj2 (by omega)).trans (hL2 j (by omega) hj2)
  · show g1 j = nI (if j = 0 then 0 else 41)
    by_cases e9 : j = 0
    · subst e9
      rw [if_pos rfl]
      exact g1e
    · rw [if_neg e9, g1n j e9]
      exact hg j (by omega)
end
section
set_option maxRecDepth 100000 in
set_option maxHeartbeats 4000000 in
theorem c_reach (l : Launch) (D : va_G) (tys : List (ClassId × FieldType)) (cI : ClassId) (hI : tys[0]? = some (cI, .int)) (h a1 a2 a3 a4 : Nat) (fr : va_W) (sz : Nat) (wf nf bf : Nat → Int32) (bs mc : Int32) (ff : Nat → Int32) (w n : Nat → Nat) (ok : nmOk wf nf w n) : Met l yX0_reach wsX0_reach ({ frames := 9, cells := 0, slots := 0, locals := 190 }) (va_Pc [.ref h] (zz_pre D tys (nmW cI h a1 a2 a3 a4 wf nf bf bs mc ff fr) sz)) (va_Qi (fun r (_ : Nat → Int32) => r = nI (mx_r w n 2001)) (zz_B D tys (va_A (nmW cI h a1 a2 a3 a4 wf nf bf bs mc ff fr) sz) (fun u => nmW cI h a1 a2 a3 a4 wf nf bf bs mc u fr)) (va_A (nmW cI h a1 a2 a3 a4 wf nf bf bs mc ff fr) sz)) 0 0 (va_A (nmW cI h a1 a2 a3 a4 wf nf bf bs mc ff fr) sz) := by
  refine zz_headI (cc := cX0_reach) (by decide) rfl (Nat.le_of_ble_eq_true rfl) ?_
  intro p e s m below meth cd A ls F hr hlocks hP hK hD hA hS hl
  obtain ⟨hx, hb, hml, hown, hts⟩ := id F
  have hl : lv_has ls 3 [(0, .ref h)] := hl
  refine lv_aload_n hx hb dX0_reach_0 rfl (lv_at hl 0 rfl) ?_
  refine zz_callVv (As := []) (rest := []) F hK hP hD hS hA (c_fillFewest l D tys cI hI h a1 a2 a3 a4 fr _ wf nf bf bs mc ff w n ok) (cwV 0 hts gX0_reach_X0_fillFewest rfl rfl rfl (by decide +kernel) ⟨Nat.le_of_ble_eq_true rfl, Nat.le_of_ble_eq_true rfl⟩) 0 rfl rfl rfl hl.1 rfl (by decide) dX0_reach_1 ⟨Nat.le_of_ble_eq_true rfl, Nat.le_of_ble_eq_true rfl⟩ (fun g H locs hg hP hD hS => ?_)
  have hP : va_P D vwCl (nmW cI h a1 a2 a3 a4 wf nf bf bs mc g fr) H := hP
  have hD : va_D A (nmW cI h a1 a2 a3 a4 wf nf bf bs mc g fr) := hD
  obtain ⟨f, hg, hf⟩ := hg
  refine lv_iconst (v := nI 0) hx hb dX0_reach_4 (by decide +kernel) ?_
  refine lv_istore_n (lv' := [(1, .int (nI 0)), (0, .ref h)]) hx hb dX0_reach_5 rfl hl (by decide) rfl (fun ls hl => ?_)
  refine lv_iconst (v := nI 0) hx hb dX0_reach_6 (by decide +kernel) ?_
  refine lv_istore_n (lv' := [(2, .int (nI 0)), (1, .int (nI 0)), (0, .ref h)]) hx hb dX0_reach_7 rfl hl (by decide) rfl (fun ls hl => ?_)
  have hl : lv_has ls 3 [(2, .int (nI 0)), (1, .int (nI 0)), (0, .ref h)] := lv_sub hl [0, 1, 2] rfl
  refine zz_loop (fun ls H locs (u : Nat) => lv_has ls 3 [(2, .int (nI u)), (1, .int (nI (mx_r w n u))), (0, .ref h)] ∧ va_P D vwCl (nmW cI h a1 a2 a3 a4 wf nf bf bs mc g fr) H ∧ va_D A (nmW cI h a1 a2 a3 a4 wf nf bf bs mc g fr) ∧ va_S A s.heap H locs ∧ u ≤ 2001) (fun u => 2001 - u) ?_ 0 ⟨hl, hP, hD, hS, Nat.zero_le _⟩
  rintro ls H locs a ⟨hl, hP, hD, hS, ha⟩ kk
  refine lv_iload_n hx hb dX0_reach_8 rfl (lv_at hl 0 rfl) ?_
  refine lv_sipush (v := nI 2000) hx hb dX0_reach_9 (by decide +kernel) ?_
  refine zn_gt hx hb (by omega) (by omega) dX0_reach_12 rfl (fun hc => ?_) (fun hc => ?_)
  · have e9 : a = 2001 := by omega
    subst e9
    refine lv_iload_n hx hb dX0_reach_35 rfl (lv_at hl 1 rfl) ?_
    exact zz_iret F hr hlocks hK hS dX0_reach_36 (by decide) (by decide) g rfl hP hD
  · obtain ⟨f1, f2⟩ := hf a hc
    refine lv_aload_n hx hb dX0_reach_15 rfl (lv_at hl 2 rfl) ?_
    refine va_get (D := D) (ci := 0) (v := .ref a4) (C := RX0) (T := TX0) (N := 6) hx hb hts (inX0_reach) hown hK hP 0 rfl rfl 5 (by decide) (hts (.fieldLink RX0 26 "NoteMix" "fewest" "[I") (by decide +kernel)) (fun _ h9 => h9) rfl dX0_reach_16 ?_
    refine lv_iload_n hx hb dX0_reach_19 rfl (lv_at hl 0 rfl) ?_
    refine zn_iald (k := a) hx hb hK hP 4 _ rfl hI (by omega) (by decide) (hg a (by omega)) dX0_reach_20 ?_
    refine lv_bipush (v := nI 41) hx hb dX0_reach_21 (by decide +kernel) ?_
    refine zn_ge hx hb (by omega) (by omega) dX0_reach_23 rfl (fun hq => ?_) (fun hq => ?_)
    · have hr9 := mx_r0 (w := w) (n := n) (k := a) (fun h9 => absurd (f2.2 h9) (by omega))
      refine lv_iinc (k := 0) (lv' := [(2, .int (nI (a + 1))), (1, .int (nI (mx_r w n a))), (0, .ref h)]) hx hb dX0_reach_29 hl rfl (zz_i1 _) (by decide) rfl (fun ls hl => ?_)
      refine lv_goto hx hb dX0_reach_32 rfl ?_
      have hl : lv_has ls 3 [(2, .int (nI (a + 1))), (1, .int (nI (mx_r w n a))), (0, .ref h)] := lv_sub hl [0, 1, 2] rfl
      rw [← hr9] at hl
      exact kk _ _ _ (a + 1) ⟨hl, hP, hD, hS, by omega⟩ (by omega)
    · have hr9 := mx_r1 (f2.1 hq)
      refine lv_iinc (k := 1) (lv' := [(1, .int (nI (mx_r w n a + 1))), (2, .int (nI a)), (0, .ref h)]) hx hb dX0_reach_26 hl rfl (zz_i1 _) (by decide) rfl (fun ls hl => ?_)
      refine lv_iinc (k := 1) (lv' := [(2, .int (nI (a + 1))), (1, .int (nI (mx_r w n a + 1))), (0, .ref h)]) hx hb dX0_reach_29 hl rfl (zz_i1 _) (by decide) rfl (fun ls hl => ?_)
      refine lv_goto hx hb dX0_reach_32 rfl ?_
      have hl : lv_has ls 3 [(2, .int (nI (a + 1))), (1, .int (nI (mx_r w n a + 1))), (0, .ref h)] := lv_sub hl [0, 1, 2] rfl
      rw [← hr9] at hl
      exact kk _ _ _ (a + 1) ⟨hl, hP, hD, hS, by omega⟩ (by omega)
end
section
set_option maxRecDepth 100000 in
set_option maxHeartbeats 4000000 in
theorem c_rr_ok (l : Launch) (D : va_G) (tys : List (ClassId × FieldType)) (wl : va_W) (sz : Nat) (k lo hi : Nat) (h1 : lo ≤ k) (h2 : k ≤ hi) (h3 : hi < 2 ^ 31) : Met l yX0_requireRange wsX0_requireRange ({ frames := 7, cells := 0, slots := 0, locals := 120 }) (va_Pc [.int (nI k), .int (nI lo), .int (nI hi)] (zz_pre D tys wl sz)) (va_Qv (fun (_ : Unit) => True) (zz_B D tys (va_A wl sz) (fun _ => wl)) (va_A wl sz)) 0 0 (va_A wl sz) := by
  refine zz_headV (cc := cX0_requireRange) (by decide) rfl (Nat.le_of_ble_eq_true rfl) ?_
  intro p e s m below meth cd A ls F hr hlocks hin hP hK hD hA hS hl
  obtain ⟨hx, hb, hml, hown, hts⟩ := id F
  have hl : lv_has ls 3 [(0, .int (nI k)), (1, .int (nI lo)), (2, .int (nI hi))] := hl
  refine lv_iload_n hx hb dX0_requireRange_0 rfl (lv_at hl 0 rfl) ?_
  refine lv_iload_n hx hb dX0_requireRange_1 rfl (lv_at hl 1 rfl) ?_
  refine zn_lt hx hb (by omega) (by omega) dX0_requireRange_2 rfl (fun hc => absurd hc (by omega)) (fun _ => ?_)
  refine lv_iload_n hx hb dX0_requireRange_5 rfl (lv_at hl 0 rfl) ?_
  refine lv_iload_n hx hb dX0_requireRange_6 rfl (lv_at hl 2 rfl) ?_
  refine zn_le hx hb (by omega) (by omega) dX0_requireRange_7 rfl (fun _ => ?_) (fun hc => absurd hc (by omega))
  exact zz_vret F hr hlocks hK hS dX0_requireRange_18 (by decide) (by decide) () trivial hP hD
set_option maxRecDepth 100000 in
set_option maxHeartbeats 4000000 in
theorem c_rr_bad (l : Launch) (hl0 : l.stackTraces = false) (D : va_G) (tys : List (ClassId × FieldType)) (wl : va_W) (sz : Nat) (x : Int32) (lo hi : Nat) (hz : ¬ zr x lo hi) (h3 : hi < 2 ^ 31) (h4 : lo < 2 ^ 31) : vx_Met l yX0_requireRange wsX0_requireRange ({ frames := 7, cells := 1, slots := 6, locals := 120 }) (va_Pc [.int x, .int (nI lo), .int (nI hi)] (zx_pre D tys wl sz)) (va_Qv (fun (_ : Unit) => False) (zz_B D tys (va_A wl sz) (fun _ => wl)) (va_A wl sz)) (zx_X (fun E (_ : Unit) => E = "java/lang/IllegalArgumentException") D tys (va_A wl sz) (fun _ => wl)) 1 6 (va_A wl sz) := by
  refine zx_headV (cc := cX0_requireRange) (by decide) rfl (Nat.le_of_ble_eq_true rfl) ?_
  intro p e s m below meth cd A ls F hr hlocks htab hP hK hD hA hS hst hl
  obtain ⟨hx, hb, hml, hown, hts⟩ := id F
  have hl : lv_has ls 3 [(0, .int x), (1, .int (nI lo)), (2, .int (nI hi))] := hl
  refine lv_iload_n hx hb dX0_requireRange_0 rfl (lv_at hl 0 rfl) ?_
  refine lv_iload_n hx hb dX0_requireRange_1 rfl (lv_at hl 1 rfl) ?_
  refine lv_icmp_lt hx hb dX0_requireRange_2 rfl (fun hc => ?_) (fun hc => ?_)
  · exact zx_throw (names := ["java/lang/RuntimeException", "java/lang/Exception"]) F hl0 htab hlocks hK hS hst (by decide +kernel) (by decide +kernel) (hts (.classLink RX0 49 "java/lang/IllegalArgumentException") (by decide +kernel)) (hts (.initialized "java/lang/IllegalArgumentException") (by decide +kernel)) (vx_hat (B := [.castable "java/lang/IllegalArgumentException" "java/lang/IllegalArgumentException", .declares ⟨"java/lang/RuntimeException", "<init>", "()V"⟩, .declares ⟨"java/lang/Exception", "<init>", "()V"⟩, .declares ⟨"java/lang/Throwable", "<init>", "()V"⟩]) (fun w h9 => hts w (List.mem_cons_of_mem _ (List.mem_append_right _ h9))) (by decide +kernel) (vx_c (va_Nw.use rfl hst.2.2.1) (vx_c (va_Nw.use rfl hst.2.2.2.2.1) (vx_c (va_Nw.use rfl hst.2.2.2.2.2.1) (vx_c (va_Nw.use rfl hst.2.2.2.2.2.2) vx_n))))) (by decide +kernel) hl.1 dX0_requireRange_10 dX0_requireRange_13 dX0_requireRange_14 dX0_requireRange_17 (Nat.le_of_ble_eq_true rfl) (Nat.le_of_ble_eq_true rfl) (Nat.le_of_ble_eq_true rfl) (Nat.le_of_ble_eq_true rfl) (by decide) (by decide) () rfl hP hD
  · refine lv_iload_n hx hb dX0_requireRange_5 rfl (lv_at hl 0 rfl) ?_
    refine lv_iload_n hx hb dX0_requireRange_6 rfl (lv_at hl 2 rfl) ?_
    refine lv_icmp_le hx hb dX0_requireRange_7 rfl (fun hc2 => ?_) (fun hc2 => ?_)
    · exact absurd (zr_of h3 h4 hc hc2) hz
    · exact zx_throw (names := ["java/lang/RuntimeException", "java/lang/Exception"]) F hl0 htab hlocks hK hS hst (by decide +kernel) (by decide +kernel) (hts (.classLink RX0 49 "java/lang/IllegalArgumentException") (by decide +kernel)) (hts (.initialized "java/lang/IllegalArgumentException") (by decide +kernel)) (vx_hat (B := [.castable "java/lang/IllegalArgumentException" "java/lang/IllegalArgumentException", .declares ⟨"java/lang/RuntimeException", "<init>", "()V"⟩, .declares ⟨"java/lang/Exception", "<init>", "()V"⟩, .declares ⟨"java/lang/Throwable", "<init>", "()V"⟩]) (fun w h9 => hts w (List.mem_cons_of_mem _ (List.mem_append_right _ h9))) (by decide +kernel) (vx_c (va_Nw.use rfl hst.2.2.1) (vx_c (va_Nw.use rfl hst.2.2.2.2.1) (vx_c (va_Nw.use rfl hst.2.2.2.2.2.1) (vx_c (va_Nw.use rfl hst.2.2.2.2.2.2) vx_n))))) (by decide +kernel) hl.1 dX0_requireRange_10 dX0_requireRange_13 dX0_requireRange_14 dX0_requireRange_17 (Nat.le_of_ble_eq_true rfl) (Nat.le_of_ble_eq_true rfl) (Nat.le_of_ble_eq_true rfl) (Nat.le_of_ble_eq_true rfl) (by decide) (by decide) () rfl hP hD
end
section
set_option maxRecDepth 100000 in
set_option maxHeartbeats 4000000 in
theorem c_findBest (l : Launch) (hl0 : l.stackTraces = false) (D : va_G) (tys : List (ClassId × FieldType)) (cI : ClassId) (hI : tys[0]? = some (cI, .int)) (h a1 a2 a3 a4 : Nat) (fr : va_W) (sz : Nat) (wf nf bf : Nat → Int32) (bs mc : Int32) (ff : Nat → Int32) (w n : Nat → Nat) (ok : nmOk wf nf w n) (x : Int32) : vx_Met l yX0_findBest wsX0_findBest ({ frames := 8, cells := 1, slots := 6, locals := 160 }) (va_Pc [.ref h, .int x] (zx_pre D tys (nmW cI h a1 a2 a3 a4 wf nf bf bs mc ff fr) sz)) (va_Qv (fun (u : (Nat → Int32) × Int32 × Int32) => ∃ v : Nat, v ≤ 2000 ∧ x = nI v ∧ ∃ bm : Nat → Nat, mx_B w n v (bm 0) (bm 1) (bm 2) (bm 3) ∧ u.2.1 = nI (bm 0 + bm 1 + bm 2 + bm 3) ∧ ∀ j, j < 4 → u.1 j = nI (bm j)) (zz_B D tys (va_A (nmW cI h a1 a2 a3 a4 wf nf bf bs mc ff fr) sz) (fun u => nmW cI h a1 a2 a3 a4 wf nf u.1 u.2.1 u.2.2 ff fr)) (va_A (nmW cI h a1 a2 a3 a4 wf nf bf bs mc ff fr) sz)) (zx_X (fun E (u : (Nat → Int32) × Int32 × Int32) => (E = "java/lang/IllegalArgumentException" ∧ ¬ zr x 0 2000) ∨ (E = "java/util/NoSuchElementException" ∧ ∃ v : Nat, v ≤ 2000 ∧ x = nI v ∧ ¬ mx_has w n v)) D tys (va_A (nmW cI h a1 a2 a3 a4 wf nf bf bs mc ff fr) sz) (fun u => nmW cI h a1 a2 a3 a4 wf nf u.1 u.2.1 u.2.2 ff fr)) 1 6 (va_A (nmW cI h a1 a2 a3 a4 wf nf bf bs mc ff fr) sz) := by
  refine zx_headV (cc := cX0_findBest) (by decide) rfl (Nat.le_of_ble_eq_true rfl) ?_
  intro p e s m below meth cd A ls F hr hlocks htab hP hK hD hA hS hst hl
  obtain ⟨hx, hb, hml, hown, hts⟩ := id F
  have hl : lv_has ls 2 [(0, .ref h), (1, .int x)] := hl
  by_cases hz : zr x 0 2000
  · obtain ⟨v, hv0, hv, rfl⟩ := hz
    refine lv_iload_n hx hb dX0_findBest_0 rfl (lv_at hl 1 rfl) ?_
    refine lv_iconst (v := nI 0) hx hb dX0_findBest_1 (by decide +kernel) ?_
    refine lv_sipush (v := nI 2000) hx hb dX0_findBest_2 (by decide +kernel) ?_
    refine zz_callSv (As := [.int (nI v), .int (nI 0), .int (nI 2000)]) (rest := []) F hK hP hD hS hA (c_rr_ok l D tys _ _ v 0 2000 hv0 hv (by decide)) (va_cwS 3 hts gX0_findBest_X0_requireRange rfl rfl rfl (by decide +kernel) ⟨Nat.le_of_ble_eq_true rfl, Nat.le_of_ble_eq_true rfl⟩) rfl hl.1 rfl (by decide) dX0_findBest_5 ⟨Nat.le_of_ble_eq_true rfl, Nat.le_of_ble_eq_true rfl⟩ (fun _ H locs _ hP hD hS => ?_)
    have hP : va_P D vwCl (nmW cI h a1 a2 a3 a4 wf nf bf bs mc ff fr) H := hP
    have hD : va_D A (nmW cI h a1 a2 a3 a4 wf nf bf bs mc ff fr) := hD
    refine lv_aload_n hx hb dX0_findBest_8 rfl (lv_at hl 0 rfl) ?_
    refine lv_iload_n hx hb dX0_findBest_9 rfl (lv_at hl 1 rfl) ?_
    refine zz_callVv (As := [.int (nI v)]) (rest := []) F hK hP hD hS hA (c_survey l D tys cI hI h a1 a2 a3 a4 fr _ wf nf bf bs mc ff w n ok v hv) (cwV 1 hts gX0_findBest_X0_survey rfl rfl rfl (by decide +kernel) ⟨Nat.le_of_ble_eq_true rfl, Nat.le_of_ble_eq_true rfl⟩) 0 rfl rfl rfl hl.1 rfl (by decide) dX0_findBest_10 ⟨Nat.le_of_ble_eq_true rfl, Nat.le_of_ble_eq_true rfl⟩ (fun u H locs hu hP hD hS => ?_)
    obtain ⟨bf, bs, mc⟩ := u
    obtain ⟨cnt, b, bm, e1, e2, hbm, hc1, hc2, hc3, hE⟩ := hu
    dsimp only at e1 e2 hbm
    subst e1 e2
    have hP : va_P D vwCl (nmW cI h a1 a2 a3 a4 wf nf bf (nI b) (nI cnt) ff fr) H := hP
    have hD : va_D A (nmW cI h a1 a2 a3 a4 wf nf bf (nI b) (nI cnt) ff fr) := hD
    refine lv_aload_n hx hb dX0_findBest_13 rfl (lv_at hl 0 rfl) ?_
    refine va_get (D := D) (ci := 0) (v := .int (nI cnt)) (C := RX0) (T := TX0) (N := 6) hx hb hts (inX0_findBest) hown hK hP 0 rfl rfl 4 (by decide) (hts (.fieldLink RX0 23 "NoteMix" "mixCount" "I") (by decide +kernel)) (fun _ h9 => h9) rfl dX0_findBest_14 ?_
    refine zn_if_ne hx hb (by omega) dX0_findBest_17 rfl (fun hq => ?_) (fun hq => ?_)
    · rcases hE with ⟨h9, _⟩ | ⟨_, _, e3, hB⟩
      · omega
      · refine vx_ret ?_
        exact zz_vret F hr hlocks hK hS dX0_findBest_28 (by decide) (by decide) (bf, nI b, nI cnt) ⟨v, hv, rfl, bm, hB, by show nI b = _; rw [e3], hbm hq⟩ hP hD
    · rcases hE with ⟨_, h9⟩ | ⟨h8, _⟩
      · exact zx_throw (names := ["java/lang/RuntimeException", "java/lang/Exception"]) F hl0 htab hlocks hK hS hst (by decide +kernel) (by decide +kernel) (hts (.classLink RX0 52 "java/util/NoSuchElementException") (by decide +kernel)) (hts (.initialized "java/util/NoSuchElementException") (by decide +kernel)) (vx_hat (B := [.castable "java/util/NoSuchElementException" "java/util/NoSuchElementException", .declares ⟨"java/lang/RuntimeException", "<init>", "()V"⟩, .declares ⟨"java/lang/Exception", "<init>", "()V"⟩, .declares ⟨"java/lang/Throwable", "<init>", "()V"⟩]) (fun w h9 => hts w (List.mem_cons_of_mem _ (List.mem_append_left _ (List.mem_append_right _ h9)))) (by decide +kernel) (vx_c (va_Nw.use rfl hst.2.2.2.1) (vx_c (va_Nw.use rfl hst.2.2.2.2.1) (vx_c (va_Nw.use rfl hst.2.2.2.2.2.1) (vx_c (va_Nw.use rfl hst.2.2.2.2.2.2) vx_n))))) (by decide +kernel) hl.1 dX0_findBest_20 dX0_findBest_23 dX0_findBest_24 dX0_findBest_27 (Nat.le_of_ble_eq_true rfl) (Nat.le_of_ble_eq_true rfl) (Nat.le_of_ble_eq_true rfl) (Nat.le_of_ble_eq_true rfl) (by decide) (by decide) (bf, nI b, nI cnt) (Or.inr ⟨rfl, v, hv, rfl, h9⟩) hP hD
      · omega
  · refine lv_iload_n hx hb dX0_findBest_0 rfl (lv_at hl 1 rfl) ?_
    refine lv_iconst (v := nI 0) hx hb dX0_findBest_1 (by decide +kernel) ?_
    refine lv_sipush (v := nI 2000) hx hb dX0_findBest_2 (by decide +kernel) ?_
    refine zx_callSv (As := [.int x, .int (nI 0), .int (nI 2000)]) (rest := []) F hK hP hD hS hA hst (c_rr_bad l hl0 D tys _ _ x 0 2000 hz (by decide) (by decide)) (va_cwS 3 hts gX0_findBest_X0_requireRange rfl rfl rfl (by decide +kernel) ⟨Nat.le_of_ble_eq_true rfl, Nat.le_of_ble_eq_true rfl⟩) rfl hl.1 rfl (by decide) dX0_findBest_5 ⟨Nat.le_of_ble_eq_true rfl, Nat.le_of_ble_eq_true rfl⟩ (fun E ce q9 _ H locs hE hP hD hS g1 g2 g3 => ?_) (fun _ _ _ h9 => h9.elim)
    exact zx_out htab hlocks hK hS g1 g2 g3 (by decide) (by decide) (bf, bs, mc) (Or.inl ⟨hE, hz⟩) hP hD
end
section
set_option maxRecDepth 100000 in
set_option maxHeartbeats 4000000 in
theorem c_best (l : Launch) (hl0 : l.stackTraces = false) (D : va_G) (tys : List (ClassId × FieldType)) (cI : ClassId) (hI : tys[0]? = some (cI, .int)) (h a1 a2 a3 a4 : Nat) (fr : va_W) (sz : Nat) (wf nf bf : Nat → Int32) (bs mc : Int32) (ff : Nat → Int32) (w n : Nat → Nat) (ok : nmOk wf nf w n) (x : Int32) : vx_Met l yX0_best wsX0_best ({ frames := 9, cells := 1, slots := 6, locals := 190 }) (va_Pc [.ref h, .int x] (zx_pre D tys (nmW cI h a1 a2 a3 a4 wf nf bf bs mc ff fr) sz)) (va_Qi (fun r (u : (Nat → Int32) × Int32 × Int32) => ∃ v : Nat, v ≤ 2000 ∧ x = nI v ∧ ∃ bm : Nat → Nat, mx_B w n v (bm 0) (bm 1) (bm 2) (bm 3) ∧ r = nI (bm 0 + bm 1 + bm 2 + bm 3)) (zz_B D tys (va_A (nmW cI h a1 a2 a3 a4 wf nf bf bs mc ff fr) sz) (fun u => nmW cI h a1 a2 a3 a4 wf nf u.1 u.2.1 u.2.2 ff fr)) (va_A (nmW cI h a1 a2 a3 a4 wf nf bf bs mc ff fr) sz)) (zx_X (fun E (u : (Nat → Int32) × Int32 × Int32) => (E = "java/lang/IllegalArgumentException" ∧ ¬ zr x 0 2000) ∨ (E = "java/util/NoSuchElementException" ∧ ∃ v : Nat, v ≤ 2000 ∧ x = nI v ∧ ¬ mx_has w n v)) D tys (va_A (nmW cI h a1 a2 a3 a4 wf nf bf bs mc ff fr) sz) (fun u => nmW cI h a1 a2 a3 a4 wf nf u.1 u.2.1 u.2.2 ff fr)) 1 6 (va_A (nmW cI h a1 a2 a3 a4 wf nf bf bs mc ff fr) sz) := by
  refine zx_headI (cc := cX0_best) (by decide) rfl (Nat.le_of_ble_eq_true rfl) ?_
  intro p e s m below meth cd A ls F hr hlocks htab hP hK hD hA hS hst hl
  obtain ⟨hx, hb, hml, hown, hts⟩ := id F
  have hl : lv_has ls 2 [(0, .ref h), (1, .int x)] := hl
  refine lv_aload_n hx hb dX0_best_0 rfl (lv_at hl 0 rfl) ?_
  refine lv_iload_n hx hb dX0_best_1 rfl (lv_at hl 1 rfl) ?_
  refine zx_callVv (As := [.int x]) (rest := []) F hK hP hD hS hA hst (c_findBest l hl0 D tys cI hI h a1 a2 a3 a4 fr _ wf nf bf bs mc ff w n ok x) (cwV 1 hts gX0_best_X0_findBest rfl rfl rfl (by decide +kernel) ⟨Nat.le_of_ble_eq_true rfl, Nat.le_of_ble_eq_true rfl⟩) 0 rfl rfl rfl hl.1 rfl (by decide) dX0_best_2 ⟨Nat.le_of_ble_eq_true rfl, Nat.le_of_ble_eq_true rfl⟩ (fun E ce q9 u H locs hE hP hD hS g1 g2 g3 => zx_out htab hlocks hK hS g1 g2 g3 (by decide) (by decide) u hE hP hD) (fun u H locs hu hP hD hS => ?_)
  obtain ⟨bf, bs, mc⟩ := u
  obtain ⟨v, hv, hx9, bm, hB, e1, hbm⟩ := hu
  have hP : va_P D vwCl (nmW cI h a1 a2 a3 a4 wf nf bf bs mc ff fr) H := hP
  have hD : va_D A (nmW cI h a1 a2 a3 a4 wf nf bf bs mc ff fr) := hD
  refine lv_aload_n hx hb dX0_best_5 rfl (lv_at hl 0 rfl) ?_
  refine va_get (D := D) (ci := 0) (v := .int bs) (C := RX0) (T := TX0) (N := 6) hx hb hts (inX0_best) hown hK hP 0 rfl rfl 3 (by decide) (hts (.fieldLink RX0 19 "NoteMix" "bestSize" "I") (by decide +kernel)) (fun _ h9 => h9) rfl dX0_best_6 ?_
  refine vx_ret ?_
  exact zz_iret F hr hlocks hK hS dX0_best_9 (by decide) (by decide) (bf, bs, mc) ⟨v, hv, hx9, bm, hB, e1⟩ hP hD
end
section
set_option maxRecDepth 100000 in
set_option maxHeartbeats 4000000 in
theorem c_part (l : Launch) (hl0 : l.stackTraces = false) (D : va_G) (tys : List (ClassId × FieldType)) (cI : ClassId) (hI : tys[0]? = some (cI, .int)) (h a1 a2 a3 a4 : Nat) (fr : va_W) (sz : Nat) (wf nf bf : Nat → Int32) (bs mc : Int32) (ff : Nat → Int32) (w n : Nat → Nat) (ok : nmOk wf nf w n) (x y : Int32) : vx_Met l yX0_part wsX0_part ({ frames := 9, cells := 1, slots := 6, locals := 190 }) (va_Pc [.ref h, .int x, .int y] (zx_pre D tys (nmW cI h a1 a2 a3 a4 wf nf bf bs mc ff fr) sz)) (va_Qi (fun r (u : (Nat → Int32) × Int32 × Int32) => ∃ v c : Nat, v ≤ 2000 ∧ c < 4 ∧ x = nI v ∧ y = nI c ∧ ∃ bm : Nat → Nat, mx_B w n v (bm 0) (bm 1) (bm 2) (bm 3) ∧ r = nI (bm c)) (zz_B D tys (va_A (nmW cI h a1 a2 a3 a4 wf nf bf bs mc ff fr) sz) (fun u => nmW cI h a1 a2 a3 a4 wf nf u.1 u.2.1 u.2.2 ff fr)) (va_A (nmW cI h a1 a2 a3 a4 wf nf bf bs mc ff fr) sz)) (zx_X (fun E (u : (Nat → Int32) × Int32 × Int32) => (E = "java/lang/IllegalArgumentException" ∧ ¬ (zr y 0 3 ∧ zr x 0 2000)) ∨ (E = "java/util/NoSuchElementException" ∧ zr y 0 3 ∧ ∃ v : Nat, v ≤ 2000 ∧ x = nI v ∧ ¬ mx_has w n v)) D tys (va_A (nmW cI h a1 a2 a3 a4 wf nf bf bs mc ff fr) sz) (fun u => nmW cI h a1 a2 a3 a4 wf nf u.1 u.2.1 u.2.2 ff fr)) 1 6 (va_A (nmW cI h a1 a2 a3 a4 wf nf bf bs mc ff fr) sz) := by
  refine zx_headI (cc := cX0_part) (by decide) rfl (Nat.le_of_ble_eq_true rfl) ?_
  intro p e s m below meth cd A ls F hr hlocks htab hP hK hD hA hS hst hl
  obtain ⟨hx, hb, hml, hown, hts⟩ := id F
  have hl : lv_has ls 3 [(0, .ref h), (1, .int x), (2, .int y)] := hl
  by_cases hz : zr y 0 3
  · have hz0 := hz
    obtain ⟨c, hc0, hc, rfl⟩ := hz
    refine lv_iload_n hx hb dX0_part_0 rfl (lv_at hl 2 rfl) ?_
    refine lv_iconst (v := nI 0) hx hb dX0_part_1 (by decide +kernel) ?_
    refine lv_iconst (v := nI 3) hx hb dX0_part_2 (by decide +kernel) ?_
    refine zz_callSv (As := [.int (nI c), .int (nI 0), .int (nI 3)]) (rest := []) F hK hP hD hS hA (c_rr_ok l D tys _ _ c 0 3 hc0 hc (by decide)) (va_cwS 3 hts gX0_part_X0_requireRange rfl rfl rfl (by decide +kernel) ⟨Nat.le_of_ble_eq_true rfl, Nat.le_of_ble_eq_true rfl⟩) rfl hl.1 rfl (by decide) dX0_part_3 ⟨Nat.le_of_ble_eq_true rfl, Nat.le_of_ble_eq_true rfl⟩ (fun _ H locs _ hP hD hS => ?_)
    have hP : va_P D vwCl (nmW cI h a1 a2 a3 a4 wf nf bf bs mc ff fr) H := hP
    have hD : va_D A (nmW cI h a1 a2 a3 a4 wf nf bf bs mc ff fr) := hD
    refine lv_aload_n hx hb dX0_part_6 rfl (lv_at hl 0 rfl) ?_
    refine lv_iload_n hx hb dX0_part_7 rfl (lv_at hl 1 rfl) ?_
    refine zx_callVv (As := [.int x]) (rest := []) F hK hP hD hS hA hst (c_findBest l hl0 D tys cI hI h a1 a2 a3 a4 fr _ wf nf bf bs mc ff w n ok x) (cwV 1 hts gX0_part_X0_findBest rfl rfl rfl (by decide +kernel) ⟨Nat.le_of_ble_eq_true rfl, Nat.le_of_ble_eq_true rfl⟩) 0 rfl rfl rfl hl.1 rfl (by decide) dX0_part_8 ⟨Nat.le_of_ble_eq_true rfl, Nat.le_of_ble_eq_true rfl⟩ (fun E ce q9 u H locs hE hP hD hS g1 g2 g3 => zx_out htab hlocks hK hS g1 g2 g3 (by decide) (by decide) u (hE.elim (fun q => Or.inl ⟨q.1, fun q9 => q.2 q9.2⟩) (fun q => Or.inr ⟨q.1, hz0, q.2⟩)) hP hD) (fun u H locs hu hP hD hS => ?_)
    obtain ⟨bf, bs, mc⟩ := u
    obtain ⟨v, hv, hx9, bm, hB, e1, hbm⟩ := hu
    have hP : va_P D vwCl (nmW cI h a1 a2 a3 a4 wf nf bf bs mc ff fr) H := hP
    have hD : va_D A (nmW cI h a1 a2 a3 a4 wf nf bf bs mc ff fr) := hD
    refine lv_aload_n hx hb dX0_part_11 rfl (lv_at hl 0 rfl) ?_
    refine va_get (D := D) (ci := 0) (v := .ref a3) (C := RX0) (T := TX0) (N := 6) hx hb hts (inX0_part) hown hK hP 0 rfl rfl 2 (by decide) (hts (.fieldLink RX0 16 "NoteMix" "bestMix" "[I") (by decide +kernel)) (fun _ h9 => h9) rfl dX0_part_12 ?_
    refine lv_iload_n hx hb dX0_part_15 rfl (lv_at hl 2 rfl) ?_
    refine zn_iald (k := c) hx hb hK hP 3 _ rfl hI (by omega) (by decide) (hbm c (by omega)) dX0_part_16 ?_
    refine vx_ret ?_
    exact zz_iret F hr hlocks hK hS dX0_part_17 (by decide) (by decide) (bf, bs, mc) ⟨v, c, hv, by omega, hx9, rfl, bm, hB, rfl⟩ hP hD
  · refine lv_iload_n hx hb dX0_part_0 rfl (lv_at hl 2 rfl) ?_
    refine lv_iconst (v := nI 0) hx hb dX0_part_1 (by decide +kernel) ?_
    refine lv_iconst (v := nI 3) hx hb dX0_part_2 (by decide +kernel) ?_
    refine zx_callSv (As := [.int y, .int (nI 0), .int (nI 3)]) (rest := []) F hK hP hD hS hA hst (c_rr_bad l hl0 D tys _ _ y 0 3 hz (by decide) (by decide)) (va_cwS 3 hts gX0_part_X0_requireRange rfl rfl rfl (by decide +kernel) ⟨Nat.le_of_ble_eq_true rfl, Nat.le_of_ble_eq_true rfl⟩) rfl hl.1 rfl (by decide) dX0_part_3 ⟨Nat.le_of_ble_eq_true rfl, Nat.le_of_ble_eq_true rfl⟩ (fun E ce q9 _ H locs hE hP hD hS g1 g2 g3 => ?_) (fun _ _ _ h9 => h9.elim)
    exact zx_out htab hlocks hK hS g1 g2 g3 (by decide) (by decide) (bf, bs, mc) (Or.inl ⟨hE, fun q => hz q.1⟩) hP hD
end
section
set_option maxRecDepth 100000 in
set_option maxHeartbeats 4000000 in
theorem c_ways (l : Launch) (hl0 : l.stackTraces = false) (D : va_G) (tys : List (ClassId × FieldType)) (cI : ClassId) (hI : tys[0]? = some (cI, .int)) (h a1 a2 a3 a4 : Nat) (fr : va_W) (sz : Nat) (wf nf bf : Nat → Int32) (bs mc : Int32) (ff : Nat → Int32) (w n : Nat → Nat) (ok : nmOk wf nf w n) (x : Int32) : vx_Met l yX0_ways wsX0_ways ({ frames := 9, cells := 1, slots := 6, locals := 190 }) (va_Pc [.ref h, .int x] (zx_pre D tys (nmW cI h a1 a2 a3 a4 wf nf bf bs mc ff fr) sz)) (va_Qi (fun r (u : (Nat → Int32) × Int32 × Int32) => ∃ v : Nat, v ≤ 2000 ∧ x = nI v ∧ r = nI (mx_c w n v 68921)) (zz_B D tys (va_A (nmW cI h a1 a2 a3 a4 wf nf bf bs mc ff fr) sz) (fun u => nmW cI h a1 a2 a3 a4 wf nf u.1 u.2.1 u.2.2 ff fr)) (va_A (nmW cI h a1 a2 a3 a4 wf nf bf bs mc ff fr) sz)) (zx_X (fun E (u : (Nat → Int32) × Int32 × Int32) => E = "java/lang/IllegalArgumentException" ∧ ¬ zr x 0 2000) D tys (va_A (nmW cI h a1 a2 a3 a4 wf nf bf bs mc ff fr) sz) (fun u => nmW cI h a1 a2 a3 a4 wf nf u.1 u.2.1 u.2.2 ff fr)) 1 6 (va_A (nmW cI h a1 a2 a3 a4 wf nf bf bs mc ff fr) sz) := by
  refine zx_headI (cc := cX0_ways) (by decide) rfl (Nat.le_of_ble_eq_true rfl) ?_
  intro p e s m below meth cd A ls F hr hlocks htab hP hK hD hA hS hst hl
  obtain ⟨hx, hb, hml, hown, hts⟩ := id F
  have hl : lv_has ls 2 [(0, .ref h), (1, .int x)] := hl
  by_cases hz : zr x 0 2000
  · obtain ⟨v, hv0, hv, rfl⟩ := hz
    refine lv_iload_n hx hb dX0_ways_0 rfl (lv_at hl 1 rfl) ?_
    refine lv_iconst (v := nI 0) hx hb dX0_ways_1 (by decide +kernel) ?_
    refine lv_sipush (v := nI 2000) hx hb dX0_ways_2 (by decide +kernel) ?_
    refine zz_callSv (As := [.int (nI v), .int (nI 0), .int (nI 2000)]) (rest := []) F hK hP hD hS hA (c_rr_ok l D tys _ _ v 0 2000 hv0 hv (by decide)) (va_cwS 3 hts gX0_ways_X0_requireRange rfl rfl rfl (by decide +kernel) ⟨Nat.le_of_ble_eq_true rfl, Nat.le_of_ble_eq_true rfl⟩) rfl hl.1 rfl (by decide) dX0_ways_5 ⟨Nat.le_of_ble_eq_true rfl, Nat.le_of_ble_eq_true rfl⟩ (fun _ H locs _ hP hD hS => ?_)
    have hP : va_P D vwCl (nmW cI h a1 a2 a3 a4 wf nf bf bs mc ff fr) H := hP
    have hD : va_D A (nmW cI h a1 a2 a3 a4 wf nf bf bs mc ff fr) := hD
    refine lv_aload_n hx hb dX0_ways_8 rfl (lv_at hl 0 rfl) ?_
    refine lv_iload_n hx hb dX0_ways_9 rfl (lv_at hl 1 rfl) ?_
    refine zz_callVv (As := [.int (nI v)]) (rest := []) F hK hP hD hS hA (c_survey l D tys cI hI h a1 a2 a3 a4 fr _ wf nf bf bs mc ff w n ok v hv) (cwV 1 hts gX0_ways_X0_survey rfl rfl rfl (by decide +kernel) ⟨Nat.le_of_ble_eq_true rfl, Nat.le_of_ble_eq_true rfl⟩) 0 rfl rfl rfl hl.1 rfl (by decide) dX0_ways_10 ⟨Nat.le_of_ble_eq_true rfl, Nat.le_of_ble_eq_true rfl⟩ (fun u H locs hu hP hD hS => ?_)
    obtain ⟨bf, bs, mc⟩ := u
    obtain ⟨cnt, b, bm, e1, e2, hbm, hc1, hE⟩ := hu
    dsimp only at e1 e2
    subst e1 e2
    have hP : va_P D vwCl (nmW cI h a1 a2 a3 a4 wf nf bf (nI b) (nI cnt) ff fr) H := hP
    have hD : va_D A (nmW cI h a1 a2 a3 a4 wf nf bf (nI b) (nI cnt) ff fr) := hD
    refine lv_aload_n hx hb dX0_ways_13 rfl (lv_at hl 0 rfl) ?_
    refine va_get (D := D) (ci := 0) (v := .int (nI cnt)) (C := RX0) (T := TX0) (N := 6) hx hb hts (inX0_ways) hown hK hP 0 rfl rfl 4 (by decide) (hts (.fieldLink RX0 23 "NoteMix" "mixCount" "I") (by decide +kernel)) (fun _ h9 => h9) rfl dX0_ways_14 ?_
    refine vx_ret ?_
    exact zz_iret F hr hlocks hK hS dX0_ways_17 (by decide) (by decide) (bf, nI b, nI cnt) ⟨v, hv, rfl, by rw [hc1]⟩ hP hD
  · refine lv_iload_n hx hb dX0_ways_0 rfl (lv_at hl 1 rfl) ?_
    refine lv_iconst (v := nI 0) hx hb dX0_ways_1 (by decide +kernel) ?_
    refine lv_sipush (v := nI 2000) hx hb dX0_ways_2 (by decide +kernel) ?_
    refine zx_callSv (As := [.int x, .int (nI 0), .int (nI 2000)]) (rest := []) F hK hP hD hS hA hst (c_rr_bad l hl0 D tys _ _ x 0 2000 hz (by decide) (by decide)) (va_cwS 3 hts gX0_ways_X0_requireRange rfl rfl rfl (by decide +kernel) ⟨Nat.le_of_ble_eq_true rfl, Nat.le_of_ble_eq_true rfl⟩) rfl hl.1 rfl (by decide) dX0_ways_5 ⟨Nat.le_of_ble_eq_true rfl, Nat.le_of_ble_eq_true rfl⟩ (fun E ce q9 _ H locs hE hP hD hS g1 g2 g3 => ?_) (fun _ _ _ h9 => h9.elim)
    exact zx_out htab hlocks hK hS g1 g2 g3 (by decide) (by decide) (bf, bs, mc) ⟨hE, hz⟩ hP hD
end
section
set_option maxRecDepth 100000 in
set_option maxHeartbeats 4000000 in
theorem c_load (l : Launch) (hl0 : l.stackTraces = false) (D : va_G) (tys : List (ClassId × FieldType)) (cI : ClassId) (hI : tys[0]? = some (cI, .int)) (h a1 a2 a3 a4 : Nat) (fr : va_W) (sz : Nat) (wf nf bf : Nat → Int32) (bs mc : Int32) (ff : Nat → Int32) (w n : Nat → Nat) (ok : nmOk wf nf w n) (x y z : Int32) : vx_Met l yX0_load wsX0_load ({ frames := 9, cells := 1, slots := 6, locals := 190 }) (va_Pc [.ref h, .int x, .int y, .int z] (zx_pre D tys (nmW cI h a1 a2 a3 a4 wf nf bf bs mc ff fr) sz)) (va_Qv (fun (u : (Nat → Int32) × (Nat → Int32)) => ∃ c a b : Nat, c < 4 ∧ 1 ≤ a ∧ a ≤ 500 ∧ b ≤ 500 ∧ x = nI c ∧ y = nI a ∧ z = nI b ∧ nmOk u.1 u.2 (fun j => if j = c then a else w j) (fun j => if j = c then b else n j)) (zz_B D tys (va_A (nmW cI h a1 a2 a3 a4 wf nf bf bs mc ff fr) sz) (fun u => nmW cI h a1 a2 a3 a4 u.1 u.2 bf bs mc ff fr)) (va_A (nmW cI h a1 a2 a3 a4 wf nf bf bs mc ff fr) sz)) (zx_X (fun E (u : (Nat → Int32) × (Nat → Int32)) => E = "java/lang/IllegalArgumentException" ∧ ¬ (zr x 0 3 ∧ zr y 1 500 ∧ zr z 0 500) ∧ u = (wf, nf)) D tys (va_A (nmW cI h a1 a2 a3 a4 wf nf bf bs mc ff fr) sz) (fun u => nmW cI h a1 a2 a3 a4 u.1 u.2 bf bs mc ff fr)) 1 6 (va_A (nmW cI h a1 a2 a3 a4 wf nf bf bs mc ff fr) sz) := by
  refine zx_headV (cc := cX0_load) (by decide) rfl (Nat.le_of_ble_eq_true rfl) ?_
  intro p e s m below meth cd A ls F hr hlocks htab hP hK hD hA hS hst hl
  obtain ⟨hx, hb, hml, hown, hts⟩ := id F
  have hl : lv_has ls 4 [(0, .ref h), (1, .int x), (2, .int y), (3, .int z)] := hl
  by_cases hz : zr x 0 3
  · obtain ⟨c, hc0, hc, rfl⟩ := hz
    refine lv_iload_n hx hb dX0_load_0 rfl (lv_at hl 1 rfl) ?_
    refine lv_iconst (v := nI 0) hx hb dX0_load_1 (by decide +kernel) ?_
    refine lv_iconst (v := nI 3) hx hb dX0_load_2 (by decide +kernel) ?_
    refine zz_callSv (As := [.int (nI c), .int (nI 0), .int (nI 3)]) (rest := []) F hK hP hD hS hA (c_rr_ok l D tys _ _ c 0 3 hc0 hc (by decide)) (va_cwS 3 hts gX0_load_X0_requireRange rfl rfl rfl (by decide +kernel) ⟨Nat.le_of_ble_eq_true rfl, Nat.le_of_ble_eq_true rfl⟩) rfl hl.1 rfl (by decide) dX0_load_3 ⟨Nat.le_of_ble_eq_true rfl, Nat.le_of_ble_eq_true rfl⟩ (fun _ H locs _ hP hD hS => ?_)
    have hP : va_P D vwCl (nmW cI h a1 a2 a3 a4 wf nf bf bs mc ff fr) H := hP
    have hD : va_D A (nmW cI h a1 a2 a3 a4 wf nf bf bs mc ff fr) := hD
    by_cases hz : zr y 1 500
    · obtain ⟨a, ha0, ha, rfl⟩ := hz
      refine lv_iload_n hx hb dX0_load_6 rfl (lv_at hl 2 rfl) ?_
      refine lv_iconst (v := nI 1) hx hb dX0_load_7 (by decide +kernel) ?_
      refine lv_sipush (v := nI 500) hx hb dX0_load_8 (by decide +kernel) ?_
      refine zz_callSv (As := [.int (nI a), .int (nI 1), .int (nI 500)]) (rest := []) F hK hP hD hS hA (c_rr_ok l D tys _ _ a 1 500 ha0 ha (by decide)) (va_cwS 3 hts gX0_load_X0_requireRange rfl rfl rfl (by decide +kernel) ⟨Nat.le_of_ble_eq_true rfl, Nat.le_of_ble_eq_true rfl⟩) rfl hl.1 rfl (by decide) dX0_load_11 ⟨Nat.le_of_ble_eq_true rfl, Nat.le_of_ble_eq_true rfl⟩ (fun _ H locs _ hP hD hS => ?_)
      have hP : va_P D vwCl (nmW cI h a1 a2 a3 a4 wf nf bf bs mc ff fr) H := hP
      have hD : va_D A (nmW cI h a1 a2 a3 a4 wf nf bf bs mc ff fr) := hD
      by_cases hz : zr z 0 500
      · obtain ⟨b, hb0, hb9, rfl⟩ := hz
        refine lv_iload_n hx hb dX0_load_14 rfl (lv_at hl 3 rfl) ?_
        refine lv_iconst (v := nI 0) hx hb dX0_load_15 (by decide +kernel) ?_
        refine lv_sipush (v := nI 500) hx hb dX0_load_16 (by decide +kernel) ?_
        refine zz_callSv (As := [.int (nI b), .int (nI 0), .int (nI 500)]) (rest := []) F hK hP hD hS hA (c_rr_ok l D tys _ _ b 0 500 hb0 hb9 (by decide)) (va_cwS 3 hts gX0_load_X0_requireRange rfl rfl rfl (by decide +kernel) ⟨Nat.le_of_ble_eq_true rfl, Nat.le_of_ble_eq_true rfl⟩) rfl hl.1 rfl (by decide) dX0_load_19 ⟨Nat.le_of_ble_eq_true rfl, Nat.le_of_ble_eq_true rfl⟩ (fun _ H locs _ hP hD hS => ?_)
        have hP : va_P D vwCl (nmW cI h a1 a2 a3 a4 wf nf bf bs mc ff fr) H := hP
        have hD : va_D A (nmW cI h a1 a2 a3 a4 wf nf bf bs mc ff fr) := hD
        refine lv_aload_n hx hb dX0_load_22 rfl (lv_at hl 0 rfl) ?_
        refine va_get (D := D) (ci := 0) (v := .ref a1) (C := RX0) (T := TX0) (N := 6) hx hb hts (inX0_load) hown hK hP 0 rfl rfl 0 (by decide) (hts (.fieldLink RX0 9 "NoteMix" "worthOf" "[I") (by decide +kernel)) (fun _ h9 => h9) rfl dX0_load_23 ?_
        refine lv_iload_n hx hb dX0_load_26 rfl (lv_at hl 1 rfl) ?_
        refine lv_iload_n hx hb dX0_load_27 rfl (lv_at hl 2 rfl) ?_
        refine zn_iast (k := c) hx hb hK hP hD hS 1 _ rfl hI (by omega) (by decide) dX0_load_28 (fun H locs wf1 wf1e wf1n hP hD hS => ?_)
        have hP : va_P D vwCl (nmW cI h a1 a2 a3 a4 wf1 nf bf bs mc ff fr) H := hP
        have hD : va_D A (nmW cI h a1 a2 a3 a4 wf1 nf bf bs mc ff fr) := hD
        refine lv_aload_n hx hb dX0_load_29 rfl (lv_at hl 0 rfl) ?_
        refine va_get (D := D) (ci := 0) (v := .ref a2) (C := RX0) (T := TX0) (N := 6) hx hb hts (inX0_load) hown hK hP 0 rfl rfl 1 (by decide) (hts (.fieldLink RX0 13 "NoteMix" "notesIn" "[I") (by decide +kernel)) (fun _ h9 => h9) rfl dX0_load_30 ?_
        refine lv_iload_n hx hb dX0_load_33 rfl (lv_at hl 1 rfl) ?_
        refine lv_iload_n hx hb dX0_load_34 rfl (lv_at hl 3 rfl) ?_
        refine zn_iast (k := c) hx hb hK hP hD hS 2 _ rfl hI (by omega) (by decide) dX0_load_35 (fun H locs nf1 nf1e nf1n hP hD hS => ?_)
        have hP : va_P D vwCl (nmW cI h a1 a2 a3 a4 wf1 nf1 bf bs mc ff fr) H := hP
        have hD : va_D A (nmW cI h a1 a2 a3 a4 wf1 nf1 bf bs mc ff fr) := hD
        refine vx_ret ?_
        refine zz_vret F hr hlocks hK hS dX0_load_36 (by decide) (by decide) (wf1, nf1) ⟨c, a, b, by omega, ha0, ha, hb9, rfl, rfl, rfl, fun j hj => ?_, fun j hj => ?_, fun j hj => ?_⟩ hP hD
        · by_cases e9 : j = c
          · subst e9
            show wf1 j = nI (if j = j then _ else _)
            rw [if_pos rfl]
            exact wf1e
          · show wf1 j = nI (if j = c then _ else _)
            rw [if_neg e9, wf1n j e9]
            exact ok.1 j hj
        · by_cases e9 : j = c
          · subst e9
            show nf1 j = nI (if j = j then _ else _)
            rw [if_pos rfl]
            exact nf1e
          · show nf1 j = nI (if j = c then _ else _)
            rw [if_neg e9, nf1n j e9]
            exact ok.2.1 j hj
        · obtain ⟨k1, k2, k3⟩ := ok.2.2 j hj
          by_cases e9 : j = c
          · simp only [if_pos e9]
            omega
          · simp only [if_neg e9]
            omega
      · refine lv_iload_n hx hb dX0_load_14 rfl (lv_at hl 3 rfl) ?_
        refine lv_iconst (v := nI 0) hx hb dX0_load_15 (by decide +kernel) ?_
        refine lv_sipush (v := nI 500) hx hb dX0_load_16 (by decide +kernel) ?_
        refine zx_callSv (As := [.int z, .int (nI 0), .int (nI 500)]) (rest := []) F hK hP hD hS hA hst (c_rr_bad l hl0 D tys _ _ z 0 500 hz (by decide) (by decide)) (va_cwS 3 hts gX0_load_X0_requireRange rfl rfl rfl (by decide +kernel) ⟨Nat.le_of_ble_eq_true rfl, Nat.le_of_ble_eq_true rfl⟩) rfl hl.1 rfl (by decide) dX0_load_19 ⟨Nat.le_of_ble_eq_true rfl, Nat.le_of_ble_eq_true rfl⟩ (fun E ce q9 _ H locs hE hP hD hS g1 g2 g3 => ?_) (fun _ _ _ h9 => h9.elim)
        exact zx_out htab hlocks hK hS g1 g2 g3 (by decide) (by decide) (wf, nf) ⟨hE, fun q => hz q.2.2, rfl⟩ hP hD
    · refine lv_iload_n hx hb dX0_load_6 rfl (lv_at hl 2 rfl) ?_
      refine lv_iconst (v := nI 1) hx hb dX0_load_7 (by decide +kernel) ?_
      refine lv_sipush (v := nI 500) hx hb dX0_load_8 (by decide +kernel) ?_
      refine zx_callSv (As := [.int y, .int (nI 1), .int (nI 500)]) (rest := []) F hK hP hD hS hA hst (c_rr_bad l hl0 D tys _ _ y 1 500 hz (by decide) (by decide)) (va_cwS 3 hts gX0_load_X0_requireRange rfl rfl rfl (by decide +kernel) ⟨Nat.le_of_ble_eq_true rfl, Nat.le_of_ble_eq_true rfl⟩) rfl hl.1 rfl (by decide) dX0_load_11 ⟨Nat.le_of_ble_eq_true rfl, Nat.le_of_ble_eq_true rfl⟩ (fun E ce q9 _ H locs hE hP hD hS g1 g2 g3 => ?_) (fun _ _ _ h9 => h9.elim)
      exact zx_out htab hlocks hK hS g1 g2 g3 (by decide) (by decide) (wf, nf) ⟨hE, fun q => hz q.2.1, rfl⟩ hP hD
  · refine lv_iload_n hx hb dX0_load_0 rfl (lv_at hl 1 rfl) ?_
    refine lv_iconst (v := nI 0) hx hb dX0_load_1 (by decide +kernel) ?_
    refine lv_iconst (v := nI 3) hx hb dX0_load_2 (by decide +kernel) ?_
    refine zx_callSv (As := [.int x, .int (nI 0), .int (nI 3)]) (rest := []) F hK hP hD hS hA hst (c_rr_bad l hl0 D tys _ _ x 0 3 hz (by decide) (by decide)) (va_cwS 3 hts gX0_load_X0_requireRange rfl rfl rfl (by decide +kernel) ⟨Nat.le_of_ble_eq_true rfl, Nat.le_of_ble_eq_true rfl⟩) rfl hl.1 rfl (by decide) dX0_load_3 ⟨Nat.le_of_ble_eq_true rfl, Nat.le_of_ble_eq_true rfl⟩ (fun E ce q9 _ H locs hE hP hD hS g1 g2 g3 => ?_) (fun _ _ _ h9 => h9.elim)
    exact zx_out htab hlocks hK hS g1 g2 g3 (by decide) (by decide) (wf, nf) ⟨hE, fun q => hz q.1, rfl⟩ hP hD
end
section
set_option maxRecDepth 100000 in
set_option maxHeartbeats 4000000 in
theorem c_next (l : Launch) (hl0 : l.stackTraces = false) (D : va_G) (tys : List (ClassId × FieldType)) (cI : ClassId) (hI : tys[0]? = some (cI, .int)) (h a1 a2 a3 a4 : Nat) (fr : va_W) (sz : Nat) (wf nf bf : Nat → Int32) (bs mc : Int32) (ff : Nat → Int32) (w n : Nat → Nat) (ok : nmOk wf nf w n) (x : Int32) : vx_Met l yX0_next wsX0_next ({ frames := 9, cells := 1, slots := 6, locals := 190 }) (va_Pc [.ref h, .int x] (zx_pre D tys (nmW cI h a1 a2 a3 a4 wf nf bf bs mc ff fr) sz)) (va_Qi (fun r (u : Nat → Int32) => ∃ v : Nat, v ≤ 2000 ∧ x = nI v ∧ mx_N w n v r) (zz_B D tys (va_A (nmW cI h a1 a2 a3 a4 wf nf bf bs mc ff fr) sz) (fun u => nmW cI h a1 a2 a3 a4 wf nf bf bs mc u fr)) (va_A (nmW cI h a1 a2 a3 a4 wf nf bf bs mc ff fr) sz)) (zx_X (fun E (u : Nat → Int32) => E = "java/lang/IllegalArgumentException" ∧ ¬ zr x 0 2000) D tys (va_A (nmW cI h a1 a2 a3 a4 wf nf bf bs mc ff fr) sz) (fun u => nmW cI h a1 a2 a3 a4 wf nf bf bs mc u fr)) 1 6 (va_A (nmW cI h a1 a2 a3 a4 wf nf bf bs mc ff fr) sz) := by
  refine zx_headI (cc := cX0_next) (by decide) rfl (Nat.le_of_ble_eq_true rfl) ?_
  intro p e s m below meth cd A ls F hr hlocks htab hP hK hD hA hS hst hl
  obtain ⟨hx, hb, hml, hown, hts⟩ := id F
  have hl : lv_has ls 3 [(0, .ref h), (1, .int x)] := hl
  by_cases hz : zr x 0 2000
  · obtain ⟨v, hv0, hv, rfl⟩ := hz
    refine lv_iload_n hx hb dX0_next_0 rfl (lv_at hl 1 rfl) ?_
    refine lv_iconst (v := nI 0) hx hb dX0_next_1 (by decide +kernel) ?_
    refine lv_sipush (v := nI 2000) hx hb dX0_next_2 (by decide +kernel) ?_
    refine zz_callSv (As := [.int (nI v), .int (nI 0), .int (nI 2000)]) (rest := []) F hK hP hD hS hA (c_rr_ok l D tys _ _ v 0 2000 hv0 hv (by decide)) (va_cwS 3 hts gX0_next_X0_requireRange rfl rfl rfl (by decide +kernel) ⟨Nat.le_of_ble_eq_true rfl, Nat.le_of_ble_eq_true rfl⟩) rfl hl.1 rfl (by decide) dX0_next_5 ⟨Nat.le_of_ble_eq_true rfl, Nat.le_of_ble_eq_true rfl⟩ (fun _ H locs _ hP hD hS => ?_)
    have hP : va_P D vwCl (nmW cI h a1 a2 a3 a4 wf nf bf bs mc ff fr) H := hP
    have hD : va_D A (nmW cI h a1 a2 a3 a4 wf nf bf bs mc ff fr) := hD
    refine lv_aload_n hx hb dX0_next_8 rfl (lv_at hl 0 rfl) ?_
    refine zz_callVv (As := []) (rest := []) F hK hP hD hS hA (c_fillFewest l D tys cI hI h a1 a2 a3 a4 fr _ wf nf bf bs mc ff w n ok) (cwV 0 hts gX0_next_X0_fillFewest rfl rfl rfl (by decide +kernel) ⟨Nat.le_of_ble_eq_true rfl, Nat.le_of_ble_eq_true rfl⟩) 0 rfl rfl rfl hl.1 rfl (by decide) dX0_next_9 ⟨Nat.le_of_ble_eq_true rfl, Nat.le_of_ble_eq_true rfl⟩ (fun g H locs hg hP hD hS => ?_)
    have hP : va_P D vwCl (nmW cI h a1 a2 a3 a4 wf nf bf bs mc g fr) H := hP
    have hD : va_D A (nmW cI h a1 a2 a3 a4 wf nf bf bs mc g fr) := hD
    obtain ⟨f, hg, hf⟩ := hg
    refine lv_iload_n hx hb dX0_next_12 rfl (lv_at hl 1 rfl) ?_
    refine lv_istore_n (lv' := [(2, .int (nI v)), (0, .ref h), (1, .int (nI v))]) hx hb dX0_next_13 rfl hl (by decide) rfl (fun ls hl => ?_)
    have hl : lv_has ls 3 [(2, .int (nI v)), (1, .int (nI v)), (0, .ref h)] := lv_sub hl [0, 2, 1] rfl
    refine zz_loop (fun ls H locs (u : Nat) => lv_has ls 3 [(2, .int (nI u)), (1, .int (nI v)), (0, .ref h)] ∧ va_P D vwCl (nmW cI h a1 a2 a3 a4 wf nf bf bs mc g fr) H ∧ va_D A (nmW cI h a1 a2 a3 a4 wf nf bf bs mc g fr) ∧ va_S A s.heap H locs ∧ u ≤ 2001 ∧ v ≤ u ∧ ∀ j, v ≤ j → j < u → ¬ mx_has w n j) (fun u => 2001 - u) ?_ v ⟨hl, hP, hD, hS, by omega, Nat.le_refl _, fun j h1 h2 => absurd h1 (by omega)⟩
    rintro ls H locs a ⟨hl, hP, hD, hS, ha, hva, hno⟩ kk
    refine lv_iload_n hx hb dX0_next_14 rfl (lv_at hl 0 rfl) ?_
    refine lv_sipush (v := nI 2000) hx hb dX0_next_15 (by decide +kernel) ?_
    refine zn_gt hx hb (by omega) (by omega) dX0_next_18 rfl (fun hc => ?_) (fun hc => ?_)
    · refine lv_iconst (v := -1) hx hb dX0_next_40 (by decide +kernel) ?_
      refine vx_ret ?_
      exact zz_iret F hr hlocks hK hS dX0_next_41 (by decide) (by decide) g ⟨v, hv, rfl, Or.inr ⟨fun j h1 h2 => hno j h1 (by omega), rfl⟩⟩ hP hD
    · obtain ⟨f1, f2⟩ := hf a hc
      refine lv_aload_n hx hb dX0_next_21 rfl (lv_at hl 2 rfl) ?_
      refine va_get (D := D) (ci := 0) (v := .ref a4) (C := RX0) (T := TX0) (N := 6) hx hb hts (inX0_next) hown hK hP 0 rfl rfl 5 (by decide) (hts (.fieldLink RX0 26 "NoteMix" "fewest" "[I") (by decide +kernel)) (fun _ h9 => h9) rfl dX0_next_22 ?_
      refine lv_iload_n hx hb dX0_next_25 rfl (lv_at hl 0 rfl) ?_
      refine zn_iald (k := a) hx hb hK hP 4 _ rfl hI (by omega) (by decide) (hg a (by omega)) dX0_next_26 ?_
      refine lv_bipush (v := nI 41) hx hb dX0_next_27 (by decide +kernel) ?_
      refine zn_ge hx hb (by omega) (by omega) dX0_next_29 rfl (fun hq => ?_) (fun hq => ?_)
      · refine lv_iinc (k := 0) (lv' := [(2, .int (nI (a + 1))), (1, .int (nI v)), (0, .ref h)]) hx hb dX0_next_34 hl rfl (zz_i1 _) (by decide) rfl (fun ls hl => ?_)
        refine lv_goto hx hb dX0_next_37 rfl ?_
        have hl : lv_has ls 3 [(2, .int (nI (a + 1))), (1, .int (nI v)), (0, .ref h)] := lv_sub hl [0, 1, 2] rfl
        refine kk _ _ _ (a + 1) ⟨hl, hP, hD, hS, by omega, by omega, fun j h1 h2 => ?_⟩ (by omega)
        · by_cases e9 : j = a
          · subst e9
            exact fun h9 => absurd (f2.2 h9) (by omega)
          · exact hno j h1 (by omega)
      · refine lv_iload_n hx hb dX0_next_32 rfl (lv_at hl 0 rfl) ?_
        refine vx_ret ?_
        exact zz_iret F hr hlocks hK hS dX0_next_33 (by decide) (by decide) g ⟨v, hv, rfl, Or.inl ⟨a, hva, hc, f2.1 hq, hno, rfl⟩⟩ hP hD
  · refine lv_iload_n hx hb dX0_next_0 rfl (lv_at hl 1 rfl) ?_
    refine lv_iconst (v := nI 0) hx hb dX0_next_1 (by decide +kernel) ?_
    refine lv_sipush (v := nI 2000) hx hb dX0_next_2 (by decide +kernel) ?_
    refine zx_callSv (As := [.int x, .int (nI 0), .int (nI 2000)]) (rest := []) F hK hP hD hS hA hst (c_rr_bad l hl0 D tys _ _ x 0 2000 hz (by decide) (by decide)) (va_cwS 3 hts gX0_next_X0_requireRange rfl rfl rfl (by decide +kernel) ⟨Nat.le_of_ble_eq_true rfl, Nat.le_of_ble_eq_true rfl⟩) rfl hl.1 rfl (by decide) dX0_next_5 ⟨Nat.le_of_ble_eq_true rfl, Nat.le_of_ble_eq_true rfl⟩ (fun E ce q9 _ H locs hE hP hD hS g1 g2 g3 => ?_) (fun _ _ _ h9 => h9.elim)
    exact zx_out htab hlocks hK hS g1 g2 g3 (by decide) (by decide) ff ⟨hE, hz⟩ hP hD
end
section
set_option maxRecDepth 100000 in
set_option maxHeartbeats 4000000 in
theorem c_cassette (l : Launch) (hl0 : l.stackTraces = false) (D : va_G) (tys : List (ClassId × FieldType)) (cI : ClassId) (hI : tys[0]? = some (cI, .int)) (h a1 a2 a3 a4 : Nat) (fr : va_W) (sz : Nat) (wf nf bf : Nat → Int32) (bs mc : Int32) (ff : Nat → Int32) (w n : Nat → Nat) (ok : nmOk wf nf w n) (x y : Int32) : vx_Met l yX0_cassette wsX0_cassette ({ frames := 9, cells := 1, slots := 6, locals := 190 }) (va_Pc [.ref h, .int x, .int y] (zx_pre D tys (nmW cI h a1 a2 a3 a4 wf nf bf bs mc ff fr) sz)) (va_Qi (fun r (u : Unit) => ∃ c : Nat, c < 4 ∧ x = nI c ∧ r = if y = 0 then nI (n c) else nI (w c)) (zz_B D tys (va_A (nmW cI h a1 a2 a3 a4 wf nf bf bs mc ff fr) sz) (fun u => nmW cI h a1 a2 a3 a4 wf nf bf bs mc ff fr)) (va_A (nmW cI h a1 a2 a3 a4 wf nf bf bs mc ff fr) sz)) (zx_X (fun E (u : Unit) => E = "java/lang/IllegalArgumentException" ∧ ¬ zr x 0 3) D tys (va_A (nmW cI h a1 a2 a3 a4 wf nf bf bs mc ff fr) sz) (fun u => nmW cI h a1 a2 a3 a4 wf nf bf bs mc ff fr)) 1 6 (va_A (nmW cI h a1 a2 a3 a4 wf nf bf bs mc ff fr) sz) := by
  refine zx_headI (cc := cX0_cassette) (by decide) rfl (Nat.le_of_ble_eq_true rfl) ?_
  intro p e s m below meth cd A ls F hr hlocks htab hP hK hD hA hS hst hl
  obtain ⟨hx, hb, hml, hown, hts⟩ := id F
  have hl : lv_has ls 3 [(0, .ref h), (1, .int x), (2, .int y)] := hl
  by_cases hz : zr x 0 3
  · obtain ⟨c, hc0, hc, rfl⟩ := hz
    refine lv_iload_n hx hb dX0_cassette_0 rfl (lv_at hl 1 rfl) ?_
    refine lv_iconst (v := nI 0) hx hb dX0_cassette_1 (by decide +kernel) ?_
    refine lv_iconst (v := nI 3) hx hb dX0_cassette_2 (by decide +kernel) ?_
    refine zz_callSv (As := [.int (nI c), .int (nI 0), .int (nI 3)]) (rest := []) F hK hP hD hS hA (c_rr_ok l D tys _ _ c 0 3 hc0 hc (by decide)) (va_cwS 3 hts gX0_cassette_X0_requireRange rfl rfl rfl (by decide +kernel) ⟨Nat.le_of_ble_eq_true rfl, Nat.le_of_ble_eq_true rfl⟩) rfl hl.1 rfl (by decide) dX0_cassette_3 ⟨Nat.le_of_ble_eq_true rfl, Nat.le_of_ble_eq_true rfl⟩ (fun _ H locs _ hP hD hS => ?_)
    have hP : va_P D vwCl (nmW cI h a1 a2 a3 a4 wf nf bf bs mc ff fr) H := hP
    have hD : va_D A (nmW cI h a1 a2 a3 a4 wf nf bf bs mc ff fr) := hD
    refine lv_iload_n hx hb dX0_cassette_6 rfl (lv_at hl 2 rfl) ?_
    refine lv_if_eq hx hb dX0_cassette_7 rfl (fun hq => ?_) (fun hq => ?_)
    · refine lv_aload_n hx hb dX0_cassette_19 rfl (lv_at hl 0 rfl) ?_
      refine va_get (D := D) (ci := 0) (v := .ref a2) (C := RX0) (T := TX0) (N := 6) hx hb hts (inX0_cassette) hown hK hP 0 rfl rfl 1 (by decide) (hts (.fieldLink RX0 13 "NoteMix" "notesIn" "[I") (by decide +kernel)) (fun _ h9 => h9) rfl dX0_cassette_20 ?_
      refine lv_iload_n hx hb dX0_cassette_23 rfl (lv_at hl 1 rfl) ?_
      refine zn_iald (k := c) hx hb hK hP 2 _ rfl hI (by omega) (by decide) (ok.2.1 c (by omega)) dX0_cassette_24 ?_
      refine vx_ret ?_
      exact zz_iret F hr hlocks hK hS dX0_cassette_25 (by decide) (by decide) () ⟨c, by omega, rfl, by rw [if_pos hq]⟩ hP hD
    · refine lv_aload_n hx hb dX0_cassette_10 rfl (lv_at hl 0 rfl) ?_
      refine va_get (D := D) (ci := 0) (v := .ref a1) (C := RX0) (T := TX0) (N := 6) hx hb hts (inX0_cassette) hown hK hP 0 rfl rfl 0 (by decide) (hts (.fieldLink RX0 9 "NoteMix" "worthOf" "[I") (by decide +kernel)) (fun _ h9 => h9) rfl dX0_cassette_11 ?_
      refine lv_iload_n hx hb dX0_cassette_14 rfl (lv_at hl 1 rfl) ?_
      refine zn_iald (k := c) hx hb hK hP 1 _ rfl hI (by omega) (by decide) (ok.1 c (by omega)) dX0_cassette_15 ?_
      refine lv_goto hx hb dX0_cassette_16 rfl ?_
      refine vx_ret ?_
      exact zz_iret F hr hlocks hK hS dX0_cassette_25 (by decide) (by decide) () ⟨c, by omega, rfl, by rw [if_neg hq]⟩ hP hD
  · refine lv_iload_n hx hb dX0_cassette_0 rfl (lv_at hl 1 rfl) ?_
    refine lv_iconst (v := nI 0) hx hb dX0_cassette_1 (by decide +kernel) ?_
    refine lv_iconst (v := nI 3) hx hb dX0_cassette_2 (by decide +kernel) ?_
    refine zx_callSv (As := [.int x, .int (nI 0), .int (nI 3)]) (rest := []) F hK hP hD hS hA hst (c_rr_bad l hl0 D tys _ _ x 0 3 hz (by decide) (by decide)) (va_cwS 3 hts gX0_cassette_X0_requireRange rfl rfl rfl (by decide +kernel) ⟨Nat.le_of_ble_eq_true rfl, Nat.le_of_ble_eq_true rfl⟩) rfl hl.1 rfl (by decide) dX0_cassette_3 ⟨Nat.le_of_ble_eq_true rfl, Nat.le_of_ble_eq_true rfl⟩ (fun E ce q9 _ H locs hE hP hD hS g1 g2 g3 => ?_) (fun _ _ _ h9 => h9.elim)
    exact zx_out htab hlocks hK hS g1 g2 g3 (by decide) (by decide) () ⟨hE, hz⟩ hP hD
end
section
set_option maxRecDepth 100000 in
set_option maxHeartbeats 4000000 in
theorem c_pay (l : Launch) (hl0 : l.stackTraces = false) (D : va_G) (tys : List (ClassId × FieldType)) (cI : ClassId) (hI : tys[0]? = some (cI, .int)) (h a1 a2 a3 a4 : Nat) (fr : va_W) (sz : Nat) (wf nf bf : Nat → Int32) (bs mc : Int32) (ff : Nat → Int32) (w n : Nat → Nat) (ok : nmOk wf nf w n) (x y : Int32) : vx_Met l yX0_pay wsX0_pay ({ frames := 9, cells := 1, slots := 6, locals := 190 }) (va_Pc [.ref h, .int x, .int y] (zx_pre D tys (nmW cI h a1 a2 a3 a4 wf nf bf bs mc ff fr) sz)) (va_Qi (fun r (u : (Nat → Int32) × (Nat → Int32) × Int32 × Int32) => ∃ v jam : Nat, v ≤ 2000 ∧ jam ≤ 40 ∧ x = nI v ∧ y = nI jam ∧ ∃ (bm : Nat → Nat) (o3 o2 o1 o0 : Nat), mx_B w n v (bm 0) (bm 1) (bm 2) (bm 3) ∧ o3 = min (bm 3) jam ∧ o2 = min (bm 2) (jam - o3) ∧ o1 = min (bm 1) (jam - o3 - o2) ∧ o0 = min (bm 0) (jam - o3 - o2 - o1) ∧ r = nI (0 + o3 * w 3 + o2 * w 2 + o1 * w 1 + o0 * w 0) ∧ u.1 0 = nI (n 0 - o0) ∧ u.1 1 = nI (n 1 - o1) ∧ u.1 2 = nI (n 2 - o2) ∧ u.1 3 = nI (n 3 - o3)) (zz_B D tys (va_A (nmW cI h a1 a2 a3 a4 wf nf bf bs mc ff fr) sz) (fun u => nmW cI h a1 a2 a3 a4 wf u.1 u.2.1 u.2.2.1 u.2.2.2 ff fr)) (va_A (nmW cI h a1 a2 a3 a4 wf nf bf bs mc ff fr) sz)) (zx_X (fun E (u : (Nat → Int32) × (Nat → Int32) × Int32 × Int32) => u.1 = nf ∧ ((E = "java/lang/IllegalArgumentException" ∧ ¬ (zr y 0 40 ∧ zr x 0 2000)) ∨ (E = "java/util/NoSuchElementException" ∧ zr y 0 40 ∧ ∃ v : Nat, v ≤ 2000 ∧ x = nI v ∧ ¬ mx_has w n v))) D tys (va_A (nmW cI h a1 a2 a3 a4 wf nf bf bs mc ff fr) sz) (fun u => nmW cI h a1 a2 a3 a4 wf u.1 u.2.1 u.2.2.1 u.2.2.2 ff fr)) 1 6 (va_A (nmW cI h a1 a2 a3 a4 wf nf bf bs mc ff fr) sz) := by
  refine zx_headI (cc := cX0_pay) (by decide) rfl (Nat.le_of_ble_eq_true rfl) ?_
  intro p e s m below meth cd A ls F hr hlocks htab hP hK hD hA hS hst hl
  obtain ⟨hx, hb, hml, hown, hts⟩ := id F
  have hl : lv_has ls 7 [(0, .ref h), (1, .int x), (2, .int y)] := hl
  by_cases hz : zr y 0 40
  · have hz0 := hz
    obtain ⟨jam, hj0, hj, rfl⟩ := hz
    refine lv_iload_n hx hb dX0_pay_0 rfl (lv_at hl 2 rfl) ?_
    refine lv_iconst (v := nI 0) hx hb dX0_pay_1 (by decide +kernel) ?_
    refine lv_bipush (v := nI 40) hx hb dX0_pay_2 (by decide +kernel) ?_
    refine zz_callSv (As := [.int (nI jam), .int (nI 0), .int (nI 40)]) (rest := []) F hK hP hD hS hA (c_rr_ok l D tys _ _ jam 0 40 hj0 hj (by decide)) (va_cwS 3 hts gX0_pay_X0_requireRange rfl rfl rfl (by decide +kernel) ⟨Nat.le_of_ble_eq_true rfl, Nat.le_of_ble_eq_true rfl⟩) rfl hl.1 rfl (by decide) dX0_pay_4 ⟨Nat.le_of_ble_eq_true rfl, Nat.le_of_ble_eq_true rfl⟩ (fun _ H locs _ hP hD hS => ?_)
    have hP : va_P D vwCl (nmW cI h a1 a2 a3 a4 wf nf bf bs mc ff fr) H := hP
    have hD : va_D A (nmW cI h a1 a2 a3 a4 wf nf bf bs mc ff fr) := hD
    refine lv_aload_n hx hb dX0_pay_7 rfl (lv_at hl 0 rfl) ?_
    refine lv_iload_n hx hb dX0_pay_8 rfl (lv_at hl 1 rfl) ?_
    refine zx_callVv (As := [.int x]) (rest := []) F hK hP hD hS hA hst (c_findBest l hl0 D tys cI hI h a1 a2 a3 a4 fr _ wf nf bf bs mc ff w n ok x) (cwV 1 hts gX0_pay_X0_findBest rfl rfl rfl (by decide +kernel) ⟨Nat.le_of_ble_eq_true rfl, Nat.le_of_ble_eq_true rfl⟩) 0 rfl rfl rfl hl.1 rfl (by decide) dX0_pay_9 ⟨Nat.le_of_ble_eq_true rfl, Nat.le_of_ble_eq_true rfl⟩ (fun E ce q9 u H locs hE hP hD hS g1 g2 g3 => zx_out htab hlocks hK hS g1 g2 g3 (by decide) (by decide) (nf, u) ⟨rfl, hE.elim (fun q => Or.inl ⟨q.1, fun q9 => q.2 q9.2⟩) (fun q => Or.inr ⟨q.1, hz0, q.2⟩)⟩ hP hD) (fun u H locs hu hP hD hS => ?_)
    obtain ⟨bf, bs, mc⟩ := u
    obtain ⟨v, hv, hx9, bm, hB, e1, hbm⟩ := hu
    obtain ⟨m0, m1, m2, m3, m4, m5⟩ := hB.1
    have hP : va_P D vwCl (nmW cI h a1 a2 a3 a4 wf nf bf bs mc ff fr) H := hP
    have hD : va_D A (nmW cI h a1 a2 a3 a4 wf nf bf bs mc ff fr) := hD
    obtain ⟨p0, q0, r0⟩ := ok.2.2 0 (by decide)
    obtain ⟨p1, q1, r1⟩ := ok.2.2 1 (by decide)
    obtain ⟨p2, q2, r2⟩ := ok.2.2 2 (by decide)
    obtain ⟨p3, q3, r3⟩ := ok.2.2 3 (by decide)
    refine lv_iload_n hx hb dX0_pay_12 rfl (lv_at hl 2 rfl) ?_
    refine lv_istore_n (lv' := [(3, .int (nI jam)), (0, .ref h), (1, .int x), (2, .int (nI jam))]) hx hb dX0_pay_13 rfl hl (by decide) rfl (fun ls hl => ?_)
    refine lv_iconst (v := nI 0) hx hb dX0_pay_14 (by decide +kernel) ?_
    refine lv_istore (lv' := [(4, .int (nI 0)), (3, .int (nI jam)), (0, .ref h), (1, .int x), (2, .int (nI jam))]) hx hb dX0_pay_15 hl (by decide) rfl (fun ls hl => ?_)
    refine lv_iconst (v := nI 3) hx hb dX0_pay_17 (by decide +kernel) ?_
    refine lv_istore (lv' := [(5, .int (nI 3)), (4, .int (nI 0)), (3, .int (nI jam)), (0, .ref h), (1, .int x), (2, .int (nI jam))]) hx hb dX0_pay_18 hl (by decide) rfl (fun ls hl => ?_)
    refine lv_iload hx hb dX0_pay_20 (lv_at hl 0 rfl) ?_
    refine lv_if_lt hx hb dX0_pay_22 rfl (fun hc => absurd hc (nI_pos (by decide))) (fun _ => ?_)
    refine lv_aload_n hx hb dX0_pay_25 rfl (lv_at hl 3 rfl) ?_
    refine va_get (D := D) (ci := 0) (v := .ref a3) (C := RX0) (T := TX0) (N := 6) hx hb hts (inX0_pay) hown hK hP 0 rfl rfl 2 (by decide) (hts (.fieldLink RX0 16 "NoteMix" "bestMix" "[I") (by decide +kernel)) (fun _ h9 => h9) rfl dX0_pay_26 ?_
    refine lv_iload hx hb dX0_pay_29 (lv_at hl 0 rfl) ?_
    refine zn_iald (k := 3) hx hb hK hP 3 _ rfl hI (by decide) (by decide) (hbm 3 (by decide)) dX0_pay_31 ?_
    refine lv_iload_n hx hb dX0_pay_32 rfl (lv_at hl 2 rfl) ?_
    refine zn_min hx hb (hml.trans hl.1.symm) hown (hts (.methodLink RX0 40 Lib.Math.min.name) (by decide +kernel)) (hts (.static Lib.Math.min.name) (by decide +kernel)) (hts (.initialized "java/lang/Math") (by decide +kernel)) (hts (.code Lib.Math.min.name Lib.Math.min.code 2 (some .int)) (by decide +kernel)) (Nat.le_of_ble_eq_true rfl) (Nat.le_of_ble_eq_true rfl) (Nat.le_of_ble_eq_true rfl) (Nat.le_of_ble_eq_true rfl) (by omega) (by omega) dX0_pay_33 ?_
    obtain ⟨o3, ho3⟩ : ∃ z, z = min (bm 3) jam := ⟨_, rfl⟩
    rw [← ho3]
    refine lv_istore (lv' := [(6, .int (nI o3)), (5, .int (nI 3)), (4, .int (nI 0)), (3, .int (nI jam)), (0, .ref h), (1, .int x), (2, .int (nI jam))]) hx hb dX0_pay_36 hl (by decide) rfl (fun ls hl => ?_)
    refine lv_aload_n hx hb dX0_pay_38 rfl (lv_at hl 4 rfl) ?_
    refine va_get (D := D) (ci := 0) (v := .ref a2) (C := RX0) (T := TX0) (N := 6) hx hb hts (inX0_pay) hown hK hP 0 rfl rfl 1 (by decide) (hts (.fieldLink RX0 13 "NoteMix" "notesIn" "[I") (by decide +kernel)) (fun _ h9 => h9) rfl dX0_pay_39 ?_
    refine lv_iload hx hb dX0_pay_42 (lv_at hl 1 rfl) ?_
    refine lv_dup2_11 hx hb dX0_pay_44 rfl rfl ?_
    refine zn_iald (k := 3) hx hb hK hP 2 _ rfl hI (by decide) (by decide) (by rw [ok.2.1 3 (by decide)]) dX0_pay_45 ?_
    refine lv_iload hx hb dX0_pay_46 (lv_at hl 0 rfl) ?_
    refine zn_sub hx hb (by omega) dX0_pay_48 ?_
    refine zn_iast (k := 3) hx hb hK hP hD hS 2 _ rfl hI (by decide) (by decide) dX0_pay_49 (fun H locs nf3 nf3e nf3n hP hD hS => ?_)
    have hP : va_P D vwCl (nmW cI h a1 a2 a3 a4 wf nf3 bf bs mc ff fr) H := hP
    have hD : va_D A (nmW cI h a1 a2 a3 a4 wf nf3 bf bs mc ff fr) := hD
    refine lv_iload_n hx hb dX0_pay_50 rfl (lv_at hl 3 rfl) ?_
    refine lv_iload hx hb dX0_pay_51 (lv_at hl 0 rfl) ?_
    refine zn_sub hx hb (by omega) dX0_pay_53 ?_
    refine lv_istore_n (lv' := [(3, .int (nI (jam - o3))), (6, .int (nI o3)), (5, .int (nI 3)), (4, .int (nI 0)), (0, .ref h), (1, .int x), (2, .int (nI jam))]) hx hb dX0_pay_54 rfl hl (by decide) rfl (fun ls hl => ?_)
    refine lv_iload hx hb dX0_pay_55 (lv_at hl 3 rfl) ?_
    refine lv_iload hx hb dX0_pay_57 (lv_at hl 1 rfl) ?_
    refine lv_aload_n hx hb dX0_pay_59 rfl (lv_at hl 4 rfl) ?_
    refine va_get (D := D) (ci := 0) (v := .ref a1) (C := RX0) (T := TX0) (N := 6) hx hb hts (inX0_pay) hown hK hP 0 rfl rfl 0 (by decide) (hts (.fieldLink RX0 9 "NoteMix" "worthOf" "[I") (by decide +kernel)) (fun _ h9 => h9) rfl dX0_pay_60 ?_
    refine lv_iload hx hb dX0_pay_63 (lv_at hl 2 rfl) ?_
    refine zn_iald (k := 3) hx hb hK hP 1 _ rfl hI (by decide) (by decide) (ok.1 3 (by omega)) dX0_pay_65 ?_
    refine zn_mul hx hb dX0_pay_66 ?_
    refine zn_add hx hb dX0_pay_67 ?_
    refine lv_istore (lv' := [(4, .int (nI (0 + (o3 * (w 3))))), (3, .int (nI (jam - o3))), (6, .int (nI o3)), (5, .int (nI 3)), (0, .ref h), (1, .int x), (2, .int (nI jam))]) hx hb dX0_pay_68 hl (by decide) rfl (fun ls hl => ?_)
    refine lv_iinc (k := 3) (lv' := [(5, .int (nI 2)), (4, .int (nI (0 + (o3 * (w 3))))), (3, .int (nI (jam - o3))), (6, .int (nI o3)), (0, .ref h), (1, .int x), (2, .int (nI jam))]) hx hb dX0_pay_70 hl rfl (zz_d1 2) (by decide) rfl (fun ls hl => ?_)
    refine lv_goto hx hb dX0_pay_73 rfl ?_
    refine lv_iload hx hb dX0_pay_20 (lv_at hl 0 rfl) ?_
    refine lv_if_lt hx hb dX0_pay_22 rfl (fun hc => absurd hc (nI_pos (by decide))) (fun _ => ?_)
    refine lv_aload_n hx hb dX0_pay_25 rfl (lv_at hl 4 rfl) ?_
    refine va_get (D := D) (ci := 0) (v := .ref a3) (C := RX0) (T := TX0) (N := 6) hx hb hts (inX0_pay) hown hK hP 0 rfl rfl 2 (by decide) (hts (.fieldLink RX0 16 "NoteMix" "bestMix" "[I") (by decide +kernel)) (fun _ h9 => h9) rfl dX0_pay_26 ?_
    refine lv_iload hx hb dX0_pay_29 (lv_at hl 0 rfl) ?_
    refine zn_iald (k := 2) hx hb hK hP 3 _ rfl hI (by decide) (by decide) (hbm 2 (by decide)) dX0_pay_31 ?_
    refine lv_iload_n hx hb dX0_pay_32 rfl (lv_at hl 2 rfl) ?_
    refine zn_min hx hb (hml.trans hl.1.symm) hown (hts (.methodLink RX0 40 Lib.Math.min.name) (by decide +kernel)) (hts (.static Lib.Math.min.name) (by decide +kernel)) (hts (.initialized "java/lang/Math") (by decide +kernel)) (hts (.code Lib.Math.min.name Lib.Math.min.code 2 (some .int)) (by decide +kernel)) (Nat.le_of_ble_eq_true rfl) (Nat.le_of_ble_eq_true rfl) (Nat.le_of_ble_eq_true rfl) (Nat.le_of_ble_eq_true rfl) (by omega) (by omega) dX0_pay_33 ?_
    obtain ⟨o2, ho2⟩ : ∃ z, z = min (bm 2) (jam - o3) := ⟨_, rfl⟩
    rw [← ho2]
    refine lv_istore (lv' := [(6, .int (nI o2)), (5, .int (nI 2)), (4, .int (nI (0 + (o3 * (w 3))))), (3, .int (nI (jam - o3))), (0, .ref h), (1, .int x), (2, .int (nI jam))]) hx hb dX0_pay_36 hl (by decide) rfl (fun ls hl => ?_)
    refine lv_aload_n hx hb dX0_pay_38 rfl (lv_at hl 4 rfl) ?_
    refine va_get (D := D) (ci := 0) (v := .ref a2) (C := RX0) (T := TX0) (N := 6) hx hb hts (inX0_pay) hown hK hP 0 rfl rfl 1 (by decide) (hts (.fieldLink RX0 13 "NoteMix" "notesIn" "[I") (by decide +kernel)) (fun _ h9 => h9) rfl dX0_pay_39 ?_
    refine lv_iload hx hb dX0_pay_42 (lv_at hl 1 rfl) ?_
    refine lv_dup2_11 hx hb dX0_pay_44 rfl rfl ?_
    refine zn_iald (k := 2) hx hb hK hP 2 _ rfl hI (by decide) (by decide) (by rw [nf3n 2 (by decide), ok.2.1 2 (by decide)]) dX0_pay_45 ?_
    refine lv_iload hx hb dX0_pay_46 (lv_at hl 0 rfl) ?_
    refine zn_sub hx hb (by omega) dX0_pay_48 ?_
    refine zn_iast (k := 2) hx hb hK hP hD hS 2 _ rfl hI (by decide) (by decide) dX0_pay_49 (fun H locs nf2 nf2e nf2n hP hD hS => ?_)
    have hP : va_P D vwCl (nmW cI h a1 a2 a3 a4 wf nf2 bf bs mc ff fr) H := hP
    have hD : va_D A (nmW cI h a1 a2 a3 a4 wf nf2 bf bs mc ff fr) := hD
    refine lv_iload_n hx hb dX0_pay_50 rfl (lv_at hl 3 rfl) ?_
    refine lv_iload hx hb dX0_pay_51 (lv_at hl 0 rfl) ?_
    refine zn_sub hx hb (by omega) dX0_pay_53 ?_
    refine lv_istore_n (lv' := [(3, .int (nI ((jam - o3) - o2))), (6, .int (nI o2)), (5, .int (nI 2)), (4, .int (nI (0 + (o3 * (w 3))))), (0, .ref h), (1, .int x), (2, .int (nI jam))]) hx hb dX0_pay_54 rfl hl (by decide) rfl (fun ls hl => ?_)
    refine lv_iload hx hb dX0_pay_55 (lv_at hl 3 rfl) ?_
    refine lv_iload hx hb dX0_pay_57 (lv_at hl 1 rfl) ?_
    refine lv_aload_n hx hb dX0_pay_59 rfl (lv_at hl 4 rfl) ?_
    refine va_get (D := D) (ci := 0) (v := .ref a1) (C := RX0) (T := TX0) (N := 6) hx hb hts (inX0_pay) hown hK hP 0 rfl rfl 0 (by decide) (hts (.fieldLink RX0 9 "NoteMix" "worthOf" "[I") (by decide +kernel)) (fun _ h9 => h9) rfl dX0_pay_60 ?_
    refine lv_iload hx hb dX0_pay_63 (lv_at hl 2 rfl) ?_
    refine zn_iald (k := 2) hx hb hK hP 1 _ rfl hI (by decide) (by decide) (ok.1 2 (by omega)) dX0_pay_65 ?_
    refine zn_mul hx hb dX0_pay_66 ?_
    refine zn_add hx hb dX0_pay_67 ?_
    refine lv_istore (lv' := [(4, .int (nI ((0 + (o3 * (w 3))) + (o2 * (w 2))))), (3, .int (nI ((jam - o3) - o2))), (6, .int (nI o2)), (5, .int (nI 2)), (0, .ref h), (1, .int x), (2, .int (nI jam))]) hx hb dX0_pay_68 hl (by decide) rfl (fun ls hl => ?_)
    refine lv_iinc (k := 3) (lv' := [(5, .int (nI 1)), (4, .int (nI ((0 + (o3 * (w 3))) + (o2 * (w 2))))), (3, .int (nI ((jam - o3) - o2))), (6, .int (nI o2)), (0, .ref h), (1, .int x), (2, .int (nI jam))]) hx hb dX0_pay_70 hl rfl (zz_d1 1) (by decide) rfl (fun ls hl => ?_)
    refine lv_goto hx hb dX0_pay_73 rfl ?_
    refine lv_iload hx hb dX0_pay_20 (lv_at hl 0 rfl) ?_
    refine lv_if_lt hx hb dX0_pay_22 rfl (fun hc => absurd hc (nI_pos (by decide))) (fun _ => ?_)
    refine lv_aload_n hx hb dX0_pay_25 rfl (lv_at hl 4 rfl) ?_
    refine va_get (D := D) (ci := 0) (v := .ref a3) (C := RX0) (T := TX0) (N := 6) hx hb hts (inX0_pay) hown hK hP 0 rfl rfl 2 (by decide) (hts (.fieldLink RX0 16 "NoteMix" "bestMix" "[I") (by decide +kernel)) (fun _ h9 => h9) rfl dX0_pay_26 ?_
    refine lv_iload hx hb dX0_pay_29 (lv_at hl 0 rfl) ?_
    refine zn_iald (k := 1) hx hb hK hP 3 _ rfl hI (by decide) (by decide) (hbm 1 (by decide)) dX0_pay_31 ?_
    refine lv_iload_n hx hb dX0_pay_32 rfl (lv_at hl 2 rfl) ?_
    refine zn_min hx hb (hml.trans hl.1.symm) hown (hts (.methodLink RX0 40 Lib.Math.min.name) (by decide +kernel)) (hts (.static Lib.Math.min.name) (by decide +kernel)) (hts (.initialized "java/lang/Math") (by decide +kernel)) (hts (.code Lib.Math.min.name Lib.Math.min.code 2 (some .int)) (by decide +kernel)) (Nat.le_of_ble_eq_true rfl) (Nat.le_of_ble_eq_true rfl) (Nat.le_of_ble_eq_true rfl) (Nat.le_of_ble_eq_true rfl) (by omega) (by omega) dX0_pay_33 ?_
    obtain ⟨o1, ho1⟩ : ∃ z, z = min (bm 1) ((jam - o3) - o2) := ⟨_, rfl⟩
    rw [← ho1]
    refine lv_istore (lv' := [(6, .int (nI o1)), (5, .int (nI 1)), (4, .int (nI ((0 + (o3 * (w 3))) + (o2 * (w 2))))), (3, .int (nI ((jam - o3) - o2))), (0, .ref h), (1, .int x), (2, .int (nI jam))]) hx hb dX0_pay_36 hl (by decide) rfl (fun ls hl => ?_)
    refine lv_aload_n hx hb dX0_pay_38 rfl (lv_at hl 4 rfl) ?_
    refine va_get (D := D) (ci := 0) (v := .ref a2) (C := RX0) (T := TX0) (N := 6) hx hb hts (inX0_pay) hown hK hP 0 rfl rfl 1 (by decide) (hts (.fieldLink RX0 13 "NoteMix" "notesIn" "[I") (by decide +kernel)) (fun _ h9 => h9) rfl dX0_pay_39 ?_
    refine lv_iload hx hb dX0_pay_42 (lv_at hl 1 rfl) ?_
    refine lv_dup2_11 hx hb dX0_pay_44 rfl rfl ?_
    refine zn_iald (k := 1) hx hb hK hP 2 _ rfl hI (by decide) (by decide) (by rw [nf2n 1 (by decide), nf3n 1 (by decide), ok.2.1 1 (by decide)]) dX0_pay_45 ?_
    refine lv_iload hx hb dX0_pay_46 (lv_at hl 0 rfl) ?_
    refine zn_sub hx hb (by omega) dX0_pay_48 ?_
    refine zn_iast (k := 1) hx hb hK hP hD hS 2 _ rfl hI (by decide) (by decide) dX0_pay_49 (fun H locs nf1 nf1e nf1n hP hD hS => ?_)
    have hP : va_P D vwCl (nmW cI h a1 a2 a3 a4 wf nf1 bf bs mc ff fr) H := hP
    have hD : va_D A (nmW cI h a1 a2 a3 a4 wf nf1 bf bs mc ff fr) := hD
    refine lv_iload_n hx hb dX0_pay_50 rfl (lv_at hl 3 rfl) ?_
    refine lv_iload hx hb dX0_pay_51 (lv_at hl 0 rfl) ?_
    refine zn_sub hx hb (by omega) dX0_pay_53 ?_
    refine lv_istore_n (lv' := [(3, .int (nI (((jam - o3) - o2) - o1))), (6, .int (nI o1)), (5, .int (nI 1)), (4, .int (nI ((0 + (o3 * (w 3))) + (o2 * (w 2))))), (0, .ref h), (1, .int x), (2, .int (nI jam))]) hx hb dX0_pay_54 rfl hl (by decide) rfl (fun ls hl => ?_)
    refine lv_iload hx hb dX0_pay_55 (lv_at hl 3 rfl) ?_
    refine lv_iload hx hb dX0_pay_57 (lv_at hl 1 rfl) ?_
    refine lv_aload_n hx hb dX0_pay_59 rfl (lv_at hl 4 rfl) ?_
    refine va_get (D := D) (ci := 0) (v := .ref a1) (C := RX0) (T := TX0) (N := 6) hx hb hts (inX0_pay) hown hK hP 0 rfl rfl 0 (by decide) (hts (.fieldLink RX0 9 "NoteMix" "worthOf" "[I") (by decide +kernel)) (fun _ h9 => h9) rfl dX0_pay_60 ?_
    refine lv_iload hx hb dX0_pay_63 (lv_at hl 2 rfl) ?_
    refine zn_iald (k := 1) hx hb hK hP 1 _ rfl hI (by decide) (by decide) (ok.1 1 (by omega)) dX0_pay_65 ?_
    refine zn_mul hx hb dX0_pay_66 ?_
    refine zn_add hx hb dX0_pay_67 ?_
    refine lv_istore (lv' := [(4, .int (nI (((0 + (o3 * (w 3))) + (o2 * (w 2))) + (o1 * (w 1))))), (3, .int (nI (((jam - o3) - o2) - o1))), (6, .int (nI o1)), (5, .int (nI 1)), (0, .ref h), (1, .int x), (2, .int (nI jam))]) hx hb dX0_pay_68 hl (by decide) rfl (fun ls hl => ?_)
    refine lv_iinc (k := 3) (lv' := [(5, .int (nI 0)), (4, .int (nI (((0 + (o3 * (w 3))) + (o2 * (w 2))) + (o1 * (w 1))))), (3, .int (nI (((jam - o3) - o2) - o1))), (6, .int (nI o1)), (0, .ref h), (1, .int x), (2, .int (nI jam))]) hx hb dX0_pay_70 hl rfl (zz_d1 0) (by decide) rfl (fun ls hl => ?_)
    refine lv_goto hx hb dX0_pay_73 rfl ?_
    refine lv_iload hx hb dX0_pay_20 (lv_at hl 0 rfl) ?_
    refine lv_if_lt hx hb dX0_pay_22 rfl (fun hc => absurd hc (nI_pos (by decide))) (fun _ => ?_)
    refine lv_aload_n hx hb dX0_pay_25 rfl (lv_at hl 4 rfl) ?_
    refine va_get (D := D) (ci := 0) (v := .ref a3) (C := RX0) (T := TX0) (N := 6) hx hb hts (inX0_pay) hown hK hP 0 rfl rfl 2 (by decide) (hts (.fieldLink RX0 16 "NoteMix" "bestMix" "[I") (by decide +kernel)) (fun _ h9 => h9) rfl dX0_pay_26 ?_
    refine lv_iload hx hb dX0_pay_29 (lv_at hl 0 rfl) ?_
    refine zn_iald (k := 0) hx hb hK hP 3 _ rfl hI (by decide) (by decide) (hbm 0 (by decide)) dX0_pay_31 ?_
    refine lv_iload_n hx hb dX0_pay_32 rfl (lv_at hl 2 rfl) ?_
    refine zn_min hx hb (hml.trans hl.1.symm) hown (hts (.methodLink RX0 40 Lib.Math.min.name) (by decide +kernel)) (hts (.static Lib.Math.min.name) (by decide +kernel)) (hts (.initialized "java/lang/Math") (by decide +kernel)) (hts (.code Lib.Math.min.name Lib.Math.min.code 2 (some .int)) (by decide +kernel)) (Nat.le_of_ble_eq_true rfl) (Nat.le_of_ble_eq_true rfl) (Nat.le_of_ble_eq_true rfl) (Nat.le_of_ble_eq_true rfl) (by omega) (by omega) dX0_pay_33 ?_
    obtain ⟨o0, ho0⟩ : ∃ z, z = min (bm 0) (((jam - o3) - o2) - o1) := ⟨_, rfl⟩
    rw [← ho0]
    refine lv_istore (lv' := [(6, .int (nI o0)), (5, .int (nI 0)), (4, .int (nI (((0 + (o3 * (w 3))) + (o2 * (w 2))) + (o1 * (w 1))))), (3, .int (nI (((jam - o3) - o2) - o1))), (0, .ref h), (1, .int x), (2, .int (nI jam))]) hx hb dX0_pay_36 hl (by decide) rfl (fun ls hl => ?_)
    refine lv_aload_n hx hb dX0_pay_38 rfl (lv_at hl 4 rfl) ?_
    refine va_get (D := D) (ci := 0) (v := .ref a2) (C := RX0) (T := TX0) (N := 6) hx hb hts (inX0_pay) hown hK hP 0 rfl rfl 1 (by decide) (hts (.fieldLink RX0 13 "NoteMix" "notesIn" "[I") (by decide +kernel)) (fun _ h9 => h9) rfl dX0_pay_39 ?_
    refine lv_iload hx hb dX0_pay_42 (lv_at hl 1 rfl) ?_
    refine lv_dup2_11 hx hb dX0_pay_44 rfl rfl ?_
    refine zn_iald (k := 0) hx hb hK hP 2 _ rfl hI (by decide) (by decide) (by rw [nf1n 0 (by decide), nf2n 0 (by decide), nf3n 0 (by decide), ok.2.1 0 (by decide)]) dX0_pay_45 ?_
    refine lv_iload hx hb dX0_pay_46 (lv_at hl 0 rfl) ?_
    refine zn_sub hx hb (by omega) dX0_pay_48 ?_
    refine zn_iast (k := 0) hx hb hK hP hD hS 2 _ rfl hI (by decide) (by decide) dX0_pay_49 (fun H locs nf0 nf0e nf0n hP hD hS => ?_)
    have hP : va_P D vwCl (nmW cI h a1 a2 a3 a4 wf nf0 bf bs mc ff fr) H := hP
    have hD : va_D A (nmW cI h a1 a2 a3 a4 wf nf0 bf bs mc ff fr) := hD
    refine lv_iload_n hx hb dX0_pay_50 rfl (lv_at hl 3 rfl) ?_
    refine lv_iload hx hb dX0_pay_51 (lv_at hl 0 rfl) ?_
    refine zn_sub hx hb (by omega) dX0_pay_53 ?_
    refine lv_istore_n (lv' := [(3, .int (nI ((((jam - o3) - o2) - o1) - o0))), (6, .int (nI o0)), (5, .int (nI 0)), (4, .int (nI (((0 + (o3 * (w 3))) + (o2 * (w 2))) + (o1 * (w 1))))), (0, .ref h), (1, .int x), (2, .int (nI jam))]) hx hb dX0_pay_54 rfl hl (by decide) rfl (fun ls hl => ?_)
    refine lv_iload hx hb dX0_pay_55 (lv_at hl 3 rfl) ?_
    refine lv_iload hx hb dX0_pay_57 (lv_at hl 1 rfl) ?_
    refine lv_aload_n hx hb dX0_pay_59 rfl (lv_at hl 4 rfl) ?_
    refine va_get (D := D) (ci := 0) (v := .ref a1) (C := RX0) (T := TX0) (N := 6) hx hb hts (inX0_pay) hown hK hP 0 rfl rfl 0 (by decide) (hts (.fieldLink RX0 9 "NoteMix" "worthOf" "[I") (by decide +kernel)) (fun _ h9 => h9) rfl dX0_pay_60 ?_
    refine lv_iload hx hb dX0_pay_63 (lv_at hl 2 rfl) ?_
    refine zn_iald (k := 0) hx hb hK hP 1 _ rfl hI (by decide) (by decide) (ok.1 0 (by omega)) dX0_pay_65 ?_
    refine zn_mul hx hb dX0_pay_66 ?_
    refine zn_add hx hb dX0_pay_67 ?_
    refine lv_istore (lv' := [(4, .int (nI ((((0 + (o3 * (w 3))) + (o2 * (w 2))) + (o1 * (w 1))) + (o0 * (w 0))))), (3, .int (nI ((((jam - o3) - o2) - o1) - o0))), (6, .int (nI o0)), (5, .int (nI 0)), (0, .ref h), (1, .int x), (2, .int (nI jam))]) hx hb dX0_pay_68 hl (by decide) rfl (fun ls hl => ?_)
    refine lv_iinc (k := 3) (lv' := [(5, .int (-1)), (4, .int (nI ((((0 + (o3 * (w 3))) + (o2 * (w 2))) + (o1 * (w 1))) + (o0 * (w 0))))), (3, .int (nI ((((jam - o3) - o2) - o1) - o0))), (6, .int (nI o0)), (0, .ref h), (1, .int x), (2, .int (nI jam))]) hx hb dX0_pay_70 hl rfl (by decide +kernel) (by decide) rfl (fun ls hl => ?_)
    refine lv_goto hx hb dX0_pay_73 rfl ?_
    refine lv_iload hx hb dX0_pay_20 (lv_at hl 0 rfl) ?_
    refine lv_if_lt hx hb dX0_pay_22 rfl (fun _ => ?_) (fun hc => absurd (by decide +kernel) hc)
    refine lv_iload hx hb dX0_pay_76 (lv_at hl 1 rfl) ?_
    refine vx_ret ?_
    exact zz_iret F hr hlocks hK hS dX0_pay_78 (by decide) (by decide) (nf0, bf, bs, mc) ⟨v, jam, hv, hj, hx9, rfl, bm, o3, o2, o1, o0, hB, ho3, ho2, ho1, ho0, rfl, (by show nf0 0 = nI _; rw [nf0e]), (by show nf0 1 = nI _; rw [nf0n 1 (by decide), nf1e]), (by show nf0 2 = nI _; rw [nf0n 2 (by decide), nf1n 2 (by decide), nf2e]), (by show nf0 3 = nI _; rw [nf0n 3 (by decide), nf1n 3 (by decide), nf2n 3 (by decide), nf3e])⟩ hP hD
  · refine lv_iload_n hx hb dX0_pay_0 rfl (lv_at hl 2 rfl) ?_
    refine lv_iconst (v := nI 0) hx hb dX0_pay_1 (by decide +kernel) ?_
    refine lv_bipush (v := nI 40) hx hb dX0_pay_2 (by decide +kernel) ?_
    refine zx_callSv (As := [.int y, .int (nI 0), .int (nI 40)]) (rest := []) F hK hP hD hS hA hst (c_rr_bad l hl0 D tys _ _ y 0 40 hz (by decide) (by decide)) (va_cwS 3 hts gX0_pay_X0_requireRange rfl rfl rfl (by decide +kernel) ⟨Nat.le_of_ble_eq_true rfl, Nat.le_of_ble_eq_true rfl⟩) rfl hl.1 rfl (by decide) dX0_pay_4 ⟨Nat.le_of_ble_eq_true rfl, Nat.le_of_ble_eq_true rfl⟩ (fun E ce q9 _ H locs hE hP hD hS g1 g2 g3 => ?_) (fun _ _ _ h9 => h9.elim)
    exact zx_out htab hlocks hK hS g1 g2 g3 (by decide) (by decide) (nf, bf, bs, mc) ⟨rfl, Or.inl ⟨hE, fun q => hz q.1⟩⟩ hP hD
end
section
/-! the reference's cells -/
abbrev mdW (cI cZ : ClassId) (g g1 g2 g3 g4 : Nat) (wf nf cf kf : Nat → Int32) (fw mx th : Int32) (fr : va_W) : va_W :=
  (g, .inr (1, [.ref g1, .ref g2, .ref g3, .ref g4, .int fw, .int mx, .int th])) :: (g1, .inl (cI, 4, .inl wf)) :: (g2, .inl (cI, 4, .inl nf)) :: (g3, .inl (cI, 4, .inl cf)) :: (g4, .inl (cZ, 2001, .inl kf)) :: fr
end
section
set_option maxRecDepth 100000 in
set_option maxHeartbeats 4000000 in
theorem c1_in_ok (l : Launch) (D : va_G) (tys : List (ClassId × FieldType)) (wl : va_W) (sz : Nat) (k lo hi : Nat) (h1 : lo ≤ k) (h2 : k ≤ hi) (h3 : hi < 2 ^ 31) : Met l yX1_in_ wsX1_in_ ({ frames := 0, cells := 0, slots := 0, locals := 0 }) (va_Pc [.int (nI k), .int (nI lo), .int (nI hi)] (zz_pre D tys wl sz)) (va_Qi (fun r (_ : Unit) => r = nI 1) (zz_B D tys (va_A wl sz) (fun _ => wl)) (va_A wl sz)) 0 0 (va_A wl sz) := by
  refine zz_headZ (cc := cX1_in_) (by decide) rfl (Nat.le_of_ble_eq_true rfl) ?_
  intro p e s m below meth cd A ls F hr hlocks hP hK hD hA hS hl
  obtain ⟨hx, hb, hml, hown, hts⟩ := id F
  have hl : lv_has ls 3 [(0, .int (nI k)), (1, .int (nI lo)), (2, .int (nI hi))] := hl
  refine lv_iload_n hx hb dX1_in__0 rfl (lv_at hl 0 rfl) ?_
  refine lv_iload_n hx hb dX1_in__1 rfl (lv_at hl 1 rfl) ?_
  refine zn_lt hx hb (by omega) (by omega) dX1_in__2 rfl (fun hc => absurd hc (by omega)) (fun _ => ?_)
  refine lv_iload_n hx hb dX1_in__5 rfl (lv_at hl 0 rfl) ?_
  refine lv_iload_n hx hb dX1_in__6 rfl (lv_at hl 2 rfl) ?_
  refine zn_gt hx hb (by omega) (by omega) dX1_in__7 rfl (fun hc => absurd hc (by omega)) (fun _ => ?_)
  refine lv_iconst (v := nI 1) hx hb dX1_in__10 (by decide +kernel) ?_
  refine lv_goto hx hb dX1_in__11 rfl ?_
  exact zz_zret F hr hlocks (by decide +kernel) hK hS dX1_in__15 (by decide) (by decide) () rfl hP hD
set_option maxRecDepth 100000 in
set_option maxHeartbeats 4000000 in
theorem c1_in_bad (l : Launch) (D : va_G) (tys : List (ClassId × FieldType)) (wl : va_W) (sz : Nat) (x : Int32) (lo hi : Nat) (hz : ¬ zr x lo hi) (h3 : hi < 2 ^ 31) (h4 : lo < 2 ^ 31) : Met l yX1_in_ wsX1_in_ ({ frames := 0, cells := 0, slots := 0, locals := 0 }) (va_Pc [.int x, .int (nI lo), .int (nI hi)] (zz_pre D tys wl sz)) (va_Qi (fun r (_ : Unit) => r = nI 0) (zz_B D tys (va_A wl sz) (fun _ => wl)) (va_A wl sz)) 0 0 (va_A wl sz) := by
  refine zz_headZ (cc := cX1_in_) (by decide) rfl (Nat.le_of_ble_eq_true rfl) ?_
  intro p e s m below meth cd A ls F hr hlocks hP hK hD hA hS hl
  obtain ⟨hx, hb, hml, hown, hts⟩ := id F
  have hl : lv_has ls 3 [(0, .int x), (1, .int (nI lo)), (2, .int (nI hi))] := hl
  refine lv_iload_n hx hb dX1_in__0 rfl (lv_at hl 0 rfl) ?_
  refine lv_iload_n hx hb dX1_in__1 rfl (lv_at hl 1 rfl) ?_
  refine lv_icmp_lt hx hb dX1_in__2 rfl (fun hc => ?_) (fun hc => ?_)
  · refine lv_iconst (v := nI 0) hx hb dX1_in__14 (by decide +kernel) ?_
    exact zz_zret F hr hlocks (by decide +kernel) hK hS dX1_in__15 (by decide) (by decide) () rfl hP hD
  · refine lv_iload_n hx hb dX1_in__5 rfl (lv_at hl 0 rfl) ?_
    refine lv_iload_n hx hb dX1_in__6 rfl (lv_at hl 2 rfl) ?_
    refine lv_icmp_gt hx hb dX1_in__7 rfl (fun hc2 => ?_) (fun hc2 => ?_)
    · refine lv_iconst (v := nI 0) hx hb dX1_in__14 (by decide +kernel) ?_
      exact zz_zret F hr hlocks (by decide +kernel) hK hS dX1_in__15 (by decide) (by decide) () rfl hP hD
    · exact absurd (zr_of h3 h4 hc (Int32.not_lt.mp hc2)) hz
end
section
set_option maxRecDepth 100000 in
set_option maxHeartbeats 4000000 in
theorem c1_thrown (l : Launch) (D : va_G) (tys : List (ClassId × FieldType)) (cI cZ : ClassId) (hI : tys[0]? = some (cI, .int)) (hZ : tys[1]? = some (cZ, .boolean)) (g g1 g2 g3 g4 : Nat) (fr : va_W) (sz : Nat) (wf nf cf kf : Nat → Int32) (fw mx th : Int32) (w n : Nat → Nat) (ok : nmOk wf nf w n)  : Met l yX1_thrown wsX1_thrown ({ frames := 0, cells := 0, slots := 0, locals := 0 }) (va_Pc [.ref g] (zz_pre D tys (mdW cI cZ g g1 g2 g3 g4 wf nf cf kf fw mx th fr) sz)) (va_Qi (fun r (u : Unit) => r = th) (zz_B D tys (va_A (mdW cI cZ g g1 g2 g3 g4 wf nf cf kf fw mx th fr) sz) (fun u => mdW cI cZ g g1 g2 g3 g4 wf nf cf kf fw mx th fr)) (va_A (mdW cI cZ g g1 g2 g3 g4 wf nf cf kf fw mx th fr) sz)) 0 0 (va_A (mdW cI cZ g g1 g2 g3 g4 wf nf cf kf fw mx th fr) sz) := by
  refine zz_headI (cc := cX1_thrown) (by decide) rfl (Nat.le_of_ble_eq_true rfl) ?_
  intro p e s m below meth cd A ls F hr hlocks hP hK hD hA hS hl
  obtain ⟨hx, hb, hml, hown, hts⟩ := id F
  have hl : lv_has ls 1 [(0, .ref g)] := hl
  refine lv_aload_n hx hb dX1_thrown_0 rfl (lv_at hl 0 rfl) ?_
  refine va_get (D := D) (ci := 1) (v := .int th) (C := RX1) (T := TX1) (N := 7) hx hb hts (inX1_thrown) hown hK hP 0 rfl rfl 6 (by decide) (hts (.fieldLink RX1 23 "NoteMixModel" "thrown" "I") (by decide +kernel)) (fun _ h9 => h9) rfl dX1_thrown_1 ?_
  exact zz_iret F hr hlocks hK hS dX1_thrown_4 (by decide) (by decide) () rfl hP hD
end
section
set_option maxRecDepth 100000 in
set_option maxHeartbeats 4000000 in
theorem c1_load (l : Launch) (D : va_G) (tys : List (ClassId × FieldType)) (cI cZ : ClassId) (hI : tys[0]? = some (cI, .int)) (hZ : tys[1]? = some (cZ, .boolean)) (g g1 g2 g3 g4 : Nat) (fr : va_W) (sz : Nat) (wf nf cf kf : Nat → Int32) (fw mx th : Int32) (w n : Nat → Nat) (ok : nmOk wf nf w n) (x y z : Int32) : Met l yX1_load wsX1_load ({ frames := 1, cells := 0, slots := 0, locals := 30 }) (va_Pc [.ref g, .int x, .int y, .int z] (zz_pre D tys (mdW cI cZ g g1 g2 g3 g4 wf nf cf kf fw mx th fr) sz)) (va_Qv (fun (u : (Nat → Int32) × (Nat → Int32) × Int32) => (∃ c a b : Nat, c < 4 ∧ 1 ≤ a ∧ a ≤ 500 ∧ b ≤ 500 ∧ x = nI c ∧ y = nI a ∧ z = nI b ∧ u.2.2 = nI 0 ∧ nmOk u.1 u.2.1 (fun j => if j = c then a else w j) (fun j => if j = c then b else n j)) ∨ (¬ (zr x 0 3 ∧ zr y 1 500 ∧ zr z 0 500) ∧ u.2.2 = nI 1 ∧ u.1 = wf ∧ u.2.1 = nf)) (zz_B D tys (va_A (mdW cI cZ g g1 g2 g3 g4 wf nf cf kf fw mx th fr) sz) (fun u => mdW cI cZ g g1 g2 g3 g4 u.1 u.2.1 cf kf fw mx u.2.2 fr)) (va_A (mdW cI cZ g g1 g2 g3 g4 wf nf cf kf fw mx th fr) sz)) 0 0 (va_A (mdW cI cZ g g1 g2 g3 g4 wf nf cf kf fw mx th fr) sz) := by
  refine zz_headV (cc := cX1_load) (by decide) rfl (Nat.le_of_ble_eq_true rfl) ?_
  intro p e s m below meth cd A ls F hr hlocks hin hP hK hD hA hS hl
  obtain ⟨hx, hb, hml, hown, hts⟩ := id F
  have hl : lv_has ls 4 [(0, .ref g), (1, .int x), (2, .int y), (3, .int z)] := hl
  by_cases hz : zr x 0 3
  · obtain ⟨c, hc0, hc, rfl⟩ := hz
    refine lv_aload_n hx hb dX1_load_0 rfl (lv_at hl 0 rfl) ?_
    refine lv_iload_n hx hb dX1_load_1 rfl (lv_at hl 1 rfl) ?_
    refine lv_iconst (v := nI 0) hx hb dX1_load_2 (by decide +kernel) ?_
    refine lv_iconst (v := nI 3) hx hb dX1_load_3 (by decide +kernel) ?_
    refine zz_callSi (As := [.int (nI c), .int (nI 0), .int (nI 3)]) (rest := [.ref g]) F hK hP hD hS hA (c1_in_ok l D tys _ _ c 0 3 hc0 hc (by decide)) (va_cwS 3 hts gX1_load_X1_in_ rfl rfl rfl (by decide +kernel) ⟨Nat.le_of_ble_eq_true rfl, Nat.le_of_ble_eq_true rfl⟩) rfl hl.1 rfl (Nat.le_of_ble_eq_true rfl) dX1_load_4 ⟨Nat.le_of_ble_eq_true rfl, Nat.le_of_ble_eq_true rfl⟩ (fun rr _ H locs er hP hD hS => ?_)
    try dsimp only at er
    subst er
    have hP : va_P D vwCl (mdW cI cZ g g1 g2 g3 g4 wf nf cf kf fw mx th fr) H := hP
    have hD : va_D A (mdW cI cZ g g1 g2 g3 g4 wf nf cf kf fw mx th fr) := hD
    refine zn_if_eq hx hb (by decide) dX1_load_7 rfl (fun hc => absurd hc (by decide)) (fun _ => ?_)
    by_cases hz : zr y 1 500
    · obtain ⟨a, ha0, ha, rfl⟩ := hz
      refine lv_iload_n hx hb dX1_load_10 rfl (lv_at hl 2 rfl) ?_
      refine lv_iconst (v := nI 1) hx hb dX1_load_11 (by decide +kernel) ?_
      refine lv_sipush (v := nI 500) hx hb dX1_load_12 (by decide +kernel) ?_
      refine zz_callSi (As := [.int (nI a), .int (nI 1), .int (nI 500)]) (rest := [.ref g]) F hK hP hD hS hA (c1_in_ok l D tys _ _ a 1 500 ha0 ha (by decide)) (va_cwS 3 hts gX1_load_X1_in_ rfl rfl rfl (by decide +kernel) ⟨Nat.le_of_ble_eq_true rfl, Nat.le_of_ble_eq_true rfl⟩) rfl hl.1 rfl (Nat.le_of_ble_eq_true rfl) dX1_load_15 ⟨Nat.le_of_ble_eq_true rfl, Nat.le_of_ble_eq_true rfl⟩ (fun rr _ H locs er hP hD hS => ?_)
      try dsimp only at er
      subst er
      have hP : va_P D vwCl (mdW cI cZ g g1 g2 g3 g4 wf nf cf kf fw mx th fr) H := hP
      have hD : va_D A (mdW cI cZ g g1 g2 g3 g4 wf nf cf kf fw mx th fr) := hD
      refine zn_if_eq hx hb (by decide) dX1_load_18 rfl (fun hc => absurd hc (by decide)) (fun _ => ?_)
      by_cases hz : zr z 0 500
      · obtain ⟨b, hb0, hb9, rfl⟩ := hz
        refine lv_iload_n hx hb dX1_load_21 rfl (lv_at hl 3 rfl) ?_
        refine lv_iconst (v := nI 0) hx hb dX1_load_22 (by decide +kernel) ?_
        refine lv_sipush (v := nI 500) hx hb dX1_load_23 (by decide +kernel) ?_
        refine zz_callSi (As := [.int (nI b), .int (nI 0), .int (nI 500)]) (rest := [.ref g]) F hK hP hD hS hA (c1_in_ok l D tys _ _ b 0 500 hb0 hb9 (by decide)) (va_cwS 3 hts gX1_load_X1_in_ rfl rfl rfl (by decide +kernel) ⟨Nat.le_of_ble_eq_true rfl, Nat.le_of_ble_eq_true rfl⟩) rfl hl.1 rfl (Nat.le_of_ble_eq_true rfl) dX1_load_26 ⟨Nat.le_of_ble_eq_true rfl, Nat.le_of_ble_eq_true rfl⟩ (fun rr _ H locs er hP hD hS => ?_)
        try dsimp only at er
        subst er
        have hP : va_P D vwCl (mdW cI cZ g g1 g2 g3 g4 wf nf cf kf fw mx th fr) H := hP
        have hD : va_D A (mdW cI cZ g g1 g2 g3 g4 wf nf cf kf fw mx th fr) := hD
        refine zn_if_eq hx hb (by decide) dX1_load_29 rfl (fun hc => absurd hc (by decide)) (fun _ => ?_)
        refine lv_iconst (v := nI 0) hx hb dX1_load_32 (by decide +kernel) ?_
        refine lv_goto hx hb dX1_load_33 rfl ?_
        refine va_put (D := D) (ci := 1) (v := .int (nI 0)) (ty := .int) (C := RX1) (T := TX1) (N := 7) hx hb hts (inX1_load) tyX1 tyX1_ok nmX1 hown hK hP hD hS 0 rfl rfl 6 (by decide) (hts (.fieldLink RX1 23 "NoteMixModel" "thrown" "I") (by decide +kernel)) (fun _ h9 => h9) rfl (by decide +kernel) rfl rfl (Nat.le_of_ble_eq_true rfl) dX1_load_37 (fun H locs hP hD hS => ?_)
        have hP : va_P D vwCl (mdW cI cZ g g1 g2 g3 g4 wf nf cf kf fw mx (nI 0) fr) H := hP
        have hD : va_D A (mdW cI cZ g g1 g2 g3 g4 wf nf cf kf fw mx (nI 0) fr) := hD
        refine lv_aload_n hx hb dX1_load_40 rfl (lv_at hl 0 rfl) ?_
        refine va_get (D := D) (ci := 1) (v := .int (nI 0)) (C := RX1) (T := TX1) (N := 7) hx hb hts (inX1_load) hown hK hP 0 rfl rfl 6 (by decide) (hts (.fieldLink RX1 23 "NoteMixModel" "thrown" "I") (by decide +kernel)) (fun _ h9 => h9) rfl dX1_load_41 ?_
        refine zn_if_le hx hb (by decide) dX1_load_44 rfl (fun _ => ?_) (fun hc => absurd hc (by decide))
        refine lv_aload_n hx hb dX1_load_48 rfl (lv_at hl 0 rfl) ?_
        refine va_get (D := D) (ci := 1) (v := .ref g1) (C := RX1) (T := TX1) (N := 7) hx hb hts (inX1_load) hown hK hP 0 rfl rfl 0 (by decide) (hts (.fieldLink RX1 7 "NoteMixModel" "worth" "[I") (by decide +kernel)) (fun _ h9 => h9) rfl dX1_load_49 ?_
        refine lv_iload_n hx hb dX1_load_52 rfl (lv_at hl 1 rfl) ?_
        refine lv_iload_n hx hb dX1_load_53 rfl (lv_at hl 2 rfl) ?_
        refine zn_iast (k := c) hx hb hK hP hD hS 1 _ rfl hI (by omega) (by decide) dX1_load_54 (fun H locs wf1 wf1e wf1n hP hD hS => ?_)
        have hP : va_P D vwCl (mdW cI cZ g g1 g2 g3 g4 wf1 nf cf kf fw mx (nI 0) fr) H := hP
        have hD : va_D A (mdW cI cZ g g1 g2 g3 g4 wf1 nf cf kf fw mx (nI 0) fr) := hD
        refine lv_aload_n hx hb dX1_load_55 rfl (lv_at hl 0 rfl) ?_
        refine va_get (D := D) (ci := 1) (v := .ref g2) (C := RX1) (T := TX1) (N := 7) hx hb hts (inX1_load) hown hK hP 0 rfl rfl 1 (by decide) (hts (.fieldLink RX1 13 "NoteMixModel" "notes" "[I") (by decide +kernel)) (fun _ h9 => h9) rfl dX1_load_56 ?_
        refine lv_iload_n hx hb dX1_load_59 rfl (lv_at hl 1 rfl) ?_
        refine lv_iload_n hx hb dX1_load_60 rfl (lv_at hl 3 rfl) ?_
        refine zn_iast (k := c) hx hb hK hP hD hS 2 _ rfl hI (by omega) (by decide) dX1_load_61 (fun H locs nf1 nf1e nf1n hP hD hS => ?_)
        have hP : va_P D vwCl (mdW cI cZ g g1 g2 g3 g4 wf1 nf1 cf kf fw mx (nI 0) fr) H := hP
        have hD : va_D A (mdW cI cZ g g1 g2 g3 g4 wf1 nf1 cf kf fw mx (nI 0) fr) := hD
        refine zz_vret F hr hlocks hK hS dX1_load_62 (by decide) (by decide) (wf1, nf1, nI 0) (Or.inl ⟨c, a, b, by omega, ha0, ha, hb9, rfl, rfl, rfl, rfl, fun j hj => ?_, fun j hj => ?_, fun j hj => ?_⟩) hP hD
        · by_cases e9 : j = c
          · subst e9
            show wf1 j = nI (if j = j then _ else _)
            rw [if_pos rfl]
            exact wf1e
          · show wf1 j = nI (if j = c then _ else _)
            rw [if_neg e9, wf1n j e9]
            exact ok.1 j hj
        · by_cases e9 : j = c
          · subst e9
            show nf1 j = nI (if j = j then _ else _)
            rw [if_pos rfl]
            exact nf1e
          · show nf1 j = nI (if j = c then _ else _)
            rw [if_neg e9, nf1n j e9]
            exact ok.2.1 j hj
        · obtain ⟨k1, k2, k3⟩ := ok.2.2 j hj
          by_cases e9 : j = c
          · simp only [if_pos e9]
            omega
          · simp only [if_neg e9]
            omega
      · refine lv_iload_n hx hb dX1_load_21 rfl (lv_at hl 3 rfl) ?_
        refine lv_iconst (v := nI 0) hx hb dX1_load_22 (by decide +kernel) ?_
        refine lv_sipush (v := nI 500) hx hb dX1_load_23 (by decide +kernel) ?_
        refine zz_callSi (As := [.int z, .int (nI 0), .int (nI 500)]) (rest := [.ref g]) F hK hP hD hS hA (c1_in_bad l D tys _ _ z 0 500 hz (by decide) (by decide)) (va_cwS 3 hts gX1_load_X1_in_ rfl rfl rfl (by decide +kernel) ⟨Nat.le_of_ble_eq_true rfl, Nat.le_of_ble_eq_true rfl⟩) rfl hl.1 rfl (Nat.le_of_ble_eq_true rfl) dX1_load_26 ⟨Nat.le_of_ble_eq_true rfl, Nat.le_of_ble_eq_true rfl⟩ (fun rr _ H locs er hP hD hS => ?_)
        try dsimp only at er
        subst er
        have hP : va_P D vwCl (mdW cI cZ g g1 g2 g3 g4 wf nf cf kf fw mx th fr) H := hP
        have hD : va_D A (mdW cI cZ g g1 g2 g3 g4 wf nf cf kf fw mx th fr) := hD
        refine zn_if_eq hx hb (by decide) dX1_load_29 rfl (fun _ => ?_) (fun hc => absurd hc (by decide))
        refine lv_iconst (v := nI 1) hx hb dX1_load_36 (by decide +kernel) ?_
        refine va_put (D := D) (ci := 1) (v := .int (nI 1)) (ty := .int) (C := RX1) (T := TX1) (N := 7) hx hb hts (inX1_load) tyX1 tyX1_ok nmX1 hown hK hP hD hS 0 rfl rfl 6 (by decide) (hts (.fieldLink RX1 23 "NoteMixModel" "thrown" "I") (by decide +kernel)) (fun _ h9 => h9) rfl (by decide +kernel) rfl rfl (Nat.le_of_ble_eq_true rfl) dX1_load_37 (fun H locs hP hD hS => ?_)
        have hP : va_P D vwCl (mdW cI cZ g g1 g2 g3 g4 wf nf cf kf fw mx (nI 1) fr) H := hP
        have hD : va_D A (mdW cI cZ g g1 g2 g3 g4 wf nf cf kf fw mx (nI 1) fr) := hD
        refine lv_aload_n hx hb dX1_load_40 rfl (lv_at hl 0 rfl) ?_
        refine va_get (D := D) (ci := 1) (v := .int (nI 1)) (C := RX1) (T := TX1) (N := 7) hx hb hts (inX1_load) hown hK hP 0 rfl rfl 6 (by decide) (hts (.fieldLink RX1 23 "NoteMixModel" "thrown" "I") (by decide +kernel)) (fun _ h9 => h9) rfl dX1_load_41 ?_
        refine zn_if_le hx hb (by decide) dX1_load_44 rfl (fun hc => absurd hc (by decide)) (fun _ => ?_)
        exact zz_vret F hr hlocks hK hS dX1_load_47 (by decide) (by decide) (wf, nf, nI 1) (Or.inr ⟨(fun q => hz q.2.2), rfl, rfl, rfl⟩) hP hD
    · refine lv_iload_n hx hb dX1_load_10 rfl (lv_at hl 2 rfl) ?_
      refine lv_iconst (v := nI 1) hx hb dX1_load_11 (by decide +kernel) ?_
      refine lv_sipush (v := nI 500) hx hb dX1_load_12 (by decide +kernel) ?_
      refine zz_callSi (As := [.int y, .int (nI 1), .int (nI 500)]) (rest := [.ref g]) F hK hP hD hS hA (c1_in_bad l D tys _ _ y 1 500 hz (by decide) (by decide)) (va_cwS 3 hts gX1_load_X1_in_ rfl rfl rfl (by decide +kernel) ⟨Nat.le_of_ble_eq_true rfl, Nat.le_of_ble_eq_true rfl⟩) rfl hl.1 rfl (Nat.le_of_ble_eq_true rfl) dX1_load_15 ⟨Nat.le_of_ble_eq_true rfl, Nat.le_of_ble_eq_true rfl⟩ (fun rr _ H locs er hP hD hS => ?_)
      try dsimp only at er
      subst er
      have hP : va_P D vwCl (mdW cI cZ g g1 g2 g3 g4 wf nf cf kf fw mx th fr) H := hP
      have hD : va_D A (mdW cI cZ g g1 g2 g3 g4 wf nf cf kf fw mx th fr) := hD
      refine zn_if_eq hx hb (by decide) dX1_load_18 rfl (fun _ => ?_) (fun hc => absurd hc (by decide))
      refine lv_iconst (v := nI 1) hx hb dX1_load_36 (by decide +kernel) ?_
      refine va_put (D := D) (ci := 1) (v := .int (nI 1)) (ty := .int) (C := RX1) (T := TX1) (N := 7) hx hb hts (inX1_load) tyX1 tyX1_ok nmX1 hown hK hP hD hS 0 rfl rfl 6 (by decide) (hts (.fieldLink RX1 23 "NoteMixModel" "thrown" "I") (by decide +kernel)) (fun _ h9 => h9) rfl (by decide +kernel) rfl rfl (Nat.le_of_ble_eq_true rfl) dX1_load_37 (fun H locs hP hD hS => ?_)
      have hP : va_P D vwCl (mdW cI cZ g g1 g2 g3 g4 wf nf cf kf fw mx (nI 1) fr) H := hP
      have hD : va_D A (mdW cI cZ g g1 g2 g3 g4 wf nf cf kf fw mx (nI 1) fr) := hD
      refine lv_aload_n hx hb dX1_load_40 rfl (lv_at hl 0 rfl) ?_
      refine va_get (D := D) (ci := 1) (v := .int (nI 1)) (C := RX1) (T := TX1) (N := 7) hx hb hts (inX1_load) hown hK hP 0 rfl rfl 6 (by decide) (hts (.fieldLink RX1 23 "NoteMixModel" "thrown" "I") (by decide +kernel)) (fun _ h9 => h9) rfl dX1_load_41 ?_
      refine zn_if_le hx hb (by decide) dX1_load_44 rfl (fun hc => absurd hc (by decide)) (fun _ => ?_)
      exact zz_vret F hr hlocks hK hS dX1_load_47 (by decide) (by decide) (wf, nf, nI 1) (Or.inr ⟨(fun q => hz q.2.1), rfl, rfl, rfl⟩) hP hD
  · refine lv_aload_n hx hb dX1_load_0 rfl (lv_at hl 0 rfl) ?_
    refine lv_iload_n hx hb dX1_load_1 rfl (lv_at hl 1 rfl) ?_
    refine lv_iconst (v := nI 0) hx hb dX1_load_2 (by decide +kernel) ?_
    refine lv_iconst (v := nI 3) hx hb dX1_load_3 (by decide +kernel) ?_
    refine zz_callSi (As := [.int x, .int (nI 0), .int (nI 3)]) (rest := [.ref g]) F hK hP hD hS hA (c1_in_bad l D tys _ _ x 0 3 hz (by decide) (by decide)) (va_cwS 3 hts gX1_load_X1_in_ rfl rfl rfl (by decide +kernel) ⟨Nat.le_of_ble_eq_true rfl, Nat.le_of_ble_eq_true rfl⟩) rfl hl.1 rfl (Nat.le_of_ble_eq_true rfl) dX1_load_4 ⟨Nat.le_of_ble_eq_true rfl, Nat.le_of_ble_eq_true rfl⟩ (fun rr _ H locs er hP hD hS => ?_)
    try dsimp only at er
    subst er
    have hP : va_P D vwCl (mdW cI cZ g g1 g2 g3 g4 wf nf cf kf fw mx th fr) H := hP
    have hD : va_D A (mdW cI cZ g g1 g2 g3 g4 wf nf cf kf fw mx th fr) := hD
    refine zn_if_eq hx hb (by decide) dX1_load_7 rfl (fun _ => ?_) (fun hc => absurd hc (by decide))
    refine lv_iconst (v := nI 1) hx hb dX1_load_36 (by decide +kernel) ?_
    refine va_put (D := D) (ci := 1) (v := .int (nI 1)) (ty := .int) (C := RX1) (T := TX1) (N := 7) hx hb hts (inX1_load) tyX1 tyX1_ok nmX1 hown hK hP hD hS 0 rfl rfl 6 (by decide) (hts (.fieldLink RX1 23 "NoteMixModel" "thrown" "I") (by decide +kernel)) (fun _ h9 => h9) rfl (by decide +kernel) rfl rfl (Nat.le_of_ble_eq_true rfl) dX1_load_37 (fun H locs hP hD hS => ?_)
    have hP : va_P D vwCl (mdW cI cZ g g1 g2 g3 g4 wf nf cf kf fw mx (nI 1) fr) H := hP
    have hD : va_D A (mdW cI cZ g g1 g2 g3 g4 wf nf cf kf fw mx (nI 1) fr) := hD
    refine lv_aload_n hx hb dX1_load_40 rfl (lv_at hl 0 rfl) ?_
    refine va_get (D := D) (ci := 1) (v := .int (nI 1)) (C := RX1) (T := TX1) (N := 7) hx hb hts (inX1_load) hown hK hP 0 rfl rfl 6 (by decide) (hts (.fieldLink RX1 23 "NoteMixModel" "thrown" "I") (by decide +kernel)) (fun _ h9 => h9) rfl dX1_load_41 ?_
    refine zn_if_le hx hb (by decide) dX1_load_44 rfl (fun hc => absurd hc (by decide)) (fun _ => ?_)
    exact zz_vret F hr hlocks hK hS dX1_load_47 (by decide) (by decide) (wf, nf, nI 1) (Or.inr ⟨(fun q => hz q.1), rfl, rfl, rfl⟩) hP hD
end
section
set_option maxRecDepth 100000 in
set_option maxHeartbeats 4000000 in
theorem c1_look (l : Launch) (D : va_G) (tys : List (ClassId × FieldType)) (cI cZ : ClassId) (hI : tys[0]? = some (cI, .int)) (hZ : tys[1]? = some (cZ, .boolean)) (g g1 g2 g3 g4 : Nat) (fr : va_W) (sz : Nat) (wf nf cf kf : Nat → Int32) (fw mx th : Int32) (w n : Nat → Nat) (ok : nmOk wf nf w n) (v : Nat) (hv : v ≤ 2000) : Met l yX1_look wsX1_look ({ frames := 1, cells := 0, slots := 0, locals := 30 }) (va_Pc [.ref g, .int (nI v)] (zz_pre D tys (mdW cI cZ g g1 g2 g3 g4 wf nf cf kf fw mx th fr) sz)) (va_Qv (fun (u : (Nat → Int32) × Int32 × Int32) => ∃ (cnt b : Nat) (bm : Nat → Nat), u.2.1 = nI b ∧ u.2.2 = nI cnt ∧ (0 < cnt → ∀ j, j < 4 → u.1 j = nI (bm j)) ∧ mx_E w n v cnt b bm) (zz_B D tys (va_A (mdW cI cZ g g1 g2 g3 g4 wf nf cf kf fw mx th fr) sz) (fun u => mdW cI cZ g g1 g2 g3 g4 wf nf u.1 kf u.2.1 u.2.2 th fr)) (va_A (mdW cI cZ g g1 g2 g3 g4 wf nf cf kf fw mx th fr) sz)) 0 0 (va_A (mdW cI cZ g g1 g2 g3 g4 wf nf cf kf fw mx th fr) sz) := by
  refine zz_headV (cc := cX1_look) (by decide) rfl (Nat.le_of_ble_eq_true rfl) ?_
  intro p e s m below meth cd A ls F hr hlocks hin hP hK hD hA hS hl
  obtain ⟨hx, hb, hml, hown, hts⟩ := id F
  have hl : lv_has ls 7 [(0, .ref g), (1, .int (nI v))] := hl
  obtain ⟨p0, p1, p2⟩ := ok.2.2 0 (by decide)
  obtain ⟨q0, q1, q2⟩ := ok.2.2 1 (by decide)
  obtain ⟨r0, r1, r2⟩ := ok.2.2 2 (by decide)
  obtain ⟨t0, t1, t2⟩ := ok.2.2 3 (by decide)
  refine lv_aload_n hx hb dX1_look_0 rfl (lv_at hl 0 rfl) ?_
  refine lv_iconst (v := nI 0) hx hb dX1_look_1 (by decide +kernel) ?_
  refine va_put (D := D) (ci := 1) (v := .int (nI 0)) (ty := .int) (C := RX1) (T := TX1) (N := 7) hx hb hts (inX1_look) tyX1 tyX1_ok nmX1 hown hK hP hD hS 0 rfl rfl 5 (by decide) (hts (.fieldLink RX1 31 "NoteMixModel" "mixes" "I") (by decide +kernel)) (fun _ h9 => h9) rfl (by decide +kernel) rfl rfl (Nat.le_of_ble_eq_true rfl) dX1_look_2 (fun H locs hP hD hS => ?_)
  have hP : va_P D vwCl (mdW cI cZ g g1 g2 g3 g4 wf nf cf kf fw (nI 0) th fr) H := hP
  have hD : va_D A (mdW cI cZ g g1 g2 g3 g4 wf nf cf kf fw (nI 0) th fr) := hD
  refine lv_aload_n hx hb dX1_look_5 rfl (lv_at hl 0 rfl) ?_
  refine lv_bipush (v := nI 41) hx hb dX1_look_6 (by decide +kernel) ?_
  refine va_put (D := D) (ci := 1) (v := .int (nI 41)) (ty := .int) (C := RX1) (T := TX1) (N := 7) hx hb hts (inX1_look) tyX1 tyX1_ok nmX1 hown hK hP hD hS 0 rfl rfl 4 (by decide) (hts (.fieldLink RX1 34 "NoteMixModel" "fewest" "I") (by decide +kernel)) (fun _ h9 => h9) rfl (by decide +kernel) rfl rfl (Nat.le_of_ble_eq_true rfl) dX1_look_8 (fun H locs hP hD hS => ?_)
  have hP : va_P D vwCl (mdW cI cZ g g1 g2 g3 g4 wf nf cf kf (nI 41) (nI 0) th fr) H := hP
  have hD : va_D A (mdW cI cZ g g1 g2 g3 g4 wf nf cf kf (nI 41) (nI 0) th fr) := hD
  refine lv_aload_n hx hb dX1_look_11 rfl (lv_at hl 0 rfl) ?_
  refine va_get (D := D) (ci := 1) (v := .ref g2) (C := RX1) (T := TX1) (N := 7) hx hb hts (inX1_look) hown hK hP 0 rfl rfl 1 (by decide) (hts (.fieldLink RX1 13 "NoteMixModel" "notes" "[I") (by decide +kernel)) (fun _ h9 => h9) rfl dX1_look_12 ?_
  refine lv_iconst (v := nI 3) hx hb dX1_look_15 (by decide +kernel) ?_
  refine zn_iald (k := 3) hx hb hK hP 2 _ rfl hI (by omega) (by decide) (ok.2.1 3 (by omega)) dX1_look_16 ?_
  refine lv_bipush (v := nI 40) hx hb dX1_look_17 (by decide +kernel) ?_
  refine zn_min hx hb (hml.trans hl.1.symm) hown (hts (.methodLink RX1 37 Lib.Math.min.name) (by decide +kernel)) (hts (.static Lib.Math.min.name) (by decide +kernel)) (hts (.initialized "java/lang/Math") (by decide +kernel)) (hts (.code Lib.Math.min.name Lib.Math.min.code 2 (some .int)) (by decide +kernel)) (Nat.le_of_ble_eq_true rfl) (Nat.le_of_ble_eq_true rfl) (Nat.le_of_ble_eq_true rfl) (Nat.le_of_ble_eq_true rfl) (by omega) (by omega) dX1_look_19 ?_
  refine lv_istore_n (lv' := [(2, .int (nI (min (n 3) 40))), (0, .ref g), (1, .int (nI v))]) hx hb dX1_look_22 rfl hl (by decide) rfl (fun ls hl => ?_)
  have hl : lv_has ls 7 [(2, .int (nI (min (n 3) 40))), (1, .int (nI v)), (0, .ref g)] := lv_sub hl [0, 2, 1] rfl
  rw [← nI_pred (min (n 3) 40)] at hl
  refine zz_loop (fun ls H locs (u : Nat × (Nat → Int32) × Nat × Nat × (Nat → Nat)) => lv_has ls 7 [(2, .int (nI u.1 - 1)), (1, .int (nI v)), (0, .ref g)] ∧ va_P D vwCl (mdW cI cZ g g1 g2 g3 g4 wf nf u.2.1 kf (nI u.2.2.1) (nI u.2.2.2.1) th fr) H ∧ va_D A (mdW cI cZ g g1 g2 g3 g4 wf nf u.2.1 kf (nI u.2.2.1) (nI u.2.2.2.1) th fr) ∧ va_S A s.heap H locs ∧ (0 < u.2.2.2.1 → ∀ j, j < 4 → u.2.1 j = nI (u.2.2.2.2 j)) ∧ mx_J w n v (mx_k 0 0 u.1) u.2.2.2.1 u.2.2.1 u.2.2.2.2 ∧ u.1 ≤ min (n 3) 40 + 1) (fun u => u.1) ?_ (min (n 3) 40 + 1, cf, 41, 0, fun _ => 0) ⟨hl, hP, hD, hS, fun h9 => absurd h9 (Nat.lt_irrefl 0), mx_Jskip mx_J0 (by unfold mx_k; omega) md_skip3, Nat.le_refl _⟩
  rintro ls H locs ⟨d1, cf, b, cnt, bm⟩ ⟨hl, hP, hD, hS, hbm, hI3, hd⟩ k3
  dsimp only at hl hP hD hbm hI3 hd k3
  refine lv_iload_n hx hb dX1_look_23 rfl (lv_at hl 0 rfl) ?_
  refine zn_if_ltm hx hb (by omega) dX1_look_24 rfl (fun hc3 => ?_) (fun hc3 => ?_)
  · rw [hc3] at hI3
    have hI3 : mx_J w n v 0 cnt b bm := hI3
    exact zz_vret F hr hlocks hK hS dX1_look_247 (by decide) (by decide) (cf, nI b, nI cnt) ⟨cnt, b, bm, rfl, rfl, hbm, mx_Jend hI3⟩ hP hD
  · obtain ⟨d, rfl⟩ : ∃ d, d1 = d + 1 := ⟨d1 - 1, by omega⟩
    rw [nI_pred] at hl
    refine lv_aload_n hx hb dX1_look_27 rfl (lv_at hl 2 rfl) ?_
    refine va_get (D := D) (ci := 1) (v := .ref g2) (C := RX1) (T := TX1) (N := 7) hx hb hts (inX1_look) hown hK hP 0 rfl rfl 1 (by decide) (hts (.fieldLink RX1 13 "NoteMixModel" "notes" "[I") (by decide +kernel)) (fun _ h9 => h9) rfl dX1_look_28 ?_
    refine lv_iconst (v := nI 2) hx hb dX1_look_31 (by decide +kernel) ?_
    refine zn_iald (k := 2) hx hb hK hP 2 _ rfl hI (by omega) (by decide) (ok.2.1 2 (by omega)) dX1_look_32 ?_
    refine lv_bipush (v := nI 40) hx hb dX1_look_33 (by decide +kernel) ?_
    refine lv_iload_n hx hb dX1_look_35 rfl (lv_at hl 0 rfl) ?_
    refine zn_sub hx hb (by omega) dX1_look_36 ?_
    refine zn_min hx hb (hml.trans hl.1.symm) hown (hts (.methodLink RX1 37 Lib.Math.min.name) (by decide +kernel)) (hts (.static Lib.Math.min.name) (by decide +kernel)) (hts (.initialized "java/lang/Math") (by decide +kernel)) (hts (.code Lib.Math.min.name Lib.Math.min.code 2 (some .int)) (by decide +kernel)) (Nat.le_of_ble_eq_true rfl) (Nat.le_of_ble_eq_true rfl) (Nat.le_of_ble_eq_true rfl) (Nat.le_of_ble_eq_true rfl) (by omega) (by omega) dX1_look_37 ?_
    refine lv_istore_n (lv' := [(3, .int (nI (min (n 2) (40 - d)))), (2, .int (nI d)), (1, .int (nI v)), (0, .ref g)]) hx hb dX1_look_40 rfl hl (by decide) rfl (fun ls hl => ?_)
    have hl : lv_has ls 7 [(3, .int (nI (min (n 2) (40 - d)))), (2, .int (nI d)), (1, .int (nI v)), (0, .ref g)] := lv_sub hl [0, 1, 2, 3] rfl
    rw [← nI_pred (min (n 2) (40 - d))] at hl
    refine zz_loop (fun ls H locs (u : Nat × (Nat → Int32) × Nat × Nat × (Nat → Nat)) => lv_has ls 7 [(3, .int (nI u.1 - 1)), (2, .int (nI d)), (1, .int (nI v)), (0, .ref g)] ∧ va_P D vwCl (mdW cI cZ g g1 g2 g3 g4 wf nf u.2.1 kf (nI u.2.2.1) (nI u.2.2.2.1) th fr) H ∧ va_D A (mdW cI cZ g g1 g2 g3 g4 wf nf u.2.1 kf (nI u.2.2.1) (nI u.2.2.2.1) th fr) ∧ va_S A s.heap H locs ∧ (0 < u.2.2.2.1 → ∀ j, j < 4 → u.2.1 j = nI (u.2.2.2.2 j)) ∧ mx_J w n v (mx_k 0 u.1 d) u.2.2.2.1 u.2.2.1 u.2.2.2.2 ∧ u.1 ≤ min (n 2) (40 - d) + 1) (fun u => u.1) ?_ (min (n 2) (40 - d) + 1, cf, b, cnt, bm) ⟨hl, hP, hD, hS, hbm, mx_Jskip hI3 (by unfold mx_k; omega) md_skip2, Nat.le_refl _⟩
    rintro ls H locs ⟨c1, cf, b, cnt, bm⟩ ⟨hl, hP, hD, hS, hbm, hI2, hc⟩ k2
    dsimp only at hl hP hD hbm hI2 hc k2
    refine lv_iload_n hx hb dX1_look_41 rfl (lv_at hl 0 rfl) ?_
    refine zn_if_ltm hx hb (by omega) dX1_look_42 rfl (fun hc2 => ?_) (fun hc2 => ?_)
    · rw [hc2] at hI2
      refine lv_iinc (k := 1) (lv' := [(2, .int (nI d - 1)), (3, .int (nI c1 - 1)), (1, .int (nI v)), (0, .ref g)]) hx hb dX1_look_241 hl rfl (zz_m1 _) (by decide) rfl (fun ls hl => ?_)
      refine lv_goto hx hb dX1_look_244 rfl ?_
      have hl : lv_has ls 7 [(2, .int (nI d - 1)), (1, .int (nI v)), (0, .ref g)] := lv_sub hl [0, 2, 3] rfl
      exact k3 _ _ _ (d, cf, b, cnt, bm) ⟨hl, hP, hD, hS, hbm, hI2, by show d ≤ min (n 3) 40 + 1; omega⟩ (by show d < d + 1; omega)
    · obtain ⟨c2, rfl⟩ : ∃ c, c1 = c + 1 := ⟨c1 - 1, by omega⟩
      rw [nI_pred] at hl
      refine lv_aload_n hx hb dX1_look_45 rfl (lv_at hl 3 rfl) ?_
      refine va_get (D := D) (ci := 1) (v := .ref g2) (C := RX1) (T := TX1) (N := 7) hx hb hts (inX1_look) hown hK hP 0 rfl rfl 1 (by decide) (hts (.fieldLink RX1 13 "NoteMixModel" "notes" "[I") (by decide +kernel)) (fun _ h9 => h9) rfl dX1_look_46 ?_
      refine lv_iconst (v := nI 1) hx hb dX1_look_49 (by decide +kernel) ?_
      refine zn_iald (k := 1) hx hb hK hP 2 _ rfl hI (by omega) (by decide) (ok.2.1 1 (by omega)) dX1_look_50 ?_
      refine lv_bipush (v := nI 40) hx hb dX1_look_51 (by decide +kernel) ?_
      refine lv_iload_n hx hb dX1_look_53 rfl (lv_at hl 1 rfl) ?_
      refine zn_sub hx hb (by omega) dX1_look_54 ?_
      refine lv_iload_n hx hb dX1_look_55 rfl (lv_at hl 0 rfl) ?_
      refine zn_sub hx hb (by omega) dX1_look_56 ?_
      refine zn_min hx hb (hml.trans hl.1.symm) hown (hts (.methodLink RX1 37 Lib.Math.min.name) (by decide +kernel)) (hts (.static Lib.Math.min.name) (by decide +kernel)) (hts (.initialized "java/lang/Math") (by decide +kernel)) (hts (.code Lib.Math.min.name Lib.Math.min.code 2 (some .int)) (by decide +kernel)) (Nat.le_of_ble_eq_true rfl) (Nat.le_of_ble_eq_true rfl) (Nat.le_of_ble_eq_true rfl) (Nat.le_of_ble_eq_true rfl) (by omega) (by omega) dX1_look_57 ?_
      refine lv_istore (lv' := [(4, .int (nI (min (n 1) ((40 - d) - c2)))), (3, .int (nI c2)), (2, .int (nI d)), (1, .int (nI v)), (0, .ref g)]) hx hb dX1_look_60 hl (by decide) rfl (fun ls hl => ?_)
      have hl : lv_has ls 7 [(4, .int (nI (min (n 1) ((40 - d) - c2)))), (3, .int (nI c2)), (2, .int (nI d)), (1, .int (nI v)), (0, .ref g)] := lv_sub hl [0, 1, 2, 3, 4] rfl
      rw [← nI_pred (min (n 1) (40 - d - c2))] at hl
      refine zz_loop (fun ls H locs (u : Nat × (Nat → Int32) × Nat × Nat × (Nat → Nat)) => lv_has ls 7 [(4, .int (nI u.1 - 1)), (3, .int (nI c2)), (2, .int (nI d)), (1, .int (nI v)), (0, .ref g)] ∧ va_P D vwCl (mdW cI cZ g g1 g2 g3 g4 wf nf u.2.1 kf (nI u.2.2.1) (nI u.2.2.2.1) th fr) H ∧ va_D A (mdW cI cZ g g1 g2 g3 g4 wf nf u.2.1 kf (nI u.2.2.1) (nI u.2.2.2.1) th fr) ∧ va_S A s.heap H locs ∧ (0 < u.2.2.2.1 → ∀ j, j < 4 → u.2.1 j = nI (u.2.2.2.2 j)) ∧ mx_J w n v (mx_k u.1 c2 d) u.2.2.2.1 u.2.2.1 u.2.2.2.2 ∧ u.1 ≤ min (n 1) (40 - d - c2) + 1) (fun u => u.1) ?_ (min (n 1) (40 - d - c2) + 1, cf, b, cnt, bm) ⟨hl, hP, hD, hS, hbm, mx_Jskip hI2 (by unfold mx_k; omega) (md_skip1 (by omega)), Nat.le_refl _⟩
      rintro ls H locs ⟨bb, cf, b, cnt, bm⟩ ⟨hl, hP, hD, hS, hbm, hI1, hb1⟩ k1
      dsimp only at hl hP hD hbm hI1 hb1 k1
      refine lv_iload hx hb dX1_look_62 (lv_at hl 0 rfl) ?_
      refine zn_if_ltm hx hb (by omega) dX1_look_64 rfl (fun hc1 => ?_) (fun hc1 => ?_)
      · rw [hc1] at hI1
        refine lv_iinc (k := 1) (lv' := [(3, .int (nI c2 - 1)), (4, .int (nI bb - 1)), (2, .int (nI d)), (1, .int (nI v)), (0, .ref g)]) hx hb dX1_look_235 hl rfl (zz_m1 _) (by decide) rfl (fun ls hl => ?_)
        refine lv_goto hx hb dX1_look_238 rfl ?_
        have hl : lv_has ls 7 [(3, .int (nI c2 - 1)), (2, .int (nI d)), (1, .int (nI v)), (0, .ref g)] := lv_sub hl [0, 2, 3, 4] rfl
        exact k2 _ _ _ (c2, cf, b, cnt, bm) ⟨hl, hP, hD, hS, hbm, hI1, by show c2 ≤ min (n 2) (40 - d) + 1; omega⟩ (by show c2 < c2 + 1; omega)
      · obtain ⟨b1, rfl⟩ : ∃ c, bb = c + 1 := ⟨bb - 1, by omega⟩
        rw [nI_pred] at hl
        rw [mx_ks] at hI1
        have hb41 := mx_Jbs hI1
        have z3 : d * w 3 ≤ 40 * 500 := Nat.mul_le_mul (by omega) t1
        have z2 : c2 * w 2 ≤ 40 * 500 := Nat.mul_le_mul (by omega) r1
        have z1 : b1 * w 1 ≤ 40 * 500 := Nat.mul_le_mul (by omega) q1
        refine lv_iload_n hx hb dX1_look_67 rfl (lv_at hl 3 rfl) ?_
        refine lv_iload_n hx hb dX1_look_68 rfl (lv_at hl 2 rfl) ?_
        refine lv_aload_n hx hb dX1_look_69 rfl (lv_at hl 4 rfl) ?_
        refine va_get (D := D) (ci := 1) (v := .ref g1) (C := RX1) (T := TX1) (N := 7) hx hb hts (inX1_look) hown hK hP 0 rfl rfl 0 (by decide) (hts (.fieldLink RX1 7 "NoteMixModel" "worth" "[I") (by decide +kernel)) (fun _ h9 => h9) rfl dX1_look_70 ?_
        refine lv_iconst (v := nI 3) hx hb dX1_look_73 (by decide +kernel) ?_
        refine zn_iald (k := 3) hx hb hK hP 1 _ rfl hI (by omega) (by decide) (ok.1 3 (by omega)) dX1_look_74 ?_
        refine zn_mul hx hb dX1_look_75 ?_
        refine lv_isub hx hb dX1_look_76 ?_
        refine lv_iload_n hx hb dX1_look_77 rfl (lv_at hl 1 rfl) ?_
        refine lv_aload_n hx hb dX1_look_78 rfl (lv_at hl 4 rfl) ?_
        refine va_get (D := D) (ci := 1) (v := .ref g1) (C := RX1) (T := TX1) (N := 7) hx hb hts (inX1_look) hown hK hP 0 rfl rfl 0 (by decide) (hts (.fieldLink RX1 7 "NoteMixModel" "worth" "[I") (by decide +kernel)) (fun _ h9 => h9) rfl dX1_look_79 ?_
        refine lv_iconst (v := nI 2) hx hb dX1_look_82 (by decide +kernel) ?_
        refine zn_iald (k := 2) hx hb hK hP 1 _ rfl hI (by omega) (by decide) (ok.1 2 (by omega)) dX1_look_83 ?_
        refine zn_mul hx hb dX1_look_84 ?_
        refine lv_isub hx hb dX1_look_85 ?_
        refine lv_iload hx hb dX1_look_86 (lv_at hl 0 rfl) ?_
        refine lv_aload_n hx hb dX1_look_88 rfl (lv_at hl 4 rfl) ?_
        refine va_get (D := D) (ci := 1) (v := .ref g1) (C := RX1) (T := TX1) (N := 7) hx hb hts (inX1_look) hown hK hP 0 rfl rfl 0 (by decide) (hts (.fieldLink RX1 7 "NoteMixModel" "worth" "[I") (by decide +kernel)) (fun _ h9 => h9) rfl dX1_look_89 ?_
        refine lv_iconst (v := nI 1) hx hb dX1_look_92 (by decide +kernel) ?_
        refine zn_iald (k := 1) hx hb hK hP 1 _ rfl hI (by omega) (by decide) (ok.1 1 (by omega)) dX1_look_93 ?_
        refine zn_mul hx hb dX1_look_94 ?_
        refine lv_isub hx hb dX1_look_95 ?_
        refine lv_istore (lv' := [(5, .int ((((nI v) - (nI (d * (w 3)))) - (nI (c2 * (w 2)))) - (nI (b1 * (w 1))))), (4, .int (nI b1)), (3, .int (nI c2)), (2, .int (nI d)), (1, .int (nI v)), (0, .ref g)]) hx hb dX1_look_96 hl (by decide) rfl (fun ls hl => ?_)
        refine lv_iload hx hb dX1_look_98 (lv_at hl 0 rfl) ?_
        refine lv_if_lt hx hb dX1_look_100 rfl (fun hq => ?_) (fun hq => ?_)
        · refine lv_iinc (k := 1) (lv' := [(4, .int (nI b1 - 1)), (5, .int ((((nI v) - (nI (d * (w 3)))) - (nI (c2 * (w 2)))) - (nI (b1 * (w 1))))), (3, .int (nI c2)), (2, .int (nI d)), (1, .int (nI v)), (0, .ref g)]) hx hb dX1_look_229 hl rfl (zz_m1 _) (by decide) rfl (fun ls hl => ?_)
          refine lv_goto hx hb dX1_look_232 rfl ?_
          have hl : lv_has ls 7 [(4, .int (nI b1 - 1)), (3, .int (nI c2)), (2, .int (nI d)), (1, .int (nI v)), (0, .ref g)] := lv_sub hl [0, 2, 3, 4, 5] rfl
          have hI9 : mx_J w n v (mx_k b1 c2 d) (cnt) (b) bm := (mx_Jnone (by omega) (by omega) hI1 (fun a9 h9 => absurd hq (by rw [zz_pos3 (md_inv p0 h9).1]; exact nI_pos (by omega))))
          have hb9 : 0 < cnt → ∀ j, j < 4 → cf j = nI (bm j) := hbm
          exact k1 _ _ _ (b1, cf, b, cnt, bm) ⟨hl, hP, hD, hS, hb9, hI9, by show b1 ≤ min (n 1) (40 - d - c2) + 1; omega⟩ (by show b1 < b1 + 1; omega)
        · have hle : d * w 3 + c2 * w 2 + b1 * w 1 ≤ v := Nat.le_of_not_lt (fun h9 => hq (zz_neg3 (by omega) (by omega) (by omega) (by omega) h9))
          rw [zz_pos3 hle] at hl
          refine lv_iload hx hb dX1_look_103 (lv_at hl 0 rfl) ?_
          refine lv_aload_n hx hb dX1_look_105 rfl (lv_at hl 5 rfl) ?_
          refine va_get (D := D) (ci := 1) (v := .ref g1) (C := RX1) (T := TX1) (N := 7) hx hb hts (inX1_look) hown hK hP 0 rfl rfl 0 (by decide) (hts (.fieldLink RX1 7 "NoteMixModel" "worth" "[I") (by decide +kernel)) (fun _ h9 => h9) rfl dX1_look_106 ?_
          refine lv_iconst (v := nI 0) hx hb dX1_look_109 (by decide +kernel) ?_
          refine zn_iald (k := 0) hx hb hK hP 1 _ rfl hI (by omega) (by decide) (ok.1 0 (by omega)) dX1_look_110 ?_
          refine zn_rem hx hb (by omega) p0 (by omega) dX1_look_111 ?_
          have hrem : (v - d * w 3 - c2 * w 2 - b1 * w 1) % (w 0) < w 0 := Nat.mod_lt _ p0
          refine zn_if_eq hx hb (by omega) dX1_look_112 rfl (fun hq2 => ?_) (fun hq2 => ?_)
          · have hdiv : (v - d * w 3 - c2 * w 2 - b1 * w 1) / (w 0) ≤ v - d * w 3 - c2 * w 2 - b1 * w 1 := Nat.div_le_self _ _
            refine lv_iload hx hb dX1_look_118 (lv_at hl 0 rfl) ?_
            refine lv_aload_n hx hb dX1_look_120 rfl (lv_at hl 5 rfl) ?_
            refine va_get (D := D) (ci := 1) (v := .ref g1) (C := RX1) (T := TX1) (N := 7) hx hb hts (inX1_look) hown hK hP 0 rfl rfl 0 (by decide) (hts (.fieldLink RX1 7 "NoteMixModel" "worth" "[I") (by decide +kernel)) (fun _ h9 => h9) rfl dX1_look_121 ?_
            refine lv_iconst (v := nI 0) hx hb dX1_look_124 (by decide +kernel) ?_
            refine zn_iald (k := 0) hx hb hK hP 1 _ rfl hI (by omega) (by decide) (ok.1 0 (by omega)) dX1_look_125 ?_
            refine zn_div hx hb (by omega) (by omega) (by omega) dX1_look_126 ?_
            refine lv_istore (lv' := [(6, .int (nI ((v - d * w 3 - c2 * w 2 - b1 * w 1) / (w 0)))), (5, .int (nI (v - d * w 3 - c2 * w 2 - b1 * w 1))), (4, .int (nI b1)), (3, .int (nI c2)), (2, .int (nI d)), (1, .int (nI v)), (0, .ref g)]) hx hb dX1_look_127 hl (by decide) rfl (fun ls hl => ?_)
            refine lv_iload hx hb dX1_look_129 (lv_at hl 0 rfl) ?_
            refine lv_aload_n hx hb dX1_look_131 rfl (lv_at hl 6 rfl) ?_
            refine va_get (D := D) (ci := 1) (v := .ref g2) (C := RX1) (T := TX1) (N := 7) hx hb hts (inX1_look) hown hK hP 0 rfl rfl 1 (by decide) (hts (.fieldLink RX1 13 "NoteMixModel" "notes" "[I") (by decide +kernel)) (fun _ h9 => h9) rfl dX1_look_132 ?_
            refine lv_iconst (v := nI 0) hx hb dX1_look_135 (by decide +kernel) ?_
            refine zn_iald (k := 0) hx hb hK hP 2 _ rfl hI (by omega) (by decide) (ok.2.1 0 (by omega)) dX1_look_136 ?_
            refine zn_gt hx hb (by omega) (by omega) dX1_look_137 rfl (fun hq3 => ?_) (fun hq3 => ?_)
            · refine lv_iinc (k := 2) (lv' := [(4, .int (nI b1 - 1)), (6, .int (nI ((v - d * w 3 - c2 * w 2 - b1 * w 1) / (w 0)))), (5, .int (nI (v - d * w 3 - c2 * w 2 - b1 * w 1))), (3, .int (nI c2)), (2, .int (nI d)), (1, .int (nI v)), (0, .ref g)]) hx hb dX1_look_229 hl rfl (zz_m1 _) (by decide) rfl (fun ls hl => ?_)
              refine lv_goto hx hb dX1_look_232 rfl ?_
              have hl : lv_has ls 7 [(4, .int (nI b1 - 1)), (3, .int (nI c2)), (2, .int (nI d)), (1, .int (nI v)), (0, .ref g)] := lv_sub hl [0, 3, 4, 5, 6] rfl
              have hI9 : mx_J w n v (mx_k b1 c2 d) (cnt) (b) bm := (mx_Jnone (by omega) (by omega) hI1 (fun a9 h9 => absurd h9.1 (by rw [← (md_inv p0 h9).2.2]; omega)))
              have hb9 : 0 < cnt → ∀ j, j < 4 → cf j = nI (bm j) := hbm
              exact k1 _ _ _ (b1, cf, b, cnt, bm) ⟨hl, hP, hD, hS, hb9, hI9, by show b1 ≤ min (n 1) (40 - d - c2) + 1; omega⟩ (by show b1 < b1 + 1; omega)
            · refine lv_iload_n hx hb dX1_look_140 rfl (lv_at hl 4 rfl) ?_
              refine lv_iload_n hx hb dX1_look_141 rfl (lv_at hl 3 rfl) ?_
              refine zn_add hx hb dX1_look_142 ?_
              refine lv_iload hx hb dX1_look_143 (lv_at hl 2 rfl) ?_
              refine zn_add hx hb dX1_look_145 ?_
              refine lv_iload hx hb dX1_look_146 (lv_at hl 0 rfl) ?_
              refine zn_add hx hb dX1_look_148 ?_
              refine lv_bipush (v := nI 40) hx hb dX1_look_149 (by decide +kernel) ?_
              refine zn_le hx hb (by omega) (by omega) dX1_look_151 rfl (fun hq4 => ?_) (fun hq4 => ?_)
              · have hmix := md_mix (by omega) (by omega) (by omega) hle hq2 hq3 hq4
                generalize (v - d * w 3 - c2 * w 2 - b1 * w 1) / (w 0) = x0 at hmix hdiv hq3 hq4 hl ⊢
                refine lv_aload_n hx hb dX1_look_157 rfl (lv_at hl 6 rfl) ?_
                refine lv_dup hx hb dX1_look_158 rfl ?_
                refine va_get (D := D) (ci := 1) (v := .int (nI cnt)) (C := RX1) (T := TX1) (N := 7) hx hb hts (inX1_look) hown hK hP 0 rfl rfl 5 (by decide) (hts (.fieldLink RX1 31 "NoteMixModel" "mixes" "I") (by decide +kernel)) (fun _ h9 => h9) rfl dX1_look_159 ?_
                refine lv_iconst (v := nI 1) hx hb dX1_look_162 (by decide +kernel) ?_
                refine zn_add hx hb dX1_look_163 ?_
                refine va_put (D := D) (ci := 1) (v := .int (nI (cnt + 1))) (ty := .int) (C := RX1) (T := TX1) (N := 7) hx hb hts (inX1_look) tyX1 tyX1_ok nmX1 hown hK hP hD hS 0 rfl rfl 5 (by decide) (hts (.fieldLink RX1 31 "NoteMixModel" "mixes" "I") (by decide +kernel)) (fun _ h9 => h9) rfl (by decide +kernel) rfl rfl (Nat.le_of_ble_eq_true rfl) dX1_look_164 (fun H locs hP hD hS => ?_)
                have hP : va_P D vwCl (mdW cI cZ g g1 g2 g3 g4 wf nf cf kf (nI b) (nI (cnt + 1)) th fr) H := hP
                have hD : va_D A (mdW cI cZ g g1 g2 g3 g4 wf nf cf kf (nI b) (nI (cnt + 1)) th fr) := hD
                refine lv_iload_n hx hb dX1_look_167 rfl (lv_at hl 4 rfl) ?_
                refine lv_iload_n hx hb dX1_look_168 rfl (lv_at hl 3 rfl) ?_
                refine zn_add hx hb dX1_look_169 ?_
                refine lv_iload hx hb dX1_look_170 (lv_at hl 2 rfl) ?_
                refine zn_add hx hb dX1_look_172 ?_
                refine lv_iload hx hb dX1_look_173 (lv_at hl 0 rfl) ?_
                refine zn_add hx hb dX1_look_175 ?_
                refine lv_aload_n hx hb dX1_look_176 rfl (lv_at hl 6 rfl) ?_
                refine va_get (D := D) (ci := 1) (v := .int (nI b)) (C := RX1) (T := TX1) (N := 7) hx hb hts (inX1_look) hown hK hP 0 rfl rfl 4 (by decide) (hts (.fieldLink RX1 34 "NoteMixModel" "fewest" "I") (by decide +kernel)) (fun _ h9 => h9) rfl dX1_look_177 ?_
                refine zn_lt hx hb (by omega) (by omega) dX1_look_180 rfl (fun hq5 => ?_) (fun hq5 => ?_)
                · refine lv_aload_n hx hb dX1_look_186 rfl (lv_at hl 6 rfl) ?_
                  refine lv_iload_n hx hb dX1_look_187 rfl (lv_at hl 4 rfl) ?_
                  refine lv_iload_n hx hb dX1_look_188 rfl (lv_at hl 3 rfl) ?_
                  refine zn_add hx hb dX1_look_189 ?_
                  refine lv_iload hx hb dX1_look_190 (lv_at hl 2 rfl) ?_
                  refine zn_add hx hb dX1_look_192 ?_
                  refine lv_iload hx hb dX1_look_193 (lv_at hl 0 rfl) ?_
                  refine zn_add hx hb dX1_look_195 ?_
                  refine va_put (D := D) (ci := 1) (v := .int (nI (((d + c2) + b1) + x0))) (ty := .int) (C := RX1) (T := TX1) (N := 7) hx hb hts (inX1_look) tyX1 tyX1_ok nmX1 hown hK hP hD hS 0 rfl rfl 4 (by decide) (hts (.fieldLink RX1 34 "NoteMixModel" "fewest" "I") (by decide +kernel)) (fun _ h9 => h9) rfl (by decide +kernel) rfl rfl (Nat.le_of_ble_eq_true rfl) dX1_look_196 (fun H locs hP hD hS => ?_)
                  have hP : va_P D vwCl (mdW cI cZ g g1 g2 g3 g4 wf nf cf kf (nI (((d + c2) + b1) + x0)) (nI (cnt + 1)) th fr) H := hP
                  have hD : va_D A (mdW cI cZ g g1 g2 g3 g4 wf nf cf kf (nI (((d + c2) + b1) + x0)) (nI (cnt + 1)) th fr) := hD
                  refine lv_aload_n hx hb dX1_look_199 rfl (lv_at hl 6 rfl) ?_
                  refine va_get (D := D) (ci := 1) (v := .ref g3) (C := RX1) (T := TX1) (N := 7) hx hb hts (inX1_look) hown hK hP 0 rfl rfl 2 (by decide) (hts (.fieldLink RX1 16 "NoteMixModel" "chosen" "[I") (by decide +kernel)) (fun _ h9 => h9) rfl dX1_look_200 ?_
                  refine lv_iconst (v := nI 0) hx hb dX1_look_203 (by decide +kernel) ?_
                  refine lv_iload hx hb dX1_look_204 (lv_at hl 0 rfl) ?_
                  refine zn_iast (k := 0) hx hb hK hP hD hS 3 _ rfl hI (by decide) (by decide) dX1_look_206 (fun H locs cf1 cf1e cf1n hP hD hS => ?_)
                  have hP : va_P D vwCl (mdW cI cZ g g1 g2 g3 g4 wf nf cf1 kf (nI (((d + c2) + b1) + x0)) (nI (cnt + 1)) th fr) H := hP
                  have hD : va_D A (mdW cI cZ g g1 g2 g3 g4 wf nf cf1 kf (nI (((d + c2) + b1) + x0)) (nI (cnt + 1)) th fr) := hD
                  refine lv_aload_n hx hb dX1_look_207 rfl (lv_at hl 6 rfl) ?_
                  refine va_get (D := D) (ci := 1) (v := .ref g3) (C := RX1) (T := TX1) (N := 7) hx hb hts (inX1_look) hown hK hP 0 rfl rfl 2 (by decide) (hts (.fieldLink RX1 16 "NoteMixModel" "chosen" "[I") (by decide +kernel)) (fun _ h9 => h9) rfl dX1_look_208 ?_
                  refine lv_iconst (v := nI 1) hx hb dX1_look_211 (by decide +kernel) ?_
                  refine lv_iload hx hb dX1_look_212 (lv_at hl 2 rfl) ?_
                  refine zn_iast (k := 1) hx hb hK hP hD hS 3 _ rfl hI (by decide) (by decide) dX1_look_214 (fun H locs cf2 cf2e cf2n hP hD hS => ?_)
                  have hP : va_P D vwCl (mdW cI cZ g g1 g2 g3 g4 wf nf cf2 kf (nI (((d + c2) + b1) + x0)) (nI (cnt + 1)) th fr) H := hP
                  have hD : va_D A (mdW cI cZ g g1 g2 g3 g4 wf nf cf2 kf (nI (((d + c2) + b1) + x0)) (nI (cnt + 1)) th fr) := hD
                  refine lv_aload_n hx hb dX1_look_215 rfl (lv_at hl 6 rfl) ?_
                  refine va_get (D := D) (ci := 1) (v := .ref g3) (C := RX1) (T := TX1) (N := 7) hx hb hts (inX1_look) hown hK hP 0 rfl rfl 2 (by decide) (hts (.fieldLink RX1 16 "NoteMixModel" "chosen" "[I") (by decide +kernel)) (fun _ h9 => h9) rfl dX1_look_216 ?_
                  refine lv_iconst (v := nI 2) hx hb dX1_look_219 (by decide +kernel) ?_
                  refine lv_iload_n hx hb dX1_look_220 rfl (lv_at hl 3 rfl) ?_
                  refine zn_iast (k := 2) hx hb hK hP hD hS 3 _ rfl hI (by decide) (by decide) dX1_look_221 (fun H locs cf3 cf3e cf3n hP hD hS => ?_)
                  have hP : va_P D vwCl (mdW cI cZ g g1 g2 g3 g4 wf nf cf3 kf (nI (((d + c2) + b1) + x0)) (nI (cnt + 1)) th fr) H := hP
                  have hD : va_D A (mdW cI cZ g g1 g2 g3 g4 wf nf cf3 kf (nI (((d + c2) + b1) + x0)) (nI (cnt + 1)) th fr) := hD
                  refine lv_aload_n hx hb dX1_look_222 rfl (lv_at hl 6 rfl) ?_
                  refine va_get (D := D) (ci := 1) (v := .ref g3) (C := RX1) (T := TX1) (N := 7) hx hb hts (inX1_look) hown hK hP 0 rfl rfl 2 (by decide) (hts (.fieldLink RX1 16 "NoteMixModel" "chosen" "[I") (by decide +kernel)) (fun _ h9 => h9) rfl dX1_look_223 ?_
                  refine lv_iconst (v := nI 3) hx hb dX1_look_226 (by decide +kernel) ?_
                  refine lv_iload_n hx hb dX1_look_227 rfl (lv_at hl 4 rfl) ?_
                  refine zn_iast (k := 3) hx hb hK hP hD hS 3 _ rfl hI (by decide) (by decide) dX1_look_228 (fun H locs cf4 cf4e cf4n hP hD hS => ?_)
                  have hP : va_P D vwCl (mdW cI cZ g g1 g2 g3 g4 wf nf cf4 kf (nI (((d + c2) + b1) + x0)) (nI (cnt + 1)) th fr) H := hP
                  have hD : va_D A (mdW cI cZ g g1 g2 g3 g4 wf nf cf4 kf (nI (((d + c2) + b1) + x0)) (nI (cnt + 1)) th fr) := hD
                  have es : d + c2 + b1 + x0 = x0 + b1 + c2 + d := by omega
                  rw [es] at hP hD
                  have y0 : cf4 0 = nI x0 := by rw [cf4n 0 (by decide), cf3n 0 (by decide), cf2n 0 (by decide), cf1e]
                  have y1 : cf4 1 = nI b1 := by rw [cf4n 1 (by decide), cf3n 1 (by decide), cf2e]
                  have y2 : cf4 2 = nI c2 := by rw [cf4n 2 (by decide), cf3e]
                  have y3 : cf4 3 = nI d := cf4e
                  refine lv_iinc (k := 2) (lv' := [(4, .int (nI b1 - 1)), (6, .int (nI x0)), (5, .int (nI (v - d * w 3 - c2 * w 2 - b1 * w 1))), (3, .int (nI c2)), (2, .int (nI d)), (1, .int (nI v)), (0, .ref g)]) hx hb dX1_look_229 hl rfl (zz_m1 _) (by decide) rfl (fun ls hl => ?_)
                  refine lv_goto hx hb dX1_look_232 rfl ?_
                  have hl : lv_has ls 7 [(4, .int (nI b1 - 1)), (3, .int (nI c2)), (2, .int (nI d)), (1, .int (nI v)), (0, .ref g)] := lv_sub hl [0, 3, 4, 5, 6] rfl
                  have hI9 : mx_J w n v (mx_k b1 c2 d) (cnt + 1) (x0 + b1 + c2 + d) (fun j => if j = 0 then x0 else if j = 1 then b1 else if j = 2 then c2 else d) := (mx_Jfound p0 hI1 hmix (by omega) rfl rfl rfl rfl)
                  have hb9 : 0 < cnt + 1 → ∀ j, j < 4 → cf4 j = nI ((fun j => if j = 0 then x0 else if j = 1 then b1 else if j = 2 then c2 else d) j) := (fun _ j hj => by rcases (show j = 0 ∨ j = 1 ∨ j = 2 ∨ j = 3 by omega) with rfl | rfl | rfl | rfl <;> assumption)
                  exact k1 _ _ _ (b1, cf4, x0 + b1 + c2 + d, cnt + 1, (fun j => if j = 0 then x0 else if j = 1 then b1 else if j = 2 then c2 else d)) ⟨hl, hP, hD, hS, hb9, hI9, by show b1 ≤ min (n 1) (40 - d - c2) + 1; omega⟩ (by show b1 < b1 + 1; omega)
                · refine lv_goto hx hb dX1_look_183 rfl ?_
                  refine lv_iinc (k := 2) (lv' := [(4, .int (nI b1 - 1)), (6, .int (nI x0)), (5, .int (nI (v - d * w 3 - c2 * w 2 - b1 * w 1))), (3, .int (nI c2)), (2, .int (nI d)), (1, .int (nI v)), (0, .ref g)]) hx hb dX1_look_229 hl rfl (zz_m1 _) (by decide) rfl (fun ls hl => ?_)
                  refine lv_goto hx hb dX1_look_232 rfl ?_
                  have hl : lv_has ls 7 [(4, .int (nI b1 - 1)), (3, .int (nI c2)), (2, .int (nI d)), (1, .int (nI v)), (0, .ref g)] := lv_sub hl [0, 3, 4, 5, 6] rfl
                  have hI9 : mx_J w n v (mx_k b1 c2 d) (cnt + 1) (b) bm := (mx_Jkeep p0 hI1 hmix (by omega))
                  have hb9 : 0 < cnt + 1 → ∀ j, j < 4 → cf j = nI (bm j) := (fun _ j hj => hbm (by rcases hI1.2.2 with ⟨_, q, _⟩ | ⟨q, _⟩ <;> omega) j hj)
                  exact k1 _ _ _ (b1, cf, b, cnt + 1, bm) ⟨hl, hP, hD, hS, hb9, hI9, by show b1 ≤ min (n 1) (40 - d - c2) + 1; omega⟩ (by show b1 < b1 + 1; omega)
              · refine lv_goto hx hb dX1_look_154 rfl ?_
                refine lv_iinc (k := 2) (lv' := [(4, .int (nI b1 - 1)), (6, .int (nI ((v - d * w 3 - c2 * w 2 - b1 * w 1) / (w 0)))), (5, .int (nI (v - d * w 3 - c2 * w 2 - b1 * w 1))), (3, .int (nI c2)), (2, .int (nI d)), (1, .int (nI v)), (0, .ref g)]) hx hb dX1_look_229 hl rfl (zz_m1 _) (by decide) rfl (fun ls hl => ?_)
                refine lv_goto hx hb dX1_look_232 rfl ?_
                have hl : lv_has ls 7 [(4, .int (nI b1 - 1)), (3, .int (nI c2)), (2, .int (nI d)), (1, .int (nI v)), (0, .ref g)] := lv_sub hl [0, 3, 4, 5, 6] rfl
                have hI9 : mx_J w n v (mx_k b1 c2 d) (cnt) (b) bm := (mx_Jnone (by omega) (by omega) hI1 (fun a9 h9 => absurd h9.2.2.2.2.1 (by rw [← (md_inv p0 h9).2.2]; omega)))
                have hb9 : 0 < cnt → ∀ j, j < 4 → cf j = nI (bm j) := hbm
                exact k1 _ _ _ (b1, cf, b, cnt, bm) ⟨hl, hP, hD, hS, hb9, hI9, by show b1 ≤ min (n 1) (40 - d - c2) + 1; omega⟩ (by show b1 < b1 + 1; omega)
          · refine lv_goto hx hb dX1_look_115 rfl ?_
            refine lv_iinc (k := 1) (lv' := [(4, .int (nI b1 - 1)), (5, .int (nI (v - d * w 3 - c2 * w 2 - b1 * w 1))), (3, .int (nI c2)), (2, .int (nI d)), (1, .int (nI v)), (0, .ref g)]) hx hb dX1_look_229 hl rfl (zz_m1 _) (by decide) rfl (fun ls hl => ?_)
            refine lv_goto hx hb dX1_look_232 rfl ?_
            have hl : lv_has ls 7 [(4, .int (nI b1 - 1)), (3, .int (nI c2)), (2, .int (nI d)), (1, .int (nI v)), (0, .ref g)] := lv_sub hl [0, 2, 3, 4, 5] rfl
            have hI9 : mx_J w n v (mx_k b1 c2 d) (cnt) (b) bm := (mx_Jnone (by omega) (by omega) hI1 (fun a9 h9 => absurd (md_inv p0 h9).2.1 (by omega)))
            have hb9 : 0 < cnt → ∀ j, j < 4 → cf j = nI (bm j) := hbm
            exact k1 _ _ _ (b1, cf, b, cnt, bm) ⟨hl, hP, hD, hS, hb9, hI9, by show b1 ≤ min (n 1) (40 - d - c2) + 1; omega⟩ (by show b1 < b1 + 1; omega)
end
section
set_option maxRecDepth 100000 in
set_option maxHeartbeats 4000000 in
theorem c1_isBest (l : Launch) (D : va_G) (tys : List (ClassId × FieldType)) (cI cZ : ClassId) (hI : tys[0]? = some (cI, .int)) (hZ : tys[1]? = some (cZ, .boolean)) (g g1 g2 g3 g4 : Nat) (fr : va_W) (sz : Nat) (wf nf cf kf : Nat → Int32) (fw mx th : Int32) (w n : Nat → Nat) (ok : nmOk wf nf w n) (x : Int32) : Met l yX1_isBest wsX1_isBest ({ frames := 2, cells := 0, slots := 0, locals := 60 }) (va_Pc [.ref g, .int x] (zz_pre D tys (mdW cI cZ g g1 g2 g3 g4 wf nf cf kf fw mx th fr) sz)) (va_Qi (fun r (u : (Nat → Int32) × Int32 × Int32 × Int32) => (r = nI 1 ∧ u.2.2.2 = nI 0 ∧ ∃ v : Nat, v ≤ 2000 ∧ x = nI v ∧ ∃ bm : Nat → Nat, mx_B w n v (bm 0) (bm 1) (bm 2) (bm 3) ∧ u.2.1 = nI (bm 0 + bm 1 + bm 2 + bm 3) ∧ ∀ j, j < 4 → u.1 j = nI (bm j)) ∨ (r = nI 0 ∧ u.2.2.2 = nI 1 ∧ ¬ zr x 0 2000) ∨ (r = nI 0 ∧ u.2.2.2 = nI 2 ∧ ∃ v : Nat, v ≤ 2000 ∧ x = nI v ∧ ¬ mx_has w n v)) (zz_B D tys (va_A (mdW cI cZ g g1 g2 g3 g4 wf nf cf kf fw mx th fr) sz) (fun u => mdW cI cZ g g1 g2 g3 g4 wf nf u.1 kf u.2.1 u.2.2.1 u.2.2.2 fr)) (va_A (mdW cI cZ g g1 g2 g3 g4 wf nf cf kf fw mx th fr) sz)) 0 0 (va_A (mdW cI cZ g g1 g2 g3 g4 wf nf cf kf fw mx th fr) sz) := by
  refine zz_headZ (cc := cX1_isBest) (by decide) rfl (Nat.le_of_ble_eq_true rfl) ?_
  intro p e s m below meth cd A ls F hr hlocks hP hK hD hA hS hl
  obtain ⟨hx, hb, hml, hown, hts⟩ := id F
  have hl : lv_has ls 2 [(0, .ref g), (1, .int x)] := hl
  by_cases hz : zr x 0 2000
  · obtain ⟨v, hv0, hv, rfl⟩ := hz
    refine lv_aload_n hx hb dX1_isBest_0 rfl (lv_at hl 0 rfl) ?_
    refine lv_iload_n hx hb dX1_isBest_1 rfl (lv_at hl 1 rfl) ?_
    refine lv_iconst (v := nI 0) hx hb dX1_isBest_2 (by decide +kernel) ?_
    refine lv_sipush (v := nI 2000) hx hb dX1_isBest_3 (by decide +kernel) ?_
    refine zz_callSi (As := [.int (nI v), .int (nI 0), .int (nI 2000)]) (rest := [.ref g]) F hK hP hD hS hA (c1_in_ok l D tys _ _ v 0 2000 hv0 hv (by decide)) (va_cwS 3 hts gX1_isBest_X1_in_ rfl rfl rfl (by decide +kernel) ⟨Nat.le_of_ble_eq_true rfl, Nat.le_of_ble_eq_true rfl⟩) rfl hl.1 rfl (Nat.le_of_ble_eq_true rfl) dX1_isBest_6 ⟨Nat.le_of_ble_eq_true rfl, Nat.le_of_ble_eq_true rfl⟩ (fun rr _ H locs er hP hD hS => ?_)
    try dsimp only at er
    subst er
    have hP : va_P D vwCl (mdW cI cZ g g1 g2 g3 g4 wf nf cf kf fw mx th fr) H := hP
    have hD : va_D A (mdW cI cZ g g1 g2 g3 g4 wf nf cf kf fw mx th fr) := hD
    refine zn_if_eq hx hb (by decide) dX1_isBest_9 rfl (fun hc => absurd hc (by decide)) (fun _ => ?_)
    refine lv_iconst (v := nI 0) hx hb dX1_isBest_12 (by decide +kernel) ?_
    refine lv_goto hx hb dX1_isBest_13 rfl ?_
    refine va_put (D := D) (ci := 1) (v := .int (nI 0)) (ty := .int) (C := RX1) (T := TX1) (N := 7) hx hb hts (inX1_isBest) tyX1 tyX1_ok nmX1 hown hK hP hD hS 0 rfl rfl 6 (by decide) (hts (.fieldLink RX1 23 "NoteMixModel" "thrown" "I") (by decide +kernel)) (fun _ h9 => h9) rfl (by decide +kernel) rfl rfl (Nat.le_of_ble_eq_true rfl) dX1_isBest_17 (fun H locs hP hD hS => ?_)
    have hP : va_P D vwCl (mdW cI cZ g g1 g2 g3 g4 wf nf cf kf fw mx (nI 0) fr) H := hP
    have hD : va_D A (mdW cI cZ g g1 g2 g3 g4 wf nf cf kf fw mx (nI 0) fr) := hD
    refine lv_aload_n hx hb dX1_isBest_20 rfl (lv_at hl 0 rfl) ?_
    refine va_get (D := D) (ci := 1) (v := .int (nI 0)) (C := RX1) (T := TX1) (N := 7) hx hb hts (inX1_isBest) hown hK hP 0 rfl rfl 6 (by decide) (hts (.fieldLink RX1 23 "NoteMixModel" "thrown" "I") (by decide +kernel)) (fun _ h9 => h9) rfl dX1_isBest_21 ?_
    refine zn_if_le hx hb (by decide) dX1_isBest_24 rfl (fun _ => ?_) (fun hc => absurd hc (by decide))
    refine lv_aload_n hx hb dX1_isBest_29 rfl (lv_at hl 0 rfl) ?_
    refine lv_iload_n hx hb dX1_isBest_30 rfl (lv_at hl 1 rfl) ?_
    refine zz_callVv (As := [.int (nI v)]) (rest := []) F hK hP hD hS hA (c1_look l D tys cI cZ hI hZ g g1 g2 g3 g4 fr _ wf nf cf kf fw mx (nI 0) w n ok v hv) (cwV 1 hts gX1_isBest_X1_look rfl rfl rfl (by decide +kernel) ⟨Nat.le_of_ble_eq_true rfl, Nat.le_of_ble_eq_true rfl⟩) 0 rfl rfl rfl hl.1 rfl (Nat.le_of_ble_eq_true rfl) dX1_isBest_31 ⟨Nat.le_of_ble_eq_true rfl, Nat.le_of_ble_eq_true rfl⟩ (fun u H locs hu hP hD hS => ?_)
    obtain ⟨cf, fw, mx⟩ := u
    obtain ⟨cnt, b, bm, e1, e2, hbm, hc1, hc2, hc3, hE⟩ := hu
    dsimp only at e1 e2 hbm
    subst e1 e2
    have hP : va_P D vwCl (mdW cI cZ g g1 g2 g3 g4 wf nf cf kf (nI b) (nI cnt) (nI 0) fr) H := hP
    have hD : va_D A (mdW cI cZ g g1 g2 g3 g4 wf nf cf kf (nI b) (nI cnt) (nI 0) fr) := hD
    refine lv_aload_n hx hb dX1_isBest_34 rfl (lv_at hl 0 rfl) ?_
    refine lv_aload_n hx hb dX1_isBest_35 rfl (lv_at hl 0 rfl) ?_
    refine va_get (D := D) (ci := 1) (v := .int (nI cnt)) (C := RX1) (T := TX1) (N := 7) hx hb hts (inX1_isBest) hown hK hP 0 rfl rfl 5 (by decide) (hts (.fieldLink RX1 31 "NoteMixModel" "mixes" "I") (by decide +kernel)) (fun _ h9 => h9) rfl dX1_isBest_36 ?_
    refine zn_if_ne hx hb (by omega) dX1_isBest_39 rfl (fun hq => ?_) (fun hq => ?_)
    · rcases hE with ⟨h9, _⟩ | ⟨_, _, e3, hB⟩
      · omega
      · refine lv_iconst (v := nI 0) hx hb dX1_isBest_46 (by decide +kernel) ?_
        refine va_put (D := D) (ci := 1) (v := .int (nI 0)) (ty := .int) (C := RX1) (T := TX1) (N := 7) hx hb hts (inX1_isBest) tyX1 tyX1_ok nmX1 hown hK hP hD hS 0 rfl rfl 6 (by decide) (hts (.fieldLink RX1 23 "NoteMixModel" "thrown" "I") (by decide +kernel)) (fun _ h9 => h9) rfl (by decide +kernel) rfl rfl (Nat.le_of_ble_eq_true rfl) dX1_isBest_47 (fun H locs hP hD hS => ?_)
        have hP : va_P D vwCl (mdW cI cZ g g1 g2 g3 g4 wf nf cf kf (nI b) (nI cnt) (nI 0) fr) H := hP
        have hD : va_D A (mdW cI cZ g g1 g2 g3 g4 wf nf cf kf (nI b) (nI cnt) (nI 0) fr) := hD
        refine lv_aload_n hx hb dX1_isBest_50 rfl (lv_at hl 0 rfl) ?_
        refine va_get (D := D) (ci := 1) (v := .int (nI 0)) (C := RX1) (T := TX1) (N := 7) hx hb hts (inX1_isBest) hown hK hP 0 rfl rfl 6 (by decide) (hts (.fieldLink RX1 23 "NoteMixModel" "thrown" "I") (by decide +kernel)) (fun _ h9 => h9) rfl dX1_isBest_51 ?_
        refine zn_if_ne hx hb (by decide) dX1_isBest_54 rfl (fun hc => absurd hc (by decide)) (fun _ => ?_)
        refine lv_iconst (v := nI 1) hx hb dX1_isBest_57 (by decide +kernel) ?_
        refine lv_goto hx hb dX1_isBest_58 rfl ?_
        exact zz_zret F hr hlocks (by decide +kernel) hK hS dX1_isBest_62 (by decide) (by decide) (cf, nI b, nI cnt, nI 0) (Or.inl ⟨rfl, rfl, v, hv, rfl, bm, hB, by show nI b = _; rw [e3], hbm hq⟩) hP hD
    · rcases hE with ⟨_, h9⟩ | ⟨h8, _⟩
      · refine lv_iconst (v := nI 2) hx hb dX1_isBest_42 (by decide +kernel) ?_
        refine lv_goto hx hb dX1_isBest_43 rfl ?_
        refine va_put (D := D) (ci := 1) (v := .int (nI 2)) (ty := .int) (C := RX1) (T := TX1) (N := 7) hx hb hts (inX1_isBest) tyX1 tyX1_ok nmX1 hown hK hP hD hS 0 rfl rfl 6 (by decide) (hts (.fieldLink RX1 23 "NoteMixModel" "thrown" "I") (by decide +kernel)) (fun _ h9 => h9) rfl (by decide +kernel) rfl rfl (Nat.le_of_ble_eq_true rfl) dX1_isBest_47 (fun H locs hP hD hS => ?_)
        have hP : va_P D vwCl (mdW cI cZ g g1 g2 g3 g4 wf nf cf kf (nI b) (nI cnt) (nI 2) fr) H := hP
        have hD : va_D A (mdW cI cZ g g1 g2 g3 g4 wf nf cf kf (nI b) (nI cnt) (nI 2) fr) := hD
        refine lv_aload_n hx hb dX1_isBest_50 rfl (lv_at hl 0 rfl) ?_
        refine va_get (D := D) (ci := 1) (v := .int (nI 2)) (C := RX1) (T := TX1) (N := 7) hx hb hts (inX1_isBest) hown hK hP 0 rfl rfl 6 (by decide) (hts (.fieldLink RX1 23 "NoteMixModel" "thrown" "I") (by decide +kernel)) (fun _ h9 => h9) rfl dX1_isBest_51 ?_
        refine zn_if_ne hx hb (by decide) dX1_isBest_54 rfl (fun _ => ?_) (fun hc => absurd hc (by decide))
        refine lv_iconst (v := nI 0) hx hb dX1_isBest_61 (by decide +kernel) ?_
        exact zz_zret F hr hlocks (by decide +kernel) hK hS dX1_isBest_62 (by decide) (by decide) (cf, nI b, nI cnt, nI 2) (Or.inr (Or.inr ⟨rfl, rfl, v, hv, rfl, h9⟩)) hP hD
      · omega
  · refine lv_aload_n hx hb dX1_isBest_0 rfl (lv_at hl 0 rfl) ?_
    refine lv_iload_n hx hb dX1_isBest_1 rfl (lv_at hl 1 rfl) ?_
    refine lv_iconst (v := nI 0) hx hb dX1_isBest_2 (by decide +kernel) ?_
    refine lv_sipush (v := nI 2000) hx hb dX1_isBest_3 (by decide +kernel) ?_
    refine zz_callSi (As := [.int x, .int (nI 0), .int (nI 2000)]) (rest := [.ref g]) F hK hP hD hS hA (c1_in_bad l D tys _ _ x 0 2000 hz (by decide) (by decide)) (va_cwS 3 hts gX1_isBest_X1_in_ rfl rfl rfl (by decide +kernel) ⟨Nat.le_of_ble_eq_true rfl, Nat.le_of_ble_eq_true rfl⟩) rfl hl.1 rfl (Nat.le_of_ble_eq_true rfl) dX1_isBest_6 ⟨Nat.le_of_ble_eq_true rfl, Nat.le_of_ble_eq_true rfl⟩ (fun rr _ H locs er hP hD hS => ?_)
    try dsimp only at er
    subst er
    have hP : va_P D vwCl (mdW cI cZ g g1 g2 g3 g4 wf nf cf kf fw mx th fr) H := hP
    have hD : va_D A (mdW cI cZ g g1 g2 g3 g4 wf nf cf kf fw mx th fr) := hD
    refine zn_if_eq hx hb (by decide) dX1_isBest_9 rfl (fun _ => ?_) (fun hc => absurd hc (by decide))
    refine lv_iconst (v := nI 1) hx hb dX1_isBest_16 (by decide +kernel) ?_
    refine va_put (D := D) (ci := 1) (v := .int (nI 1)) (ty := .int) (C := RX1) (T := TX1) (N := 7) hx hb hts (inX1_isBest) tyX1 tyX1_ok nmX1 hown hK hP hD hS 0 rfl rfl 6 (by decide) (hts (.fieldLink RX1 23 "NoteMixModel" "thrown" "I") (by decide +kernel)) (fun _ h9 => h9) rfl (by decide +kernel) rfl rfl (Nat.le_of_ble_eq_true rfl) dX1_isBest_17 (fun H locs hP hD hS => ?_)
    have hP : va_P D vwCl (mdW cI cZ g g1 g2 g3 g4 wf nf cf kf fw mx (nI 1) fr) H := hP
    have hD : va_D A (mdW cI cZ g g1 g2 g3 g4 wf nf cf kf fw mx (nI 1) fr) := hD
    refine lv_aload_n hx hb dX1_isBest_20 rfl (lv_at hl 0 rfl) ?_
    refine va_get (D := D) (ci := 1) (v := .int (nI 1)) (C := RX1) (T := TX1) (N := 7) hx hb hts (inX1_isBest) hown hK hP 0 rfl rfl 6 (by decide) (hts (.fieldLink RX1 23 "NoteMixModel" "thrown" "I") (by decide +kernel)) (fun _ h9 => h9) rfl dX1_isBest_21 ?_
    refine zn_if_le hx hb (by decide) dX1_isBest_24 rfl (fun hc => absurd hc (by decide)) (fun _ => ?_)
    refine lv_iconst (v := nI 0) hx hb dX1_isBest_27 (by decide +kernel) ?_
    exact zz_zret F hr hlocks (by decide +kernel) hK hS dX1_isBest_28 (by decide) (by decide) (cf, fw, mx, nI 1) (Or.inr (Or.inl ⟨rfl, rfl, hz⟩)) hP hD
end
section
set_option maxRecDepth 100000 in
set_option maxHeartbeats 4000000 in
theorem c1_best (l : Launch) (D : va_G) (tys : List (ClassId × FieldType)) (cI cZ : ClassId) (hI : tys[0]? = some (cI, .int)) (hZ : tys[1]? = some (cZ, .boolean)) (g g1 g2 g3 g4 : Nat) (fr : va_W) (sz : Nat) (wf nf cf kf : Nat → Int32) (fw mx th : Int32) (w n : Nat → Nat) (ok : nmOk wf nf w n) (x : Int32) : Met l yX1_best wsX1_best ({ frames := 3, cells := 0, slots := 0, locals := 90 }) (va_Pc [.ref g, .int x] (zz_pre D tys (mdW cI cZ g g1 g2 g3 g4 wf nf cf kf fw mx th fr) sz)) (va_Qi (fun r (u : (Nat → Int32) × Int32 × Int32 × Int32) => (u.2.2.2 = nI 0 ∧ ∃ v : Nat, v ≤ 2000 ∧ x = nI v ∧ ∃ bm : Nat → Nat, mx_B w n v (bm 0) (bm 1) (bm 2) (bm 3) ∧ r = nI (bm 0 + bm 1 + bm 2 + bm 3)) ∨ (u.2.2.2 = nI 1 ∧ ¬ zr x 0 2000) ∨ (u.2.2.2 = nI 2 ∧ ∃ v : Nat, v ≤ 2000 ∧ x = nI v ∧ ¬ mx_has w n v)) (zz_B D tys (va_A (mdW cI cZ g g1 g2 g3 g4 wf nf cf kf fw mx th fr) sz) (fun u => mdW cI cZ g g1 g2 g3 g4 wf nf u.1 kf u.2.1 u.2.2.1 u.2.2.2 fr)) (va_A (mdW cI cZ g g1 g2 g3 g4 wf nf cf kf fw mx th fr) sz)) 0 0 (va_A (mdW cI cZ g g1 g2 g3 g4 wf nf cf kf fw mx th fr) sz) := by
  refine zz_headI (cc := cX1_best) (by decide) rfl (Nat.le_of_ble_eq_true rfl) ?_
  intro p e s m below meth cd A ls F hr hlocks hP hK hD hA hS hl
  obtain ⟨hx, hb, hml, hown, hts⟩ := id F
  have hl : lv_has ls 2 [(0, .ref g), (1, .int x)] := hl
  refine lv_aload_n hx hb dX1_best_0 rfl (lv_at hl 0 rfl) ?_
  refine lv_iload_n hx hb dX1_best_1 rfl (lv_at hl 1 rfl) ?_
  refine zz_callVi (As := [.int x]) (rest := []) F hK hP hD hS hA (c1_isBest l D tys cI cZ hI hZ g g1 g2 g3 g4 fr _ wf nf cf kf fw mx th w n ok x) (cwV 1 hts gX1_best_X1_isBest rfl rfl rfl (by decide +kernel) ⟨Nat.le_of_ble_eq_true rfl, Nat.le_of_ble_eq_true rfl⟩) 0 rfl rfl rfl hl.1 rfl (Nat.le_of_ble_eq_true rfl) dX1_best_2 ⟨Nat.le_of_ble_eq_true rfl, Nat.le_of_ble_eq_true rfl⟩ (fun rr u H locs hu hP hD hS => ?_)
  obtain ⟨cf, fw, mx, th⟩ := u
  dsimp only at hu
  have hP : va_P D vwCl (mdW cI cZ g g1 g2 g3 g4 wf nf cf kf fw mx th fr) H := hP
  have hD : va_D A (mdW cI cZ g g1 g2 g3 g4 wf nf cf kf fw mx th fr) := hD
  rcases hu with ⟨rfl, rfl, v, hv, hx9, bm, hB, e1, hbm⟩ | ⟨rfl, rfl, hz⟩ | ⟨rfl, rfl, v, hv, hx9, hno⟩
  · refine zn_if_eq hx hb (by decide) dX1_best_5 rfl (fun hc => absurd hc (by decide)) (fun _ => ?_)
    refine lv_aload_n hx hb dX1_best_8 rfl (lv_at hl 0 rfl) ?_
    refine va_get (D := D) (ci := 1) (v := .int fw) (C := RX1) (T := TX1) (N := 7) hx hb hts (inX1_best) hown hK hP 0 rfl rfl 4 (by decide) (hts (.fieldLink RX1 34 "NoteMixModel" "fewest" "I") (by decide +kernel)) (fun _ h9 => h9) rfl dX1_best_9 ?_
    refine lv_goto hx hb dX1_best_12 rfl ?_
    exact zz_iret F hr hlocks hK hS dX1_best_16 (by decide) (by decide) (cf, fw, mx, nI 0) (Or.inl ⟨rfl, v, hv, hx9, bm, hB, e1⟩) hP hD
  · refine zn_if_eq hx hb (by decide) dX1_best_5 rfl (fun _ => ?_) (fun hc => absurd hc (by decide))
    refine lv_iconst (v := nI 0) hx hb dX1_best_15 (by decide +kernel) ?_
    exact zz_iret F hr hlocks hK hS dX1_best_16 (by decide) (by decide) (cf, fw, mx, nI 1) (Or.inr (Or.inl ⟨rfl, hz⟩)) hP hD
  · refine zn_if_eq hx hb (by decide) dX1_best_5 rfl (fun _ => ?_) (fun hc => absurd hc (by decide))
    refine lv_iconst (v := nI 0) hx hb dX1_best_15 (by decide +kernel) ?_
    exact zz_iret F hr hlocks hK hS dX1_best_16 (by decide) (by decide) (cf, fw, mx, nI 2) (Or.inr (Or.inr ⟨rfl, v, hv, hx9, hno⟩)) hP hD
end
section
set_option maxRecDepth 100000 in
set_option maxHeartbeats 4000000 in
theorem c1_part (l : Launch) (D : va_G) (tys : List (ClassId × FieldType)) (cI cZ : ClassId) (hI : tys[0]? = some (cI, .int)) (hZ : tys[1]? = some (cZ, .boolean)) (g g1 g2 g3 g4 : Nat) (fr : va_W) (sz : Nat) (wf nf cf kf : Nat → Int32) (fw mx th : Int32) (w n : Nat → Nat) (ok : nmOk wf nf w n) (x y : Int32) : Met l yX1_part wsX1_part ({ frames := 3, cells := 0, slots := 0, locals := 90 }) (va_Pc [.ref g, .int x, .int y] (zz_pre D tys (mdW cI cZ g g1 g2 g3 g4 wf nf cf kf fw mx th fr) sz)) (va_Qi (fun r (u : (Nat → Int32) × Int32 × Int32 × Int32) => (u.2.2.2 = nI 0 ∧ ∃ v c : Nat, v ≤ 2000 ∧ c < 4 ∧ x = nI v ∧ y = nI c ∧ ∃ bm : Nat → Nat, mx_B w n v (bm 0) (bm 1) (bm 2) (bm 3) ∧ r = nI (bm c)) ∨ (u.2.2.2 = nI 1 ∧ ¬ (zr y 0 3 ∧ zr x 0 2000)) ∨ (u.2.2.2 = nI 2 ∧ zr y 0 3 ∧ ∃ v : Nat, v ≤ 2000 ∧ x = nI v ∧ ¬ mx_has w n v)) (zz_B D tys (va_A (mdW cI cZ g g1 g2 g3 g4 wf nf cf kf fw mx th fr) sz) (fun u => mdW cI cZ g g1 g2 g3 g4 wf nf u.1 kf u.2.1 u.2.2.1 u.2.2.2 fr)) (va_A (mdW cI cZ g g1 g2 g3 g4 wf nf cf kf fw mx th fr) sz)) 0 0 (va_A (mdW cI cZ g g1 g2 g3 g4 wf nf cf kf fw mx th fr) sz) := by
  refine zz_headI (cc := cX1_part) (by decide) rfl (Nat.le_of_ble_eq_true rfl) ?_
  intro p e s m below meth cd A ls F hr hlocks hP hK hD hA hS hl
  obtain ⟨hx, hb, hml, hown, hts⟩ := id F
  have hl : lv_has ls 3 [(0, .ref g), (1, .int x), (2, .int y)] := hl
  by_cases hz : zr y 0 3
  · have hz0 := hz
    obtain ⟨c, hc0, hc, rfl⟩ := hz
    refine lv_aload_n hx hb dX1_part_0 rfl (lv_at hl 0 rfl) ?_
    refine lv_iload_n hx hb dX1_part_1 rfl (lv_at hl 2 rfl) ?_
    refine lv_iconst (v := nI 0) hx hb dX1_part_2 (by decide +kernel) ?_
    refine lv_iconst (v := nI 3) hx hb dX1_part_3 (by decide +kernel) ?_
    refine zz_callSi (As := [.int (nI c), .int (nI 0), .int (nI 3)]) (rest := [.ref g]) F hK hP hD hS hA (c1_in_ok l D tys _ _ c 0 3 hc0 hc (by decide)) (va_cwS 3 hts gX1_part_X1_in_ rfl rfl rfl (by decide +kernel) ⟨Nat.le_of_ble_eq_true rfl, Nat.le_of_ble_eq_true rfl⟩) rfl hl.1 rfl (Nat.le_of_ble_eq_true rfl) dX1_part_4 ⟨Nat.le_of_ble_eq_true rfl, Nat.le_of_ble_eq_true rfl⟩ (fun rr _ H locs er hP hD hS => ?_)
    try dsimp only at er
    subst er
    have hP : va_P D vwCl (mdW cI cZ g g1 g2 g3 g4 wf nf cf kf fw mx th fr) H := hP
    have hD : va_D A (mdW cI cZ g g1 g2 g3 g4 wf nf cf kf fw mx th fr) := hD
    refine zn_if_eq hx hb (by decide) dX1_part_7 rfl (fun hc => absurd hc (by decide)) (fun _ => ?_)
    refine lv_iconst (v := nI 0) hx hb dX1_part_10 (by decide +kernel) ?_
    refine lv_goto hx hb dX1_part_11 rfl ?_
    refine va_put (D := D) (ci := 1) (v := .int (nI 0)) (ty := .int) (C := RX1) (T := TX1) (N := 7) hx hb hts (inX1_part) tyX1 tyX1_ok nmX1 hown hK hP hD hS 0 rfl rfl 6 (by decide) (hts (.fieldLink RX1 23 "NoteMixModel" "thrown" "I") (by decide +kernel)) (fun _ h9 => h9) rfl (by decide +kernel) rfl rfl (Nat.le_of_ble_eq_true rfl) dX1_part_15 (fun H locs hP hD hS => ?_)
    have hP : va_P D vwCl (mdW cI cZ g g1 g2 g3 g4 wf nf cf kf fw mx (nI 0) fr) H := hP
    have hD : va_D A (mdW cI cZ g g1 g2 g3 g4 wf nf cf kf fw mx (nI 0) fr) := hD
    refine lv_aload_n hx hb dX1_part_18 rfl (lv_at hl 0 rfl) ?_
    refine va_get (D := D) (ci := 1) (v := .int (nI 0)) (C := RX1) (T := TX1) (N := 7) hx hb hts (inX1_part) hown hK hP 0 rfl rfl 6 (by decide) (hts (.fieldLink RX1 23 "NoteMixModel" "thrown" "I") (by decide +kernel)) (fun _ h9 => h9) rfl dX1_part_19 ?_
    refine zn_if_ne hx hb (by decide) dX1_part_22 rfl (fun hc => absurd hc (by decide)) (fun _ => ?_)
    refine lv_aload_n hx hb dX1_part_25 rfl (lv_at hl 0 rfl) ?_
    refine lv_iload_n hx hb dX1_part_26 rfl (lv_at hl 1 rfl) ?_
    refine zz_callVi (As := [.int x]) (rest := []) F hK hP hD hS hA (c1_isBest l D tys cI cZ hI hZ g g1 g2 g3 g4 fr _ wf nf cf kf fw mx (nI 0) w n ok x) (cwV 1 hts gX1_part_X1_isBest rfl rfl rfl (by decide +kernel) ⟨Nat.le_of_ble_eq_true rfl, Nat.le_of_ble_eq_true rfl⟩) 0 rfl rfl rfl hl.1 rfl (Nat.le_of_ble_eq_true rfl) dX1_part_27 ⟨Nat.le_of_ble_eq_true rfl, Nat.le_of_ble_eq_true rfl⟩ (fun rr u H locs hu hP hD hS => ?_)
    obtain ⟨cf, fw, mx, th⟩ := u
    dsimp only at hu
    have hP : va_P D vwCl (mdW cI cZ g g1 g2 g3 g4 wf nf cf kf fw mx th fr) H := hP
    have hD : va_D A (mdW cI cZ g g1 g2 g3 g4 wf nf cf kf fw mx th fr) := hD
    rcases hu with ⟨rfl, rfl, v, hv, hx9, bm, hB, e1, hbm⟩ | ⟨rfl, rfl, hz⟩ | ⟨rfl, rfl, v, hv, hx9, hno⟩
    · refine zn_if_eq hx hb (by decide) dX1_part_30 rfl (fun hc => absurd hc (by decide)) (fun _ => ?_)
      refine lv_aload_n hx hb dX1_part_33 rfl (lv_at hl 0 rfl) ?_
      refine va_get (D := D) (ci := 1) (v := .ref g3) (C := RX1) (T := TX1) (N := 7) hx hb hts (inX1_part) hown hK hP 0 rfl rfl 2 (by decide) (hts (.fieldLink RX1 16 "NoteMixModel" "chosen" "[I") (by decide +kernel)) (fun _ h9 => h9) rfl dX1_part_34 ?_
      refine lv_iload_n hx hb dX1_part_37 rfl (lv_at hl 2 rfl) ?_
      refine zn_iald (k := c) hx hb hK hP 3 _ rfl hI (by omega) (by decide) (hbm c (by omega)) dX1_part_38 ?_
      refine lv_goto hx hb dX1_part_39 rfl ?_
      exact zz_iret F hr hlocks hK hS dX1_part_43 (by decide) (by decide) (cf, fw, mx, nI 0) (Or.inl ⟨rfl, v, c, hv, by omega, hx9, rfl, bm, hB, rfl⟩) hP hD
    · refine zn_if_eq hx hb (by decide) dX1_part_30 rfl (fun _ => ?_) (fun hc => absurd hc (by decide))
      refine lv_iconst (v := nI 0) hx hb dX1_part_42 (by decide +kernel) ?_
      exact zz_iret F hr hlocks hK hS dX1_part_43 (by decide) (by decide) (cf, fw, mx, nI 1) (Or.inr (Or.inl ⟨rfl, fun q => hz q.2⟩)) hP hD
    · refine zn_if_eq hx hb (by decide) dX1_part_30 rfl (fun _ => ?_) (fun hc => absurd hc (by decide))
      refine lv_iconst (v := nI 0) hx hb dX1_part_42 (by decide +kernel) ?_
      exact zz_iret F hr hlocks hK hS dX1_part_43 (by decide) (by decide) (cf, fw, mx, nI 2) (Or.inr (Or.inr ⟨rfl, hz0, v, hv, hx9, hno⟩)) hP hD
  · refine lv_aload_n hx hb dX1_part_0 rfl (lv_at hl 0 rfl) ?_
    refine lv_iload_n hx hb dX1_part_1 rfl (lv_at hl 2 rfl) ?_
    refine lv_iconst (v := nI 0) hx hb dX1_part_2 (by decide +kernel) ?_
    refine lv_iconst (v := nI 3) hx hb dX1_part_3 (by decide +kernel) ?_
    refine zz_callSi (As := [.int y, .int (nI 0), .int (nI 3)]) (rest := [.ref g]) F hK hP hD hS hA (c1_in_bad l D tys _ _ y 0 3 hz (by decide) (by decide)) (va_cwS 3 hts gX1_part_X1_in_ rfl rfl rfl (by decide +kernel) ⟨Nat.le_of_ble_eq_true rfl, Nat.le_of_ble_eq_true rfl⟩) rfl hl.1 rfl (Nat.le_of_ble_eq_true rfl) dX1_part_4 ⟨Nat.le_of_ble_eq_true rfl, Nat.le_of_ble_eq_true rfl⟩ (fun rr _ H locs er hP hD hS => ?_)
    try dsimp only at er
    subst er
    have hP : va_P D vwCl (mdW cI cZ g g1 g2 g3 g4 wf nf cf kf fw mx th fr) H := hP
    have hD : va_D A (mdW cI cZ g g1 g2 g3 g4 wf nf cf kf fw mx th fr) := hD
    refine zn_if_eq hx hb (by decide) dX1_part_7 rfl (fun _ => ?_) (fun hc => absurd hc (by decide))
    refine lv_iconst (v := nI 1) hx hb dX1_part_14 (by decide +kernel) ?_
    refine va_put (D := D) (ci := 1) (v := .int (nI 1)) (ty := .int) (C := RX1) (T := TX1) (N := 7) hx hb hts (inX1_part) tyX1 tyX1_ok nmX1 hown hK hP hD hS 0 rfl rfl 6 (by decide) (hts (.fieldLink RX1 23 "NoteMixModel" "thrown" "I") (by decide +kernel)) (fun _ h9 => h9) rfl (by decide +kernel) rfl rfl (Nat.le_of_ble_eq_true rfl) dX1_part_15 (fun H locs hP hD hS => ?_)
    have hP : va_P D vwCl (mdW cI cZ g g1 g2 g3 g4 wf nf cf kf fw mx (nI 1) fr) H := hP
    have hD : va_D A (mdW cI cZ g g1 g2 g3 g4 wf nf cf kf fw mx (nI 1) fr) := hD
    refine lv_aload_n hx hb dX1_part_18 rfl (lv_at hl 0 rfl) ?_
    refine va_get (D := D) (ci := 1) (v := .int (nI 1)) (C := RX1) (T := TX1) (N := 7) hx hb hts (inX1_part) hown hK hP 0 rfl rfl 6 (by decide) (hts (.fieldLink RX1 23 "NoteMixModel" "thrown" "I") (by decide +kernel)) (fun _ h9 => h9) rfl dX1_part_19 ?_
    refine zn_if_ne hx hb (by decide) dX1_part_22 rfl (fun _ => ?_) (fun hc => absurd hc (by decide))
    refine lv_iconst (v := nI 0) hx hb dX1_part_42 (by decide +kernel) ?_
    exact zz_iret F hr hlocks hK hS dX1_part_43 (by decide) (by decide) (cf, fw, mx, nI 1) (Or.inr (Or.inl ⟨rfl, fun q => hz q.1⟩)) hP hD
end
section
set_option maxRecDepth 100000 in
set_option maxHeartbeats 4000000 in
theorem c1_ways (l : Launch) (D : va_G) (tys : List (ClassId × FieldType)) (cI cZ : ClassId) (hI : tys[0]? = some (cI, .int)) (hZ : tys[1]? = some (cZ, .boolean)) (g g1 g2 g3 g4 : Nat) (fr : va_W) (sz : Nat) (wf nf cf kf : Nat → Int32) (fw mx th : Int32) (w n : Nat → Nat) (ok : nmOk wf nf w n) (x : Int32) : Met l yX1_ways wsX1_ways ({ frames := 3, cells := 0, slots := 0, locals := 90 }) (va_Pc [.ref g, .int x] (zz_pre D tys (mdW cI cZ g g1 g2 g3 g4 wf nf cf kf fw mx th fr) sz)) (va_Qi (fun r (u : (Nat → Int32) × Int32 × Int32 × Int32) => (u.2.2.2 = nI 0 ∧ ∃ v : Nat, v ≤ 2000 ∧ x = nI v ∧ r = nI (mx_c w n v 68921)) ∨ (u.2.2.2 = nI 1 ∧ ¬ zr x 0 2000)) (zz_B D tys (va_A (mdW cI cZ g g1 g2 g3 g4 wf nf cf kf fw mx th fr) sz) (fun u => mdW cI cZ g g1 g2 g3 g4 wf nf u.1 kf u.2.1 u.2.2.1 u.2.2.2 fr)) (va_A (mdW cI cZ g g1 g2 g3 g4 wf nf cf kf fw mx th fr) sz)) 0 0 (va_A (mdW cI cZ g g1 g2 g3 g4 wf nf cf kf fw mx th fr) sz) := by
  refine zz_headI (cc := cX1_ways) (by decide) rfl (Nat.le_of_ble_eq_true rfl) ?_
  intro p e s m below meth cd A ls F hr hlocks hP hK hD hA hS hl
  obtain ⟨hx, hb, hml, hown, hts⟩ := id F
  have hl : lv_has ls 2 [(0, .ref g), (1, .int x)] := hl
  by_cases hz : zr x 0 2000
  · obtain ⟨v, hv0, hv, rfl⟩ := hz
    refine lv_aload_n hx hb dX1_ways_0 rfl (lv_at hl 0 rfl) ?_
    refine lv_iload_n hx hb dX1_ways_1 rfl (lv_at hl 1 rfl) ?_
    refine lv_iconst (v := nI 0) hx hb dX1_ways_2 (by decide +kernel) ?_
    refine lv_sipush (v := nI 2000) hx hb dX1_ways_3 (by decide +kernel) ?_
    refine zz_callSi (As := [.int (nI v), .int (nI 0), .int (nI 2000)]) (rest := [.ref g]) F hK hP hD hS hA (c1_in_ok l D tys _ _ v 0 2000 hv0 hv (by decide)) (va_cwS 3 hts gX1_ways_X1_in_ rfl rfl rfl (by decide +kernel) ⟨Nat.le_of_ble_eq_true rfl, Nat.le_of_ble_eq_true rfl⟩) rfl hl.1 rfl (Nat.le_of_ble_eq_true rfl) dX1_ways_6 ⟨Nat.le_of_ble_eq_true rfl, Nat.le_of_ble_eq_true rfl⟩ (fun rr _ H locs er hP hD hS => ?_)
    try dsimp only at er
    subst er
    have hP : va_P D vwCl (mdW cI cZ g g1 g2 g3 g4 wf nf cf kf fw mx th fr) H := hP
    have hD : va_D A (mdW cI cZ g g1 g2 g3 g4 wf nf cf kf fw mx th fr) := hD
    refine zn_if_eq hx hb (by decide) dX1_ways_9 rfl (fun hc => absurd hc (by decide)) (fun _ => ?_)
    refine lv_iconst (v := nI 0) hx hb dX1_ways_12 (by decide +kernel) ?_
    refine lv_goto hx hb dX1_ways_13 rfl ?_
    refine va_put (D := D) (ci := 1) (v := .int (nI 0)) (ty := .int) (C := RX1) (T := TX1) (N := 7) hx hb hts (inX1_ways) tyX1 tyX1_ok nmX1 hown hK hP hD hS 0 rfl rfl 6 (by decide) (hts (.fieldLink RX1 23 "NoteMixModel" "thrown" "I") (by decide +kernel)) (fun _ h9 => h9) rfl (by decide +kernel) rfl rfl (Nat.le_of_ble_eq_true rfl) dX1_ways_17 (fun H locs hP hD hS => ?_)
    have hP : va_P D vwCl (mdW cI cZ g g1 g2 g3 g4 wf nf cf kf fw mx (nI 0) fr) H := hP
    have hD : va_D A (mdW cI cZ g g1 g2 g3 g4 wf nf cf kf fw mx (nI 0) fr) := hD
    refine lv_aload_n hx hb dX1_ways_20 rfl (lv_at hl 0 rfl) ?_
    refine va_get (D := D) (ci := 1) (v := .int (nI 0)) (C := RX1) (T := TX1) (N := 7) hx hb hts (inX1_ways) hown hK hP 0 rfl rfl 6 (by decide) (hts (.fieldLink RX1 23 "NoteMixModel" "thrown" "I") (by decide +kernel)) (fun _ h9 => h9) rfl dX1_ways_21 ?_
    refine zn_if_le hx hb (by decide) dX1_ways_24 rfl (fun _ => ?_) (fun hc => absurd hc (by decide))
    refine lv_aload_n hx hb dX1_ways_29 rfl (lv_at hl 0 rfl) ?_
    refine lv_iload_n hx hb dX1_ways_30 rfl (lv_at hl 1 rfl) ?_
    refine zz_callVv (As := [.int (nI v)]) (rest := []) F hK hP hD hS hA (c1_look l D tys cI cZ hI hZ g g1 g2 g3 g4 fr _ wf nf cf kf fw mx (nI 0) w n ok v hv) (cwV 1 hts gX1_ways_X1_look rfl rfl rfl (by decide +kernel) ⟨Nat.le_of_ble_eq_true rfl, Nat.le_of_ble_eq_true rfl⟩) 0 rfl rfl rfl hl.1 rfl (Nat.le_of_ble_eq_true rfl) dX1_ways_31 ⟨Nat.le_of_ble_eq_true rfl, Nat.le_of_ble_eq_true rfl⟩ (fun u H locs hu hP hD hS => ?_)
    obtain ⟨cf, fw, mx⟩ := u
    obtain ⟨cnt, b, bm, e1, e2, hbm, hc1, hE⟩ := hu
    dsimp only at e1 e2
    subst e1 e2
    have hP : va_P D vwCl (mdW cI cZ g g1 g2 g3 g4 wf nf cf kf (nI b) (nI cnt) (nI 0) fr) H := hP
    have hD : va_D A (mdW cI cZ g g1 g2 g3 g4 wf nf cf kf (nI b) (nI cnt) (nI 0) fr) := hD
    refine lv_aload_n hx hb dX1_ways_34 rfl (lv_at hl 0 rfl) ?_
    refine va_get (D := D) (ci := 1) (v := .int (nI cnt)) (C := RX1) (T := TX1) (N := 7) hx hb hts (inX1_ways) hown hK hP 0 rfl rfl 5 (by decide) (hts (.fieldLink RX1 31 "NoteMixModel" "mixes" "I") (by decide +kernel)) (fun _ h9 => h9) rfl dX1_ways_35 ?_
    exact zz_iret F hr hlocks hK hS dX1_ways_38 (by decide) (by decide) (cf, nI b, nI cnt, nI 0) (Or.inl ⟨rfl, v, hv, rfl, by rw [hc1]⟩) hP hD
  · refine lv_aload_n hx hb dX1_ways_0 rfl (lv_at hl 0 rfl) ?_
    refine lv_iload_n hx hb dX1_ways_1 rfl (lv_at hl 1 rfl) ?_
    refine lv_iconst (v := nI 0) hx hb dX1_ways_2 (by decide +kernel) ?_
    refine lv_sipush (v := nI 2000) hx hb dX1_ways_3 (by decide +kernel) ?_
    refine zz_callSi (As := [.int x, .int (nI 0), .int (nI 2000)]) (rest := [.ref g]) F hK hP hD hS hA (c1_in_bad l D tys _ _ x 0 2000 hz (by decide) (by decide)) (va_cwS 3 hts gX1_ways_X1_in_ rfl rfl rfl (by decide +kernel) ⟨Nat.le_of_ble_eq_true rfl, Nat.le_of_ble_eq_true rfl⟩) rfl hl.1 rfl (Nat.le_of_ble_eq_true rfl) dX1_ways_6 ⟨Nat.le_of_ble_eq_true rfl, Nat.le_of_ble_eq_true rfl⟩ (fun rr _ H locs er hP hD hS => ?_)
    try dsimp only at er
    subst er
    have hP : va_P D vwCl (mdW cI cZ g g1 g2 g3 g4 wf nf cf kf fw mx th fr) H := hP
    have hD : va_D A (mdW cI cZ g g1 g2 g3 g4 wf nf cf kf fw mx th fr) := hD
    refine zn_if_eq hx hb (by decide) dX1_ways_9 rfl (fun _ => ?_) (fun hc => absurd hc (by decide))
    refine lv_iconst (v := nI 1) hx hb dX1_ways_16 (by decide +kernel) ?_
    refine va_put (D := D) (ci := 1) (v := .int (nI 1)) (ty := .int) (C := RX1) (T := TX1) (N := 7) hx hb hts (inX1_ways) tyX1 tyX1_ok nmX1 hown hK hP hD hS 0 rfl rfl 6 (by decide) (hts (.fieldLink RX1 23 "NoteMixModel" "thrown" "I") (by decide +kernel)) (fun _ h9 => h9) rfl (by decide +kernel) rfl rfl (Nat.le_of_ble_eq_true rfl) dX1_ways_17 (fun H locs hP hD hS => ?_)
    have hP : va_P D vwCl (mdW cI cZ g g1 g2 g3 g4 wf nf cf kf fw mx (nI 1) fr) H := hP
    have hD : va_D A (mdW cI cZ g g1 g2 g3 g4 wf nf cf kf fw mx (nI 1) fr) := hD
    refine lv_aload_n hx hb dX1_ways_20 rfl (lv_at hl 0 rfl) ?_
    refine va_get (D := D) (ci := 1) (v := .int (nI 1)) (C := RX1) (T := TX1) (N := 7) hx hb hts (inX1_ways) hown hK hP 0 rfl rfl 6 (by decide) (hts (.fieldLink RX1 23 "NoteMixModel" "thrown" "I") (by decide +kernel)) (fun _ h9 => h9) rfl dX1_ways_21 ?_
    refine zn_if_le hx hb (by decide) dX1_ways_24 rfl (fun hc => absurd hc (by decide)) (fun _ => ?_)
    refine lv_iconst (v := nI 0) hx hb dX1_ways_27 (by decide +kernel) ?_
    exact zz_iret F hr hlocks hK hS dX1_ways_28 (by decide) (by decide) (cf, fw, mx, nI 1) (Or.inr ⟨rfl, hz⟩) hP hD
end
section
set_option maxRecDepth 100000 in
set_option maxHeartbeats 4000000 in
theorem c1_cassette (l : Launch) (D : va_G) (tys : List (ClassId × FieldType)) (cI cZ : ClassId) (hI : tys[0]? = some (cI, .int)) (hZ : tys[1]? = some (cZ, .boolean)) (g g1 g2 g3 g4 : Nat) (fr : va_W) (sz : Nat) (wf nf cf kf : Nat → Int32) (fw mx th : Int32) (w n : Nat → Nat) (ok : nmOk wf nf w n) (x y : Int32) : Met l yX1_cassette wsX1_cassette ({ frames := 1, cells := 0, slots := 0, locals := 30 }) (va_Pc [.ref g, .int x, .int y] (zz_pre D tys (mdW cI cZ g g1 g2 g3 g4 wf nf cf kf fw mx th fr) sz)) (va_Qi (fun r (u : Int32) => (u = nI 0 ∧ ∃ c : Nat, c < 4 ∧ x = nI c ∧ r = if y = 0 then nI (n c) else nI (w c)) ∨ (u = nI 1 ∧ ¬ zr x 0 3)) (zz_B D tys (va_A (mdW cI cZ g g1 g2 g3 g4 wf nf cf kf fw mx th fr) sz) (fun u => mdW cI cZ g g1 g2 g3 g4 wf nf cf kf fw mx u fr)) (va_A (mdW cI cZ g g1 g2 g3 g4 wf nf cf kf fw mx th fr) sz)) 0 0 (va_A (mdW cI cZ g g1 g2 g3 g4 wf nf cf kf fw mx th fr) sz) := by
  refine zz_headI (cc := cX1_cassette) (by decide) rfl (Nat.le_of_ble_eq_true rfl) ?_
  intro p e s m below meth cd A ls F hr hlocks hP hK hD hA hS hl
  obtain ⟨hx, hb, hml, hown, hts⟩ := id F
  have hl : lv_has ls 3 [(0, .ref g), (1, .int x), (2, .int y)] := hl
  by_cases hz : zr x 0 3
  · obtain ⟨c, hc0, hc, rfl⟩ := hz
    refine lv_aload_n hx hb dX1_cassette_0 rfl (lv_at hl 0 rfl) ?_
    refine lv_iload_n hx hb dX1_cassette_1 rfl (lv_at hl 1 rfl) ?_
    refine lv_iconst (v := nI 0) hx hb dX1_cassette_2 (by decide +kernel) ?_
    refine lv_iconst (v := nI 3) hx hb dX1_cassette_3 (by decide +kernel) ?_
    refine zz_callSi (As := [.int (nI c), .int (nI 0), .int (nI 3)]) (rest := [.ref g]) F hK hP hD hS hA (c1_in_ok l D tys _ _ c 0 3 hc0 hc (by decide)) (va_cwS 3 hts gX1_cassette_X1_in_ rfl rfl rfl (by decide +kernel) ⟨Nat.le_of_ble_eq_true rfl, Nat.le_of_ble_eq_true rfl⟩) rfl hl.1 rfl (Nat.le_of_ble_eq_true rfl) dX1_cassette_4 ⟨Nat.le_of_ble_eq_true rfl, Nat.le_of_ble_eq_true rfl⟩ (fun rr _ H locs er hP hD hS => ?_)
    try dsimp only at er
    subst er
    have hP : va_P D vwCl (mdW cI cZ g g1 g2 g3 g4 wf nf cf kf fw mx th fr) H := hP
    have hD : va_D A (mdW cI cZ g g1 g2 g3 g4 wf nf cf kf fw mx th fr) := hD
    refine zn_if_eq hx hb (by decide) dX1_cassette_7 rfl (fun hc => absurd hc (by decide)) (fun _ => ?_)
    refine lv_iconst (v := nI 0) hx hb dX1_cassette_10 (by decide +kernel) ?_
    refine lv_goto hx hb dX1_cassette_11 rfl ?_
    refine va_put (D := D) (ci := 1) (v := .int (nI 0)) (ty := .int) (C := RX1) (T := TX1) (N := 7) hx hb hts (inX1_cassette) tyX1 tyX1_ok nmX1 hown hK hP hD hS 0 rfl rfl 6 (by decide) (hts (.fieldLink RX1 23 "NoteMixModel" "thrown" "I") (by decide +kernel)) (fun _ h9 => h9) rfl (by decide +kernel) rfl rfl (Nat.le_of_ble_eq_true rfl) dX1_cassette_15 (fun H locs hP hD hS => ?_)
    have hP : va_P D vwCl (mdW cI cZ g g1 g2 g3 g4 wf nf cf kf fw mx (nI 0) fr) H := hP
    have hD : va_D A (mdW cI cZ g g1 g2 g3 g4 wf nf cf kf fw mx (nI 0) fr) := hD
    refine lv_aload_n hx hb dX1_cassette_18 rfl (lv_at hl 0 rfl) ?_
    refine va_get (D := D) (ci := 1) (v := .int (nI 0)) (C := RX1) (T := TX1) (N := 7) hx hb hts (inX1_cassette) hown hK hP 0 rfl rfl 6 (by decide) (hts (.fieldLink RX1 23 "NoteMixModel" "thrown" "I") (by decide +kernel)) (fun _ h9 => h9) rfl dX1_cassette_19 ?_
    refine zn_if_le hx hb (by decide) dX1_cassette_22 rfl (fun _ => ?_) (fun hc => absurd hc (by decide))
    refine lv_iload_n hx hb dX1_cassette_27 rfl (lv_at hl 2 rfl) ?_
    refine lv_if_eq hx hb dX1_cassette_28 rfl (fun hq => ?_) (fun hq => ?_)
    · refine lv_aload_n hx hb dX1_cassette_40 rfl (lv_at hl 0 rfl) ?_
      refine va_get (D := D) (ci := 1) (v := .ref g2) (C := RX1) (T := TX1) (N := 7) hx hb hts (inX1_cassette) hown hK hP 0 rfl rfl 1 (by decide) (hts (.fieldLink RX1 13 "NoteMixModel" "notes" "[I") (by decide +kernel)) (fun _ h9 => h9) rfl dX1_cassette_41 ?_
      refine lv_iload_n hx hb dX1_cassette_44 rfl (lv_at hl 1 rfl) ?_
      refine zn_iald (k := c) hx hb hK hP 2 _ rfl hI (by omega) (by decide) (ok.2.1 c (by omega)) dX1_cassette_45 ?_
      exact zz_iret F hr hlocks hK hS dX1_cassette_46 (by decide) (by decide) (nI 0) (Or.inl ⟨rfl, c, by omega, rfl, by rw [if_pos hq]⟩) hP hD
    · refine lv_aload_n hx hb dX1_cassette_31 rfl (lv_at hl 0 rfl) ?_
      refine va_get (D := D) (ci := 1) (v := .ref g1) (C := RX1) (T := TX1) (N := 7) hx hb hts (inX1_cassette) hown hK hP 0 rfl rfl 0 (by decide) (hts (.fieldLink RX1 7 "NoteMixModel" "worth" "[I") (by decide +kernel)) (fun _ h9 => h9) rfl dX1_cassette_32 ?_
      refine lv_iload_n hx hb dX1_cassette_35 rfl (lv_at hl 1 rfl) ?_
      refine zn_iald (k := c) hx hb hK hP 1 _ rfl hI (by omega) (by decide) (ok.1 c (by omega)) dX1_cassette_36 ?_
      refine lv_goto hx hb dX1_cassette_37 rfl ?_
      exact zz_iret F hr hlocks hK hS dX1_cassette_46 (by decide) (by decide) (nI 0) (Or.inl ⟨rfl, c, by omega, rfl, by rw [if_neg hq]⟩) hP hD
  · refine lv_aload_n hx hb dX1_cassette_0 rfl (lv_at hl 0 rfl) ?_
    refine lv_iload_n hx hb dX1_cassette_1 rfl (lv_at hl 1 rfl) ?_
    refine lv_iconst (v := nI 0) hx hb dX1_cassette_2 (by decide +kernel) ?_
    refine lv_iconst (v := nI 3) hx hb dX1_cassette_3 (by decide +kernel) ?_
    refine zz_callSi (As := [.int x, .int (nI 0), .int (nI 3)]) (rest := [.ref g]) F hK hP hD hS hA (c1_in_bad l D tys _ _ x 0 3 hz (by decide) (by decide)) (va_cwS 3 hts gX1_cassette_X1_in_ rfl rfl rfl (by decide +kernel) ⟨Nat.le_of_ble_eq_true rfl, Nat.le_of_ble_eq_true rfl⟩) rfl hl.1 rfl (Nat.le_of_ble_eq_true rfl) dX1_cassette_4 ⟨Nat.le_of_ble_eq_true rfl, Nat.le_of_ble_eq_true rfl⟩ (fun rr _ H locs er hP hD hS => ?_)
    try dsimp only at er
    subst er
    have hP : va_P D vwCl (mdW cI cZ g g1 g2 g3 g4 wf nf cf kf fw mx th fr) H := hP
    have hD : va_D A (mdW cI cZ g g1 g2 g3 g4 wf nf cf kf fw mx th fr) := hD
    refine zn_if_eq hx hb (by decide) dX1_cassette_7 rfl (fun _ => ?_) (fun hc => absurd hc (by decide))
    refine lv_iconst (v := nI 1) hx hb dX1_cassette_14 (by decide +kernel) ?_
    refine va_put (D := D) (ci := 1) (v := .int (nI 1)) (ty := .int) (C := RX1) (T := TX1) (N := 7) hx hb hts (inX1_cassette) tyX1 tyX1_ok nmX1 hown hK hP hD hS 0 rfl rfl 6 (by decide) (hts (.fieldLink RX1 23 "NoteMixModel" "thrown" "I") (by decide +kernel)) (fun _ h9 => h9) rfl (by decide +kernel) rfl rfl (Nat.le_of_ble_eq_true rfl) dX1_cassette_15 (fun H locs hP hD hS => ?_)
    have hP : va_P D vwCl (mdW cI cZ g g1 g2 g3 g4 wf nf cf kf fw mx (nI 1) fr) H := hP
    have hD : va_D A (mdW cI cZ g g1 g2 g3 g4 wf nf cf kf fw mx (nI 1) fr) := hD
    refine lv_aload_n hx hb dX1_cassette_18 rfl (lv_at hl 0 rfl) ?_
    refine va_get (D := D) (ci := 1) (v := .int (nI 1)) (C := RX1) (T := TX1) (N := 7) hx hb hts (inX1_cassette) hown hK hP 0 rfl rfl 6 (by decide) (hts (.fieldLink RX1 23 "NoteMixModel" "thrown" "I") (by decide +kernel)) (fun _ h9 => h9) rfl dX1_cassette_19 ?_
    refine zn_if_le hx hb (by decide) dX1_cassette_22 rfl (fun hc => absurd hc (by decide)) (fun _ => ?_)
    refine lv_iconst (v := nI 0) hx hb dX1_cassette_25 (by decide +kernel) ?_
    exact zz_iret F hr hlocks hK hS dX1_cassette_26 (by decide) (by decide) (nI 1) (Or.inr ⟨rfl, hz⟩) hP hD
end
section
set_option maxRecDepth 100000 in
set_option maxHeartbeats 4000000 in
theorem c1_value (l : Launch) (D : va_G) (tys : List (ClassId × FieldType)) (cI cZ : ClassId) (hI : tys[0]? = some (cI, .int)) (hZ : tys[1]? = some (cZ, .boolean)) (g g1 g2 g3 g4 : Nat) (fr : va_W) (sz : Nat) (wf nf cf kf : Nat → Int32) (fw mx th : Int32) (w n : Nat → Nat) (ok : nmOk wf nf w n)  : Met l yX1_value wsX1_value ({ frames := 0, cells := 0, slots := 0, locals := 0 }) (va_Pc [.ref g] (zz_pre D tys (mdW cI cZ g g1 g2 g3 g4 wf nf cf kf fw mx th fr) sz)) (va_Qi (fun r (u : Unit) => r = nI (0 + n 0 * w 0 + n 1 * w 1 + n 2 * w 2 + n 3 * w 3)) (zz_B D tys (va_A (mdW cI cZ g g1 g2 g3 g4 wf nf cf kf fw mx th fr) sz) (fun u => mdW cI cZ g g1 g2 g3 g4 wf nf cf kf fw mx (nI 0) fr)) (va_A (mdW cI cZ g g1 g2 g3 g4 wf nf cf kf fw mx th fr) sz)) 0 0 (va_A (mdW cI cZ g g1 g2 g3 g4 wf nf cf kf fw mx th fr) sz) := by
  refine zz_headI (cc := cX1_value) (by decide) rfl (Nat.le_of_ble_eq_true rfl) ?_
  intro p e s m below meth cd A ls F hr hlocks hP hK hD hA hS hl
  obtain ⟨hx, hb, hml, hown, hts⟩ := id F
  have hl : lv_has ls 3 [(0, .ref g)] := hl
  refine lv_aload_n hx hb dX1_value_0 rfl (lv_at hl 0 rfl) ?_
  refine lv_iconst (v := nI 0) hx hb dX1_value_1 (by decide +kernel) ?_
  refine va_put (D := D) (ci := 1) (v := .int (nI 0)) (ty := .int) (C := RX1) (T := TX1) (N := 7) hx hb hts (inX1_value) tyX1 tyX1_ok nmX1 hown hK hP hD hS 0 rfl rfl 6 (by decide) (hts (.fieldLink RX1 23 "NoteMixModel" "thrown" "I") (by decide +kernel)) (fun _ h9 => h9) rfl (by decide +kernel) rfl rfl (Nat.le_of_ble_eq_true rfl) dX1_value_2 (fun H locs hP hD hS => ?_)
  have hP : va_P D vwCl (mdW cI cZ g g1 g2 g3 g4 wf nf cf kf fw mx (nI 0) fr) H := hP
  have hD : va_D A (mdW cI cZ g g1 g2 g3 g4 wf nf cf kf fw mx (nI 0) fr) := hD
  refine lv_iconst (v := nI 0) hx hb dX1_value_5 (by decide +kernel) ?_
  refine lv_istore_n (lv' := [(1, .int (nI 0)), (0, .ref g)]) hx hb dX1_value_6 rfl hl (by decide) rfl (fun ls hl => ?_)
  refine lv_iconst (v := nI 0) hx hb dX1_value_7 (by decide +kernel) ?_
  refine lv_istore_n (lv' := [(2, .int (nI 0)), (1, .int (nI 0)), (0, .ref g)]) hx hb dX1_value_8 rfl hl (by decide) rfl (fun ls hl => ?_)
  refine lv_iload_n hx hb dX1_value_9 rfl (lv_at hl 0 rfl) ?_
  refine lv_iconst (v := nI 4) hx hb dX1_value_10 (by decide +kernel) ?_
  refine zn_ge hx hb (by decide) (by decide) dX1_value_11 rfl (fun hc => absurd hc (by decide)) (fun _ => ?_)
  refine lv_iload_n hx hb dX1_value_14 rfl (lv_at hl 1 rfl) ?_
  refine lv_aload_n hx hb dX1_value_15 rfl (lv_at hl 2 rfl) ?_
  refine va_get (D := D) (ci := 1) (v := .ref g2) (C := RX1) (T := TX1) (N := 7) hx hb hts (inX1_value) hown hK hP 0 rfl rfl 1 (by decide) (hts (.fieldLink RX1 13 "NoteMixModel" "notes" "[I") (by decide +kernel)) (fun _ h9 => h9) rfl dX1_value_16 ?_
  refine lv_iload_n hx hb dX1_value_19 rfl (lv_at hl 0 rfl) ?_
  refine zn_iald (k := 0) hx hb hK hP 2 _ rfl hI (by decide) (by decide) (ok.2.1 0 (by omega)) dX1_value_20 ?_
  refine lv_aload_n hx hb dX1_value_21 rfl (lv_at hl 2 rfl) ?_
  refine va_get (D := D) (ci := 1) (v := .ref g1) (C := RX1) (T := TX1) (N := 7) hx hb hts (inX1_value) hown hK hP 0 rfl rfl 0 (by decide) (hts (.fieldLink RX1 7 "NoteMixModel" "worth" "[I") (by decide +kernel)) (fun _ h9 => h9) rfl dX1_value_22 ?_
  refine lv_iload_n hx hb dX1_value_25 rfl (lv_at hl 0 rfl) ?_
  refine zn_iald (k := 0) hx hb hK hP 1 _ rfl hI (by decide) (by decide) (ok.1 0 (by omega)) dX1_value_26 ?_
  refine zn_mul hx hb dX1_value_27 ?_
  refine zn_add hx hb dX1_value_28 ?_
  refine lv_istore_n (lv' := [(1, .int (nI (0 + ((n 0) * (w 0))))), (2, .int (nI 0)), (0, .ref g)]) hx hb dX1_value_29 rfl hl (by decide) rfl (fun ls hl => ?_)
  refine lv_iinc (k := 1) (lv' := [(2, .int (nI (0 + 1))), (1, .int (nI (0 + ((n 0) * (w 0))))), (0, .ref g)]) hx hb dX1_value_30 hl rfl (zz_i1 _) (by decide) rfl (fun ls hl => ?_)
  have hl : lv_has ls 3 [(2, .int (nI 1)), (1, .int (nI (0 + ((n 0) * (w 0))))), (0, .ref g)] := hl
  refine lv_goto hx hb dX1_value_33 rfl ?_
  refine lv_iload_n hx hb dX1_value_9 rfl (lv_at hl 0 rfl) ?_
  refine lv_iconst (v := nI 4) hx hb dX1_value_10 (by decide +kernel) ?_
  refine zn_ge hx hb (by decide) (by decide) dX1_value_11 rfl (fun hc => absurd hc (by decide)) (fun _ => ?_)
  refine lv_iload_n hx hb dX1_value_14 rfl (lv_at hl 1 rfl) ?_
  refine lv_aload_n hx hb dX1_value_15 rfl (lv_at hl 2 rfl) ?_
  refine va_get (D := D) (ci := 1) (v := .ref g2) (C := RX1) (T := TX1) (N := 7) hx hb hts (inX1_value) hown hK hP 0 rfl rfl 1 (by decide) (hts (.fieldLink RX1 13 "NoteMixModel" "notes" "[I") (by decide +kernel)) (fun _ h9 => h9) rfl dX1_value_16 ?_
  refine lv_iload_n hx hb dX1_value_19 rfl (lv_at hl 0 rfl) ?_
  refine zn_iald (k := 1) hx hb hK hP 2 _ rfl hI (by decide) (by decide) (ok.2.1 1 (by omega)) dX1_value_20 ?_
  refine lv_aload_n hx hb dX1_value_21 rfl (lv_at hl 2 rfl) ?_
  refine va_get (D := D) (ci := 1) (v := .ref g1) (C := RX1) (T := TX1) (N := 7) hx hb hts (inX1_value) hown hK hP 0 rfl rfl 0 (by decide) (hts (.fieldLink RX1 7 "NoteMixModel" "worth" "[I") (by decide +kernel)) (fun _ h9 => h9) rfl dX1_value_22 ?_
  refine lv_iload_n hx hb dX1_value_25 rfl (lv_at hl 0 rfl) ?_
  refine zn_iald (k := 1) hx hb hK hP 1 _ rfl hI (by decide) (by decide) (ok.1 1 (by omega)) dX1_value_26 ?_
  refine zn_mul hx hb dX1_value_27 ?_
  refine zn_add hx hb dX1_value_28 ?_
  refine lv_istore_n (lv' := [(1, .int (nI ((0 + ((n 0) * (w 0))) + ((n 1) * (w 1))))), (2, .int (nI 1)), (0, .ref g)]) hx hb dX1_value_29 rfl hl (by decide) rfl (fun ls hl => ?_)
  refine lv_iinc (k := 1) (lv' := [(2, .int (nI (1 + 1))), (1, .int (nI ((0 + ((n 0) * (w 0))) + ((n 1) * (w 1))))), (0, .ref g)]) hx hb dX1_value_30 hl rfl (zz_i1 _) (by decide) rfl (fun ls hl => ?_)
  have hl : lv_has ls 3 [(2, .int (nI 2)), (1, .int (nI ((0 + ((n 0) * (w 0))) + ((n 1) * (w 1))))), (0, .ref g)] := hl
  refine lv_goto hx hb dX1_value_33 rfl ?_
  refine lv_iload_n hx hb dX1_value_9 rfl (lv_at hl 0 rfl) ?_
  refine lv_iconst (v := nI 4) hx hb dX1_value_10 (by decide +kernel) ?_
  refine zn_ge hx hb (by decide) (by decide) dX1_value_11 rfl (fun hc => absurd hc (by decide)) (fun _ => ?_)
  refine lv_iload_n hx hb dX1_value_14 rfl (lv_at hl 1 rfl) ?_
  refine lv_aload_n hx hb dX1_value_15 rfl (lv_at hl 2 rfl) ?_
  refine va_get (D := D) (ci := 1) (v := .ref g2) (C := RX1) (T := TX1) (N := 7) hx hb hts (inX1_value) hown hK hP 0 rfl rfl 1 (by decide) (hts (.fieldLink RX1 13 "NoteMixModel" "notes" "[I") (by decide +kernel)) (fun _ h9 => h9) rfl dX1_value_16 ?_
  refine lv_iload_n hx hb dX1_value_19 rfl (lv_at hl 0 rfl) ?_
  refine zn_iald (k := 2) hx hb hK hP 2 _ rfl hI (by decide) (by decide) (ok.2.1 2 (by omega)) dX1_value_20 ?_
  refine lv_aload_n hx hb dX1_value_21 rfl (lv_at hl 2 rfl) ?_
  refine va_get (D := D) (ci := 1) (v := .ref g1) (C := RX1) (T := TX1) (N := 7) hx hb hts (inX1_value) hown hK hP 0 rfl rfl 0 (by decide) (hts (.fieldLink RX1 7 "NoteMixModel" "worth" "[I") (by decide +kernel)) (fun _ h9 => h9) rfl dX1_value_22 ?_
  refine lv_iload_n hx hb dX1_value_25 rfl (lv_at hl 0 rfl) ?_
  refine zn_iald (k := 2) hx hb hK hP 1 _ rfl hI (by decide) (by decide) (ok.1 2 (by omega)) dX1_value_26 ?_
  refine zn_mul hx hb dX1_value_27 ?_
  refine zn_add hx hb dX1_value_28 ?_
  refine lv_istore_n (lv' := [(1, .int (nI (((0 + ((n 0) * (w 0))) + ((n 1) * (w 1))) + ((n 2) * (w 2))))), (2, .int (nI 2)), (0, .ref g)]) hx hb dX1_value_29 rfl hl (by decide) rfl (fun ls hl => ?_)
  refine lv_iinc (k := 1) (lv' := [(2, .int (nI (2 + 1))), (1, .int (nI (((0 + ((n 0) * (w 0))) + ((n 1) * (w 1))) + ((n 2) * (w 2))))), (0, .ref g)]) hx hb dX1_value_30 hl rfl (zz_i1 _) (by decide) rfl (fun ls hl => ?_)
  have hl : lv_has ls 3 [(2, .int (nI 3)), (1, .int (nI (((0 + ((n 0) * (w 0))) + ((n 1) * (w 1))) + ((n 2) * (w 2))))), (0, .ref g)] := hl
  refine lv_goto hx hb dX1_value_33 rfl ?_
  refine lv_iload_n hx hb dX1_value_9 rfl (lv_at hl 0 rfl) ?_
  refine lv_iconst (v := nI 4) hx hb dX1_value_10 (by decide +kernel) ?_
  refine zn_ge hx hb (by decide) (by decide) dX1_value_11 rfl (fun hc => absurd hc (by decide)) (fun _ => ?_)
  refine lv_iload_n hx hb dX1_value_14 rfl (lv_at hl 1 rfl) ?_
  refine lv_aload_n hx hb dX1_value_15 rfl (lv_at hl 2 rfl) ?_
  refine va_get (D := D) (ci := 1) (v := .ref g2) (C := RX1) (T := TX1) (N := 7) hx hb hts (inX1_value) hown hK hP 0 rfl rfl 1 (by decide) (hts (.fieldLink RX1 13 "NoteMixModel" "notes" "[I") (by decide +kernel)) (fun _ h9 => h9) rfl dX1_value_16 ?_
  refine lv_iload_n hx hb dX1_value_19 rfl (lv_at hl 0 rfl) ?_
  refine zn_iald (k := 3) hx hb hK hP 2 _ rfl hI (by decide) (by decide) (ok.2.1 3 (by omega)) dX1_value_20 ?_
  refine lv_aload_n hx hb dX1_value_21 rfl (lv_at hl 2 rfl) ?_
  refine va_get (D := D) (ci := 1) (v := .ref g1) (C := RX1) (T := TX1) (N := 7) hx hb hts (inX1_value) hown hK hP 0 rfl rfl 0 (by decide) (hts (.fieldLink RX1 7 "NoteMixModel" "worth" "[I") (by decide +kernel)) (fun _ h9 => h9) rfl dX1_value_22 ?_
  refine lv_iload_n hx hb dX1_value_25 rfl (lv_at hl 0 rfl) ?_
  refine zn_iald (k := 3) hx hb hK hP 1 _ rfl hI (by decide) (by decide) (ok.1 3 (by omega)) dX1_value_26 ?_
  refine zn_mul hx hb dX1_value_27 ?_
  refine zn_add hx hb dX1_value_28 ?_
  refine lv_istore_n (lv' := [(1, .int (nI ((((0 + ((n 0) * (w 0))) + ((n 1) * (w 1))) + ((n 2) * (w 2))) + ((n 3) * (w 3))))), (2, .int (nI 3)), (0, .ref g)]) hx hb dX1_value_29 rfl hl (by decide) rfl (fun ls hl => ?_)
  refine lv_iinc (k := 1) (lv' := [(2, .int (nI (3 + 1))), (1, .int (nI ((((0 + ((n 0) * (w 0))) + ((n 1) * (w 1))) + ((n 2) * (w 2))) + ((n 3) * (w 3))))), (0, .ref g)]) hx hb dX1_value_30 hl rfl (zz_i1 _) (by decide) rfl (fun ls hl => ?_)
  have hl : lv_has ls 3 [(2, .int (nI 4)), (1, .int (nI ((((0 + ((n 0) * (w 0))) + ((n 1) * (w 1))) + ((n 2) * (w 2))) + ((n 3) * (w 3))))), (0, .ref g)] := hl
  refine lv_goto hx hb dX1_value_33 rfl ?_
  refine lv_iload_n hx hb dX1_value_9 rfl (lv_at hl 0 rfl) ?_
  refine lv_iconst (v := nI 4) hx hb dX1_value_10 (by decide +kernel) ?_
  refine zn_ge hx hb (by decide) (by decide) dX1_value_11 rfl (fun _ => ?_) (fun hc => absurd hc (by decide))
  refine lv_iload_n hx hb dX1_value_36 rfl (lv_at hl 1 rfl) ?_
  exact zz_iret F hr hlocks hK hS dX1_value_37 (by decide) (by decide) () rfl hP hD
end
section
set_option maxRecDepth 100000 in
set_option maxHeartbeats 4000000 in
theorem c1_pay (l : Launch) (D : va_G) (tys : List (ClassId × FieldType)) (cI cZ : ClassId) (hI : tys[0]? = some (cI, .int)) (hZ : tys[1]? = some (cZ, .boolean)) (g g1 g2 g3 g4 : Nat) (fr : va_W) (sz : Nat) (wf nf cf kf : Nat → Int32) (fw mx th : Int32) (w n : Nat → Nat) (ok : nmOk wf nf w n) (x y : Int32) : Met l yX1_pay wsX1_pay ({ frames := 3, cells := 0, slots := 0, locals := 90 }) (va_Pc [.ref g, .int x, .int y] (zz_pre D tys (mdW cI cZ g g1 g2 g3 g4 wf nf cf kf fw mx th fr) sz)) (va_Qi (fun r (u : (Nat → Int32) × (Nat → Int32) × Int32 × Int32 × Int32) => (u.2.2.2.2 = nI 0 ∧ ∃ v jam : Nat, v ≤ 2000 ∧ jam ≤ 40 ∧ x = nI v ∧ y = nI jam ∧ ∃ (bm : Nat → Nat) (o3 o2 o1 o0 : Nat), mx_B w n v (bm 0) (bm 1) (bm 2) (bm 3) ∧ o3 = min (bm 3) jam ∧ o2 = min (bm 2) (jam - o3) ∧ o1 = min (bm 1) (jam - o3 - o2) ∧ o0 = min (bm 0) (jam - o3 - o2 - o1) ∧ r = nI (0 + o3 * w 3 + o2 * w 2 + o1 * w 1 + o0 * w 0) ∧ u.1 0 = nI (n 0 - o0) ∧ u.1 1 = nI (n 1 - o1) ∧ u.1 2 = nI (n 2 - o2) ∧ u.1 3 = nI (n 3 - o3)) ∨ (u.2.2.2.2 = nI 1 ∧ ¬ (zr y 0 40 ∧ zr x 0 2000) ∧ u.1 = nf) ∨ (u.2.2.2.2 = nI 2 ∧ u.1 = nf ∧ zr y 0 40 ∧ ∃ v : Nat, v ≤ 2000 ∧ x = nI v ∧ ¬ mx_has w n v)) (zz_B D tys (va_A (mdW cI cZ g g1 g2 g3 g4 wf nf cf kf fw mx th fr) sz) (fun u => mdW cI cZ g g1 g2 g3 g4 wf u.1 u.2.1 kf u.2.2.1 u.2.2.2.1 u.2.2.2.2 fr)) (va_A (mdW cI cZ g g1 g2 g3 g4 wf nf cf kf fw mx th fr) sz)) 0 0 (va_A (mdW cI cZ g g1 g2 g3 g4 wf nf cf kf fw mx th fr) sz) := by
  refine zz_headI (cc := cX1_pay) (by decide) rfl (Nat.le_of_ble_eq_true rfl) ?_
  intro p e s m below meth cd A ls F hr hlocks hP hK hD hA hS hl
  obtain ⟨hx, hb, hml, hown, hts⟩ := id F
  have hl : lv_has ls 7 [(0, .ref g), (1, .int x), (2, .int y)] := hl
  by_cases hz : zr y 0 40
  · have hz0 := hz
    obtain ⟨jam, hj0, hj, rfl⟩ := hz
    refine lv_aload_n hx hb dX1_pay_0 rfl (lv_at hl 0 rfl) ?_
    refine lv_iload_n hx hb dX1_pay_1 rfl (lv_at hl 2 rfl) ?_
    refine lv_iconst (v := nI 0) hx hb dX1_pay_2 (by decide +kernel) ?_
    refine lv_bipush (v := nI 40) hx hb dX1_pay_3 (by decide +kernel) ?_
    refine zz_callSi (As := [.int (nI jam), .int (nI 0), .int (nI 40)]) (rest := [.ref g]) F hK hP hD hS hA (c1_in_ok l D tys _ _ jam 0 40 hj0 hj (by decide)) (va_cwS 3 hts gX1_pay_X1_in_ rfl rfl rfl (by decide +kernel) ⟨Nat.le_of_ble_eq_true rfl, Nat.le_of_ble_eq_true rfl⟩) rfl hl.1 rfl (Nat.le_of_ble_eq_true rfl) dX1_pay_5 ⟨Nat.le_of_ble_eq_true rfl, Nat.le_of_ble_eq_true rfl⟩ (fun rr _ H locs er hP hD hS => ?_)
    try dsimp only at er
    subst er
    have hP : va_P D vwCl (mdW cI cZ g g1 g2 g3 g4 wf nf cf kf fw mx th fr) H := hP
    have hD : va_D A (mdW cI cZ g g1 g2 g3 g4 wf nf cf kf fw mx th fr) := hD
    refine zn_if_eq hx hb (by decide) dX1_pay_8 rfl (fun hc => absurd hc (by decide)) (fun _ => ?_)
    refine lv_iconst (v := nI 0) hx hb dX1_pay_11 (by decide +kernel) ?_
    refine lv_goto hx hb dX1_pay_12 rfl ?_
    refine va_put (D := D) (ci := 1) (v := .int (nI 0)) (ty := .int) (C := RX1) (T := TX1) (N := 7) hx hb hts (inX1_pay) tyX1 tyX1_ok nmX1 hown hK hP hD hS 0 rfl rfl 6 (by decide) (hts (.fieldLink RX1 23 "NoteMixModel" "thrown" "I") (by decide +kernel)) (fun _ h9 => h9) rfl (by decide +kernel) rfl rfl (Nat.le_of_ble_eq_true rfl) dX1_pay_16 (fun H locs hP hD hS => ?_)
    have hP : va_P D vwCl (mdW cI cZ g g1 g2 g3 g4 wf nf cf kf fw mx (nI 0) fr) H := hP
    have hD : va_D A (mdW cI cZ g g1 g2 g3 g4 wf nf cf kf fw mx (nI 0) fr) := hD
    refine lv_aload_n hx hb dX1_pay_19 rfl (lv_at hl 0 rfl) ?_
    refine va_get (D := D) (ci := 1) (v := .int (nI 0)) (C := RX1) (T := TX1) (N := 7) hx hb hts (inX1_pay) hown hK hP 0 rfl rfl 6 (by decide) (hts (.fieldLink RX1 23 "NoteMixModel" "thrown" "I") (by decide +kernel)) (fun _ h9 => h9) rfl dX1_pay_20 ?_
    refine lv_if_gt hx hb dX1_pay_23 rfl (fun hc => absurd hc (by decide +kernel)) (fun _ => ?_)
    refine lv_aload_n hx hb dX1_pay_26 rfl (lv_at hl 0 rfl) ?_
    refine lv_iload_n hx hb dX1_pay_27 rfl (lv_at hl 1 rfl) ?_
    refine zz_callVi (As := [.int x]) (rest := []) F hK hP hD hS hA (c1_isBest l D tys cI cZ hI hZ g g1 g2 g3 g4 fr _ wf nf cf kf fw mx (nI 0) w n ok x) (cwV 1 hts gX1_pay_X1_isBest rfl rfl rfl (by decide +kernel) ⟨Nat.le_of_ble_eq_true rfl, Nat.le_of_ble_eq_true rfl⟩) 0 rfl rfl rfl hl.1 rfl (Nat.le_of_ble_eq_true rfl) dX1_pay_28 ⟨Nat.le_of_ble_eq_true rfl, Nat.le_of_ble_eq_true rfl⟩ (fun rr u H locs hu hP hD hS => ?_)
    obtain ⟨cf, fw, mx, th⟩ := u
    dsimp only at hu
    have hP : va_P D vwCl (mdW cI cZ g g1 g2 g3 g4 wf nf cf kf fw mx th fr) H := hP
    have hD : va_D A (mdW cI cZ g g1 g2 g3 g4 wf nf cf kf fw mx th fr) := hD
    rcases hu with ⟨rfl, rfl, v, hv, hx9, bm, hB, e1, hbm⟩ | ⟨rfl, rfl, hz⟩ | ⟨rfl, rfl, v, hv, hx9, hno⟩
    · refine zn_if_ne hx hb (by decide) dX1_pay_31 rfl (fun _ => ?_) (fun hc => absurd hc (by decide))
      obtain ⟨m0, m1, m2, m3, m4, m5⟩ := hB.1
      obtain ⟨p0, q0, r0⟩ := ok.2.2 0 (by decide)
      obtain ⟨p1, q1, r1⟩ := ok.2.2 1 (by decide)
      obtain ⟨p2, q2, r2⟩ := ok.2.2 2 (by decide)
      obtain ⟨p3, q3, r3⟩ := ok.2.2 3 (by decide)
      refine lv_iload_n hx hb dX1_pay_36 rfl (lv_at hl 2 rfl) ?_
      refine lv_istore_n (lv' := [(3, .int (nI jam)), (0, .ref g), (1, .int x), (2, .int (nI jam))]) hx hb dX1_pay_37 rfl hl (by decide) rfl (fun ls hl => ?_)
      refine lv_iconst (v := nI 0) hx hb dX1_pay_38 (by decide +kernel) ?_
      refine lv_istore (lv' := [(4, .int (nI 0)), (3, .int (nI jam)), (0, .ref g), (1, .int x), (2, .int (nI jam))]) hx hb dX1_pay_39 hl (by decide) rfl (fun ls hl => ?_)
      refine lv_iconst (v := nI 3) hx hb dX1_pay_41 (by decide +kernel) ?_
      refine lv_istore (lv' := [(5, .int (nI 3)), (4, .int (nI 0)), (3, .int (nI jam)), (0, .ref g), (1, .int x), (2, .int (nI jam))]) hx hb dX1_pay_42 hl (by decide) rfl (fun ls hl => ?_)
      refine lv_iload hx hb dX1_pay_44 (lv_at hl 0 rfl) ?_
      refine lv_if_lt hx hb dX1_pay_46 rfl (fun hc => absurd hc (nI_pos (by decide))) (fun _ => ?_)
      refine lv_iload_n hx hb dX1_pay_49 rfl (lv_at hl 2 rfl) ?_
      refine lv_aload_n hx hb dX1_pay_50 rfl (lv_at hl 3 rfl) ?_
      refine va_get (D := D) (ci := 1) (v := .ref g3) (C := RX1) (T := TX1) (N := 7) hx hb hts (inX1_pay) hown hK hP 0 rfl rfl 2 (by decide) (hts (.fieldLink RX1 16 "NoteMixModel" "chosen" "[I") (by decide +kernel)) (fun _ h9 => h9) rfl dX1_pay_51 ?_
      refine lv_iload hx hb dX1_pay_54 (lv_at hl 0 rfl) ?_
      refine zn_iald (k := 3) hx hb hK hP 3 _ rfl hI (by decide) (by decide) (hbm 3 (by decide)) dX1_pay_56 ?_
      refine zn_min hx hb (hml.trans hl.1.symm) hown (hts (.methodLink RX1 37 Lib.Math.min.name) (by decide +kernel)) (hts (.static Lib.Math.min.name) (by decide +kernel)) (hts (.initialized "java/lang/Math") (by decide +kernel)) (hts (.code Lib.Math.min.name Lib.Math.min.code 2 (some .int)) (by decide +kernel)) (Nat.le_of_ble_eq_true rfl) (Nat.le_of_ble_eq_true rfl) (Nat.le_of_ble_eq_true rfl) (Nat.le_of_ble_eq_true rfl) (by omega) (by omega) dX1_pay_57 ?_
      obtain ⟨o3, ho3⟩ : ∃ z, z = min jam (bm 3) := ⟨_, rfl⟩
      rw [← ho3]
      refine lv_istore (lv' := [(6, .int (nI o3)), (5, .int (nI 3)), (4, .int (nI 0)), (3, .int (nI jam)), (0, .ref g), (1, .int x), (2, .int (nI jam))]) hx hb dX1_pay_60 hl (by decide) rfl (fun ls hl => ?_)
      refine lv_aload_n hx hb dX1_pay_62 rfl (lv_at hl 4 rfl) ?_
      refine va_get (D := D) (ci := 1) (v := .ref g2) (C := RX1) (T := TX1) (N := 7) hx hb hts (inX1_pay) hown hK hP 0 rfl rfl 1 (by decide) (hts (.fieldLink RX1 13 "NoteMixModel" "notes" "[I") (by decide +kernel)) (fun _ h9 => h9) rfl dX1_pay_63 ?_
      refine lv_iload hx hb dX1_pay_66 (lv_at hl 1 rfl) ?_
      refine lv_dup2_11 hx hb dX1_pay_68 rfl rfl ?_
      refine zn_iald (k := 3) hx hb hK hP 2 _ rfl hI (by decide) (by decide) (by rw [ok.2.1 3 (by decide)]) dX1_pay_69 ?_
      refine lv_iload hx hb dX1_pay_70 (lv_at hl 0 rfl) ?_
      refine zn_sub hx hb (by omega) dX1_pay_72 ?_
      refine zn_iast (k := 3) hx hb hK hP hD hS 2 _ rfl hI (by decide) (by decide) dX1_pay_73 (fun H locs nf3 nf3e nf3n hP hD hS => ?_)
      have hP : va_P D vwCl (mdW cI cZ g g1 g2 g3 g4 wf nf3 cf kf fw mx (nI 0) fr) H := hP
      have hD : va_D A (mdW cI cZ g g1 g2 g3 g4 wf nf3 cf kf fw mx (nI 0) fr) := hD
      refine lv_iload_n hx hb dX1_pay_74 rfl (lv_at hl 3 rfl) ?_
      refine lv_iload hx hb dX1_pay_75 (lv_at hl 0 rfl) ?_
      refine zn_sub hx hb (by omega) dX1_pay_77 ?_
      refine lv_istore_n (lv' := [(3, .int (nI (jam - o3))), (6, .int (nI o3)), (5, .int (nI 3)), (4, .int (nI 0)), (0, .ref g), (1, .int x), (2, .int (nI jam))]) hx hb dX1_pay_78 rfl hl (by decide) rfl (fun ls hl => ?_)
      refine lv_iload hx hb dX1_pay_79 (lv_at hl 3 rfl) ?_
      refine lv_iload hx hb dX1_pay_81 (lv_at hl 1 rfl) ?_
      refine lv_aload_n hx hb dX1_pay_83 rfl (lv_at hl 4 rfl) ?_
      refine va_get (D := D) (ci := 1) (v := .ref g1) (C := RX1) (T := TX1) (N := 7) hx hb hts (inX1_pay) hown hK hP 0 rfl rfl 0 (by decide) (hts (.fieldLink RX1 7 "NoteMixModel" "worth" "[I") (by decide +kernel)) (fun _ h9 => h9) rfl dX1_pay_84 ?_
      refine lv_iload hx hb dX1_pay_87 (lv_at hl 2 rfl) ?_
      refine zn_iald (k := 3) hx hb hK hP 1 _ rfl hI (by decide) (by decide) (ok.1 3 (by omega)) dX1_pay_89 ?_
      refine zn_mul hx hb dX1_pay_90 ?_
      refine zn_add hx hb dX1_pay_91 ?_
      refine lv_istore (lv' := [(4, .int (nI (0 + (o3 * (w 3))))), (3, .int (nI (jam - o3))), (6, .int (nI o3)), (5, .int (nI 3)), (0, .ref g), (1, .int x), (2, .int (nI jam))]) hx hb dX1_pay_92 hl (by decide) rfl (fun ls hl => ?_)
      refine lv_iinc (k := 3) (lv' := [(5, .int (nI 2)), (4, .int (nI (0 + (o3 * (w 3))))), (3, .int (nI (jam - o3))), (6, .int (nI o3)), (0, .ref g), (1, .int x), (2, .int (nI jam))]) hx hb dX1_pay_94 hl rfl (zz_d1 2) (by decide) rfl (fun ls hl => ?_)
      refine lv_goto hx hb dX1_pay_97 rfl ?_
      refine lv_iload hx hb dX1_pay_44 (lv_at hl 0 rfl) ?_
      refine lv_if_lt hx hb dX1_pay_46 rfl (fun hc => absurd hc (nI_pos (by decide))) (fun _ => ?_)
      refine lv_iload_n hx hb dX1_pay_49 rfl (lv_at hl 2 rfl) ?_
      refine lv_aload_n hx hb dX1_pay_50 rfl (lv_at hl 4 rfl) ?_
      refine va_get (D := D) (ci := 1) (v := .ref g3) (C := RX1) (T := TX1) (N := 7) hx hb hts (inX1_pay) hown hK hP 0 rfl rfl 2 (by decide) (hts (.fieldLink RX1 16 "NoteMixModel" "chosen" "[I") (by decide +kernel)) (fun _ h9 => h9) rfl dX1_pay_51 ?_
      refine lv_iload hx hb dX1_pay_54 (lv_at hl 0 rfl) ?_
      refine zn_iald (k := 2) hx hb hK hP 3 _ rfl hI (by decide) (by decide) (hbm 2 (by decide)) dX1_pay_56 ?_
      refine zn_min hx hb (hml.trans hl.1.symm) hown (hts (.methodLink RX1 37 Lib.Math.min.name) (by decide +kernel)) (hts (.static Lib.Math.min.name) (by decide +kernel)) (hts (.initialized "java/lang/Math") (by decide +kernel)) (hts (.code Lib.Math.min.name Lib.Math.min.code 2 (some .int)) (by decide +kernel)) (Nat.le_of_ble_eq_true rfl) (Nat.le_of_ble_eq_true rfl) (Nat.le_of_ble_eq_true rfl) (Nat.le_of_ble_eq_true rfl) (by omega) (by omega) dX1_pay_57 ?_
      obtain ⟨o2, ho2⟩ : ∃ z, z = min (jam - o3) (bm 2) := ⟨_, rfl⟩
      rw [← ho2]
      refine lv_istore (lv' := [(6, .int (nI o2)), (5, .int (nI 2)), (4, .int (nI (0 + (o3 * (w 3))))), (3, .int (nI (jam - o3))), (0, .ref g), (1, .int x), (2, .int (nI jam))]) hx hb dX1_pay_60 hl (by decide) rfl (fun ls hl => ?_)
      refine lv_aload_n hx hb dX1_pay_62 rfl (lv_at hl 4 rfl) ?_
      refine va_get (D := D) (ci := 1) (v := .ref g2) (C := RX1) (T := TX1) (N := 7) hx hb hts (inX1_pay) hown hK hP 0 rfl rfl 1 (by decide) (hts (.fieldLink RX1 13 "NoteMixModel" "notes" "[I") (by decide +kernel)) (fun _ h9 => h9) rfl dX1_pay_63 ?_
      refine lv_iload hx hb dX1_pay_66 (lv_at hl 1 rfl) ?_
      refine lv_dup2_11 hx hb dX1_pay_68 rfl rfl ?_
      refine zn_iald (k := 2) hx hb hK hP 2 _ rfl hI (by decide) (by decide) (by rw [nf3n 2 (by decide), ok.2.1 2 (by decide)]) dX1_pay_69 ?_
      refine lv_iload hx hb dX1_pay_70 (lv_at hl 0 rfl) ?_
      refine zn_sub hx hb (by omega) dX1_pay_72 ?_
      refine zn_iast (k := 2) hx hb hK hP hD hS 2 _ rfl hI (by decide) (by decide) dX1_pay_73 (fun H locs nf2 nf2e nf2n hP hD hS => ?_)
      have hP : va_P D vwCl (mdW cI cZ g g1 g2 g3 g4 wf nf2 cf kf fw mx (nI 0) fr) H := hP
      have hD : va_D A (mdW cI cZ g g1 g2 g3 g4 wf nf2 cf kf fw mx (nI 0) fr) := hD
      refine lv_iload_n hx hb dX1_pay_74 rfl (lv_at hl 3 rfl) ?_
      refine lv_iload hx hb dX1_pay_75 (lv_at hl 0 rfl) ?_
      refine zn_sub hx hb (by omega) dX1_pay_77 ?_
      refine lv_istore_n (lv' := [(3, .int (nI ((jam - o3) - o2))), (6, .int (nI o2)), (5, .int (nI 2)), (4, .int (nI (0 + (o3 * (w 3))))), (0, .ref g), (1, .int x), (2, .int (nI jam))]) hx hb dX1_pay_78 rfl hl (by decide) rfl (fun ls hl => ?_)
      refine lv_iload hx hb dX1_pay_79 (lv_at hl 3 rfl) ?_
      refine lv_iload hx hb dX1_pay_81 (lv_at hl 1 rfl) ?_
      refine lv_aload_n hx hb dX1_pay_83 rfl (lv_at hl 4 rfl) ?_
      refine va_get (D := D) (ci := 1) (v := .ref g1) (C := RX1) (T := TX1) (N := 7) hx hb hts (inX1_pay) hown hK hP 0 rfl rfl 0 (by decide) (hts (.fieldLink RX1 7 "NoteMixModel" "worth" "[I") (by decide +kernel)) (fun _ h9 => h9) rfl dX1_pay_84 ?_
      refine lv_iload hx hb dX1_pay_87 (lv_at hl 2 rfl) ?_
      refine zn_iald (k := 2) hx hb hK hP 1 _ rfl hI (by decide) (by decide) (ok.1 2 (by omega)) dX1_pay_89 ?_
      refine zn_mul hx hb dX1_pay_90 ?_
      refine zn_add hx hb dX1_pay_91 ?_
      refine lv_istore (lv' := [(4, .int (nI ((0 + (o3 * (w 3))) + (o2 * (w 2))))), (3, .int (nI ((jam - o3) - o2))), (6, .int (nI o2)), (5, .int (nI 2)), (0, .ref g), (1, .int x), (2, .int (nI jam))]) hx hb dX1_pay_92 hl (by decide) rfl (fun ls hl => ?_)
      refine lv_iinc (k := 3) (lv' := [(5, .int (nI 1)), (4, .int (nI ((0 + (o3 * (w 3))) + (o2 * (w 2))))), (3, .int (nI ((jam - o3) - o2))), (6, .int (nI o2)), (0, .ref g), (1, .int x), (2, .int (nI jam))]) hx hb dX1_pay_94 hl rfl (zz_d1 1) (by decide) rfl (fun ls hl => ?_)
      refine lv_goto hx hb dX1_pay_97 rfl ?_
      refine lv_iload hx hb dX1_pay_44 (lv_at hl 0 rfl) ?_
      refine lv_if_lt hx hb dX1_pay_46 rfl (fun hc => absurd hc (nI_pos (by decide))) (fun _ => ?_)
      refine lv_iload_n hx hb dX1_pay_49 rfl (lv_at hl 2 rfl) ?_
      refine lv_aload_n hx hb dX1_pay_50 rfl (lv_at hl 4 rfl) ?_
      refine va_get (D := D) (ci := 1) (v := .ref g3) (C := RX1) (T := TX1) (N := 7) hx hb hts (inX1_pay) hown hK hP 0 rfl rfl 2 (by decide) (hts (.fieldLink RX1 16 "NoteMixModel" "chosen" "[I") (by decide +kernel)) (fun _ h9 => h9) rfl dX1_pay_51 ?_
      refine lv_iload hx hb dX1_pay_54 (lv_at hl 0 rfl) ?_
      refine zn_iald (k := 1) hx hb hK hP 3 _ rfl hI (by decide) (by decide) (hbm 1 (by decide)) dX1_pay_56 ?_
      refine zn_min hx hb (hml.trans hl.1.symm) hown (hts (.methodLink RX1 37 Lib.Math.min.name) (by decide +kernel)) (hts (.static Lib.Math.min.name) (by decide +kernel)) (hts (.initialized "java/lang/Math") (by decide +kernel)) (hts (.code Lib.Math.min.name Lib.Math.min.code 2 (some .int)) (by decide +kernel)) (Nat.le_of_ble_eq_true rfl) (Nat.le_of_ble_eq_true rfl) (Nat.le_of_ble_eq_true rfl) (Nat.le_of_ble_eq_true rfl) (by omega) (by omega) dX1_pay_57 ?_
      obtain ⟨o1, ho1⟩ : ∃ z, z = min ((jam - o3) - o2) (bm 1) := ⟨_, rfl⟩
      rw [← ho1]
      refine lv_istore (lv' := [(6, .int (nI o1)), (5, .int (nI 1)), (4, .int (nI ((0 + (o3 * (w 3))) + (o2 * (w 2))))), (3, .int (nI ((jam - o3) - o2))), (0, .ref g), (1, .int x), (2, .int (nI jam))]) hx hb dX1_pay_60 hl (by decide) rfl (fun ls hl => ?_)
      refine lv_aload_n hx hb dX1_pay_62 rfl (lv_at hl 4 rfl) ?_
      refine va_get (D := D) (ci := 1) (v := .ref g2) (C := RX1) (T := TX1) (N := 7) hx hb hts (inX1_pay) hown hK hP 0 rfl rfl 1 (by decide) (hts (.fieldLink RX1 13 "NoteMixModel" "notes" "[I") (by decide +kernel)) (fun _ h9 => h9) rfl dX1_pay_63 ?_
      refine lv_iload hx hb dX1_pay_66 (lv_at hl 1 rfl) ?_
      refine lv_dup2_11 hx hb dX1_pay_68 rfl rfl ?_
      refine zn_iald (k := 1) hx hb hK hP 2 _ rfl hI (by decide) (by decide) (by rw [nf2n 1 (by decide), nf3n 1 (by decide), ok.2.1 1 (by decide)]) dX1_pay_69 ?_
      refine lv_iload hx hb dX1_pay_70 (lv_at hl 0 rfl) ?_
      refine zn_sub hx hb (by omega) dX1_pay_72 ?_
      refine zn_iast (k := 1) hx hb hK hP hD hS 2 _ rfl hI (by decide) (by decide) dX1_pay_73 (fun H locs nf1 nf1e nf1n hP hD hS => ?_)
      have hP : va_P D vwCl (mdW cI cZ g g1 g2 g3 g4 wf nf1 cf kf fw mx (nI 0) fr) H := hP
      have hD : va_D A (mdW cI cZ g g1 g2 g3 g4 wf nf1 cf kf fw mx (nI 0) fr) := hD
      refine lv_iload_n hx hb dX1_pay_74 rfl (lv_at hl 3 rfl) ?_
      refine lv_iload hx hb dX1_pay_75 (lv_at hl 0 rfl) ?_
      refine zn_sub hx hb (by omega) dX1_pay_77 ?_
      refine lv_istore_n (lv' := [(3, .int (nI (((jam - o3) - o2) - o1))), (6, .int (nI o1)), (5, .int (nI 1)), (4, .int (nI ((0 + (o3 * (w 3))) + (o2 * (w 2))))), (0, .ref g), (1, .int x), (2, .int (nI jam))]) hx hb dX1_pay_78 rfl hl (by decide) rfl (fun ls hl => ?_)
      refine lv_iload hx hb dX1_pay_79 (lv_at hl 3 rfl) ?_
      refine lv_iload hx hb dX1_pay_81 (lv_at hl 1 rfl) ?_
      refine lv_aload_n hx hb dX1_pay_83 rfl (lv_at hl 4 rfl) ?_
      refine va_get (D := D) (ci := 1) (v := .ref g1) (C := RX1) (T := TX1) (N := 7) hx hb hts (inX1_pay) hown hK hP 0 rfl rfl 0 (by decide) (hts (.fieldLink RX1 7 "NoteMixModel" "worth" "[I") (by decide +kernel)) (fun _ h9 => h9) rfl dX1_pay_84 ?_
      refine lv_iload hx hb dX1_pay_87 (lv_at hl 2 rfl) ?_
      refine zn_iald (k := 1) hx hb hK hP 1 _ rfl hI (by decide) (by decide) (ok.1 1 (by omega)) dX1_pay_89 ?_
      refine zn_mul hx hb dX1_pay_90 ?_
      refine zn_add hx hb dX1_pay_91 ?_
      refine lv_istore (lv' := [(4, .int (nI (((0 + (o3 * (w 3))) + (o2 * (w 2))) + (o1 * (w 1))))), (3, .int (nI (((jam - o3) - o2) - o1))), (6, .int (nI o1)), (5, .int (nI 1)), (0, .ref g), (1, .int x), (2, .int (nI jam))]) hx hb dX1_pay_92 hl (by decide) rfl (fun ls hl => ?_)
      refine lv_iinc (k := 3) (lv' := [(5, .int (nI 0)), (4, .int (nI (((0 + (o3 * (w 3))) + (o2 * (w 2))) + (o1 * (w 1))))), (3, .int (nI (((jam - o3) - o2) - o1))), (6, .int (nI o1)), (0, .ref g), (1, .int x), (2, .int (nI jam))]) hx hb dX1_pay_94 hl rfl (zz_d1 0) (by decide) rfl (fun ls hl => ?_)
      refine lv_goto hx hb dX1_pay_97 rfl ?_
      refine lv_iload hx hb dX1_pay_44 (lv_at hl 0 rfl) ?_
      refine lv_if_lt hx hb dX1_pay_46 rfl (fun hc => absurd hc (nI_pos (by decide))) (fun _ => ?_)
      refine lv_iload_n hx hb dX1_pay_49 rfl (lv_at hl 2 rfl) ?_
      refine lv_aload_n hx hb dX1_pay_50 rfl (lv_at hl 4 rfl) ?_
      refine va_get (D := D) (ci := 1) (v := .ref g3) (C := RX1) (T := TX1) (N := 7) hx hb hts (inX1_pay) hown hK hP 0 rfl rfl 2 (by decide) (hts (.fieldLink RX1 16 "NoteMixModel" "chosen" "[I") (by decide +kernel)) (fun _ h9 => h9) rfl dX1_pay_51 ?_
      refine lv_iload hx hb dX1_pay_54 (lv_at hl 0 rfl) ?_
      refine zn_iald (k := 0) hx hb hK hP 3 _ rfl hI (by decide) (by decide) (hbm 0 (by decide)) dX1_pay_56 ?_
      refine zn_min hx hb (hml.trans hl.1.symm) hown (hts (.methodLink RX1 37 Lib.Math.min.name) (by decide +kernel)) (hts (.static Lib.Math.min.name) (by decide +kernel)) (hts (.initialized "java/lang/Math") (by decide +kernel)) (hts (.code Lib.Math.min.name Lib.Math.min.code 2 (some .int)) (by decide +kernel)) (Nat.le_of_ble_eq_true rfl) (Nat.le_of_ble_eq_true rfl) (Nat.le_of_ble_eq_true rfl) (Nat.le_of_ble_eq_true rfl) (by omega) (by omega) dX1_pay_57 ?_
      obtain ⟨o0, ho0⟩ : ∃ z, z = min (((jam - o3) - o2) - o1) (bm 0) := ⟨_, rfl⟩
      rw [← ho0]
      refine lv_istore (lv' := [(6, .int (nI o0)), (5, .int (nI 0)), (4, .int (nI (((0 + (o3 * (w 3))) + (o2 * (w 2))) + (o1 * (w 1))))), (3, .int (nI (((jam - o3) - o2) - o1))), (0, .ref g), (1, .int x), (2, .int (nI jam))]) hx hb dX1_pay_60 hl (by decide) rfl (fun ls hl => ?_)
      refine lv_aload_n hx hb dX1_pay_62 rfl (lv_at hl 4 rfl) ?_
      refine va_get (D := D) (ci := 1) (v := .ref g2) (C := RX1) (T := TX1) (N := 7) hx hb hts (inX1_pay) hown hK hP 0 rfl rfl 1 (by decide) (hts (.fieldLink RX1 13 "NoteMixModel" "notes" "[I") (by decide +kernel)) (fun _ h9 => h9) rfl dX1_pay_63 ?_
      refine lv_iload hx hb dX1_pay_66 (lv_at hl 1 rfl) ?_
      refine lv_dup2_11 hx hb dX1_pay_68 rfl rfl ?_
      refine zn_iald (k := 0) hx hb hK hP 2 _ rfl hI (by decide) (by decide) (by rw [nf1n 0 (by decide), nf2n 0 (by decide), nf3n 0 (by decide), ok.2.1 0 (by decide)]) dX1_pay_69 ?_
      refine lv_iload hx hb dX1_pay_70 (lv_at hl 0 rfl) ?_
      refine zn_sub hx hb (by omega) dX1_pay_72 ?_
      refine zn_iast (k := 0) hx hb hK hP hD hS 2 _ rfl hI (by decide) (by decide) dX1_pay_73 (fun H locs nf0 nf0e nf0n hP hD hS => ?_)
      have hP : va_P D vwCl (mdW cI cZ g g1 g2 g3 g4 wf nf0 cf kf fw mx (nI 0) fr) H := hP
      have hD : va_D A (mdW cI cZ g g1 g2 g3 g4 wf nf0 cf kf fw mx (nI 0) fr) := hD
      refine lv_iload_n hx hb dX1_pay_74 rfl (lv_at hl 3 rfl) ?_
      refine lv_iload hx hb dX1_pay_75 (lv_at hl 0 rfl) ?_
      refine zn_sub hx hb (by omega) dX1_pay_77 ?_
      refine lv_istore_n (lv' := [(3, .int (nI ((((jam - o3) - o2) - o1) - o0))), (6, .int (nI o0)), (5, .int (nI 0)), (4, .int (nI (((0 + (o3 * (w 3))) + (o2 * (w 2))) + (o1 * (w 1))))), (0, .ref g), (1, .int x), (2, .int (nI jam))]) hx hb dX1_pay_78 rfl hl (by decide) rfl (fun ls hl => ?_)
      refine lv_iload hx hb dX1_pay_79 (lv_at hl 3 rfl) ?_
      refine lv_iload hx hb dX1_pay_81 (lv_at hl 1 rfl) ?_
      refine lv_aload_n hx hb dX1_pay_83 rfl (lv_at hl 4 rfl) ?_
      refine va_get (D := D) (ci := 1) (v := .ref g1) (C := RX1) (T := TX1) (N := 7) hx hb hts (inX1_pay) hown hK hP 0 rfl rfl 0 (by decide) (hts (.fieldLink RX1 7 "NoteMixModel" "worth" "[I") (by decide +kernel)) (fun _ h9 => h9) rfl dX1_pay_84 ?_
      refine lv_iload hx hb dX1_pay_87 (lv_at hl 2 rfl) ?_
      refine zn_iald (k := 0) hx hb hK hP 1 _ rfl hI (by decide) (by decide) (ok.1 0 (by omega)) dX1_pay_89 ?_
      refine zn_mul hx hb dX1_pay_90 ?_
      refine zn_add hx hb dX1_pay_91 ?_
      refine lv_istore (lv' := [(4, .int (nI ((((0 + (o3 * (w 3))) + (o2 * (w 2))) + (o1 * (w 1))) + (o0 * (w 0))))), (3, .int (nI ((((jam - o3) - o2) - o1) - o0))), (6, .int (nI o0)), (5, .int (nI 0)), (0, .ref g), (1, .int x), (2, .int (nI jam))]) hx hb dX1_pay_92 hl (by decide) rfl (fun ls hl => ?_)
      refine lv_iinc (k := 3) (lv' := [(5, .int (-1)), (4, .int (nI ((((0 + (o3 * (w 3))) + (o2 * (w 2))) + (o1 * (w 1))) + (o0 * (w 0))))), (3, .int (nI ((((jam - o3) - o2) - o1) - o0))), (6, .int (nI o0)), (0, .ref g), (1, .int x), (2, .int (nI jam))]) hx hb dX1_pay_94 hl rfl (by decide +kernel) (by decide) rfl (fun ls hl => ?_)
      refine lv_goto hx hb dX1_pay_97 rfl ?_
      refine lv_iload hx hb dX1_pay_44 (lv_at hl 0 rfl) ?_
      refine lv_if_lt hx hb dX1_pay_46 rfl (fun _ => ?_) (fun hc => absurd (by decide +kernel) hc)
      refine lv_iload hx hb dX1_pay_100 (lv_at hl 1 rfl) ?_
      exact zz_iret F hr hlocks hK hS dX1_pay_102 (by decide) (by decide) (nf0, cf, fw, mx, nI 0) (Or.inl ⟨rfl, v, jam, hv, hj, hx9, rfl, bm, o3, o2, o1, o0, hB, ho3.trans (Nat.min_comm _ _), ho2.trans (Nat.min_comm _ _), ho1.trans (Nat.min_comm _ _), ho0.trans (Nat.min_comm _ _), rfl, (by show nf0 0 = nI _; rw [nf0e]), (by show nf0 1 = nI _; rw [nf0n 1 (by decide), nf1e]), (by show nf0 2 = nI _; rw [nf0n 2 (by decide), nf1n 2 (by decide), nf2e]), (by show nf0 3 = nI _; rw [nf0n 3 (by decide), nf1n 3 (by decide), nf2n 3 (by decide), nf3e])⟩) hP hD
    · refine zn_if_ne hx hb (by decide) dX1_pay_31 rfl (fun hc => absurd hc (by decide)) (fun _ => ?_)
      refine lv_iconst (v := nI 0) hx hb dX1_pay_34 (by decide +kernel) ?_
      exact zz_iret F hr hlocks hK hS dX1_pay_35 (by decide) (by decide) (nf, cf, fw, mx, nI 1) (Or.inr (Or.inl ⟨rfl, (fun q => hz q.2), rfl⟩)) hP hD
    · refine zn_if_ne hx hb (by decide) dX1_pay_31 rfl (fun hc => absurd hc (by decide)) (fun _ => ?_)
      refine lv_iconst (v := nI 0) hx hb dX1_pay_34 (by decide +kernel) ?_
      exact zz_iret F hr hlocks hK hS dX1_pay_35 (by decide) (by decide) (nf, cf, fw, mx, nI 2) (Or.inr (Or.inr ⟨rfl, rfl, hz0, v, hv, hx9, hno⟩)) hP hD
  · refine lv_aload_n hx hb dX1_pay_0 rfl (lv_at hl 0 rfl) ?_
    refine lv_iload_n hx hb dX1_pay_1 rfl (lv_at hl 2 rfl) ?_
    refine lv_iconst (v := nI 0) hx hb dX1_pay_2 (by decide +kernel) ?_
    refine lv_bipush (v := nI 40) hx hb dX1_pay_3 (by decide +kernel) ?_
    refine zz_callSi (As := [.int y, .int (nI 0), .int (nI 40)]) (rest := [.ref g]) F hK hP hD hS hA (c1_in_bad l D tys _ _ y 0 40 hz (by decide) (by decide)) (va_cwS 3 hts gX1_pay_X1_in_ rfl rfl rfl (by decide +kernel) ⟨Nat.le_of_ble_eq_true rfl, Nat.le_of_ble_eq_true rfl⟩) rfl hl.1 rfl (Nat.le_of_ble_eq_true rfl) dX1_pay_5 ⟨Nat.le_of_ble_eq_true rfl, Nat.le_of_ble_eq_true rfl⟩ (fun rr _ H locs er hP hD hS => ?_)
    try dsimp only at er
    subst er
    have hP : va_P D vwCl (mdW cI cZ g g1 g2 g3 g4 wf nf cf kf fw mx th fr) H := hP
    have hD : va_D A (mdW cI cZ g g1 g2 g3 g4 wf nf cf kf fw mx th fr) := hD
    refine zn_if_eq hx hb (by decide) dX1_pay_8 rfl (fun _ => ?_) (fun hc => absurd hc (by decide))
    refine lv_iconst (v := nI 1) hx hb dX1_pay_15 (by decide +kernel) ?_
    refine va_put (D := D) (ci := 1) (v := .int (nI 1)) (ty := .int) (C := RX1) (T := TX1) (N := 7) hx hb hts (inX1_pay) tyX1 tyX1_ok nmX1 hown hK hP hD hS 0 rfl rfl 6 (by decide) (hts (.fieldLink RX1 23 "NoteMixModel" "thrown" "I") (by decide +kernel)) (fun _ h9 => h9) rfl (by decide +kernel) rfl rfl (Nat.le_of_ble_eq_true rfl) dX1_pay_16 (fun H locs hP hD hS => ?_)
    have hP : va_P D vwCl (mdW cI cZ g g1 g2 g3 g4 wf nf cf kf fw mx (nI 1) fr) H := hP
    have hD : va_D A (mdW cI cZ g g1 g2 g3 g4 wf nf cf kf fw mx (nI 1) fr) := hD
    refine lv_aload_n hx hb dX1_pay_19 rfl (lv_at hl 0 rfl) ?_
    refine va_get (D := D) (ci := 1) (v := .int (nI 1)) (C := RX1) (T := TX1) (N := 7) hx hb hts (inX1_pay) hown hK hP 0 rfl rfl 6 (by decide) (hts (.fieldLink RX1 23 "NoteMixModel" "thrown" "I") (by decide +kernel)) (fun _ h9 => h9) rfl dX1_pay_20 ?_
    refine lv_if_gt hx hb dX1_pay_23 rfl (fun _ => ?_) (fun hc => absurd (by decide +kernel) hc)
    refine lv_iconst (v := nI 0) hx hb dX1_pay_34 (by decide +kernel) ?_
    exact zz_iret F hr hlocks hK hS dX1_pay_35 (by decide) (by decide) (nf, cf, fw, mx, nI 1) (Or.inr (Or.inl ⟨rfl, (fun q => hz q.1), rfl⟩)) hP hD
end
section
theorem zz_cellI (n : Nat) (cA : ClassId) : vp_cell cA (n, .inl (fun _ => 0)) = arrV cA n (fun _ => defaultValue .int) := rfl
theorem zz_cellZ (n : Nat) (cA : ClassId) : vp_cell cA (n, .inl (fun _ => 0)) = arrV cA n (fun _ => defaultValue .boolean) := rfl
def nm_w0 : Nat → Nat := fun j => if j = 0 then 5 else if j = 1 then 10 else if j = 2 then 20 else 50
def nm_n0 : Nat → Nat := fun _ => 30
set_option maxRecDepth 100000 in
set_option maxHeartbeats 4000000 in
theorem inX0_init : ∀ w ∈ u_ws RX0 TX0 6, w ∈ wsX0_init := by decide +kernel
set_option maxRecDepth 100000 in
set_option maxHeartbeats 4000000 in
theorem c_init (l : Launch) (D : va_G) (tys : List (ClassId × FieldType)) (cI : ClassId) (hI : tys[0]? = some (cI, .int)) (h sz : Nat) : Met l yX0_init wsX0_init ({ frames := 1, cells := 4, slots := 2013, locals := 20 }) (va_Pc [.ref h] (zz_pre D tys [(h, .inr (0, [.null, .null, .null, .int 0, .int 0, .null]))] sz)) (va_Qv (fun (u : Nat × Nat × Nat × Nat × (Nat → Int32) × (Nat → Int32)) => nmOk u.2.2.2.2.1 u.2.2.2.2.2 nm_w0 nm_n0) (zz_B D tys (va_A [(h, .inr (0, [.null, .null, .null, .int 0, .int 0, .null]))] sz) (fun u => nmW cI h u.1 u.2.1 u.2.2.1 u.2.2.2.1 u.2.2.2.2.1 u.2.2.2.2.2 (fun _ => 0) (nI 0) (nI 0) (fun _ => 0) [])) (va_A [(h, .inr (0, [.null, .null, .null, .int 0, .int 0, .null]))] sz)) 4 2013 (va_A [(h, .inr (0, [.null, .null, .null, .int 0, .int 0, .null]))] sz) := by
  refine zz_headV (cc := cX0_init) (by decide) rfl (Nat.le_of_ble_eq_true rfl) ?_
  intro p e s m below meth cd A ls F hr hlocks hin hP hK hD hA hS hl
  obtain ⟨hx, hb, hml, hown, hts⟩ := id F
  have hl : lv_has ls 1 [(0, .ref h)] := hl
  have hin : meth.name = "<init>" := hin
  refine lv_aload_n hx hb dX0_init_0 rfl (lv_at hl 0 rfl) ?_
  refine W.objInit hx hb hown (hts (.methodLink RX0 3 objectInit) (by decide +kernel)) (hts (.instanceMethod objectInit) (by decide +kernel)) (hts (.code objectInit ⟨#[0xb1]⟩ 1 none) (by decide +kernel)) rfl (by rw [hml]; exact hl.1) rfl dX0_init_1 (Nat.le_of_ble_eq_true rfl) (Nat.le_of_ble_eq_true rfl) ?_
  refine W.eq (g2 := F0 m 4 ls []) rfl ?_
  refine lv_aload_n hx hb dX0_init_4 rfl (lv_at hl 0 rfl) ?_
  refine lv_iconst (v := nI 4) hx hb dX0_init_5 (by decide +kernel) ?_
  have hK0 := hK
  refine va_newa (atype := .int) (ty := .int) (N' := 4) (a0 := (4, .inl (fun _ => 0))) hx hb (hts (.arrayClass .int) (by decide +kernel)) rfl hK hP hD hS hA (fun cA => zz_cellI 4 cA) (by decide +kernel) (by decide +kernel) (by decide +kernel) (Nat.le_of_ble_eq_true rfl) (Nat.le_of_ble_eq_true rfl) dX0_init_6 (fun a1 cA H hK hP hD hS => ?_)
  have hcA := zz_arrI hK0 hI hK
  rw [hcA] at hP hD
  have hK := hK0
  have hP : va_P D vwCl ((h, .inr (0, [.null, .null, .null, .int 0, .int 0, .null])) :: (a1, .inl (cI, 4, .inl (fun _ => 0))) :: []) H := hP
  have hD : va_D A ((h, .inr (0, [.null, .null, .null, .int 0, .int 0, .null])) :: (a1, .inl (cI, 4, .inl (fun _ => 0))) :: []) := hD
  refine lv_dup hx hb dX0_init_8 rfl ?_
  refine lv_iconst (v := nI 0) hx hb dX0_init_9 (by decide +kernel) ?_
  refine lv_iconst (v := nI 5) hx hb dX0_init_10 (by decide +kernel) ?_
  refine zn_iast (k := 0) hx hb hK hP hD hS 1 _ rfl hI (by decide) (by decide) dX0_init_11 (fun H locs wf1 wf1e wf1n hP hD hS => ?_)
  have hP : va_P D vwCl ((h, .inr (0, [.null, .null, .null, .int 0, .int 0, .null])) :: (a1, .inl (cI, 4, .inl wf1)) :: []) H := hP
  have hD : va_D A ((h, .inr (0, [.null, .null, .null, .int 0, .int 0, .null])) :: (a1, .inl (cI, 4, .inl wf1)) :: []) := hD
  refine lv_dup hx hb dX0_init_12 rfl ?_
  refine lv_iconst (v := nI 1) hx hb dX0_init_13 (by decide +kernel) ?_
  refine lv_bipush (v := nI 10) hx hb dX0_init_14 (by decide +kernel) ?_
  refine zn_iast (k := 1) hx hb hK hP hD hS 1 _ rfl hI (by decide) (by decide) dX0_init_16 (fun H locs wf2 wf2e wf2n hP hD hS => ?_)
  have hP : va_P D vwCl ((h, .inr (0, [.null, .null, .null, .int 0, .int 0, .null])) :: (a1, .inl (cI, 4, .inl wf2)) :: []) H := hP
  have hD : va_D A ((h, .inr (0, [.null, .null, .null, .int 0, .int 0, .null])) :: (a1, .inl (cI, 4, .inl wf2)) :: []) := hD
  refine lv_dup hx hb dX0_init_17 rfl ?_
  refine lv_iconst (v := nI 2) hx hb dX0_init_18 (by decide +kernel) ?_
  refine lv_bipush (v := nI 20) hx hb dX0_init_19 (by decide +kernel) ?_
  refine zn_iast (k := 2) hx hb hK hP hD hS 1 _ rfl hI (by decide) (by decide) dX0_init_21 (fun H locs wf3 wf3e wf3n hP hD hS => ?_)
  have hP : va_P D vwCl ((h, .inr (0, [.null, .null, .null, .int 0, .int 0, .null])) :: (a1, .inl (cI, 4, .inl wf3)) :: []) H := hP
  have hD : va_D A ((h, .inr (0, [.null, .null, .null, .int 0, .int 0, .null])) :: (a1, .inl (cI, 4, .inl wf3)) :: []) := hD
  refine lv_dup hx hb dX0_init_22 rfl ?_
  refine lv_iconst (v := nI 3) hx hb dX0_init_23 (by decide +kernel) ?_
  refine lv_bipush (v := nI 50) hx hb dX0_init_24 (by decide +kernel) ?_
  refine zn_iast (k := 3) hx hb hK hP hD hS 1 _ rfl hI (by decide) (by decide) dX0_init_26 (fun H locs wf4 wf4e wf4n hP hD hS => ?_)
  have hP : va_P D vwCl ((h, .inr (0, [.null, .null, .null, .int 0, .int 0, .null])) :: (a1, .inl (cI, 4, .inl wf4)) :: []) H := hP
  have hD : va_D A ((h, .inr (0, [.null, .null, .null, .int 0, .int 0, .null])) :: (a1, .inl (cI, 4, .inl wf4)) :: []) := hD
  refine va_putF (D := D) (ci := 0) (v := .ref a1) (ty := .array .int) (C := RX0) (T := TX0) (N := 6) hx hb hts (inX0_init) tyX0 tyX0_ok nmX0 hown hK hP hD hS 0 rfl rfl 0 (by decide) (hts (.fieldLink RX0 9 "NoteMix" "worthOf" "[I") (by decide +kernel)) (fun _ h9 => h9) rfl hin rfl (by decide +kernel) rfl rfl (Nat.le_of_ble_eq_true rfl) dX0_init_27 (fun H locs hP hD hS => ?_)
  have hP : va_P D vwCl ((h, .inr (0, [.ref a1, .null, .null, .int 0, .int 0, .null])) :: (a1, .inl (cI, 4, .inl wf4)) :: []) H := hP
  have hD : va_D A ((h, .inr (0, [.ref a1, .null, .null, .int 0, .int 0, .null])) :: (a1, .inl (cI, 4, .inl wf4)) :: []) := hD
  refine lv_aload_n hx hb dX0_init_30 rfl (lv_at hl 0 rfl) ?_
  refine lv_iconst (v := nI 4) hx hb dX0_init_31 (by decide +kernel) ?_
  have hK0 := hK
  refine va_newa (atype := .int) (ty := .int) (N' := 4) (a0 := (4, .inl (fun _ => 0))) hx hb (hts (.arrayClass .int) (by decide +kernel)) rfl hK hP hD hS hA (fun cA => zz_cellI 4 cA) (by decide +kernel) (by decide +kernel) (by decide +kernel) (Nat.le_of_ble_eq_true rfl) (Nat.le_of_ble_eq_true rfl) dX0_init_32 (fun a2 cA H hK hP hD hS => ?_)
  have hcA := zz_arrI hK0 hI hK
  rw [hcA] at hP hD
  have hK := hK0
  have hP : va_P D vwCl ((h, .inr (0, [.ref a1, .null, .null, .int 0, .int 0, .null])) :: (a1, .inl (cI, 4, .inl wf4)) :: (a2, .inl (cI, 4, .inl (fun _ => 0))) :: []) H := hP
  have hD : va_D A ((h, .inr (0, [.ref a1, .null, .null, .int 0, .int 0, .null])) :: (a1, .inl (cI, 4, .inl wf4)) :: (a2, .inl (cI, 4, .inl (fun _ => 0))) :: []) := hD
  refine lv_dup hx hb dX0_init_34 rfl ?_
  refine lv_iconst (v := nI 0) hx hb dX0_init_35 (by decide +kernel) ?_
  refine lv_bipush (v := nI 30) hx hb dX0_init_36 (by decide +kernel) ?_
  refine zn_iast (k := 0) hx hb hK hP hD hS 2 _ rfl hI (by decide) (by decide) dX0_init_38 (fun H locs nf1 nf1e nf1n hP hD hS => ?_)
  have hP : va_P D vwCl ((h, .inr (0, [.ref a1, .null, .null, .int 0, .int 0, .null])) :: (a1, .inl (cI, 4, .inl wf4)) :: (a2, .inl (cI, 4, .inl nf1)) :: []) H := hP
  have hD : va_D A ((h, .inr (0, [.ref a1, .null, .null, .int 0, .int 0, .null])) :: (a1, .inl (cI, 4, .inl wf4)) :: (a2, .inl (cI, 4, .inl nf1)) :: []) := hD
  refine lv_dup hx hb dX0_init_39 rfl ?_
  refine lv_iconst (v := nI 1) hx hb dX0_init_40 (by decide +kernel) ?_
  refine lv_bipush (v := nI 30) hx hb dX0_init_41 (by decide +kernel) ?_
  refine zn_iast (k := 1) hx hb hK hP hD hS 2 _ rfl hI (by decide) (by decide) dX0_init_43 (fun H locs nf2 nf2e nf2n hP hD hS => ?_)
  have hP : va_P D vwCl ((h, .inr (0, [.ref a1, .null, .null, .int 0, .int 0, .null])) :: (a1, .inl (cI, 4, .inl wf4)) :: (a2, .inl (cI, 4, .inl nf2)) :: []) H := hP
  have hD : va_D A ((h, .inr (0, [.ref a1, .null, .null, .int 0, .int 0, .null])) :: (a1, .inl (cI, 4, .inl wf4)) :: (a2, .inl (cI, 4, .inl nf2)) :: []) := hD
  refine lv_dup hx hb dX0_init_44 rfl ?_
  refine lv_iconst (v := nI 2) hx hb dX0_init_45 (by decide +kernel) ?_
  refine lv_bipush (v := nI 30) hx hb dX0_init_46 (by decide +kernel) ?_
  refine zn_iast (k := 2) hx hb hK hP hD hS 2 _ rfl hI (by decide) (by decide) dX0_init_48 (fun H locs nf3 nf3e nf3n hP hD hS => ?_)
  have hP : va_P D vwCl ((h, .inr (0, [.ref a1, .null, .null, .int 0, .int 0, .null])) :: (a1, .inl (cI, 4, .inl wf4)) :: (a2, .inl (cI, 4, .inl nf3)) :: []) H := hP
  have hD : va_D A ((h, .inr (0, [.ref a1, .null, .null, .int 0, .int 0, .null])) :: (a1, .inl (cI, 4, .inl wf4)) :: (a2, .inl (cI, 4, .inl nf3)) :: []) := hD
  refine lv_dup hx hb dX0_init_49 rfl ?_
  refine lv_iconst (v := nI 3) hx hb dX0_init_50 (by decide +kernel) ?_
  refine lv_bipush (v := nI 30) hx hb dX0_init_51 (by decide +kernel) ?_
  refine zn_iast (k := 3) hx hb hK hP hD hS 2 _ rfl hI (by decide) (by decide) dX0_init_53 (fun H locs nf4 nf4e nf4n hP hD hS => ?_)
  have hP : va_P D vwCl ((h, .inr (0, [.ref a1, .null, .null, .int 0, .int 0, .null])) :: (a1, .inl (cI, 4, .inl wf4)) :: (a2, .inl (cI, 4, .inl nf4)) :: []) H := hP
  have hD : va_D A ((h, .inr (0, [.ref a1, .null, .null, .int 0, .int 0, .null])) :: (a1, .inl (cI, 4, .inl wf4)) :: (a2, .inl (cI, 4, .inl nf4)) :: []) := hD
  refine va_putF (D := D) (ci := 0) (v := .ref a2) (ty := .array .int) (C := RX0) (T := TX0) (N := 6) hx hb hts (inX0_init) tyX0 tyX0_ok nmX0 hown hK hP hD hS 0 rfl rfl 1 (by decide) (hts (.fieldLink RX0 13 "NoteMix" "notesIn" "[I") (by decide +kernel)) (fun _ h9 => h9) rfl hin rfl (by decide +kernel) rfl rfl (Nat.le_of_ble_eq_true rfl) dX0_init_54 (fun H locs hP hD hS => ?_)
  have hP : va_P D vwCl ((h, .inr (0, [.ref a1, .ref a2, .null, .int 0, .int 0, .null])) :: (a1, .inl (cI, 4, .inl wf4)) :: (a2, .inl (cI, 4, .inl nf4)) :: []) H := hP
  have hD : va_D A ((h, .inr (0, [.ref a1, .ref a2, .null, .int 0, .int 0, .null])) :: (a1, .inl (cI, 4, .inl wf4)) :: (a2, .inl (cI, 4, .inl nf4)) :: []) := hD
  refine lv_aload_n hx hb dX0_init_57 rfl (lv_at hl 0 rfl) ?_
  refine lv_iconst (v := nI 4) hx hb dX0_init_58 (by decide +kernel) ?_
  have hK0 := hK
  refine va_newa (atype := .int) (ty := .int) (N' := 4) (a0 := (4, .inl (fun _ => 0))) hx hb (hts (.arrayClass .int) (by decide +kernel)) rfl hK hP hD hS hA (fun cA => zz_cellI 4 cA) (by decide +kernel) (by decide +kernel) (by decide +kernel) (Nat.le_of_ble_eq_true rfl) (Nat.le_of_ble_eq_true rfl) dX0_init_59 (fun a3 cA H hK hP hD hS => ?_)
  have hcA := zz_arrI hK0 hI hK
  rw [hcA] at hP hD
  have hK := hK0
  have hP : va_P D vwCl ((h, .inr (0, [.ref a1, .ref a2, .null, .int 0, .int 0, .null])) :: (a1, .inl (cI, 4, .inl wf4)) :: (a2, .inl (cI, 4, .inl nf4)) :: (a3, .inl (cI, 4, .inl (fun _ => 0))) :: []) H := hP
  have hD : va_D A ((h, .inr (0, [.ref a1, .ref a2, .null, .int 0, .int 0, .null])) :: (a1, .inl (cI, 4, .inl wf4)) :: (a2, .inl (cI, 4, .inl nf4)) :: (a3, .inl (cI, 4, .inl (fun _ => 0))) :: []) := hD
  refine va_putF (D := D) (ci := 0) (v := .ref a3) (ty := .array .int) (C := RX0) (T := TX0) (N := 6) hx hb hts (inX0_init) tyX0 tyX0_ok nmX0 hown hK hP hD hS 0 rfl rfl 2 (by decide) (hts (.fieldLink RX0 16 "NoteMix" "bestMix" "[I") (by decide +kernel)) (fun _ h9 => h9) rfl hin rfl (by decide +kernel) rfl rfl (Nat.le_of_ble_eq_true rfl) dX0_init_61 (fun H locs hP hD hS => ?_)
  have hP : va_P D vwCl ((h, .inr (0, [.ref a1, .ref a2, .ref a3, .int 0, .int 0, .null])) :: (a1, .inl (cI, 4, .inl wf4)) :: (a2, .inl (cI, 4, .inl nf4)) :: (a3, .inl (cI, 4, .inl (fun _ => 0))) :: []) H := hP
  have hD : va_D A ((h, .inr (0, [.ref a1, .ref a2, .ref a3, .int 0, .int 0, .null])) :: (a1, .inl (cI, 4, .inl wf4)) :: (a2, .inl (cI, 4, .inl nf4)) :: (a3, .inl (cI, 4, .inl (fun _ => 0))) :: []) := hD
  refine lv_aload_n hx hb dX0_init_64 rfl (lv_at hl 0 rfl) ?_
  refine lv_iconst (v := nI 0) hx hb dX0_init_65 (by decide +kernel) ?_
  refine va_put (D := D) (ci := 0) (v := .int (nI 0)) (ty := .int) (C := RX0) (T := TX0) (N := 6) hx hb hts (inX0_init) tyX0 tyX0_ok nmX0 hown hK hP hD hS 0 rfl rfl 3 (by decide) (hts (.fieldLink RX0 19 "NoteMix" "bestSize" "I") (by decide +kernel)) (fun _ h9 => h9) rfl (by decide +kernel) rfl rfl (Nat.le_of_ble_eq_true rfl) dX0_init_66 (fun H locs hP hD hS => ?_)
  have hP : va_P D vwCl ((h, .inr (0, [.ref a1, .ref a2, .ref a3, .int (nI 0), .int 0, .null])) :: (a1, .inl (cI, 4, .inl wf4)) :: (a2, .inl (cI, 4, .inl nf4)) :: (a3, .inl (cI, 4, .inl (fun _ => 0))) :: []) H := hP
  have hD : va_D A ((h, .inr (0, [.ref a1, .ref a2, .ref a3, .int (nI 0), .int 0, .null])) :: (a1, .inl (cI, 4, .inl wf4)) :: (a2, .inl (cI, 4, .inl nf4)) :: (a3, .inl (cI, 4, .inl (fun _ => 0))) :: []) := hD
  refine lv_aload_n hx hb dX0_init_69 rfl (lv_at hl 0 rfl) ?_
  refine lv_iconst (v := nI 0) hx hb dX0_init_70 (by decide +kernel) ?_
  refine va_put (D := D) (ci := 0) (v := .int (nI 0)) (ty := .int) (C := RX0) (T := TX0) (N := 6) hx hb hts (inX0_init) tyX0 tyX0_ok nmX0 hown hK hP hD hS 0 rfl rfl 4 (by decide) (hts (.fieldLink RX0 23 "NoteMix" "mixCount" "I") (by decide +kernel)) (fun _ h9 => h9) rfl (by decide +kernel) rfl rfl (Nat.le_of_ble_eq_true rfl) dX0_init_71 (fun H locs hP hD hS => ?_)
  have hP : va_P D vwCl ((h, .inr (0, [.ref a1, .ref a2, .ref a3, .int (nI 0), .int (nI 0), .null])) :: (a1, .inl (cI, 4, .inl wf4)) :: (a2, .inl (cI, 4, .inl nf4)) :: (a3, .inl (cI, 4, .inl (fun _ => 0))) :: []) H := hP
  have hD : va_D A ((h, .inr (0, [.ref a1, .ref a2, .ref a3, .int (nI 0), .int (nI 0), .null])) :: (a1, .inl (cI, 4, .inl wf4)) :: (a2, .inl (cI, 4, .inl nf4)) :: (a3, .inl (cI, 4, .inl (fun _ => 0))) :: []) := hD
  refine lv_aload_n hx hb dX0_init_74 rfl (lv_at hl 0 rfl) ?_
  refine lv_sipush (v := nI 2001) hx hb dX0_init_75 (by decide +kernel) ?_
  have hK0 := hK
  refine va_newa (atype := .int) (ty := .int) (N' := 2001) (a0 := (2001, .inl (fun _ => 0))) hx hb (hts (.arrayClass .int) (by decide +kernel)) rfl hK hP hD hS hA (fun cA => zz_cellI 2001 cA) (by decide +kernel) (by decide +kernel) (by decide +kernel) (Nat.le_of_ble_eq_true rfl) (Nat.le_of_ble_eq_true rfl) dX0_init_78 (fun a4 cA H hK hP hD hS => ?_)
  have hcA := zz_arrI hK0 hI hK
  rw [hcA] at hP hD
  have hK := hK0
  have hP : va_P D vwCl ((h, .inr (0, [.ref a1, .ref a2, .ref a3, .int (nI 0), .int (nI 0), .null])) :: (a1, .inl (cI, 4, .inl wf4)) :: (a2, .inl (cI, 4, .inl nf4)) :: (a3, .inl (cI, 4, .inl (fun _ => 0))) :: (a4, .inl (cI, 2001, .inl (fun _ => 0))) :: []) H := hP
  have hD : va_D A ((h, .inr (0, [.ref a1, .ref a2, .ref a3, .int (nI 0), .int (nI 0), .null])) :: (a1, .inl (cI, 4, .inl wf4)) :: (a2, .inl (cI, 4, .inl nf4)) :: (a3, .inl (cI, 4, .inl (fun _ => 0))) :: (a4, .inl (cI, 2001, .inl (fun _ => 0))) :: []) := hD
  refine va_putF (D := D) (ci := 0) (v := .ref a4) (ty := .array .int) (C := RX0) (T := TX0) (N := 6) hx hb hts (inX0_init) tyX0 tyX0_ok nmX0 hown hK hP hD hS 0 rfl rfl 5 (by decide) (hts (.fieldLink RX0 26 "NoteMix" "fewest" "[I") (by decide +kernel)) (fun _ h9 => h9) rfl hin rfl (by decide +kernel) rfl rfl (Nat.le_of_ble_eq_true rfl) dX0_init_80 (fun H locs hP hD hS => ?_)
  have hP : va_P D vwCl ((h, .inr (0, [.ref a1, .ref a2, .ref a3, .int (nI 0), .int (nI 0), .ref a4])) :: (a1, .inl (cI, 4, .inl wf4)) :: (a2, .inl (cI, 4, .inl nf4)) :: (a3, .inl (cI, 4, .inl (fun _ => 0))) :: (a4, .inl (cI, 2001, .inl (fun _ => 0))) :: []) H := hP
  have hD : va_D A ((h, .inr (0, [.ref a1, .ref a2, .ref a3, .int (nI 0), .int (nI 0), .ref a4])) :: (a1, .inl (cI, 4, .inl wf4)) :: (a2, .inl (cI, 4, .inl nf4)) :: (a3, .inl (cI, 4, .inl (fun _ => 0))) :: (a4, .inl (cI, 2001, .inl (fun _ => 0))) :: []) := hD
  refine zz_vret F hr hlocks hK hS dX0_init_83 (Nat.le_of_ble_eq_true rfl) (Nat.le_of_ble_eq_true rfl) (a1, a2, a3, a4, wf4, nf4) ⟨fun j hj => ?_, fun j hj => ?_, fun j hj => ?_⟩ hP hD
  · rcases (show j = 0 ∨ j = 1 ∨ j = 2 ∨ j = 3 by omega) with rfl | rfl | rfl | rfl
    · exact ((by rw [wf4n 0 (by decide), wf3n 0 (by decide), wf2n 0 (by decide), wf1e]) : wf4 0 = nI 5)
    · exact ((by rw [wf4n 1 (by decide), wf3n 1 (by decide), wf2e]) : wf4 1 = nI 10)
    · exact ((by rw [wf4n 2 (by decide), wf3e]) : wf4 2 = nI 20)
    · exact ((by rw [wf4e]) : wf4 3 = nI 50)
  · rcases (show j = 0 ∨ j = 1 ∨ j = 2 ∨ j = 3 by omega) with rfl | rfl | rfl | rfl
    · exact ((by rw [nf4n 0 (by decide), nf3n 0 (by decide), nf2n 0 (by decide), nf1e]) : nf4 0 = nI 30)
    · exact ((by rw [nf4n 1 (by decide), nf3n 1 (by decide), nf2e]) : nf4 1 = nI 30)
    · exact ((by rw [nf4n 2 (by decide), nf3e]) : nf4 2 = nI 30)
    · exact ((by rw [nf4e]) : nf4 3 = nI 30)
  · rcases (show j = 0 ∨ j = 1 ∨ j = 2 ∨ j = 3 by omega) with rfl | rfl | rfl | rfl <;> exact ⟨by decide, by decide, by decide⟩
end
section
/-! what the reference's all() has marked -/
def md_P (w n : Nat → Nat) (K j : Nat) : Prop := ∃ a b c d, mx_M w n j a b c d ∧ mx_k b c d < K
def md_C (w n : Nat → Nat) (K : Nat) (kf : Nat → Int32) : Prop := ∀ j, j ≤ 2000 → (kf j = nI 1 ∧ md_P w n K j) ∨ (kf j = nI 0 ∧ ¬ md_P w n K j)
def md_X (w n : Nat → Nat) (b c d x : Nat) (kf : Nat → Int32) : Prop := ∀ j, j ≤ 2000 → (kf j = nI 1 ∧ (md_P w n (mx_k b c d) j ∨ ∃ y, y < x ∧ mx_M w n j y b c d)) ∨ (kf j = nI 0 ∧ ¬ (md_P w n (mx_k b c d) j ∨ ∃ y, y < x ∧ mx_M w n j y b c d))
theorem md_C0 {w n : Nat → Nat} {kf : Nat → Int32} (h : ∀ j, j ≤ 2000 → kf j = nI 0) : md_C w n 0 kf := fun j hj => Or.inr ⟨h j hj, fun ⟨_, _, _, _, _, h9⟩ => absurd h9 (Nat.not_lt_zero _)⟩
theorem md_Cskip {w n : Nat → Nat} {kf : Nat → Int32} {K K' : Nat} (h : md_C w n K kf) (hK : K ≤ K') (hs : ∀ v a b c d, mx_M w n v a b c d → ¬ (K ≤ mx_k b c d ∧ mx_k b c d < K')) : md_C w n K' kf := by
  intro j hj
  have e : md_P w n K' j ↔ md_P w n K j := ⟨fun ⟨a, b, c, d, hm, hk⟩ => ⟨a, b, c, d, hm, by have h9 := hs j a b c d hm; omega⟩, fun ⟨a, b, c, d, hm, hk⟩ => ⟨a, b, c, d, hm, by omega⟩⟩
  rw [e]
  exact h j hj
theorem md_X0 {w n : Nat → Nat} {kf : Nat → Int32} {b c d : Nat} (h : md_C w n (mx_k b c d) kf) : md_X w n b c d 0 kf := by
  intro j hj
  have e : (md_P w n (mx_k b c d) j ∨ ∃ y, y < 0 ∧ mx_M w n j y b c d) ↔ md_P w n (mx_k b c d) j := ⟨fun q => q.elim id (fun ⟨y, hy, _⟩ => absurd hy (Nat.not_lt_zero _)), Or.inl⟩
  rw [e]
  exact h j hj
theorem md_Xs {w n : Nat → Nat} {kf kf1 : Nat → Int32} {b c d x v : Nat} (h : md_X w n b c d x kf) (hm : mx_M w n v x b c d) (e1 : kf1 v = nI 1) (e2 : ∀ j, j ≠ v → kf1 j = kf j) : md_X w n b c d (x + 1) kf1 := by
  intro j hj
  by_cases hjv : j = v
  · subst hjv
    exact Or.inl ⟨e1, Or.inr ⟨x, Nat.lt_succ_self _, hm⟩⟩
  · rw [e2 j hjv]
    have e : (md_P w n (mx_k b c d) j ∨ ∃ y, y < x + 1 ∧ mx_M w n j y b c d) ↔ (md_P w n (mx_k b c d) j ∨ ∃ y, y < x ∧ mx_M w n j y b c d) := by
      constructor
      · rintro (q | ⟨y, hy, q⟩)
        · exact Or.inl q
        · by_cases hyx : y = x
          · subst hyx
            exact absurd (q.2.2.2.2.2.symm.trans hm.2.2.2.2.2) hjv
          · exact Or.inr ⟨y, by omega, q⟩
      · rintro (q | ⟨y, hy, q⟩)
        · exact Or.inl q
        · exact Or.inr ⟨y, by omega, q⟩
    rw [e]
    exact h j hj
theorem md_Xe {w n : Nat → Nat} {kf : Nat → Int32} {b c d x : Nat} (hb : b ≤ 40) (hc : c ≤ 40) (h : md_X w n b c d x kf) (hx : ∀ j y, j ≤ 2000 → mx_M w n j y b c d → y < x) : md_C w n (mx_k b c d + 1) kf := by
  intro j hj
  have e : md_P w n (mx_k b c d + 1) j ↔ (md_P w n (mx_k b c d) j ∨ ∃ y, y < x ∧ mx_M w n j y b c d) := by
    constructor
    · rintro ⟨a', b', c', d', hm, hk⟩
      by_cases q : mx_k b' c' d' < mx_k b c d
      · exact Or.inl ⟨a', b', c', d', hm, q⟩
      · obtain ⟨_, q2, q3, q4⟩ := mx_M40 hm
        have e : b' = b ∧ c' = c ∧ d' = d := by
          unfold mx_k at hk q
          omega
        obtain ⟨rfl, rfl, rfl⟩ := e
        exact Or.inr ⟨a', hx j a' hj hm, hm⟩
    · rintro (⟨a', b', c', d', hm, hk⟩ | ⟨y, hy, hm⟩)
      · exact ⟨a', b', c', d', hm, by omega⟩
      · exact ⟨y, b, c, d, hm, by omega⟩
  rw [e]
  exact h j hj
theorem md_Cend {w n : Nat → Nat} {kf : Nat → Int32} (h : md_C w n 68921 kf) : ∀ j, j ≤ 2000 → (kf j = nI 1 ∧ mx_has w n j) ∨ (kf j = nI 0 ∧ ¬ mx_has w n j) := by
  intro j hj
  have e : md_P w n 68921 j ↔ mx_has w n j := ⟨fun ⟨a, b, c, d, hm, _⟩ => ⟨a, b, c, d, hm⟩, fun ⟨a, b, c, d, hm⟩ => ⟨a, b, c, d, hm, mx_klt hm⟩⟩
  rw [← e]
  exact h j hj
set_option maxRecDepth 100000 in
set_option maxHeartbeats 4000000 in
theorem c1_all (l : Launch) (D : va_G) (tys : List (ClassId × FieldType)) (cI cZ : ClassId) (hI : tys[0]? = some (cI, .int)) (hZ : tys[1]? = some (cZ, .boolean)) (g g1 g2 g3 g4 : Nat) (fr : va_W) (sz : Nat) (wf nf cf kf : Nat → Int32) (fw mx th : Int32) (w n : Nat → Nat) (ok : nmOk wf nf w n)  : Met l yX1_all wsX1_all ({ frames := 1, cells := 0, slots := 0, locals := 30 }) (va_Pc [.ref g] (zz_pre D tys (mdW cI cZ g g1 g2 g3 g4 wf nf cf kf fw mx th fr) sz)) (va_Qv (fun (u : Nat → Int32) => ∀ j, j ≤ 2000 → (u j = nI 1 ∧ mx_has w n j) ∨ (u j = nI 0 ∧ ¬ mx_has w n j)) (zz_B D tys (va_A (mdW cI cZ g g1 g2 g3 g4 wf nf cf kf fw mx th fr) sz) (fun u => mdW cI cZ g g1 g2 g3 g4 wf nf cf u fw mx th fr)) (va_A (mdW cI cZ g g1 g2 g3 g4 wf nf cf kf fw mx th fr) sz)) 0 0 (va_A (mdW cI cZ g g1 g2 g3 g4 wf nf cf kf fw mx th fr) sz) := by
  refine zz_headV (cc := cX1_all) (by decide) rfl (Nat.le_of_ble_eq_true rfl) ?_
  intro p e s m below meth cd A ls F hr hlocks hin hP hK hD hA hS hl
  obtain ⟨hx, hb, hml, hown, hts⟩ := id F
  have hl : lv_has ls 6 [(0, .ref g)] := hl
  obtain ⟨p0, p1, p2⟩ := ok.2.2 0 (by decide)
  obtain ⟨q0, q1, q2⟩ := ok.2.2 1 (by decide)
  obtain ⟨r0, r1, r2⟩ := ok.2.2 2 (by decide)
  obtain ⟨t0, t1, t2⟩ := ok.2.2 3 (by decide)
  refine lv_iconst (v := nI 0) hx hb dX1_all_0 (by decide +kernel) ?_
  refine lv_istore_n (lv' := [(1, .int (nI 0)), (0, .ref g)]) hx hb dX1_all_1 rfl hl (by decide) rfl (fun ls hl => ?_)
  refine zz_loop (fun ls H locs (u : Nat × (Nat → Int32)) => lv_has ls 6 [(1, .int (nI u.1)), (0, .ref g)] ∧ va_P D vwCl (mdW cI cZ g g1 g2 g3 g4 wf nf cf u.2 fw mx th fr) H ∧ va_D A (mdW cI cZ g g1 g2 g3 g4 wf nf cf u.2 fw mx th fr) ∧ va_S A s.heap H locs ∧ u.1 ≤ 2001 ∧ ∀ j, j < u.1 → u.2 j = nI 0) (fun u => 2001 - u.1) ?_ (0, kf) ⟨hl, hP, hD, hS, Nat.zero_le _, fun j hj => absurd hj (Nat.not_lt_zero _)⟩
  rintro ls H locs ⟨i, kf⟩ ⟨hl, hP, hD, hS, hi, hk0⟩ k0
  dsimp only at hl hP hD hi hk0 k0
  refine lv_iload_n hx hb dX1_all_2 rfl (lv_at hl 0 rfl) ?_
  refine lv_sipush (v := nI 2000) hx hb dX1_all_3 (by decide +kernel) ?_
  refine zn_gt hx hb (by omega) (by omega) dX1_all_6 rfl (fun hc => ?_) (fun hc => ?_)
  · have hC : md_C w n (mx_k 0 0 0) kf := md_C0 (fun j hj => hk0 j (by omega))
    refine lv_iconst (v := nI 0) hx hb dX1_all_22 (by decide +kernel) ?_
    refine lv_istore_n (lv' := [(1, .int (nI 0)), (0, .ref g)]) hx hb dX1_all_23 rfl hl (by decide) rfl (fun ls hl => ?_)
    have hl : lv_has ls 6 [(1, .int (nI 0)), (0, .ref g)] := lv_sub hl [0, 1] rfl
    refine zz_loop (fun ls H locs (u : Nat × (Nat → Int32)) => lv_has ls 6 [(1, .int (nI u.1)), (0, .ref g)] ∧ va_P D vwCl (mdW cI cZ g g1 g2 g3 g4 wf nf cf u.2 fw mx th fr) H ∧ va_D A (mdW cI cZ g g1 g2 g3 g4 wf nf cf u.2 fw mx th fr) ∧ va_S A s.heap H locs ∧ md_C w n (mx_k 0 0 u.1) u.2 ∧ u.1 ≤ min (n 3) 40 + 1) (fun u => (min (n 3) 40) + 1 - u.1) ?_ (0, kf) ⟨hl, hP, hD, hS, hC, Nat.zero_le _⟩
    rintro ls H locs ⟨d, kf⟩ ⟨hl, hP, hD, hS, hC3, hd⟩ k3
    dsimp only at hl hP hD hC3 hd k3
    refine lv_iload_n hx hb dX1_all_24 rfl (lv_at hl 0 rfl) ?_
    refine lv_aload_n hx hb dX1_all_25 rfl (lv_at hl 1 rfl) ?_
    refine va_get (D := D) (ci := 1) (v := .ref g2) (C := RX1) (T := TX1) (N := 7) hx hb hts (inX1_all) hown hK hP 0 rfl rfl 1 (by decide) (hts (.fieldLink RX1 13 "NoteMixModel" "notes" "[I") (by decide +kernel)) (fun _ h9 => h9) rfl dX1_all_26 ?_
    refine lv_iconst (v := nI 3) hx hb dX1_all_29 (by decide +kernel) ?_
    refine zn_iald (k := 3) hx hb hK hP 2 _ rfl hI (by omega) (by decide) (ok.2.1 3 (by omega)) dX1_all_30 ?_
    refine lv_bipush (v := nI 40) hx hb dX1_all_31 (by decide +kernel) ?_
    refine zn_min hx hb (hml.trans hl.1.symm) hown (hts (.methodLink RX1 37 Lib.Math.min.name) (by decide +kernel)) (hts (.static Lib.Math.min.name) (by decide +kernel)) (hts (.initialized "java/lang/Math") (by decide +kernel)) (hts (.code Lib.Math.min.name Lib.Math.min.code 2 (some .int)) (by decide +kernel)) (Nat.le_of_ble_eq_true rfl) (Nat.le_of_ble_eq_true rfl) (Nat.le_of_ble_eq_true rfl) (Nat.le_of_ble_eq_true rfl) (by omega) (by omega) dX1_all_33 ?_
    refine zn_gt hx hb (by omega) (by omega) dX1_all_36 rfl (fun hc3 => ?_) (fun hc3 => ?_)
    · have hd3 : d = min (n 3) 40 + 1 := by omega
      rw [hd3] at hC3
      exact zz_vret F hr hlocks hK hS dX1_all_183 (by decide) (by decide) kf (md_Cend (md_Cskip hC3 (by unfold mx_k; omega) (fun _ => md_skip3))) hP hD
    · refine lv_iconst (v := nI 0) hx hb dX1_all_39 (by decide +kernel) ?_
      refine lv_istore_n (lv' := [(2, .int (nI 0)), (1, .int (nI d)), (0, .ref g)]) hx hb dX1_all_40 rfl hl (by decide) rfl (fun ls hl => ?_)
      have hl : lv_has ls 6 [(2, .int (nI 0)), (1, .int (nI d)), (0, .ref g)] := lv_sub hl [0, 1, 2] rfl
      refine zz_loop (fun ls H locs (u : Nat × (Nat → Int32)) => lv_has ls 6 [(2, .int (nI u.1)), (1, .int (nI d)), (0, .ref g)] ∧ va_P D vwCl (mdW cI cZ g g1 g2 g3 g4 wf nf cf u.2 fw mx th fr) H ∧ va_D A (mdW cI cZ g g1 g2 g3 g4 wf nf cf u.2 fw mx th fr) ∧ va_S A s.heap H locs ∧ md_C w n (mx_k 0 u.1 d) u.2 ∧ u.1 ≤ min (n 2) (40 - d) + 1) (fun u => (min (n 2) (40 - d)) + 1 - u.1) ?_ (0, kf) ⟨hl, hP, hD, hS, hC3, Nat.zero_le _⟩
      rintro ls H locs ⟨c2, kf⟩ ⟨hl, hP, hD, hS, hC2, hc2⟩ k2
      dsimp only at hl hP hD hC2 hc2 k2
      refine lv_iload_n hx hb dX1_all_41 rfl (lv_at hl 0 rfl) ?_
      refine lv_aload_n hx hb dX1_all_42 rfl (lv_at hl 2 rfl) ?_
      refine va_get (D := D) (ci := 1) (v := .ref g2) (C := RX1) (T := TX1) (N := 7) hx hb hts (inX1_all) hown hK hP 0 rfl rfl 1 (by decide) (hts (.fieldLink RX1 13 "NoteMixModel" "notes" "[I") (by decide +kernel)) (fun _ h9 => h9) rfl dX1_all_43 ?_
      refine lv_iconst (v := nI 2) hx hb dX1_all_46 (by decide +kernel) ?_
      refine zn_iald (k := 2) hx hb hK hP 2 _ rfl hI (by omega) (by decide) (ok.2.1 2 (by omega)) dX1_all_47 ?_
      refine lv_bipush (v := nI 40) hx hb dX1_all_48 (by decide +kernel) ?_
      refine lv_iload_n hx hb dX1_all_50 rfl (lv_at hl 1 rfl) ?_
      refine zn_sub hx hb (by omega) dX1_all_51 ?_
      refine zn_min hx hb (hml.trans hl.1.symm) hown (hts (.methodLink RX1 37 Lib.Math.min.name) (by decide +kernel)) (hts (.static Lib.Math.min.name) (by decide +kernel)) (hts (.initialized "java/lang/Math") (by decide +kernel)) (hts (.code Lib.Math.min.name Lib.Math.min.code 2 (some .int)) (by decide +kernel)) (Nat.le_of_ble_eq_true rfl) (Nat.le_of_ble_eq_true rfl) (Nat.le_of_ble_eq_true rfl) (Nat.le_of_ble_eq_true rfl) (by omega) (by omega) dX1_all_52 ?_
      refine zn_gt hx hb (by omega) (by omega) dX1_all_55 rfl (fun hd2 => ?_) (fun hd2 => ?_)
      · have hd3 : c2 = min (n 2) (40 - d) + 1 := by omega
        rw [hd3] at hC2
        have hC3 := md_Cskip hC2 (by unfold mx_k; omega) (fun _ => md_skip2)
        refine lv_iinc (k := 1) (lv' := [(1, .int (nI (d + 1))), (2, .int (nI c2)), (0, .ref g)]) hx hb dX1_all_177 hl rfl (zz_i1 _) (by decide) rfl (fun ls hl => ?_)
        refine lv_goto hx hb dX1_all_180 rfl ?_
        have hl : lv_has ls 6 [(1, .int (nI (d + 1))), (0, .ref g)] := lv_sub hl [0, 2] rfl
        exact k3 _ _ _ (d + 1, kf) ⟨hl, hP, hD, hS, hC3, by show d + 1 ≤ min (n 3) 40 + 1; omega⟩ (by show min (n 3) 40 + 1 - (d + 1) < min (n 3) 40 + 1 - d; omega)
      · refine lv_iconst (v := nI 0) hx hb dX1_all_58 (by decide +kernel) ?_
        refine lv_istore_n (lv' := [(3, .int (nI 0)), (2, .int (nI c2)), (1, .int (nI d)), (0, .ref g)]) hx hb dX1_all_59 rfl hl (by decide) rfl (fun ls hl => ?_)
        have hl : lv_has ls 6 [(3, .int (nI 0)), (2, .int (nI c2)), (1, .int (nI d)), (0, .ref g)] := lv_sub hl [0, 1, 2, 3] rfl
        refine zz_loop (fun ls H locs (u : Nat × (Nat → Int32)) => lv_has ls 6 [(3, .int (nI u.1)), (2, .int (nI c2)), (1, .int (nI d)), (0, .ref g)] ∧ va_P D vwCl (mdW cI cZ g g1 g2 g3 g4 wf nf cf u.2 fw mx th fr) H ∧ va_D A (mdW cI cZ g g1 g2 g3 g4 wf nf cf u.2 fw mx th fr) ∧ va_S A s.heap H locs ∧ md_C w n (mx_k u.1 c2 d) u.2 ∧ u.1 ≤ min (n 1) (40 - d - c2) + 1) (fun u => (min (n 1) (40 - d - c2)) + 1 - u.1) ?_ (0, kf) ⟨hl, hP, hD, hS, hC2, Nat.zero_le _⟩
        rintro ls H locs ⟨b1, kf⟩ ⟨hl, hP, hD, hS, hC1, hb1⟩ k1
        dsimp only at hl hP hD hC1 hb1 k1
        refine lv_iload_n hx hb dX1_all_60 rfl (lv_at hl 0 rfl) ?_
        refine lv_aload_n hx hb dX1_all_61 rfl (lv_at hl 3 rfl) ?_
        refine va_get (D := D) (ci := 1) (v := .ref g2) (C := RX1) (T := TX1) (N := 7) hx hb hts (inX1_all) hown hK hP 0 rfl rfl 1 (by decide) (hts (.fieldLink RX1 13 "NoteMixModel" "notes" "[I") (by decide +kernel)) (fun _ h9 => h9) rfl dX1_all_62 ?_
        refine lv_iconst (v := nI 1) hx hb dX1_all_65 (by decide +kernel) ?_
        refine zn_iald (k := 1) hx hb hK hP 2 _ rfl hI (by omega) (by decide) (ok.2.1 1 (by omega)) dX1_all_66 ?_
        refine lv_bipush (v := nI 40) hx hb dX1_all_67 (by decide +kernel) ?_
        refine lv_iload_n hx hb dX1_all_69 rfl (lv_at hl 2 rfl) ?_
        refine zn_sub hx hb (by omega) dX1_all_70 ?_
        refine lv_iload_n hx hb dX1_all_71 rfl (lv_at hl 1 rfl) ?_
        refine zn_sub hx hb (by omega) dX1_all_72 ?_
        refine zn_min hx hb (hml.trans hl.1.symm) hown (hts (.methodLink RX1 37 Lib.Math.min.name) (by decide +kernel)) (hts (.static Lib.Math.min.name) (by decide +kernel)) (hts (.initialized "java/lang/Math") (by decide +kernel)) (hts (.code Lib.Math.min.name Lib.Math.min.code 2 (some .int)) (by decide +kernel)) (Nat.le_of_ble_eq_true rfl) (Nat.le_of_ble_eq_true rfl) (Nat.le_of_ble_eq_true rfl) (Nat.le_of_ble_eq_true rfl) (by omega) (by omega) dX1_all_73 ?_
        refine zn_gt hx hb (by omega) (by omega) dX1_all_76 rfl (fun hd1 => ?_) (fun hd1 => ?_)
        · have hd3 : b1 = min (n 1) (40 - d - c2) + 1 := by omega
          rw [hd3] at hC1
          have hC2 := md_Cskip hC1 (by unfold mx_k; omega) (fun _ => md_skip1 (by omega))
          refine lv_iinc (k := 1) (lv' := [(2, .int (nI (c2 + 1))), (3, .int (nI b1)), (1, .int (nI d)), (0, .ref g)]) hx hb dX1_all_171 hl rfl (zz_i1 _) (by decide) rfl (fun ls hl => ?_)
          refine lv_goto hx hb dX1_all_174 rfl ?_
          have hl : lv_has ls 6 [(2, .int (nI (c2 + 1))), (1, .int (nI d)), (0, .ref g)] := lv_sub hl [0, 2, 3] rfl
          exact k2 _ _ _ (c2 + 1, kf) ⟨hl, hP, hD, hS, hC2, by show c2 + 1 ≤ min (n 2) (40 - d) + 1; omega⟩ (by show min (n 2) (40 - d) + 1 - (c2 + 1) < min (n 2) (40 - d) + 1 - c2; omega)
        · have z3 : d * w 3 ≤ 40 * 500 := Nat.mul_le_mul (by omega) t1
          have z2 : c2 * w 2 ≤ 40 * 500 := Nat.mul_le_mul (by omega) r1
          have z1 : b1 * w 1 ≤ 40 * 500 := Nat.mul_le_mul (by omega) q1
          refine lv_iload_n hx hb dX1_all_79 rfl (lv_at hl 2 rfl) ?_
          refine lv_aload_n hx hb dX1_all_80 rfl (lv_at hl 3 rfl) ?_
          refine va_get (D := D) (ci := 1) (v := .ref g1) (C := RX1) (T := TX1) (N := 7) hx hb hts (inX1_all) hown hK hP 0 rfl rfl 0 (by decide) (hts (.fieldLink RX1 7 "NoteMixModel" "worth" "[I") (by decide +kernel)) (fun _ h9 => h9) rfl dX1_all_81 ?_
          refine lv_iconst (v := nI 3) hx hb dX1_all_84 (by decide +kernel) ?_
          refine zn_iald (k := 3) hx hb hK hP 1 _ rfl hI (by omega) (by decide) (ok.1 3 (by omega)) dX1_all_85 ?_
          refine zn_mul hx hb dX1_all_86 ?_
          refine lv_iload_n hx hb dX1_all_87 rfl (lv_at hl 1 rfl) ?_
          refine lv_aload_n hx hb dX1_all_88 rfl (lv_at hl 3 rfl) ?_
          refine va_get (D := D) (ci := 1) (v := .ref g1) (C := RX1) (T := TX1) (N := 7) hx hb hts (inX1_all) hown hK hP 0 rfl rfl 0 (by decide) (hts (.fieldLink RX1 7 "NoteMixModel" "worth" "[I") (by decide +kernel)) (fun _ h9 => h9) rfl dX1_all_89 ?_
          refine lv_iconst (v := nI 2) hx hb dX1_all_92 (by decide +kernel) ?_
          refine zn_iald (k := 2) hx hb hK hP 1 _ rfl hI (by omega) (by decide) (ok.1 2 (by omega)) dX1_all_93 ?_
          refine zn_mul hx hb dX1_all_94 ?_
          refine zn_add hx hb dX1_all_95 ?_
          refine lv_iload_n hx hb dX1_all_96 rfl (lv_at hl 0 rfl) ?_
          refine lv_aload_n hx hb dX1_all_97 rfl (lv_at hl 3 rfl) ?_
          refine va_get (D := D) (ci := 1) (v := .ref g1) (C := RX1) (T := TX1) (N := 7) hx hb hts (inX1_all) hown hK hP 0 rfl rfl 0 (by decide) (hts (.fieldLink RX1 7 "NoteMixModel" "worth" "[I") (by decide +kernel)) (fun _ h9 => h9) rfl dX1_all_98 ?_
          refine lv_iconst (v := nI 1) hx hb dX1_all_101 (by decide +kernel) ?_
          refine zn_iald (k := 1) hx hb hK hP 1 _ rfl hI (by omega) (by decide) (ok.1 1 (by omega)) dX1_all_102 ?_
          refine zn_mul hx hb dX1_all_103 ?_
          refine zn_add hx hb dX1_all_104 ?_
          refine lv_istore (lv' := [(4, .int (nI (((d * (w 3)) + (c2 * (w 2))) + (b1 * (w 1))))), (3, .int (nI b1)), (2, .int (nI c2)), (1, .int (nI d)), (0, .ref g)]) hx hb dX1_all_105 hl (by decide) rfl (fun ls hl => ?_)
          refine lv_iconst (v := nI 0) hx hb dX1_all_107 (by decide +kernel) ?_
          refine lv_istore (lv' := [(5, .int (nI 0)), (4, .int (nI (((d * (w 3)) + (c2 * (w 2))) + (b1 * (w 1))))), (3, .int (nI b1)), (2, .int (nI c2)), (1, .int (nI d)), (0, .ref g)]) hx hb dX1_all_108 hl (by decide) rfl (fun ls hl => ?_)
          have hl : lv_has ls 6 [(5, .int (nI 0)), (4, .int (nI (((d * (w 3)) + (c2 * (w 2))) + (b1 * (w 1))))), (3, .int (nI b1)), (2, .int (nI c2)), (1, .int (nI d)), (0, .ref g)] := lv_sub hl [0, 1, 2, 3, 4, 5] rfl
          refine zz_loop (fun ls H locs (u : Nat × Nat × (Nat → Int32)) => lv_has ls 6 [(5, .int (nI u.1)), (4, .int (nI u.2.1)), (3, .int (nI b1)), (2, .int (nI c2)), (1, .int (nI d)), (0, .ref g)] ∧ va_P D vwCl (mdW cI cZ g g1 g2 g3 g4 wf nf cf u.2.2 fw mx th fr) H ∧ va_D A (mdW cI cZ g g1 g2 g3 g4 wf nf cf u.2.2 fw mx th fr) ∧ va_S A s.heap H locs ∧ md_X w n b1 c2 d u.1 u.2.2 ∧ u.1 ≤ min (n 0) (40 - d - c2 - b1) + 1 ∧ u.2.1 = ((d * (w 3)) + (c2 * (w 2))) + (b1 * (w 1)) + u.1 * w 0) (fun u => min (n 0) (40 - d - c2 - b1) + 1 - u.1) ?_ (0, ((d * (w 3)) + (c2 * (w 2))) + (b1 * (w 1)), kf) ⟨hl, hP, hD, hS, md_X0 hC1, Nat.zero_le _, by show ((d * (w 3)) + (c2 * (w 2))) + (b1 * (w 1)) = ((d * (w 3)) + (c2 * (w 2))) + (b1 * (w 1)) + 0 * w 0; omega⟩
          rintro ls H locs ⟨x, v, kf⟩ ⟨hl, hP, hD, hS, hX, hxb, hv⟩ k0
          dsimp only at hl hP hD hX hxb hv k0
          have z0 : x * w 0 ≤ 41 * 500 := Nat.mul_le_mul (by omega) p1
          refine lv_iload hx hb dX1_all_110 (lv_at hl 0 rfl) ?_
          refine lv_aload_n hx hb dX1_all_112 rfl (lv_at hl 5 rfl) ?_
          refine va_get (D := D) (ci := 1) (v := .ref g2) (C := RX1) (T := TX1) (N := 7) hx hb hts (inX1_all) hown hK hP 0 rfl rfl 1 (by decide) (hts (.fieldLink RX1 13 "NoteMixModel" "notes" "[I") (by decide +kernel)) (fun _ h9 => h9) rfl dX1_all_113 ?_
          refine lv_iconst (v := nI 0) hx hb dX1_all_116 (by decide +kernel) ?_
          refine zn_iald (k := 0) hx hb hK hP 2 _ rfl hI (by omega) (by decide) (ok.2.1 0 (by omega)) dX1_all_117 ?_
          refine lv_bipush (v := nI 40) hx hb dX1_all_118 (by decide +kernel) ?_
          refine lv_iload_n hx hb dX1_all_120 rfl (lv_at hl 4 rfl) ?_
          refine zn_sub hx hb (by omega) dX1_all_121 ?_
          refine lv_iload_n hx hb dX1_all_122 rfl (lv_at hl 3 rfl) ?_
          refine zn_sub hx hb (by omega) dX1_all_123 ?_
          refine lv_iload_n hx hb dX1_all_124 rfl (lv_at hl 2 rfl) ?_
          refine zn_sub hx hb (by omega) dX1_all_125 ?_
          refine zn_min hx hb (hml.trans hl.1.symm) hown (hts (.methodLink RX1 37 Lib.Math.min.name) (by decide +kernel)) (hts (.static Lib.Math.min.name) (by decide +kernel)) (hts (.initialized "java/lang/Math") (by decide +kernel)) (hts (.code Lib.Math.min.name Lib.Math.min.code 2 (some .int)) (by decide +kernel)) (Nat.le_of_ble_eq_true rfl) (Nat.le_of_ble_eq_true rfl) (Nat.le_of_ble_eq_true rfl) (Nat.le_of_ble_eq_true rfl) (by omega) (by omega) dX1_all_126 ?_
          refine zn_gt hx hb (by omega) (by omega) dX1_all_129 rfl (fun he1 => ?_) (fun he1 => ?_)
          · have hC9 : md_C w n (mx_k (b1 + 1) c2 d) kf := by rw [mx_ks]; exact md_Xe (by omega) (by omega) hX (fun j y hj hm => (by obtain ⟨m1, m2, m3, m4, m5, m6⟩ := hm; omega))
            refine lv_iinc (k := 2) (lv' := [(3, .int (nI (b1 + 1))), (5, .int (nI x)), (4, .int (nI v)), (2, .int (nI c2)), (1, .int (nI d)), (0, .ref g)]) hx hb dX1_all_165 hl rfl (zz_i1 _) (by decide) rfl (fun ls hl => ?_)
            refine lv_goto hx hb dX1_all_168 rfl ?_
            have hl : lv_has ls 6 [(3, .int (nI (b1 + 1))), (2, .int (nI c2)), (1, .int (nI d)), (0, .ref g)] := lv_sub hl [0, 3, 4, 5] rfl
            exact k1 _ _ _ (b1 + 1, kf) ⟨hl, hP, hD, hS, hC9, by show b1 + 1 ≤ min (n 1) (40 - d - c2) + 1; omega⟩ (by show min (n 1) (40 - d - c2) + 1 - (b1 + 1) < min (n 1) (40 - d - c2) + 1 - b1; omega)
          · refine lv_iload hx hb dX1_all_132 (lv_at hl 1 rfl) ?_
            refine lv_sipush (v := nI 2000) hx hb dX1_all_134 (by decide +kernel) ?_
            refine zn_gt hx hb (by omega) (by omega) dX1_all_137 rfl (fun he2 => ?_) (fun he2 => ?_)
            · have hC9 : md_C w n (mx_k (b1 + 1) c2 d) kf := by rw [mx_ks]; exact md_Xe (by omega) (by omega) hX (fun j y hj hm => (by obtain ⟨m1, m2, m3, m4, m5, m6⟩ := hm; exact Nat.lt_of_not_le (fun h9 => by have h8 := Nat.mul_le_mul_right (w 0) h9; omega)))
              refine lv_iinc (k := 2) (lv' := [(3, .int (nI (b1 + 1))), (5, .int (nI x)), (4, .int (nI v)), (2, .int (nI c2)), (1, .int (nI d)), (0, .ref g)]) hx hb dX1_all_165 hl rfl (zz_i1 _) (by decide) rfl (fun ls hl => ?_)
              refine lv_goto hx hb dX1_all_168 rfl ?_
              have hl : lv_has ls 6 [(3, .int (nI (b1 + 1))), (2, .int (nI c2)), (1, .int (nI d)), (0, .ref g)] := lv_sub hl [0, 3, 4, 5] rfl
              exact k1 _ _ _ (b1 + 1, kf) ⟨hl, hP, hD, hS, hC9, by show b1 + 1 ≤ min (n 1) (40 - d - c2) + 1; omega⟩ (by show min (n 1) (40 - d - c2) + 1 - (b1 + 1) < min (n 1) (40 - d - c2) + 1 - b1; omega)
            · refine lv_aload_n hx hb dX1_all_140 rfl (lv_at hl 5 rfl) ?_
              refine va_get (D := D) (ci := 1) (v := .ref g4) (C := RX1) (T := TX1) (N := 7) hx hb hts (inX1_all) hown hK hP 0 rfl rfl 3 (by decide) (hts (.fieldLink RX1 19 "NoteMixModel" "can" "[Z") (by decide +kernel)) (fun _ h9 => h9) rfl dX1_all_141 ?_
              refine lv_iload hx hb dX1_all_144 (lv_at hl 1 rfl) ?_
              refine lv_iconst (v := nI 1) hx hb dX1_all_146 (by decide +kernel) ?_
              refine zn_zast (k := v) hx hb hK hP hD hS 4 _ rfl hZ (by omega) (by decide) (by decide +kernel) dX1_all_147 (fun H locs kf1 kf1e kf1n hP hD hS => ?_)
              have hP : va_P D vwCl (mdW cI cZ g g1 g2 g3 g4 wf nf cf kf1 fw mx th fr) H := hP
              have hD : va_D A (mdW cI cZ g g1 g2 g3 g4 wf nf cf kf1 fw mx th fr) := hD
              refine lv_iload hx hb dX1_all_148 (lv_at hl 1 rfl) ?_
              refine lv_aload_n hx hb dX1_all_150 rfl (lv_at hl 5 rfl) ?_
              refine va_get (D := D) (ci := 1) (v := .ref g1) (C := RX1) (T := TX1) (N := 7) hx hb hts (inX1_all) hown hK hP 0 rfl rfl 0 (by decide) (hts (.fieldLink RX1 7 "NoteMixModel" "worth" "[I") (by decide +kernel)) (fun _ h9 => h9) rfl dX1_all_151 ?_
              refine lv_iconst (v := nI 0) hx hb dX1_all_154 (by decide +kernel) ?_
              refine zn_iald (k := 0) hx hb hK hP 1 _ rfl hI (by omega) (by decide) (ok.1 0 (by omega)) dX1_all_155 ?_
              refine zn_add hx hb dX1_all_156 ?_
              refine lv_istore (lv' := [(4, .int (nI (v + (w 0)))), (5, .int (nI x)), (3, .int (nI b1)), (2, .int (nI c2)), (1, .int (nI d)), (0, .ref g)]) hx hb dX1_all_157 hl (by decide) rfl (fun ls hl => ?_)
              refine lv_iinc (k := 1) (lv' := [(5, .int (nI (x + 1))), (4, .int (nI (v + (w 0)))), (3, .int (nI b1)), (2, .int (nI c2)), (1, .int (nI d)), (0, .ref g)]) hx hb dX1_all_159 hl rfl (zz_i1 _) (by decide) rfl (fun ls hl => ?_)
              refine lv_goto hx hb dX1_all_162 rfl ?_
              have hl : lv_has ls 6 [(5, .int (nI (x + 1))), (4, .int (nI (v + (w 0)))), (3, .int (nI b1)), (2, .int (nI c2)), (1, .int (nI d)), (0, .ref g)] := lv_sub hl [0, 1, 2, 3, 4, 5] rfl
              have hX1 : md_X w n b1 c2 d (x + 1) kf1 := md_Xs hX (v := v) ⟨by omega, by omega, by omega, by omega, by omega, by omega⟩ kf1e kf1n
              exact k0 _ _ _ (x + 1, v + w 0, kf1) ⟨hl, hP, hD, hS, hX1, by show x + 1 ≤ min (n 0) (40 - d - c2 - b1) + 1; omega, by show v + w 0 = ((d * (w 3)) + (c2 * (w 2))) + (b1 * (w 1)) + (x + 1) * w 0; rw [Nat.add_mul]; omega⟩ (by show min (n 0) (40 - d - c2 - b1) + 1 - (x + 1) < min (n 0) (40 - d - c2 - b1) + 1 - x; omega)
  · refine lv_aload_n hx hb dX1_all_9 rfl (lv_at hl 1 rfl) ?_
    refine va_get (D := D) (ci := 1) (v := .ref g4) (C := RX1) (T := TX1) (N := 7) hx hb hts (inX1_all) hown hK hP 0 rfl rfl 3 (by decide) (hts (.fieldLink RX1 19 "NoteMixModel" "can" "[Z") (by decide +kernel)) (fun _ h9 => h9) rfl dX1_all_10 ?_
    refine lv_iload_n hx hb dX1_all_13 rfl (lv_at hl 0 rfl) ?_
    refine lv_iconst (v := nI 0) hx hb dX1_all_14 (by decide +kernel) ?_
    refine zn_zast (k := i) hx hb hK hP hD hS 4 _ rfl hZ (by omega) (by decide) (by decide +kernel) dX1_all_15 (fun H locs kf1 kf1e kf1n hP hD hS => ?_)
    have hP : va_P D vwCl (mdW cI cZ g g1 g2 g3 g4 wf nf cf kf1 fw mx th fr) H := hP
    have hD : va_D A (mdW cI cZ g g1 g2 g3 g4 wf nf cf kf1 fw mx th fr) := hD
    refine lv_iinc (k := 0) (lv' := [(1, .int (nI (i + 1))), (0, .ref g)]) hx hb dX1_all_16 hl rfl (zz_i1 _) (by decide) rfl (fun ls hl => ?_)
    refine lv_goto hx hb dX1_all_19 rfl ?_
    refine k0 _ _ _ (i + 1, kf1) ⟨hl, hP, hD, hS, by show i + 1 ≤ 2001; omega, fun j hj => ?_⟩ (by show 2001 - (i + 1) < 2001 - i; omega)
    show kf1 j = nI 0
    by_cases e9 : j = i
    · subst e9
      exact kf1e
    · rw [kf1n j e9]
      exact hk0 j (by have h9 : j < i + 1 := hj; omega)
end
section
set_option maxRecDepth 100000 in
set_option maxHeartbeats 4000000 in
theorem c1_next (l : Launch) (D : va_G) (tys : List (ClassId × FieldType)) (cI cZ : ClassId) (hI : tys[0]? = some (cI, .int)) (hZ : tys[1]? = some (cZ, .boolean)) (g g1 g2 g3 g4 : Nat) (fr : va_W) (sz : Nat) (wf nf cf kf : Nat → Int32) (fw mx th : Int32) (w n : Nat → Nat) (ok : nmOk wf nf w n) (x : Int32) : Met l yX1_next wsX1_next ({ frames := 3, cells := 0, slots := 0, locals := 90 }) (va_Pc [.ref g, .int x] (zz_pre D tys (mdW cI cZ g g1 g2 g3 g4 wf nf cf kf fw mx th fr) sz)) (va_Qi (fun r (u : (Nat → Int32) × Int32) => (u.2 = nI 0 ∧ ∃ v : Nat, v ≤ 2000 ∧ x = nI v ∧ mx_N w n v r) ∨ (u.2 = nI 1 ∧ ¬ zr x 0 2000)) (zz_B D tys (va_A (mdW cI cZ g g1 g2 g3 g4 wf nf cf kf fw mx th fr) sz) (fun u => mdW cI cZ g g1 g2 g3 g4 wf nf cf u.1 fw mx u.2 fr)) (va_A (mdW cI cZ g g1 g2 g3 g4 wf nf cf kf fw mx th fr) sz)) 0 0 (va_A (mdW cI cZ g g1 g2 g3 g4 wf nf cf kf fw mx th fr) sz) := by
  refine zz_headI (cc := cX1_next) (by decide) rfl (Nat.le_of_ble_eq_true rfl) ?_
  intro p e s m below meth cd A ls F hr hlocks hP hK hD hA hS hl
  obtain ⟨hx, hb, hml, hown, hts⟩ := id F
  have hl : lv_has ls 3 [(0, .ref g), (1, .int x)] := hl
  by_cases hz : zr x 0 2000
  · obtain ⟨v, hv0, hv, rfl⟩ := hz
    refine lv_aload_n hx hb dX1_next_0 rfl (lv_at hl 0 rfl) ?_
    refine lv_iload_n hx hb dX1_next_1 rfl (lv_at hl 1 rfl) ?_
    refine lv_iconst (v := nI 0) hx hb dX1_next_2 (by decide +kernel) ?_
    refine lv_sipush (v := nI 2000) hx hb dX1_next_3 (by decide +kernel) ?_
    refine zz_callSi (As := [.int (nI v), .int (nI 0), .int (nI 2000)]) (rest := [.ref g]) F hK hP hD hS hA (c1_in_ok l D tys _ _ v 0 2000 hv0 hv (by decide)) (va_cwS 3 hts gX1_next_X1_in_ rfl rfl rfl (by decide +kernel) ⟨Nat.le_of_ble_eq_true rfl, Nat.le_of_ble_eq_true rfl⟩) rfl hl.1 rfl (Nat.le_of_ble_eq_true rfl) dX1_next_6 ⟨Nat.le_of_ble_eq_true rfl, Nat.le_of_ble_eq_true rfl⟩ (fun rr _ H locs er hP hD hS => ?_)
    try dsimp only at er
    subst er
    have hP : va_P D vwCl (mdW cI cZ g g1 g2 g3 g4 wf nf cf kf fw mx th fr) H := hP
    have hD : va_D A (mdW cI cZ g g1 g2 g3 g4 wf nf cf kf fw mx th fr) := hD
    refine zn_if_eq hx hb (by decide) dX1_next_9 rfl (fun hc => absurd hc (by decide)) (fun _ => ?_)
    refine lv_iconst (v := nI 0) hx hb dX1_next_12 (by decide +kernel) ?_
    refine lv_goto hx hb dX1_next_13 rfl ?_
    refine va_put (D := D) (ci := 1) (v := .int (nI 0)) (ty := .int) (C := RX1) (T := TX1) (N := 7) hx hb hts (inX1_next) tyX1 tyX1_ok nmX1 hown hK hP hD hS 0 rfl rfl 6 (by decide) (hts (.fieldLink RX1 23 "NoteMixModel" "thrown" "I") (by decide +kernel)) (fun _ h9 => h9) rfl (by decide +kernel) rfl rfl (Nat.le_of_ble_eq_true rfl) dX1_next_17 (fun H locs hP hD hS => ?_)
    have hP : va_P D vwCl (mdW cI cZ g g1 g2 g3 g4 wf nf cf kf fw mx (nI 0) fr) H := hP
    have hD : va_D A (mdW cI cZ g g1 g2 g3 g4 wf nf cf kf fw mx (nI 0) fr) := hD
    refine lv_aload_n hx hb dX1_next_20 rfl (lv_at hl 0 rfl) ?_
    refine va_get (D := D) (ci := 1) (v := .int (nI 0)) (C := RX1) (T := TX1) (N := 7) hx hb hts (inX1_next) hown hK hP 0 rfl rfl 6 (by decide) (hts (.fieldLink RX1 23 "NoteMixModel" "thrown" "I") (by decide +kernel)) (fun _ h9 => h9) rfl dX1_next_21 ?_
    refine zn_if_le hx hb (by decide) dX1_next_24 rfl (fun _ => ?_) (fun hc => absurd hc (by decide))
    refine lv_aload_n hx hb dX1_next_29 rfl (lv_at hl 0 rfl) ?_
    refine zz_callVv (As := []) (rest := []) F hK hP hD hS hA (c1_all l D tys cI cZ hI hZ g g1 g2 g3 g4 fr _ wf nf cf kf fw mx (nI 0) w n ok) (cwV 0 hts gX1_next_X1_all rfl rfl rfl (by decide +kernel) ⟨Nat.le_of_ble_eq_true rfl, Nat.le_of_ble_eq_true rfl⟩) 0 rfl rfl rfl hl.1 rfl (Nat.le_of_ble_eq_true rfl) dX1_next_30 ⟨Nat.le_of_ble_eq_true rfl, Nat.le_of_ble_eq_true rfl⟩ (fun kf H locs hk hP hD hS => ?_)
    have hP : va_P D vwCl (mdW cI cZ g g1 g2 g3 g4 wf nf cf kf fw mx (nI 0) fr) H := hP
    have hD : va_D A (mdW cI cZ g g1 g2 g3 g4 wf nf cf kf fw mx (nI 0) fr) := hD
    refine lv_iload_n hx hb dX1_next_33 rfl (lv_at hl 1 rfl) ?_
    refine lv_istore_n (lv' := [(2, .int (nI v)), (0, .ref g), (1, .int (nI v))]) hx hb dX1_next_34 rfl hl (by decide) rfl (fun ls hl => ?_)
    have hl : lv_has ls 3 [(2, .int (nI v)), (1, .int (nI v)), (0, .ref g)] := lv_sub hl [0, 2, 1] rfl
    refine zz_loop (fun ls H locs (u : Nat) => lv_has ls 3 [(2, .int (nI u)), (1, .int (nI v)), (0, .ref g)] ∧ va_P D vwCl (mdW cI cZ g g1 g2 g3 g4 wf nf cf kf fw mx (nI 0) fr) H ∧ va_D A (mdW cI cZ g g1 g2 g3 g4 wf nf cf kf fw mx (nI 0) fr) ∧ va_S A s.heap H locs ∧ u ≤ 2001 ∧ v ≤ u ∧ ∀ j, v ≤ j → j < u → ¬ mx_has w n j) (fun u => 2001 - u) ?_ v ⟨hl, hP, hD, hS, by omega, Nat.le_refl _, fun j h1 h2 => absurd h1 (by omega)⟩
    rintro ls H locs a ⟨hl, hP, hD, hS, ha, hva, hno⟩ kk
    refine lv_iload_n hx hb dX1_next_35 rfl (lv_at hl 0 rfl) ?_
    refine lv_sipush (v := nI 2000) hx hb dX1_next_36 (by decide +kernel) ?_
    refine zn_gt hx hb (by omega) (by omega) dX1_next_39 rfl (fun hc => ?_) (fun hc => ?_)
    · refine lv_iconst (v := -1) hx hb dX1_next_59 (by decide +kernel) ?_
      exact zz_iret F hr hlocks hK hS dX1_next_60 (by decide) (by decide) (kf, nI 0) (Or.inl ⟨rfl, v, hv, rfl, Or.inr ⟨fun j h1 h2 => hno j h1 (by omega), rfl⟩⟩) hP hD
    · rcases hk a hc with ⟨e1, hh⟩ | ⟨e1, hh⟩
      · refine lv_aload_n hx hb dX1_next_42 rfl (lv_at hl 2 rfl) ?_
        refine va_get (D := D) (ci := 1) (v := .ref g4) (C := RX1) (T := TX1) (N := 7) hx hb hts (inX1_next) hown hK hP 0 rfl rfl 3 (by decide) (hts (.fieldLink RX1 19 "NoteMixModel" "can" "[Z") (by decide +kernel)) (fun _ h9 => h9) rfl dX1_next_43 ?_
        refine lv_iload_n hx hb dX1_next_46 rfl (lv_at hl 0 rfl) ?_
        refine zn_zald (k := a) hx hb hK hP 4 _ rfl hZ (by omega) (by decide) e1 dX1_next_47 ?_
        refine zn_if_eq hx hb (by decide) dX1_next_48 rfl (fun hc => absurd hc (by decide)) (fun _ => ?_)
        refine lv_iload_n hx hb dX1_next_51 rfl (lv_at hl 0 rfl) ?_
        exact zz_iret F hr hlocks hK hS dX1_next_52 (by decide) (by decide) (kf, nI 0) (Or.inl ⟨rfl, v, hv, rfl, Or.inl ⟨a, hva, hc, hh, hno, rfl⟩⟩) hP hD
      · refine lv_aload_n hx hb dX1_next_42 rfl (lv_at hl 2 rfl) ?_
        refine va_get (D := D) (ci := 1) (v := .ref g4) (C := RX1) (T := TX1) (N := 7) hx hb hts (inX1_next) hown hK hP 0 rfl rfl 3 (by decide) (hts (.fieldLink RX1 19 "NoteMixModel" "can" "[Z") (by decide +kernel)) (fun _ h9 => h9) rfl dX1_next_43 ?_
        refine lv_iload_n hx hb dX1_next_46 rfl (lv_at hl 0 rfl) ?_
        refine zn_zald (k := a) hx hb hK hP 4 _ rfl hZ (by omega) (by decide) e1 dX1_next_47 ?_
        refine zn_if_eq hx hb (by decide) dX1_next_48 rfl (fun _ => ?_) (fun hc => absurd hc (by decide))
        refine lv_iinc (k := 0) (lv' := [(2, .int (nI (a + 1))), (1, .int (nI v)), (0, .ref g)]) hx hb dX1_next_53 hl rfl (zz_i1 _) (by decide) rfl (fun ls hl => ?_)
        refine lv_goto hx hb dX1_next_56 rfl ?_
        have hl : lv_has ls 3 [(2, .int (nI (a + 1))), (1, .int (nI v)), (0, .ref g)] := lv_sub hl [0, 1, 2] rfl
        refine kk _ _ _ (a + 1) ⟨hl, hP, hD, hS, by omega, by omega, fun j h1 h2 => ?_⟩ (by omega)
        by_cases e9 : j = a
        · subst e9
          exact hh
        · exact hno j h1 (by omega)
  · refine lv_aload_n hx hb dX1_next_0 rfl (lv_at hl 0 rfl) ?_
    refine lv_iload_n hx hb dX1_next_1 rfl (lv_at hl 1 rfl) ?_
    refine lv_iconst (v := nI 0) hx hb dX1_next_2 (by decide +kernel) ?_
    refine lv_sipush (v := nI 2000) hx hb dX1_next_3 (by decide +kernel) ?_
    refine zz_callSi (As := [.int x, .int (nI 0), .int (nI 2000)]) (rest := [.ref g]) F hK hP hD hS hA (c1_in_bad l D tys _ _ x 0 2000 hz (by decide) (by decide)) (va_cwS 3 hts gX1_next_X1_in_ rfl rfl rfl (by decide +kernel) ⟨Nat.le_of_ble_eq_true rfl, Nat.le_of_ble_eq_true rfl⟩) rfl hl.1 rfl (Nat.le_of_ble_eq_true rfl) dX1_next_6 ⟨Nat.le_of_ble_eq_true rfl, Nat.le_of_ble_eq_true rfl⟩ (fun rr _ H locs er hP hD hS => ?_)
    try dsimp only at er
    subst er
    have hP : va_P D vwCl (mdW cI cZ g g1 g2 g3 g4 wf nf cf kf fw mx th fr) H := hP
    have hD : va_D A (mdW cI cZ g g1 g2 g3 g4 wf nf cf kf fw mx th fr) := hD
    refine zn_if_eq hx hb (by decide) dX1_next_9 rfl (fun _ => ?_) (fun hc => absurd hc (by decide))
    refine lv_iconst (v := nI 1) hx hb dX1_next_16 (by decide +kernel) ?_
    refine va_put (D := D) (ci := 1) (v := .int (nI 1)) (ty := .int) (C := RX1) (T := TX1) (N := 7) hx hb hts (inX1_next) tyX1 tyX1_ok nmX1 hown hK hP hD hS 0 rfl rfl 6 (by decide) (hts (.fieldLink RX1 23 "NoteMixModel" "thrown" "I") (by decide +kernel)) (fun _ h9 => h9) rfl (by decide +kernel) rfl rfl (Nat.le_of_ble_eq_true rfl) dX1_next_17 (fun H locs hP hD hS => ?_)
    have hP : va_P D vwCl (mdW cI cZ g g1 g2 g3 g4 wf nf cf kf fw mx (nI 1) fr) H := hP
    have hD : va_D A (mdW cI cZ g g1 g2 g3 g4 wf nf cf kf fw mx (nI 1) fr) := hD
    refine lv_aload_n hx hb dX1_next_20 rfl (lv_at hl 0 rfl) ?_
    refine va_get (D := D) (ci := 1) (v := .int (nI 1)) (C := RX1) (T := TX1) (N := 7) hx hb hts (inX1_next) hown hK hP 0 rfl rfl 6 (by decide) (hts (.fieldLink RX1 23 "NoteMixModel" "thrown" "I") (by decide +kernel)) (fun _ h9 => h9) rfl dX1_next_21 ?_
    refine zn_if_le hx hb (by decide) dX1_next_24 rfl (fun hc => absurd hc (by decide)) (fun _ => ?_)
    refine lv_iconst (v := nI 0) hx hb dX1_next_27 (by decide +kernel) ?_
    exact zz_iret F hr hlocks hK hS dX1_next_28 (by decide) (by decide) (kf, nI 1) (Or.inr ⟨rfl, hz⟩) hP hD
end
section
set_option maxRecDepth 100000 in
set_option maxHeartbeats 4000000 in
theorem c1_reach (l : Launch) (D : va_G) (tys : List (ClassId × FieldType)) (cI cZ : ClassId) (hI : tys[0]? = some (cI, .int)) (hZ : tys[1]? = some (cZ, .boolean)) (g g1 g2 g3 g4 : Nat) (fr : va_W) (sz : Nat) (wf nf cf kf : Nat → Int32) (fw mx th : Int32) (w n : Nat → Nat) (ok : nmOk wf nf w n)  : Met l yX1_reach wsX1_reach ({ frames := 3, cells := 0, slots := 0, locals := 90 }) (va_Pc [.ref g] (zz_pre D tys (mdW cI cZ g g1 g2 g3 g4 wf nf cf kf fw mx th fr) sz)) (va_Qi (fun r (u : Nat → Int32) => r = nI (mx_r w n 2001)) (zz_B D tys (va_A (mdW cI cZ g g1 g2 g3 g4 wf nf cf kf fw mx th fr) sz) (fun u => mdW cI cZ g g1 g2 g3 g4 wf nf cf u fw mx (nI 0) fr)) (va_A (mdW cI cZ g g1 g2 g3 g4 wf nf cf kf fw mx th fr) sz)) 0 0 (va_A (mdW cI cZ g g1 g2 g3 g4 wf nf cf kf fw mx th fr) sz) := by
  refine zz_headI (cc := cX1_reach) (by decide) rfl (Nat.le_of_ble_eq_true rfl) ?_
  intro p e s m below meth cd A ls F hr hlocks hP hK hD hA hS hl
  obtain ⟨hx, hb, hml, hown, hts⟩ := id F
  have hl : lv_has ls 3 [(0, .ref g)] := hl
  refine lv_aload_n hx hb dX1_reach_0 rfl (lv_at hl 0 rfl) ?_
  refine lv_iconst (v := nI 0) hx hb dX1_reach_1 (by decide +kernel) ?_
  refine va_put (D := D) (ci := 1) (v := .int (nI 0)) (ty := .int) (C := RX1) (T := TX1) (N := 7) hx hb hts (inX1_reach) tyX1 tyX1_ok nmX1 hown hK hP hD hS 0 rfl rfl 6 (by decide) (hts (.fieldLink RX1 23 "NoteMixModel" "thrown" "I") (by decide +kernel)) (fun _ h9 => h9) rfl (by decide +kernel) rfl rfl (Nat.le_of_ble_eq_true rfl) dX1_reach_2 (fun H locs hP hD hS => ?_)
  have hP : va_P D vwCl (mdW cI cZ g g1 g2 g3 g4 wf nf cf kf fw mx (nI 0) fr) H := hP
  have hD : va_D A (mdW cI cZ g g1 g2 g3 g4 wf nf cf kf fw mx (nI 0) fr) := hD
  refine lv_aload_n hx hb dX1_reach_5 rfl (lv_at hl 0 rfl) ?_
  refine zz_callVv (As := []) (rest := []) F hK hP hD hS hA (c1_all l D tys cI cZ hI hZ g g1 g2 g3 g4 fr _ wf nf cf kf fw mx (nI 0) w n ok) (cwV 0 hts gX1_reach_X1_all rfl rfl rfl (by decide +kernel) ⟨Nat.le_of_ble_eq_true rfl, Nat.le_of_ble_eq_true rfl⟩) 0 rfl rfl rfl hl.1 rfl (Nat.le_of_ble_eq_true rfl) dX1_reach_6 ⟨Nat.le_of_ble_eq_true rfl, Nat.le_of_ble_eq_true rfl⟩ (fun kf H locs hk hP hD hS => ?_)
  have hP : va_P D vwCl (mdW cI cZ g g1 g2 g3 g4 wf nf cf kf fw mx (nI 0) fr) H := hP
  have hD : va_D A (mdW cI cZ g g1 g2 g3 g4 wf nf cf kf fw mx (nI 0) fr) := hD
  refine lv_iconst (v := nI 0) hx hb dX1_reach_9 (by decide +kernel) ?_
  refine lv_istore_n (lv' := [(1, .int (nI 0)), (0, .ref g)]) hx hb dX1_reach_10 rfl hl (by decide) rfl (fun ls hl => ?_)
  refine lv_iconst (v := nI 0) hx hb dX1_reach_11 (by decide +kernel) ?_
  refine lv_istore_n (lv' := [(2, .int (nI 0)), (1, .int (nI 0)), (0, .ref g)]) hx hb dX1_reach_12 rfl hl (by decide) rfl (fun ls hl => ?_)
  have hl : lv_has ls 3 [(2, .int (nI 0)), (1, .int (nI 0)), (0, .ref g)] := lv_sub hl [0, 1, 2] rfl
  refine zz_loop (fun ls H locs (u : Nat) => lv_has ls 3 [(2, .int (nI u)), (1, .int (nI (mx_r w n u))), (0, .ref g)] ∧ va_P D vwCl (mdW cI cZ g g1 g2 g3 g4 wf nf cf kf fw mx (nI 0) fr) H ∧ va_D A (mdW cI cZ g g1 g2 g3 g4 wf nf cf kf fw mx (nI 0) fr) ∧ va_S A s.heap H locs ∧ u ≤ 2001) (fun u => 2001 - u) ?_ 0 ⟨hl, hP, hD, hS, Nat.zero_le _⟩
  rintro ls H locs a ⟨hl, hP, hD, hS, ha⟩ kk
  refine lv_iload_n hx hb dX1_reach_13 rfl (lv_at hl 0 rfl) ?_
  refine lv_sipush (v := nI 2000) hx hb dX1_reach_14 (by decide +kernel) ?_
  refine zn_gt hx hb (by omega) (by omega) dX1_reach_17 rfl (fun hc => ?_) (fun hc => ?_)
  · have e9 : a = 2001 := by omega
    subst e9
    refine lv_iload_n hx hb dX1_reach_38 rfl (lv_at hl 1 rfl) ?_
    exact zz_iret F hr hlocks hK hS dX1_reach_39 (by decide) (by decide) kf rfl hP hD
  · rcases hk a hc with ⟨e1, hh⟩ | ⟨e1, hh⟩
    · have hr9 := mx_r1 hh
      refine lv_aload_n hx hb dX1_reach_20 rfl (lv_at hl 2 rfl) ?_
      refine va_get (D := D) (ci := 1) (v := .ref g4) (C := RX1) (T := TX1) (N := 7) hx hb hts (inX1_reach) hown hK hP 0 rfl rfl 3 (by decide) (hts (.fieldLink RX1 19 "NoteMixModel" "can" "[Z") (by decide +kernel)) (fun _ h9 => h9) rfl dX1_reach_21 ?_
      refine lv_iload_n hx hb dX1_reach_24 rfl (lv_at hl 0 rfl) ?_
      refine zn_zald (k := a) hx hb hK hP 4 _ rfl hZ (by omega) (by decide) e1 dX1_reach_25 ?_
      refine zn_if_eq hx hb (by decide) dX1_reach_26 rfl (fun hc => absurd hc (by decide)) (fun _ => ?_)
      refine lv_iinc (k := 1) (lv' := [(1, .int (nI (mx_r w n a + 1))), (2, .int (nI a)), (0, .ref g)]) hx hb dX1_reach_29 hl rfl (zz_i1 _) (by decide) rfl (fun ls hl => ?_)
      refine lv_iinc (k := 1) (lv' := [(2, .int (nI (a + 1))), (1, .int (nI (mx_r w n a + 1))), (0, .ref g)]) hx hb dX1_reach_32 hl rfl (zz_i1 _) (by decide) rfl (fun ls hl => ?_)
      refine lv_goto hx hb dX1_reach_35 rfl ?_
      have hl : lv_has ls 3 [(2, .int (nI (a + 1))), (1, .int (nI (mx_r w n a + 1))), (0, .ref g)] := lv_sub hl [0, 1, 2] rfl
      rw [← hr9] at hl
      exact kk _ _ _ (a + 1) ⟨hl, hP, hD, hS, by omega⟩ (by omega)
    · have hr9 := mx_r0 hh
      refine lv_aload_n hx hb dX1_reach_20 rfl (lv_at hl 2 rfl) ?_
      refine va_get (D := D) (ci := 1) (v := .ref g4) (C := RX1) (T := TX1) (N := 7) hx hb hts (inX1_reach) hown hK hP 0 rfl rfl 3 (by decide) (hts (.fieldLink RX1 19 "NoteMixModel" "can" "[Z") (by decide +kernel)) (fun _ h9 => h9) rfl dX1_reach_21 ?_
      refine lv_iload_n hx hb dX1_reach_24 rfl (lv_at hl 0 rfl) ?_
      refine zn_zald (k := a) hx hb hK hP 4 _ rfl hZ (by omega) (by decide) e1 dX1_reach_25 ?_
      refine zn_if_eq hx hb (by decide) dX1_reach_26 rfl (fun _ => ?_) (fun hc => absurd hc (by decide))
      refine lv_iinc (k := 0) (lv' := [(2, .int (nI (a + 1))), (1, .int (nI (mx_r w n a))), (0, .ref g)]) hx hb dX1_reach_32 hl rfl (zz_i1 _) (by decide) rfl (fun ls hl => ?_)
      refine lv_goto hx hb dX1_reach_35 rfl ?_
      have hl : lv_has ls 3 [(2, .int (nI (a + 1))), (1, .int (nI (mx_r w n a))), (0, .ref g)] := lv_sub hl [0, 1, 2] rfl
      rw [← hr9] at hl
      exact kk _ _ _ (a + 1) ⟨hl, hP, hD, hS, by omega⟩ (by omega)
end
section
def wsX1_ini : List Cond := wsX1_init ++ [.arrayClass .boolean]
set_option maxRecDepth 100000 in
set_option maxHeartbeats 4000000 in
theorem inX1_init : ∀ w ∈ u_ws RX1 TX1 7, w ∈ wsX1_ini := by decide +kernel
set_option maxRecDepth 100000 in
set_option maxHeartbeats 4000000 in
theorem c1_init (l : Launch) (D : va_G) (tys : List (ClassId × FieldType)) (cI cZ : ClassId) (hI : tys[0]? = some (cI, .int)) (hZ : tys[1]? = some (cZ, .boolean)) (g sz : Nat) : Met l yX1_init wsX1_ini ({ frames := 1, cells := 4, slots := 2013, locals := 20 }) (va_Pc [.ref g] (zz_pre D tys [(g, .inr (1, [.null, .null, .null, .null, .int 0, .int 0, .int 0]))] sz)) (va_Qv (fun (u : Nat × Nat × Nat × Nat × (Nat → Int32) × (Nat → Int32)) => nmOk u.2.2.2.2.1 u.2.2.2.2.2 nm_w0 nm_n0) (zz_B D tys (va_A [(g, .inr (1, [.null, .null, .null, .null, .int 0, .int 0, .int 0]))] sz) (fun u => mdW cI cZ g u.1 u.2.1 u.2.2.1 u.2.2.2.1 u.2.2.2.2.1 u.2.2.2.2.2 (fun _ => 0) (fun _ => 0) 0 0 0 [])) (va_A [(g, .inr (1, [.null, .null, .null, .null, .int 0, .int 0, .int 0]))] sz)) 4 2013 (va_A [(g, .inr (1, [.null, .null, .null, .null, .int 0, .int 0, .int 0]))] sz) := by
  refine zz_headV (cc := cX1_init) (by decide) rfl (Nat.le_of_ble_eq_true rfl) ?_
  intro p e s m below meth cd A ls F hr hlocks hin hP hK hD hA hS hl
  obtain ⟨hx, hb, hml, hown, hts⟩ := id F
  have hl : lv_has ls 1 [(0, .ref g)] := hl
  have hin : meth.name = "<init>" := hin
  refine lv_aload_n hx hb dX1_init_0 rfl (lv_at hl 0 rfl) ?_
  refine W.objInit hx hb hown (hts (.methodLink RX1 1 objectInit) (by decide +kernel)) (hts (.instanceMethod objectInit) (by decide +kernel)) (hts (.code objectInit ⟨#[0xb1]⟩ 1 none) (by decide +kernel)) rfl (by rw [hml]; exact hl.1) rfl dX1_init_1 (Nat.le_of_ble_eq_true rfl) (Nat.le_of_ble_eq_true rfl) ?_
  refine W.eq (g2 := F0 m 4 ls []) rfl ?_
  refine lv_aload_n hx hb dX1_init_4 rfl (lv_at hl 0 rfl) ?_
  refine lv_iconst (v := nI 4) hx hb dX1_init_5 (by decide +kernel) ?_
  have hK0 := hK
  refine va_newa (atype := .int) (ty := .int) (N' := 4) (a0 := (4, .inl (fun _ => 0))) hx hb (hts (.arrayClass .int) (by decide +kernel)) rfl hK hP hD hS hA (fun cA => zz_cellI 4 cA) (by decide +kernel) (by decide +kernel) (by decide +kernel) (Nat.le_of_ble_eq_true rfl) (Nat.le_of_ble_eq_true rfl) dX1_init_6 (fun g1 cA H hK hP hD hS => ?_)
  have hcA := zz_arrI hK0 hI hK
  rw [hcA] at hP hD
  have hK := hK0
  have hP : va_P D vwCl ((g, .inr (1, [.null, .null, .null, .null, .int 0, .int 0, .int 0])) :: (g1, .inl (cI, 4, .inl (fun _ => 0))) :: []) H := hP
  have hD : va_D A ((g, .inr (1, [.null, .null, .null, .null, .int 0, .int 0, .int 0])) :: (g1, .inl (cI, 4, .inl (fun _ => 0))) :: []) := hD
  refine lv_dup hx hb dX1_init_8 rfl ?_
  refine lv_iconst (v := nI 0) hx hb dX1_init_9 (by decide +kernel) ?_
  refine lv_iconst (v := nI 5) hx hb dX1_init_10 (by decide +kernel) ?_
  refine zn_iast (k := 0) hx hb hK hP hD hS 1 _ rfl hI (by decide) (by decide) dX1_init_11 (fun H locs wf1 wf1e wf1n hP hD hS => ?_)
  have hP : va_P D vwCl ((g, .inr (1, [.null, .null, .null, .null, .int 0, .int 0, .int 0])) :: (g1, .inl (cI, 4, .inl wf1)) :: []) H := hP
  have hD : va_D A ((g, .inr (1, [.null, .null, .null, .null, .int 0, .int 0, .int 0])) :: (g1, .inl (cI, 4, .inl wf1)) :: []) := hD
  refine lv_dup hx hb dX1_init_12 rfl ?_
  refine lv_iconst (v := nI 1) hx hb dX1_init_13 (by decide +kernel) ?_
  refine lv_bipush (v := nI 10) hx hb dX1_init_14 (by decide +kernel) ?_
  refine zn_iast (k := 1) hx hb hK hP hD hS 1 _ rfl hI (by decide) (by decide) dX1_init_16 (fun H locs wf2 wf2e wf2n hP hD hS => ?_)
  have hP : va_P D vwCl ((g, .inr (1, [.null, .null, .null, .null, .int 0, .int 0, .int 0])) :: (g1, .inl (cI, 4, .inl wf2)) :: []) H := hP
  have hD : va_D A ((g, .inr (1, [.null, .null, .null, .null, .int 0, .int 0, .int 0])) :: (g1, .inl (cI, 4, .inl wf2)) :: []) := hD
  refine lv_dup hx hb dX1_init_17 rfl ?_
  refine lv_iconst (v := nI 2) hx hb dX1_init_18 (by decide +kernel) ?_
  refine lv_bipush (v := nI 20) hx hb dX1_init_19 (by decide +kernel) ?_
  refine zn_iast (k := 2) hx hb hK hP hD hS 1 _ rfl hI (by decide) (by decide) dX1_init_21 (fun H locs wf3 wf3e wf3n hP hD hS => ?_)
  have hP : va_P D vwCl ((g, .inr (1, [.null, .null, .null, .null, .int 0, .int 0, .int 0])) :: (g1, .inl (cI, 4, .inl wf3)) :: []) H := hP
  have hD : va_D A ((g, .inr (1, [.null, .null, .null, .null, .int 0, .int 0, .int 0])) :: (g1, .inl (cI, 4, .inl wf3)) :: []) := hD
  refine lv_dup hx hb dX1_init_22 rfl ?_
  refine lv_iconst (v := nI 3) hx hb dX1_init_23 (by decide +kernel) ?_
  refine lv_bipush (v := nI 50) hx hb dX1_init_24 (by decide +kernel) ?_
  refine zn_iast (k := 3) hx hb hK hP hD hS 1 _ rfl hI (by decide) (by decide) dX1_init_26 (fun H locs wf4 wf4e wf4n hP hD hS => ?_)
  have hP : va_P D vwCl ((g, .inr (1, [.null, .null, .null, .null, .int 0, .int 0, .int 0])) :: (g1, .inl (cI, 4, .inl wf4)) :: []) H := hP
  have hD : va_D A ((g, .inr (1, [.null, .null, .null, .null, .int 0, .int 0, .int 0])) :: (g1, .inl (cI, 4, .inl wf4)) :: []) := hD
  refine va_putF (D := D) (ci := 1) (v := .ref g1) (ty := .array .int) (C := RX1) (T := TX1) (N := 7) hx hb hts (inX1_init) tyX1 tyX1_ok nmX1 hown hK hP hD hS 0 rfl rfl 0 (by decide) (hts (.fieldLink RX1 7 "NoteMixModel" "worth" "[I") (by decide +kernel)) (fun _ h9 => h9) rfl hin rfl (by decide +kernel) rfl rfl (Nat.le_of_ble_eq_true rfl) dX1_init_27 (fun H locs hP hD hS => ?_)
  have hP : va_P D vwCl ((g, .inr (1, [.ref g1, .null, .null, .null, .int 0, .int 0, .int 0])) :: (g1, .inl (cI, 4, .inl wf4)) :: []) H := hP
  have hD : va_D A ((g, .inr (1, [.ref g1, .null, .null, .null, .int 0, .int 0, .int 0])) :: (g1, .inl (cI, 4, .inl wf4)) :: []) := hD
  refine lv_aload_n hx hb dX1_init_30 rfl (lv_at hl 0 rfl) ?_
  refine lv_iconst (v := nI 4) hx hb dX1_init_31 (by decide +kernel) ?_
  have hK0 := hK
  refine va_newa (atype := .int) (ty := .int) (N' := 4) (a0 := (4, .inl (fun _ => 0))) hx hb (hts (.arrayClass .int) (by decide +kernel)) rfl hK hP hD hS hA (fun cA => zz_cellI 4 cA) (by decide +kernel) (by decide +kernel) (by decide +kernel) (Nat.le_of_ble_eq_true rfl) (Nat.le_of_ble_eq_true rfl) dX1_init_32 (fun g2 cA H hK hP hD hS => ?_)
  have hcA := zz_arrI hK0 hI hK
  rw [hcA] at hP hD
  have hK := hK0
  have hP : va_P D vwCl ((g, .inr (1, [.ref g1, .null, .null, .null, .int 0, .int 0, .int 0])) :: (g1, .inl (cI, 4, .inl wf4)) :: (g2, .inl (cI, 4, .inl (fun _ => 0))) :: []) H := hP
  have hD : va_D A ((g, .inr (1, [.ref g1, .null, .null, .null, .int 0, .int 0, .int 0])) :: (g1, .inl (cI, 4, .inl wf4)) :: (g2, .inl (cI, 4, .inl (fun _ => 0))) :: []) := hD
  refine lv_dup hx hb dX1_init_34 rfl ?_
  refine lv_iconst (v := nI 0) hx hb dX1_init_35 (by decide +kernel) ?_
  refine lv_bipush (v := nI 30) hx hb dX1_init_36 (by decide +kernel) ?_
  refine zn_iast (k := 0) hx hb hK hP hD hS 2 _ rfl hI (by decide) (by decide) dX1_init_38 (fun H locs nf1 nf1e nf1n hP hD hS => ?_)
  have hP : va_P D vwCl ((g, .inr (1, [.ref g1, .null, .null, .null, .int 0, .int 0, .int 0])) :: (g1, .inl (cI, 4, .inl wf4)) :: (g2, .inl (cI, 4, .inl nf1)) :: []) H := hP
  have hD : va_D A ((g, .inr (1, [.ref g1, .null, .null, .null, .int 0, .int 0, .int 0])) :: (g1, .inl (cI, 4, .inl wf4)) :: (g2, .inl (cI, 4, .inl nf1)) :: []) := hD
  refine lv_dup hx hb dX1_init_39 rfl ?_
  refine lv_iconst (v := nI 1) hx hb dX1_init_40 (by decide +kernel) ?_
  refine lv_bipush (v := nI 30) hx hb dX1_init_41 (by decide +kernel) ?_
  refine zn_iast (k := 1) hx hb hK hP hD hS 2 _ rfl hI (by decide) (by decide) dX1_init_43 (fun H locs nf2 nf2e nf2n hP hD hS => ?_)
  have hP : va_P D vwCl ((g, .inr (1, [.ref g1, .null, .null, .null, .int 0, .int 0, .int 0])) :: (g1, .inl (cI, 4, .inl wf4)) :: (g2, .inl (cI, 4, .inl nf2)) :: []) H := hP
  have hD : va_D A ((g, .inr (1, [.ref g1, .null, .null, .null, .int 0, .int 0, .int 0])) :: (g1, .inl (cI, 4, .inl wf4)) :: (g2, .inl (cI, 4, .inl nf2)) :: []) := hD
  refine lv_dup hx hb dX1_init_44 rfl ?_
  refine lv_iconst (v := nI 2) hx hb dX1_init_45 (by decide +kernel) ?_
  refine lv_bipush (v := nI 30) hx hb dX1_init_46 (by decide +kernel) ?_
  refine zn_iast (k := 2) hx hb hK hP hD hS 2 _ rfl hI (by decide) (by decide) dX1_init_48 (fun H locs nf3 nf3e nf3n hP hD hS => ?_)
  have hP : va_P D vwCl ((g, .inr (1, [.ref g1, .null, .null, .null, .int 0, .int 0, .int 0])) :: (g1, .inl (cI, 4, .inl wf4)) :: (g2, .inl (cI, 4, .inl nf3)) :: []) H := hP
  have hD : va_D A ((g, .inr (1, [.ref g1, .null, .null, .null, .int 0, .int 0, .int 0])) :: (g1, .inl (cI, 4, .inl wf4)) :: (g2, .inl (cI, 4, .inl nf3)) :: []) := hD
  refine lv_dup hx hb dX1_init_49 rfl ?_
  refine lv_iconst (v := nI 3) hx hb dX1_init_50 (by decide +kernel) ?_
  refine lv_bipush (v := nI 30) hx hb dX1_init_51 (by decide +kernel) ?_
  refine zn_iast (k := 3) hx hb hK hP hD hS 2 _ rfl hI (by decide) (by decide) dX1_init_53 (fun H locs nf4 nf4e nf4n hP hD hS => ?_)
  have hP : va_P D vwCl ((g, .inr (1, [.ref g1, .null, .null, .null, .int 0, .int 0, .int 0])) :: (g1, .inl (cI, 4, .inl wf4)) :: (g2, .inl (cI, 4, .inl nf4)) :: []) H := hP
  have hD : va_D A ((g, .inr (1, [.ref g1, .null, .null, .null, .int 0, .int 0, .int 0])) :: (g1, .inl (cI, 4, .inl wf4)) :: (g2, .inl (cI, 4, .inl nf4)) :: []) := hD
  refine va_putF (D := D) (ci := 1) (v := .ref g2) (ty := .array .int) (C := RX1) (T := TX1) (N := 7) hx hb hts (inX1_init) tyX1 tyX1_ok nmX1 hown hK hP hD hS 0 rfl rfl 1 (by decide) (hts (.fieldLink RX1 13 "NoteMixModel" "notes" "[I") (by decide +kernel)) (fun _ h9 => h9) rfl hin rfl (by decide +kernel) rfl rfl (Nat.le_of_ble_eq_true rfl) dX1_init_54 (fun H locs hP hD hS => ?_)
  have hP : va_P D vwCl ((g, .inr (1, [.ref g1, .ref g2, .null, .null, .int 0, .int 0, .int 0])) :: (g1, .inl (cI, 4, .inl wf4)) :: (g2, .inl (cI, 4, .inl nf4)) :: []) H := hP
  have hD : va_D A ((g, .inr (1, [.ref g1, .ref g2, .null, .null, .int 0, .int 0, .int 0])) :: (g1, .inl (cI, 4, .inl wf4)) :: (g2, .inl (cI, 4, .inl nf4)) :: []) := hD
  refine lv_aload_n hx hb dX1_init_57 rfl (lv_at hl 0 rfl) ?_
  refine lv_iconst (v := nI 4) hx hb dX1_init_58 (by decide +kernel) ?_
  have hK0 := hK
  refine va_newa (atype := .int) (ty := .int) (N' := 4) (a0 := (4, .inl (fun _ => 0))) hx hb (hts (.arrayClass .int) (by decide +kernel)) rfl hK hP hD hS hA (fun cA => zz_cellI 4 cA) (by decide +kernel) (by decide +kernel) (by decide +kernel) (Nat.le_of_ble_eq_true rfl) (Nat.le_of_ble_eq_true rfl) dX1_init_59 (fun g3 cA H hK hP hD hS => ?_)
  have hcA := zz_arrI hK0 hI hK
  rw [hcA] at hP hD
  have hK := hK0
  have hP : va_P D vwCl ((g, .inr (1, [.ref g1, .ref g2, .null, .null, .int 0, .int 0, .int 0])) :: (g1, .inl (cI, 4, .inl wf4)) :: (g2, .inl (cI, 4, .inl nf4)) :: (g3, .inl (cI, 4, .inl (fun _ => 0))) :: []) H := hP
  have hD : va_D A ((g, .inr (1, [.ref g1, .ref g2, .null, .null, .int 0, .int 0, .int 0])) :: (g1, .inl (cI, 4, .inl wf4)) :: (g2, .inl (cI, 4, .inl nf4)) :: (g3, .inl (cI, 4, .inl (fun _ => 0))) :: []) := hD
  refine va_putF (D := D) (ci := 1) (v := .ref g3) (ty := .array .int) (C := RX1) (T := TX1) (N := 7) hx hb hts (inX1_init) tyX1 tyX1_ok nmX1 hown hK hP hD hS 0 rfl rfl 2 (by decide) (hts (.fieldLink RX1 16 "NoteMixModel" "chosen" "[I") (by decide +kernel)) (fun _ h9 => h9) rfl hin rfl (by decide +kernel) rfl rfl (Nat.le_of_ble_eq_true rfl) dX1_init_61 (fun H locs hP hD hS => ?_)
  have hP : va_P D vwCl ((g, .inr (1, [.ref g1, .ref g2, .ref g3, .null, .int 0, .int 0, .int 0])) :: (g1, .inl (cI, 4, .inl wf4)) :: (g2, .inl (cI, 4, .inl nf4)) :: (g3, .inl (cI, 4, .inl (fun _ => 0))) :: []) H := hP
  have hD : va_D A ((g, .inr (1, [.ref g1, .ref g2, .ref g3, .null, .int 0, .int 0, .int 0])) :: (g1, .inl (cI, 4, .inl wf4)) :: (g2, .inl (cI, 4, .inl nf4)) :: (g3, .inl (cI, 4, .inl (fun _ => 0))) :: []) := hD
  refine lv_aload_n hx hb dX1_init_64 rfl (lv_at hl 0 rfl) ?_
  refine lv_sipush (v := nI 2001) hx hb dX1_init_65 (by decide +kernel) ?_
  have hK0 := hK
  refine va_newa (atype := .boolean) (ty := .boolean) (N' := 2001) (a0 := (2001, .inl (fun _ => 0))) hx hb (hts (.arrayClass .boolean) (by decide +kernel)) rfl hK hP hD hS hA (fun cA => zz_cellZ 2001 cA) (by decide +kernel) (by decide +kernel) (by decide +kernel) (Nat.le_of_ble_eq_true rfl) (Nat.le_of_ble_eq_true rfl) dX1_init_68 (fun g4 cA H hK hP hD hS => ?_)
  have hcA := zz_arrZ hK0 hZ hK
  rw [hcA] at hP hD
  have hK := hK0
  have hP : va_P D vwCl ((g, .inr (1, [.ref g1, .ref g2, .ref g3, .null, .int 0, .int 0, .int 0])) :: (g1, .inl (cI, 4, .inl wf4)) :: (g2, .inl (cI, 4, .inl nf4)) :: (g3, .inl (cI, 4, .inl (fun _ => 0))) :: (g4, .inl (cZ, 2001, .inl (fun _ => 0))) :: []) H := hP
  have hD : va_D A ((g, .inr (1, [.ref g1, .ref g2, .ref g3, .null, .int 0, .int 0, .int 0])) :: (g1, .inl (cI, 4, .inl wf4)) :: (g2, .inl (cI, 4, .inl nf4)) :: (g3, .inl (cI, 4, .inl (fun _ => 0))) :: (g4, .inl (cZ, 2001, .inl (fun _ => 0))) :: []) := hD
  refine va_putF (D := D) (ci := 1) (v := .ref g4) (ty := .array .boolean) (C := RX1) (T := TX1) (N := 7) hx hb hts (inX1_init) tyX1 tyX1_ok nmX1 hown hK hP hD hS 0 rfl rfl 3 (by decide) (hts (.fieldLink RX1 19 "NoteMixModel" "can" "[Z") (by decide +kernel)) (fun _ h9 => h9) rfl hin rfl (by decide +kernel) rfl rfl (Nat.le_of_ble_eq_true rfl) dX1_init_70 (fun H locs hP hD hS => ?_)
  have hP : va_P D vwCl ((g, .inr (1, [.ref g1, .ref g2, .ref g3, .ref g4, .int 0, .int 0, .int 0])) :: (g1, .inl (cI, 4, .inl wf4)) :: (g2, .inl (cI, 4, .inl nf4)) :: (g3, .inl (cI, 4, .inl (fun _ => 0))) :: (g4, .inl (cZ, 2001, .inl (fun _ => 0))) :: []) H := hP
  have hD : va_D A ((g, .inr (1, [.ref g1, .ref g2, .ref g3, .ref g4, .int 0, .int 0, .int 0])) :: (g1, .inl (cI, 4, .inl wf4)) :: (g2, .inl (cI, 4, .inl nf4)) :: (g3, .inl (cI, 4, .inl (fun _ => 0))) :: (g4, .inl (cZ, 2001, .inl (fun _ => 0))) :: []) := hD
  refine zz_vret F hr hlocks hK hS dX1_init_73 (Nat.le_of_ble_eq_true rfl) (Nat.le_of_ble_eq_true rfl) (g1, g2, g3, g4, wf4, nf4) ⟨fun j hj => ?_, fun j hj => ?_, fun j hj => ?_⟩ hP hD
  · rcases (show j = 0 ∨ j = 1 ∨ j = 2 ∨ j = 3 by omega) with rfl | rfl | rfl | rfl
    · exact ((by rw [wf4n 0 (by decide), wf3n 0 (by decide), wf2n 0 (by decide), wf1e]) : wf4 0 = nI 5)
    · exact ((by rw [wf4n 1 (by decide), wf3n 1 (by decide), wf2e]) : wf4 1 = nI 10)
    · exact ((by rw [wf4n 2 (by decide), wf3e]) : wf4 2 = nI 20)
    · exact ((by rw [wf4e]) : wf4 3 = nI 50)
  · rcases (show j = 0 ∨ j = 1 ∨ j = 2 ∨ j = 3 by omega) with rfl | rfl | rfl | rfl
    · exact ((by rw [nf4n 0 (by decide), nf3n 0 (by decide), nf2n 0 (by decide), nf1e]) : nf4 0 = nI 30)
    · exact ((by rw [nf4n 1 (by decide), nf3n 1 (by decide), nf2e]) : nf4 1 = nI 30)
    · exact ((by rw [nf4n 2 (by decide), nf3e]) : nf4 2 = nI 30)
    · exact ((by rw [nf4e]) : nf4 3 = nI 30)
  · rcases (show j = 0 ∨ j = 1 ∨ j = 2 ∨ j = 3 by omega) with rfl | rfl | rfl | rfl <;> exact ⟨by decide, by decide, by decide⟩
end
section
/-! rows for the law -/
section ZQ
variable {p : Program} {l : Launch} {e : Env} {R : Room} {s : State} {m : MethodId} {args : Array Value} {below : List Frame} {meth : Method} {c : Code} {H : Heap} {locs : List Loc} {cells slots : Nat} {Q : State → Prop}
variable {cc : ByteArray} {pc : Nat} {ls : Array Slot} {rest : List Value}
variable {D : va_G} {cl : List vw_C} {tys : List (ClassId × FieldType)} {ws : va_W} {A : Nat → Prop} {H0 : Heap} {a : Nat}
theorem zn_lald (hexec : p.tables.exec = Jvm.exec) (hb : c.code = cc) (hK : va_K D cl tys s) (hP : va_P D cl ws H) (q0 t0 : Nat) {cA : ClassId} {n : Nat} {f : Nat → Int64} (ha : ws[q0]? = some (a, .inl (cA, n, .inr (.inl f)))) (ht : tys[t0]? = some (cA, .long)) {k : Nat} (hk : k < n) (hn : n < 2 ^ 31) (hdg : decode cc pc = .ok (.laload, 1))
    (kk : W p l e R s m args below meth c H locs cells slots Q (F0 m (pc + 1) ls (.long (f k) :: rest))) : W p l e R s m args below meth c H locs cells slots Q (F0 m pc ls (.int (nI k) :: .ref a :: rest)) := by
  refine va_lald hexec hb hK hP q0 t0 ha ht (vp_in_nI hk hn) hdg ?_
  rw [nI_clamp (Nat.lt_trans hk hn)]
  exact kk
theorem zn_last (hexec : p.tables.exec = Jvm.exec) (hb : c.code = cc) (hK : va_K D cl tys s) (hP : va_P D cl ws H) (hD : va_D A ws) (hS : va_S A H0 H locs) (q0 t0 : Nat) {cA : ClassId} {n : Nat} {f : Nat → Int64} (ha : ws[q0]? = some (a, .inl (cA, n, .inr (.inl f)))) (ht : tys[t0]? = some (cA, .long)) {k : Nat} {x : Int64} (hk : k < n) (hn : n < 2 ^ 31) (hdg : decode cc pc = .ok (.lastore, 1))
    (kk : ∀ (H1 : Heap) (locs1 : List Loc) (f1 : Nat → Int64), f1 k = x → va_P D cl (ws.set q0 (a, .inl (cA, n, .inr (.inl f1)))) H1 → va_D A (ws.set q0 (a, .inl (cA, n, .inr (.inl f1)))) → va_S A H0 H1 locs1 → W p l e R s m args below meth c H1 locs1 cells slots Q (F0 m (pc + 1) ls rest)) : W p l e R s m args below meth c H locs cells slots Q (F0 m pc ls (.long x :: .int (nI k) :: .ref a :: rest)) := by
  refine va_last hexec hb hK hP hD hS q0 t0 ha ht (vp_in_nI hk hn) hdg (fun H1 locs1 h1 h2 h3 => ?_)
  rw [nI_clamp (Nat.lt_trans hk hn)] at h1 h2
  exact kk H1 locs1 _ pk_uLs h1 h2 h3
theorem zn_sld (hexec : p.tables.exec = Jvm.exec) (hb : c.code = cc) {b L : Nat} {xs : Nat → Int32} (hX : va_X b L xs s H0) (hbl : b < H0.size) (hbA : ¬ A b) (hS : va_S A H0 H locs) {k : Nat} (hk : k < L) (hL : L < 2 ^ 31) (hdg : decode cc pc = .ok (.iaload, 1))
    (kk : W p l e R s m args below meth c H locs cells slots Q (F0 m (pc + 1) ls (.int (xs k) :: rest))) : W p l e R s m args below meth c H locs cells slots Q (F0 m pc ls (.int (nI k) :: .ref b :: rest)) := by
  refine va_sld hexec hb hX hbl hbA hS (vp_in_nI hk hL) hdg ?_
  rw [nI_clamp (Nat.lt_trans hk hL)]
  exact kk
end ZQ
theorem zz_cmp (x : Int64) : lg_cmp x x = 0 := by
  have h : ¬ x > x := by
    rw [gt_iff_lt, Int64.lt_iff_toInt_lt]
    omega
  unfold lg_cmp
  rw [if_neg h, if_pos rfl]
theorem zz_lim {L i : Nat} (hL : L ≤ 2048) (hi : i ≤ 4096) (h : ¬ nI L - nI 4 < nI i) : i + 4 ≤ L := by
  rw [Int32.lt_iff_toInt_lt, pk_sub_toInt (by omega) (by omega), nI_toInt (by omega)] at h
  omega
theorem zr_u {v v' : Nat} {x : Int32} (hv : v ≤ 2000) (hv' : v' ≤ 2000) (h : x = nI v) (h' : x = nI v') : v' = v := (nI_eq (by omega) (by omega)).1 (h'.symm.trans h)
/-! class and reference agree: pure rows -/
theorem ag3 {P : Int32 → Prop} {E1 E2 : Prop} {r th b : Int32} {o0 : Int64} (hu : ∀ a a', P a → P a' → a' = a) (x1 : ∀ a, P a → ¬ E1) (x2 : ∀ a, P a → ¬ E2) (x3 : E1 → ¬ E2) (H : (r = nI 0 ∧ ∃ rv, P rv ∧ o0 = rv.toInt64) ∨ (r = nI 1 ∧ E1) ∨ (r = nI 2 ∧ E2)) (M : (th = nI 0 ∧ P b) ∨ (th = nI 1 ∧ E1) ∨ (th = nI 2 ∧ E2)) : th = r ∧ (r = 0 → o0 = b.toInt64) := by
  have n1 : ¬ nI 1 = 0 := by decide +kernel
  have n2 : ¬ nI 2 = 0 := by decide +kernel
  rcases H with ⟨h, rv, hp, ho⟩ | ⟨h, hp⟩ | ⟨h, hp⟩ <;> rcases M with ⟨h', hp'⟩ | ⟨h', hp'⟩ | ⟨h', hp'⟩
  · exact ⟨h'.trans h.symm, fun _ => by rw [ho, hu _ _ hp hp']⟩
  · exact absurd hp' (x1 _ hp)
  · exact absurd hp' (x2 _ hp)
  · exact absurd hp (x1 _ hp')
  · exact ⟨h'.trans h.symm, fun q => absurd (h.symm.trans q) n1⟩
  · exact absurd hp' (x3 hp)
  · exact absurd hp (x2 _ hp')
  · exact absurd hp (x3 hp')
  · exact ⟨h'.trans h.symm, fun q => absurd (h.symm.trans q) n2⟩
theorem ag2 {P : Int32 → Prop} {E1 : Prop} {r th b : Int32} {o0 : Int64} (hu : ∀ a a', P a → P a' → a' = a) (x1 : ∀ a, P a → ¬ E1) (H : (r = nI 0 ∧ ∃ rv, P rv ∧ o0 = rv.toInt64) ∨ (r = nI 1 ∧ E1)) (M : (th = nI 0 ∧ P b) ∨ (th = nI 1 ∧ E1)) : th = r ∧ (r = 0 → o0 = b.toInt64) :=
  ag3 (E2 := False) hu x1 (fun _ _ h => h) (fun _ h => h) (H.elim Or.inl (fun h => Or.inr (Or.inl h))) (M.elim Or.inl (fun h => Or.inr (Or.inl h)))
theorem ag_best {w n : Nat → Nat} {x y z r th bb : Int32} {og0 : Int64} (H : (r = nI 0 ∧ ∃ rv : Int32, (∃ v : Nat, v ≤ 2000 ∧ x = nI v ∧ ∃ bm : Nat → Nat, mx_B w n v (bm 0) (bm 1) (bm 2) (bm 3) ∧ rv = nI (bm 0 + bm 1 + bm 2 + bm 3)) ∧ og0 = rv.toInt64) ∨ (r = nI 1 ∧ ¬ zr x 0 2000) ∨ (r = nI 2 ∧ ∃ v : Nat, v ≤ 2000 ∧ x = nI v ∧ ¬ mx_has w n v)) (M : (th = nI 0 ∧ (∃ v : Nat, v ≤ 2000 ∧ x = nI v ∧ ∃ bm : Nat → Nat, mx_B w n v (bm 0) (bm 1) (bm 2) (bm 3) ∧ bb = nI (bm 0 + bm 1 + bm 2 + bm 3))) ∨ (th = nI 1 ∧ ¬ zr x 0 2000) ∨ (th = nI 2 ∧ ∃ v : Nat, v ≤ 2000 ∧ x = nI v ∧ ¬ mx_has w n v)) : th = r ∧ (r = 0 → og0 = bb.toInt64) := by
  refine ag3 (P := fun rv => ∃ v : Nat, v ≤ 2000 ∧ x = nI v ∧ ∃ bm : Nat → Nat, mx_B w n v (bm 0) (bm 1) (bm 2) (bm 3) ∧ rv = nI (bm 0 + bm 1 + bm 2 + bm 3)) ?_ ?_ ?_ ?_ H M
  · rintro a a' ⟨v, hv, hx, bm, hB, e⟩ ⟨v', hv', hx', bm', hB', e'⟩
    obtain rfl := zr_u hv hv' hx hx'
    obtain ⟨q0, q1, q2, q3⟩ := mx_one hB hB'
    rw [e, e', q0, q1, q2, q3]
  · rintro a ⟨v, hv, hx, _⟩ h9
    exact h9 ⟨v, Nat.zero_le _, hv, hx⟩
  · rintro a ⟨v, hv, hx, bm, hB, _⟩ ⟨v', hv', hx', h9⟩
    obtain rfl := zr_u hv hv' hx hx'
    exact h9 ⟨_, _, _, _, hB.1⟩
  · rintro h9 ⟨v, hv, hx, _⟩
    exact h9 ⟨v, Nat.zero_le _, hv, hx⟩
theorem ag_part {w n : Nat → Nat} {x y z r th bb : Int32} {og0 : Int64} (H : (r = nI 0 ∧ ∃ rv : Int32, (∃ v c : Nat, v ≤ 2000 ∧ c < 4 ∧ x = nI v ∧ y = nI c ∧ ∃ bm : Nat → Nat, mx_B w n v (bm 0) (bm 1) (bm 2) (bm 3) ∧ rv = nI (bm c)) ∧ og0 = rv.toInt64) ∨ (r = nI 1 ∧ ¬ (zr y 0 3 ∧ zr x 0 2000)) ∨ (r = nI 2 ∧ zr y 0 3 ∧ ∃ v : Nat, v ≤ 2000 ∧ x = nI v ∧ ¬ mx_has w n v)) (M : (th = nI 0 ∧ (∃ v c : Nat, v ≤ 2000 ∧ c < 4 ∧ x = nI v ∧ y = nI c ∧ ∃ bm : Nat → Nat, mx_B w n v (bm 0) (bm 1) (bm 2) (bm 3) ∧ bb = nI (bm c))) ∨ (th = nI 1 ∧ ¬ (zr y 0 3 ∧ zr x 0 2000)) ∨ (th = nI 2 ∧ zr y 0 3 ∧ ∃ v : Nat, v ≤ 2000 ∧ x = nI v ∧ ¬ mx_has w n v)) : th = r ∧ (r = 0 → og0 = bb.toInt64) := by
  refine ag3 (P := fun rv => ∃ v c : Nat, v ≤ 2000 ∧ c < 4 ∧ x = nI v ∧ y = nI c ∧ ∃ bm : Nat → Nat, mx_B w n v (bm 0) (bm 1) (bm 2) (bm 3) ∧ rv = nI (bm c)) ?_ ?_ ?_ ?_ H M
  · rintro a a' ⟨v, c, hv, hc, hx, hy, bm, hB, e⟩ ⟨v', c', hv', hc', hx', hy', bm', hB', e'⟩
    obtain rfl := zr_u hv hv' hx hx'
    obtain rfl := zr_u (by omega) (by omega) hy hy'
    obtain ⟨q0, q1, q2, q3⟩ := mx_one hB hB'
    rw [e, e']
    rcases (show c' = 0 ∨ c' = 1 ∨ c' = 2 ∨ c' = 3 by omega) with rfl | rfl | rfl | rfl
    · rw [q0]
    · rw [q1]
    · rw [q2]
    · rw [q3]
  · rintro a ⟨v, c, hv, hc, hx, hy, _⟩ h9
    exact h9 ⟨⟨c, Nat.zero_le _, by omega, hy⟩, v, Nat.zero_le _, hv, hx⟩
  · rintro a ⟨v, c, hv, hc, hx, hy, bm, hB, _⟩ ⟨_, v', hv', hx', h9⟩
    obtain rfl := zr_u hv hv' hx hx'
    exact h9 ⟨_, _, _, _, hB.1⟩
  · rintro h9 ⟨h8, v, hv, hx, _⟩
    exact h9 ⟨h8, v, Nat.zero_le _, hv, hx⟩
theorem ag_ways {w n : Nat → Nat} {x y z r th bb : Int32} {og0 : Int64} (H : (r = nI 0 ∧ ∃ rv : Int32, (∃ v : Nat, v ≤ 2000 ∧ x = nI v ∧ rv = nI (mx_c w n v 68921)) ∧ og0 = rv.toInt64) ∨ (r = nI 1 ∧ ¬ zr x 0 2000)) (M : (th = nI 0 ∧ (∃ v : Nat, v ≤ 2000 ∧ x = nI v ∧ bb = nI (mx_c w n v 68921))) ∨ (th = nI 1 ∧ ¬ zr x 0 2000)) : th = r ∧ (r = 0 → og0 = bb.toInt64) := by
  refine ag2 (P := fun rv => ∃ v : Nat, v ≤ 2000 ∧ x = nI v ∧ rv = nI (mx_c w n v 68921)) ?_ ?_ H M
  · rintro a a' ⟨v, hv, hx, e⟩ ⟨v', hv', hx', e'⟩
    obtain rfl := zr_u hv hv' hx hx'
    rw [e, e']
  · rintro a ⟨v, hv, hx, _⟩ h9
    exact h9 ⟨v, Nat.zero_le _, hv, hx⟩
theorem ag_next {w n : Nat → Nat} {x y z r th bb : Int32} {og0 : Int64} (H : (r = nI 0 ∧ ∃ rv : Int32, (∃ v : Nat, v ≤ 2000 ∧ x = nI v ∧ mx_N w n v rv) ∧ og0 = rv.toInt64) ∨ (r = nI 1 ∧ ¬ zr x 0 2000)) (M : (th = nI 0 ∧ (∃ v : Nat, v ≤ 2000 ∧ x = nI v ∧ mx_N w n v bb)) ∨ (th = nI 1 ∧ ¬ zr x 0 2000)) : th = r ∧ (r = 0 → og0 = bb.toInt64) := by
  refine ag2 (P := fun rv => ∃ v : Nat, v ≤ 2000 ∧ x = nI v ∧ mx_N w n v rv) ?_ ?_ H M
  · rintro a a' ⟨v, hv, hx, e⟩ ⟨v', hv', hx', e'⟩
    obtain rfl := zr_u hv hv' hx hx'
    exact mx_Nu e e'
  · rintro a ⟨v, hv, hx, _⟩ h9
    exact h9 ⟨v, Nat.zero_le _, hv, hx⟩
theorem ag_cassette {w n : Nat → Nat} {x y z r th bb : Int32} {og0 : Int64} (H : (r = nI 0 ∧ ∃ rv : Int32, (∃ c : Nat, c < 4 ∧ x = nI c ∧ rv = if y = 0 then nI (n c) else nI (w c)) ∧ og0 = rv.toInt64) ∨ (r = nI 1 ∧ ¬ zr x 0 3)) (M : (th = nI 0 ∧ (∃ c : Nat, c < 4 ∧ x = nI c ∧ bb = if y = 0 then nI (n c) else nI (w c))) ∨ (th = nI 1 ∧ ¬ zr x 0 3)) : th = r ∧ (r = 0 → og0 = bb.toInt64) := by
  refine ag2 (P := fun rv => ∃ c : Nat, c < 4 ∧ x = nI c ∧ rv = if y = 0 then nI (n c) else nI (w c)) ?_ ?_ H M
  · rintro a a' ⟨v, hv, hx, e⟩ ⟨v', hv', hx', e'⟩
    obtain rfl := zr_u (by omega) (by omega) hx hx'
    rw [e, e']
  · rintro a ⟨v, hv, hx, _⟩ h9
    exact h9 ⟨v, Nat.zero_le _, by omega, hx⟩
theorem ag_pay {w n : Nat → Nat} {x y z r th bb : Int32} {og0 : Int64} {wf nf nf' wf1 nf1 nf1' : Nat → Int32} (ok : nmOk wf nf w n) (ok1 : nmOk wf1 nf1 w n) (H : (r = nI 0 ∧ ∃ rv : Int32, (∃ v jam : Nat, v ≤ 2000 ∧ jam ≤ 40 ∧ x = nI v ∧ y = nI jam ∧ ∃ (bm : Nat → Nat) (o3 o2 o1 o0 : Nat), mx_B w n v (bm 0) (bm 1) (bm 2) (bm 3) ∧ o3 = min (bm 3) jam ∧ o2 = min (bm 2) (jam - o3) ∧ o1 = min (bm 1) (jam - o3 - o2) ∧ o0 = min (bm 0) (jam - o3 - o2 - o1) ∧ rv = nI (0 + o3 * w 3 + o2 * w 2 + o1 * w 1 + o0 * w 0) ∧ nf' 0 = nI (n 0 - o0) ∧ nf' 1 = nI (n 1 - o1) ∧ nf' 2 = nI (n 2 - o2) ∧ nf' 3 = nI (n 3 - o3)) ∧ og0 = rv.toInt64) ∨ (r = nI 1 ∧ ¬ (zr y 0 40 ∧ zr x 0 2000) ∧ nf' = nf) ∨ (r = nI 2 ∧ nf' = nf ∧ zr y 0 40 ∧ ∃ v : Nat, v ≤ 2000 ∧ x = nI v ∧ ¬ mx_has w n v)) (M : (th = nI 0 ∧ ∃ v jam : Nat, v ≤ 2000 ∧ jam ≤ 40 ∧ x = nI v ∧ y = nI jam ∧ ∃ (bm : Nat → Nat) (o3 o2 o1 o0 : Nat), mx_B w n v (bm 0) (bm 1) (bm 2) (bm 3) ∧ o3 = min (bm 3) jam ∧ o2 = min (bm 2) (jam - o3) ∧ o1 = min (bm 1) (jam - o3 - o2) ∧ o0 = min (bm 0) (jam - o3 - o2 - o1) ∧ bb = nI (0 + o3 * w 3 + o2 * w 2 + o1 * w 1 + o0 * w 0) ∧ nf1' 0 = nI (n 0 - o0) ∧ nf1' 1 = nI (n 1 - o1) ∧ nf1' 2 = nI (n 2 - o2) ∧ nf1' 3 = nI (n 3 - o3)) ∨ (th = nI 1 ∧ ¬ (zr y 0 40 ∧ zr x 0 2000) ∧ nf1' = nf1) ∨ (th = nI 2 ∧ nf1' = nf1 ∧ zr y 0 40 ∧ ∃ v : Nat, v ≤ 2000 ∧ x = nI v ∧ ¬ mx_has w n v)) : (th = r ∧ (r = 0 → og0 = bb.toInt64)) ∧ ∃ n' : Nat → Nat, nmOk wf nf' w n' ∧ nmOk wf1 nf1' w n' := by
  have n1 : ¬ nI 1 = 0 := by decide +kernel
  have n2 : ¬ nI 2 = 0 := by decide +kernel
  rcases H with ⟨h, rv, ⟨v, jam, hv, hj, hx, hy, bm, o3, o2, o1, o0, hB, e3, e2, e1, e0, er, f0, f1, f2, f3⟩, ho⟩ | ⟨h, hp, hf⟩ | ⟨h, hf, hp⟩ <;> rcases M with ⟨h', v', jam', hv', hj', hx', hy', bm', p3, p2, p1, p0, hB', g3, g2, g1, g0, er', k0, k1, k2, k3⟩ | ⟨h', hp', hf'⟩ | ⟨h', hf', hp'⟩
  · obtain rfl := zr_u hv hv' hx hx'
    obtain rfl := zr_u (by omega) (by omega) hy hy'
    obtain ⟨q0, q1, q2, q3⟩ := mx_one hB hB'
    rw [q3] at g3
    have d3 : p3 = o3 := g3.trans e3.symm
    rw [q2, d3] at g2
    have d2 : p2 = o2 := g2.trans e2.symm
    rw [q1, d3, d2] at g1
    have d1 : p1 = o1 := g1.trans e1.symm
    rw [q0, d3, d2, d1] at g0
    have d0 : p0 = o0 := g0.trans e0.symm
    subst d3 d2 d1 d0
    refine ⟨⟨h'.trans h.symm, fun _ => by rw [ho, er, er']⟩, fun j => if j = 0 then n 0 - p0 else if j = 1 then n 1 - p1 else if j = 2 then n 2 - p2 else n 3 - p3, ⟨ok.1, fun j hj => ?_, fun j hj => ?_⟩, ok1.1, fun j hj => ?_, fun j hj => ?_⟩
    · rcases (show j = 0 ∨ j = 1 ∨ j = 2 ∨ j = 3 by omega) with rfl | rfl | rfl | rfl <;> assumption
    · obtain ⟨a1, a2, a3⟩ := ok.2.2 j hj
      rcases (show j = 0 ∨ j = 1 ∨ j = 2 ∨ j = 3 by omega) with rfl | rfl | rfl | rfl <;> exact ⟨a1, a2, Nat.le_trans (Nat.sub_le _ _) a3⟩
    · rcases (show j = 0 ∨ j = 1 ∨ j = 2 ∨ j = 3 by omega) with rfl | rfl | rfl | rfl <;> assumption
    · obtain ⟨a1, a2, a3⟩ := ok.2.2 j hj
      rcases (show j = 0 ∨ j = 1 ∨ j = 2 ∨ j = 3 by omega) with rfl | rfl | rfl | rfl <;> exact ⟨a1, a2, Nat.le_trans (Nat.sub_le _ _) a3⟩
  · exact absurd (⟨⟨jam, Nat.zero_le _, hj, hy⟩, v, Nat.zero_le _, hv, hx⟩ : zr y 0 40 ∧ zr x 0 2000) hp'
  · obtain ⟨_, v', hv', hx', h9⟩ := hp'
    obtain rfl := zr_u hv hv' hx hx'
    exact absurd ⟨_, _, _, _, hB.1⟩ h9
  · exact absurd (⟨⟨jam', Nat.zero_le _, hj', hy'⟩, v', Nat.zero_le _, hv', hx'⟩ : zr y 0 40 ∧ zr x 0 2000) hp
  · exact ⟨⟨h'.trans h.symm, fun q => absurd (h.symm.trans q) n1⟩, n, by rw [hf]; exact ok, by rw [hf']; exact ok1⟩
  · obtain ⟨h8, v', hv', hx', h9⟩ := hp'
    exact absurd (⟨h8, v', Nat.zero_le _, hv', hx'⟩ : zr y 0 40 ∧ zr x 0 2000) hp
  · obtain ⟨_, v, hv, hx, h9⟩ := hp
    obtain rfl := zr_u hv hv' hx hx'
    exact absurd ⟨_, _, _, _, hB'.1⟩ h9
  · obtain ⟨h8, v', hv', hx', h9⟩ := hp
    exact absurd (⟨h8, v', Nat.zero_le _, hv', hx'⟩ : zr y 0 40 ∧ zr x 0 2000) hp'
  · exact ⟨⟨h'.trans h.symm, fun q => absurd (h.symm.trans q) n2⟩, n, by rw [hf]; exact ok, by rw [hf']; exact ok1⟩
theorem ag_load {w n : Nat → Nat} {x y z r th bb : Int32} {og0 : Int64} {wf nf wf' nf' wf1 nf1 wf1' nf1' : Nat → Int32} (ok : nmOk wf nf w n) (ok1 : nmOk wf1 nf1 w n) (H : (r = nI 0 ∧ ∃ c a b : Nat, c < 4 ∧ 1 ≤ a ∧ a ≤ 500 ∧ b ≤ 500 ∧ x = nI c ∧ y = nI a ∧ z = nI b ∧ nmOk wf' nf' (fun j => if j = c then a else w j) (fun j => if j = c then b else n j)) ∨ (r = nI 1 ∧ ¬ (zr x 0 3 ∧ zr y 1 500 ∧ zr z 0 500) ∧ wf' = wf ∧ nf' = nf)) (M : (∃ c a b : Nat, c < 4 ∧ 1 ≤ a ∧ a ≤ 500 ∧ b ≤ 500 ∧ x = nI c ∧ y = nI a ∧ z = nI b ∧ th = nI 0 ∧ nmOk wf1' nf1' (fun j => if j = c then a else w j) (fun j => if j = c then b else n j)) ∨ (¬ (zr x 0 3 ∧ zr y 1 500 ∧ zr z 0 500) ∧ th = nI 1 ∧ wf1' = wf1 ∧ nf1' = nf1)) : th = r ∧ ∃ w' n' : Nat → Nat, nmOk wf' nf' w' n' ∧ nmOk wf1' nf1' w' n' := by
  rcases H with ⟨h, c, a, b, hc, ha, ha', hb, hx, hy, hz, hok⟩ | ⟨h, hp, hf, hg⟩ <;> rcases M with ⟨c', a', b', hc', ha1, ha2, hb', hx', hy', hz', h', hok'⟩ | ⟨hp', h', hf', hg'⟩
  · obtain rfl := zr_u (by omega) (by omega) hx hx'
    obtain rfl := zr_u (by omega) (by omega) hy hy'
    obtain rfl := zr_u (by omega) (by omega) hz hz'
    exact ⟨h'.trans h.symm, _, _, hok, hok'⟩
  · exact absurd (⟨⟨c, Nat.zero_le _, by omega, hx⟩, ⟨a, ha, ha', hy⟩, b, Nat.zero_le _, hb, hz⟩ : zr x 0 3 ∧ zr y 1 500 ∧ zr z 0 500) hp'
  · exact absurd (⟨⟨c', Nat.zero_le _, by omega, hx'⟩, ⟨a', ha1, ha2, hy'⟩, b', Nat.zero_le _, hb', hz'⟩ : zr x 0 3 ∧ zr y 1 500 ∧ zr z 0 500) hp
  · exact ⟨h'.trans h.symm, w, n, by rw [hf, hg]; exact ok, by rw [hf', hg']; exact ok1⟩
end
section
set_option maxRecDepth 100000 in
set_option maxHeartbeats 4000000 in
theorem h_load (l : Launch) (hl0 : l.stackTraces = false) (D : va_G) (tys : List (ClassId × FieldType)) (cI cL : ClassId) (hI : tys[0]? = some (cI, .int)) (hL : tys[2]? = some (cL, .long)) (h a1 a2 a3 a4 o : Nat) (fr : va_W) (sz : Nat) (wf nf bf : Nat → Int32) (bs mc : Int32) (ff : Nat → Int32) (og : Nat → Int64) (w n : Nat → Nat) (ok : nmOk wf nf w n) (x y z : Int32) : Met l yL_load wsL_load ({ frames := 10, cells := 1, slots := 6, locals := 230 }) (va_Pc [.ref h, .int x, .int y, .int z] (zy_pre D tys (nmW cI h a1 a2 a3 a4 wf nf bf bs mc ff ((o, .inl (cL, 1, .inr (.inl og))) :: fr)) sz)) (va_Qi (fun r (u : (Nat → Int32) × (Nat → Int32)) => (r = nI 0 ∧ ∃ c a b : Nat, c < 4 ∧ 1 ≤ a ∧ a ≤ 500 ∧ b ≤ 500 ∧ x = nI c ∧ y = nI a ∧ z = nI b ∧ nmOk u.1 u.2 (fun j => if j = c then a else w j) (fun j => if j = c then b else n j)) ∨ (r = nI 1 ∧ ¬ (zr x 0 3 ∧ zr y 1 500 ∧ zr z 0 500) ∧ u.1 = wf ∧ u.2 = nf)) (zz_B D tys (va_A (nmW cI h a1 a2 a3 a4 wf nf bf bs mc ff ((o, .inl (cL, 1, .inr (.inl og))) :: fr)) sz) (fun u => nmW cI h a1 a2 a3 a4 u.1 u.2 bf bs mc ff ((o, .inl (cL, 1, .inr (.inl og))) :: fr))) (va_A (nmW cI h a1 a2 a3 a4 wf nf bf bs mc ff ((o, .inl (cL, 1, .inr (.inl og))) :: fr)) sz)) 1 6 (va_A (nmW cI h a1 a2 a3 a4 wf nf bf bs mc ff ((o, .inl (cL, 1, .inr (.inl og))) :: fr)) sz) := by
  refine zy_headI (cc := cL_load) (by decide) rfl (Nat.le_of_ble_eq_true rfl) ?_
  intro p e s m below meth cd A ls F hr hlocks htab hP hK hD hA hS hst hnc hl
  obtain ⟨hx, hb, hml, hown, hts⟩ := id F
  have hl : lv_has ls 5 [(0, .ref h), (1, .int x), (2, .int y), (3, .int z)] := hl
  refine lv_aload_n hx hb dL_load_0 rfl (lv_at hl 0 rfl) ?_
  refine lv_iload_n hx hb dL_load_1 rfl (lv_at hl 1 rfl) ?_
  refine lv_iload_n hx hb dL_load_2 rfl (lv_at hl 2 rfl) ?_
  refine lv_iload_n hx hb dL_load_3 rfl (lv_at hl 3 rfl) ?_
  refine zx_callVv (As := [.int x, .int y, .int z]) (rest := []) F hK hP hD hS hA hst (c_load l hl0 D tys cI hI h a1 a2 a3 a4 ((o, .inl (cL, 1, .inr (.inl og))) :: fr) _ wf nf bf bs mc ff w n ok x y z) (cwV 3 hts gL_load_X0_load rfl rfl rfl (by decide +kernel) ⟨Nat.le_of_ble_eq_true rfl, Nat.le_of_ble_eq_true rfl⟩) 0 rfl rfl rfl hl.1 rfl (Nat.le_of_ble_eq_true rfl) dL_load_4 ⟨Nat.le_of_ble_eq_true rfl, Nat.le_of_ble_eq_true rfl⟩ (fun E ce q9 u H locs hE hP hD hS g1 g2 g3 => ?_) (fun u H locs hu hP hD hS => ?_)
  · obtain ⟨rfl, hz, hu⟩ := hE
    refine vx_catch hown [] ⟨0, 7, 10, 13⟩ [] htab (fun z9 h9 => nomatch h9) (by decide) (by decide) (hts (.classLink RL 13 "java/lang/IllegalArgumentException") (by decide +kernel)) (va_Nw.use rfl hst.2.2.1) g1 g2 g3 ?_
    refine lv_astore (lv' := [(4, .ref q9), (0, .ref h), (1, .int x), (2, .int y), (3, .int z)]) hx hb dL_load_10 hl (by decide) rfl (fun ls hl => ?_)
    refine lv_iconst (v := nI 1) hx hb dL_load_12 (by decide +kernel) ?_
    exact zz_iret F hr hlocks hK hS dL_load_13 (Nat.le_of_ble_eq_true rfl) (Nat.le_of_ble_eq_true rfl) u (Or.inr ⟨rfl, hz, by rw [hu], by rw [hu]⟩) hP hD
  · refine lv_goto hx hb dL_load_7 rfl ?_
    refine lv_iconst (v := nI 0) hx hb dL_load_14 (by decide +kernel) ?_
    exact zz_iret F hr hlocks hK hS dL_load_15 (Nat.le_of_ble_eq_true rfl) (Nat.le_of_ble_eq_true rfl) u (Or.inl ⟨rfl, hu⟩) hP hD
set_option maxRecDepth 100000 in
set_option maxHeartbeats 4000000 in
theorem h_best (l : Launch) (hl0 : l.stackTraces = false) (D : va_G) (tys : List (ClassId × FieldType)) (cI cL : ClassId) (hI : tys[0]? = some (cI, .int)) (hL : tys[2]? = some (cL, .long)) (h a1 a2 a3 a4 o : Nat) (fr : va_W) (sz : Nat) (wf nf bf : Nat → Int32) (bs mc : Int32) (ff : Nat → Int32) (og : Nat → Int64) (w n : Nat → Nat) (ok : nmOk wf nf w n) (x : Int32) : Met l yL_best wsL_best ({ frames := 10, cells := 1, slots := 6, locals := 230 }) (va_Pc [.ref h, .int x, .ref o] (zy_pre D tys (nmW cI h a1 a2 a3 a4 wf nf bf bs mc ff ((o, .inl (cL, 1, .inr (.inl og))) :: fr)) sz)) (va_Qi (fun r (u : ((Nat → Int32) × Int32 × Int32) × (Nat → Int64)) => (r = nI 0 ∧ ∃ rv : Int32, (∃ v : Nat, v ≤ 2000 ∧ x = nI v ∧ ∃ bm : Nat → Nat, mx_B w n v (bm 0) (bm 1) (bm 2) (bm 3) ∧ rv = nI (bm 0 + bm 1 + bm 2 + bm 3)) ∧ u.2 0 = rv.toInt64) ∨ (r = nI 1 ∧ ¬ zr x 0 2000) ∨ (r = nI 2 ∧ ∃ v : Nat, v ≤ 2000 ∧ x = nI v ∧ ¬ mx_has w n v)) (zz_B D tys (va_A (nmW cI h a1 a2 a3 a4 wf nf bf bs mc ff ((o, .inl (cL, 1, .inr (.inl og))) :: fr)) sz) (fun u => nmW cI h a1 a2 a3 a4 wf nf u.1.1 u.1.2.1 u.1.2.2 ff ((o, .inl (cL, 1, .inr (.inl u.2))) :: fr))) (va_A (nmW cI h a1 a2 a3 a4 wf nf bf bs mc ff ((o, .inl (cL, 1, .inr (.inl og))) :: fr)) sz)) 1 6 (va_A (nmW cI h a1 a2 a3 a4 wf nf bf bs mc ff ((o, .inl (cL, 1, .inr (.inl og))) :: fr)) sz) := by
  refine zy_headI (cc := cL_best) (by decide) rfl (Nat.le_of_ble_eq_true rfl) ?_
  intro p e s m below meth cd A ls F hr hlocks htab hP hK hD hA hS hst hnc hl
  obtain ⟨hx, hb, hml, hown, hts⟩ := id F
  have hl : lv_has ls 4 [(0, .ref h), (1, .int x), (2, .ref o)] := hl
  refine lv_aload_n hx hb dL_best_0 rfl (lv_at hl 2 rfl) ?_
  refine lv_iconst (v := nI 0) hx hb dL_best_1 (by decide +kernel) ?_
  refine lv_aload_n hx hb dL_best_2 rfl (lv_at hl 0 rfl) ?_
  refine lv_iload_n hx hb dL_best_3 rfl (lv_at hl 1 rfl) ?_
  refine zx_callVi (As := [.int x]) (rest := [.int (nI 0), .ref o]) F hK hP hD hS hA hst (c_best l hl0 D tys cI hI h a1 a2 a3 a4 ((o, .inl (cL, 1, .inr (.inl og))) :: fr) _ wf nf bf bs mc ff w n ok x) (cwV 1 hts gL_best_X0_best rfl rfl rfl (by decide +kernel) ⟨Nat.le_of_ble_eq_true rfl, Nat.le_of_ble_eq_true rfl⟩) 0 rfl rfl rfl hl.1 rfl (Nat.le_of_ble_eq_true rfl) dL_best_4 ⟨Nat.le_of_ble_eq_true rfl, Nat.le_of_ble_eq_true rfl⟩ (fun E ce q9 u H locs hE hP hD hS g1 g2 g3 => ?_) (fun rv u H locs hu hP hD hS => ?_)
  · rcases hE with ⟨rfl, hz⟩ | ⟨rfl, hz⟩
    · refine vx_catch hown [] ⟨0, 9, 12, 13⟩ [⟨0, 9, 15, 19⟩] htab (fun z9 h9 => nomatch h9) (by decide) (by decide) (hts (.classLink RL 13 "java/lang/IllegalArgumentException") (by decide +kernel)) (va_Nw.use rfl hst.2.2.1) g1 g2 g3 ?_
      refine lv_astore_n (lv' := [(3, .ref q9), (0, .ref h), (1, .int x), (2, .ref o)]) hx hb dL_best_12 rfl hl (by decide) rfl (fun ls hl => ?_)
      refine lv_iconst (v := nI 1) hx hb dL_best_13 (by decide +kernel) ?_
      exact zz_iret F hr hlocks hK hS dL_best_14 (Nat.le_of_ble_eq_true rfl) (Nat.le_of_ble_eq_true rfl) (u, og) (Or.inr (Or.inl ⟨rfl, hz⟩)) hP hD
    · refine vx_catch hown [⟨0, 9, 12, 13⟩] ⟨0, 9, 15, 19⟩ [] htab (fun z9 h9 => by rw [List.mem_singleton] at h9; subst h9; exact Or.inr ⟨by decide, _, hts (.classLink RL 13 "java/lang/IllegalArgumentException") (by decide +kernel), hnc⟩) (by decide) (by decide) (hts (.classLink RL 19 "java/util/NoSuchElementException") (by decide +kernel)) (va_Nw.use rfl hst.2.2.2.1) g1 g2 g3 ?_
      refine lv_astore_n (lv' := [(3, .ref q9), (0, .ref h), (1, .int x), (2, .ref o)]) hx hb dL_best_15 rfl hl (by decide) rfl (fun ls hl => ?_)
      refine lv_iconst (v := nI 2) hx hb dL_best_16 (by decide +kernel) ?_
      exact zz_iret F hr hlocks hK hS dL_best_17 (Nat.le_of_ble_eq_true rfl) (Nat.le_of_ble_eq_true rfl) (u, og) (Or.inr (Or.inr ⟨rfl, hz⟩)) hP hD
  · refine lv_i2l (v := rv.toInt64) hx hb dL_best_7 rfl ?_
    refine zn_last (k := 0) hx hb hK hP hD hS 5 _ rfl hL (by decide) (by decide) dL_best_8 (fun H locs og1 oge hP hD hS => ?_)
    refine lv_goto hx hb dL_best_9 rfl ?_
    refine lv_iconst (v := nI 0) hx hb dL_best_18 (by decide +kernel) ?_
    exact zz_iret F hr hlocks hK hS dL_best_19 (Nat.le_of_ble_eq_true rfl) (Nat.le_of_ble_eq_true rfl) (u, og1) (Or.inl ⟨rfl, rv, hu, oge⟩) hP hD
set_option maxRecDepth 100000 in
set_option maxHeartbeats 4000000 in
theorem h_part (l : Launch) (hl0 : l.stackTraces = false) (D : va_G) (tys : List (ClassId × FieldType)) (cI cL : ClassId) (hI : tys[0]? = some (cI, .int)) (hL : tys[2]? = some (cL, .long)) (h a1 a2 a3 a4 o : Nat) (fr : va_W) (sz : Nat) (wf nf bf : Nat → Int32) (bs mc : Int32) (ff : Nat → Int32) (og : Nat → Int64) (w n : Nat → Nat) (ok : nmOk wf nf w n) (x y : Int32) : Met l yL_part wsL_part ({ frames := 10, cells := 1, slots := 6, locals := 230 }) (va_Pc [.ref h, .int x, .int y, .ref o] (zy_pre D tys (nmW cI h a1 a2 a3 a4 wf nf bf bs mc ff ((o, .inl (cL, 1, .inr (.inl og))) :: fr)) sz)) (va_Qi (fun r (u : ((Nat → Int32) × Int32 × Int32) × (Nat → Int64)) => (r = nI 0 ∧ ∃ rv : Int32, (∃ v c : Nat, v ≤ 2000 ∧ c < 4 ∧ x = nI v ∧ y = nI c ∧ ∃ bm : Nat → Nat, mx_B w n v (bm 0) (bm 1) (bm 2) (bm 3) ∧ rv = nI (bm c)) ∧ u.2 0 = rv.toInt64) ∨ (r = nI 1 ∧ ¬ (zr y 0 3 ∧ zr x 0 2000)) ∨ (r = nI 2 ∧ zr y 0 3 ∧ ∃ v : Nat, v ≤ 2000 ∧ x = nI v ∧ ¬ mx_has w n v)) (zz_B D tys (va_A (nmW cI h a1 a2 a3 a4 wf nf bf bs mc ff ((o, .inl (cL, 1, .inr (.inl og))) :: fr)) sz) (fun u => nmW cI h a1 a2 a3 a4 wf nf u.1.1 u.1.2.1 u.1.2.2 ff ((o, .inl (cL, 1, .inr (.inl u.2))) :: fr))) (va_A (nmW cI h a1 a2 a3 a4 wf nf bf bs mc ff ((o, .inl (cL, 1, .inr (.inl og))) :: fr)) sz)) 1 6 (va_A (nmW cI h a1 a2 a3 a4 wf nf bf bs mc ff ((o, .inl (cL, 1, .inr (.inl og))) :: fr)) sz) := by
  refine zy_headI (cc := cL_part) (by decide) rfl (Nat.le_of_ble_eq_true rfl) ?_
  intro p e s m below meth cd A ls F hr hlocks htab hP hK hD hA hS hst hnc hl
  obtain ⟨hx, hb, hml, hown, hts⟩ := id F
  have hl : lv_has ls 5 [(0, .ref h), (1, .int x), (2, .int y), (3, .ref o)] := hl
  refine lv_aload_n hx hb dL_part_0 rfl (lv_at hl 3 rfl) ?_
  refine lv_iconst (v := nI 0) hx hb dL_part_1 (by decide +kernel) ?_
  refine lv_aload_n hx hb dL_part_2 rfl (lv_at hl 0 rfl) ?_
  refine lv_iload_n hx hb dL_part_3 rfl (lv_at hl 1 rfl) ?_
  refine lv_iload_n hx hb dL_part_4 rfl (lv_at hl 2 rfl) ?_
  refine zx_callVi (As := [.int x, .int y]) (rest := [.int (nI 0), .ref o]) F hK hP hD hS hA hst (c_part l hl0 D tys cI hI h a1 a2 a3 a4 ((o, .inl (cL, 1, .inr (.inl og))) :: fr) _ wf nf bf bs mc ff w n ok x y) (cwV 2 hts gL_part_X0_part rfl rfl rfl (by decide +kernel) ⟨Nat.le_of_ble_eq_true rfl, Nat.le_of_ble_eq_true rfl⟩) 0 rfl rfl rfl hl.1 rfl (Nat.le_of_ble_eq_true rfl) dL_part_5 ⟨Nat.le_of_ble_eq_true rfl, Nat.le_of_ble_eq_true rfl⟩ (fun E ce q9 u H locs hE hP hD hS g1 g2 g3 => ?_) (fun rv u H locs hu hP hD hS => ?_)
  · rcases hE with ⟨rfl, hz⟩ | ⟨rfl, hz⟩
    · refine vx_catch hown [] ⟨0, 10, 13, 13⟩ [⟨0, 10, 17, 19⟩] htab (fun z9 h9 => nomatch h9) (by decide) (by decide) (hts (.classLink RL 13 "java/lang/IllegalArgumentException") (by decide +kernel)) (va_Nw.use rfl hst.2.2.1) g1 g2 g3 ?_
      refine lv_astore (lv' := [(4, .ref q9), (0, .ref h), (1, .int x), (2, .int y), (3, .ref o)]) hx hb dL_part_13 hl (by decide) rfl (fun ls hl => ?_)
      refine lv_iconst (v := nI 1) hx hb dL_part_15 (by decide +kernel) ?_
      exact zz_iret F hr hlocks hK hS dL_part_16 (Nat.le_of_ble_eq_true rfl) (Nat.le_of_ble_eq_true rfl) (u, og) (Or.inr (Or.inl ⟨rfl, hz⟩)) hP hD
    · refine vx_catch hown [⟨0, 10, 13, 13⟩] ⟨0, 10, 17, 19⟩ [] htab (fun z9 h9 => by rw [List.mem_singleton] at h9; subst h9; exact Or.inr ⟨by decide, _, hts (.classLink RL 13 "java/lang/IllegalArgumentException") (by decide +kernel), hnc⟩) (by decide) (by decide) (hts (.classLink RL 19 "java/util/NoSuchElementException") (by decide +kernel)) (va_Nw.use rfl hst.2.2.2.1) g1 g2 g3 ?_
      refine lv_astore (lv' := [(4, .ref q9), (0, .ref h), (1, .int x), (2, .int y), (3, .ref o)]) hx hb dL_part_17 hl (by decide) rfl (fun ls hl => ?_)
      refine lv_iconst (v := nI 2) hx hb dL_part_19 (by decide +kernel) ?_
      exact zz_iret F hr hlocks hK hS dL_part_20 (Nat.le_of_ble_eq_true rfl) (Nat.le_of_ble_eq_true rfl) (u, og) (Or.inr (Or.inr ⟨rfl, hz⟩)) hP hD
  · refine lv_i2l (v := rv.toInt64) hx hb dL_part_8 rfl ?_
    refine zn_last (k := 0) hx hb hK hP hD hS 5 _ rfl hL (by decide) (by decide) dL_part_9 (fun H locs og1 oge hP hD hS => ?_)
    refine lv_goto hx hb dL_part_10 rfl ?_
    refine lv_iconst (v := nI 0) hx hb dL_part_21 (by decide +kernel) ?_
    exact zz_iret F hr hlocks hK hS dL_part_22 (Nat.le_of_ble_eq_true rfl) (Nat.le_of_ble_eq_true rfl) (u, og1) (Or.inl ⟨rfl, rv, hu, oge⟩) hP hD
end
section
set_option maxRecDepth 100000 in
set_option maxHeartbeats 4000000 in
theorem h_ways (l : Launch) (hl0 : l.stackTraces = false) (D : va_G) (tys : List (ClassId × FieldType)) (cI cL : ClassId) (hI : tys[0]? = some (cI, .int)) (hL : tys[2]? = some (cL, .long)) (h a1 a2 a3 a4 o : Nat) (fr : va_W) (sz : Nat) (wf nf bf : Nat → Int32) (bs mc : Int32) (ff : Nat → Int32) (og : Nat → Int64) (w n : Nat → Nat) (ok : nmOk wf nf w n) (x : Int32) : Met l yL_ways wsL_ways ({ frames := 10, cells := 1, slots := 6, locals := 230 }) (va_Pc [.ref h, .int x, .ref o] (zy_pre D tys (nmW cI h a1 a2 a3 a4 wf nf bf bs mc ff ((o, .inl (cL, 1, .inr (.inl og))) :: fr)) sz)) (va_Qi (fun r (u : ((Nat → Int32) × Int32 × Int32) × (Nat → Int64)) => (r = nI 0 ∧ ∃ rv : Int32, (∃ v : Nat, v ≤ 2000 ∧ x = nI v ∧ rv = nI (mx_c w n v 68921)) ∧ u.2 0 = rv.toInt64) ∨ (r = nI 1 ∧ ¬ zr x 0 2000)) (zz_B D tys (va_A (nmW cI h a1 a2 a3 a4 wf nf bf bs mc ff ((o, .inl (cL, 1, .inr (.inl og))) :: fr)) sz) (fun u => nmW cI h a1 a2 a3 a4 wf nf u.1.1 u.1.2.1 u.1.2.2 ff ((o, .inl (cL, 1, .inr (.inl u.2))) :: fr))) (va_A (nmW cI h a1 a2 a3 a4 wf nf bf bs mc ff ((o, .inl (cL, 1, .inr (.inl og))) :: fr)) sz)) 1 6 (va_A (nmW cI h a1 a2 a3 a4 wf nf bf bs mc ff ((o, .inl (cL, 1, .inr (.inl og))) :: fr)) sz) := by
  refine zy_headI (cc := cL_ways) (by decide) rfl (Nat.le_of_ble_eq_true rfl) ?_
  intro p e s m below meth cd A ls F hr hlocks htab hP hK hD hA hS hst hnc hl
  obtain ⟨hx, hb, hml, hown, hts⟩ := id F
  have hl : lv_has ls 4 [(0, .ref h), (1, .int x), (2, .ref o)] := hl
  refine lv_aload_n hx hb dL_ways_0 rfl (lv_at hl 2 rfl) ?_
  refine lv_iconst (v := nI 0) hx hb dL_ways_1 (by decide +kernel) ?_
  refine lv_aload_n hx hb dL_ways_2 rfl (lv_at hl 0 rfl) ?_
  refine lv_iload_n hx hb dL_ways_3 rfl (lv_at hl 1 rfl) ?_
  refine zx_callVi (As := [.int x]) (rest := [.int (nI 0), .ref o]) F hK hP hD hS hA hst (c_ways l hl0 D tys cI hI h a1 a2 a3 a4 ((o, .inl (cL, 1, .inr (.inl og))) :: fr) _ wf nf bf bs mc ff w n ok x) (cwV 1 hts gL_ways_X0_ways rfl rfl rfl (by decide +kernel) ⟨Nat.le_of_ble_eq_true rfl, Nat.le_of_ble_eq_true rfl⟩) 0 rfl rfl rfl hl.1 rfl (Nat.le_of_ble_eq_true rfl) dL_ways_4 ⟨Nat.le_of_ble_eq_true rfl, Nat.le_of_ble_eq_true rfl⟩ (fun E ce q9 u H locs hE hP hD hS g1 g2 g3 => ?_) (fun rv u H locs hu hP hD hS => ?_)
  · obtain ⟨rfl, hz⟩ := hE
    refine vx_catch hown [] ⟨0, 9, 12, 13⟩ [] htab (fun z9 h9 => nomatch h9) (by decide) (by decide) (hts (.classLink RL 13 "java/lang/IllegalArgumentException") (by decide +kernel)) (va_Nw.use rfl hst.2.2.1) g1 g2 g3 ?_
    refine lv_astore_n (lv' := [(3, .ref q9), (0, .ref h), (1, .int x), (2, .ref o)]) hx hb dL_ways_12 rfl hl (by decide) rfl (fun ls hl => ?_)
    refine lv_iconst (v := nI 1) hx hb dL_ways_13 (by decide +kernel) ?_
    exact zz_iret F hr hlocks hK hS dL_ways_14 (Nat.le_of_ble_eq_true rfl) (Nat.le_of_ble_eq_true rfl) (u, og) (Or.inr ⟨rfl, hz⟩) hP hD
  · refine lv_i2l (v := rv.toInt64) hx hb dL_ways_7 rfl ?_
    refine zn_last (k := 0) hx hb hK hP hD hS 5 _ rfl hL (by decide) (by decide) dL_ways_8 (fun H locs og1 oge hP hD hS => ?_)
    refine lv_goto hx hb dL_ways_9 rfl ?_
    refine lv_iconst (v := nI 0) hx hb dL_ways_15 (by decide +kernel) ?_
    exact zz_iret F hr hlocks hK hS dL_ways_16 (Nat.le_of_ble_eq_true rfl) (Nat.le_of_ble_eq_true rfl) (u, og1) (Or.inl ⟨rfl, rv, hu, oge⟩) hP hD
set_option maxRecDepth 100000 in
set_option maxHeartbeats 4000000 in
theorem h_next (l : Launch) (hl0 : l.stackTraces = false) (D : va_G) (tys : List (ClassId × FieldType)) (cI cL : ClassId) (hI : tys[0]? = some (cI, .int)) (hL : tys[2]? = some (cL, .long)) (h a1 a2 a3 a4 o : Nat) (fr : va_W) (sz : Nat) (wf nf bf : Nat → Int32) (bs mc : Int32) (ff : Nat → Int32) (og : Nat → Int64) (w n : Nat → Nat) (ok : nmOk wf nf w n) (x : Int32) : Met l yL_next wsL_next ({ frames := 10, cells := 1, slots := 6, locals := 230 }) (va_Pc [.ref h, .int x, .ref o] (zy_pre D tys (nmW cI h a1 a2 a3 a4 wf nf bf bs mc ff ((o, .inl (cL, 1, .inr (.inl og))) :: fr)) sz)) (va_Qi (fun r (u : (Nat → Int32) × (Nat → Int64)) => (r = nI 0 ∧ ∃ rv : Int32, (∃ v : Nat, v ≤ 2000 ∧ x = nI v ∧ mx_N w n v rv) ∧ u.2 0 = rv.toInt64) ∨ (r = nI 1 ∧ ¬ zr x 0 2000)) (zz_B D tys (va_A (nmW cI h a1 a2 a3 a4 wf nf bf bs mc ff ((o, .inl (cL, 1, .inr (.inl og))) :: fr)) sz) (fun u => nmW cI h a1 a2 a3 a4 wf nf bf bs mc u.1 ((o, .inl (cL, 1, .inr (.inl u.2))) :: fr))) (va_A (nmW cI h a1 a2 a3 a4 wf nf bf bs mc ff ((o, .inl (cL, 1, .inr (.inl og))) :: fr)) sz)) 1 6 (va_A (nmW cI h a1 a2 a3 a4 wf nf bf bs mc ff ((o, .inl (cL, 1, .inr (.inl og))) :: fr)) sz) := by
  refine zy_headI (cc := cL_next) (by decide) rfl (Nat.le_of_ble_eq_true rfl) ?_
  intro p e s m below meth cd A ls F hr hlocks htab hP hK hD hA hS hst hnc hl
  obtain ⟨hx, hb, hml, hown, hts⟩ := id F
  have hl : lv_has ls 4 [(0, .ref h), (1, .int x), (2, .ref o)] := hl
  refine lv_aload_n hx hb dL_next_0 rfl (lv_at hl 2 rfl) ?_
  refine lv_iconst (v := nI 0) hx hb dL_next_1 (by decide +kernel) ?_
  refine lv_aload_n hx hb dL_next_2 rfl (lv_at hl 0 rfl) ?_
  refine lv_iload_n hx hb dL_next_3 rfl (lv_at hl 1 rfl) ?_
  refine zx_callVi (As := [.int x]) (rest := [.int (nI 0), .ref o]) F hK hP hD hS hA hst (c_next l hl0 D tys cI hI h a1 a2 a3 a4 ((o, .inl (cL, 1, .inr (.inl og))) :: fr) _ wf nf bf bs mc ff w n ok x) (cwV 1 hts gL_next_X0_next rfl rfl rfl (by decide +kernel) ⟨Nat.le_of_ble_eq_true rfl, Nat.le_of_ble_eq_true rfl⟩) 0 rfl rfl rfl hl.1 rfl (Nat.le_of_ble_eq_true rfl) dL_next_4 ⟨Nat.le_of_ble_eq_true rfl, Nat.le_of_ble_eq_true rfl⟩ (fun E ce q9 u H locs hE hP hD hS g1 g2 g3 => ?_) (fun rv u H locs hu hP hD hS => ?_)
  · obtain ⟨rfl, hz⟩ := hE
    refine vx_catch hown [] ⟨0, 9, 12, 13⟩ [] htab (fun z9 h9 => nomatch h9) (by decide) (by decide) (hts (.classLink RL 13 "java/lang/IllegalArgumentException") (by decide +kernel)) (va_Nw.use rfl hst.2.2.1) g1 g2 g3 ?_
    refine lv_astore_n (lv' := [(3, .ref q9), (0, .ref h), (1, .int x), (2, .ref o)]) hx hb dL_next_12 rfl hl (by decide) rfl (fun ls hl => ?_)
    refine lv_iconst (v := nI 1) hx hb dL_next_13 (by decide +kernel) ?_
    exact zz_iret F hr hlocks hK hS dL_next_14 (Nat.le_of_ble_eq_true rfl) (Nat.le_of_ble_eq_true rfl) (u, og) (Or.inr ⟨rfl, hz⟩) hP hD
  · refine lv_i2l (v := rv.toInt64) hx hb dL_next_7 rfl ?_
    refine zn_last (k := 0) hx hb hK hP hD hS 5 _ rfl hL (by decide) (by decide) dL_next_8 (fun H locs og1 oge hP hD hS => ?_)
    refine lv_goto hx hb dL_next_9 rfl ?_
    refine lv_iconst (v := nI 0) hx hb dL_next_15 (by decide +kernel) ?_
    exact zz_iret F hr hlocks hK hS dL_next_16 (Nat.le_of_ble_eq_true rfl) (Nat.le_of_ble_eq_true rfl) (u, og1) (Or.inl ⟨rfl, rv, hu, oge⟩) hP hD
set_option maxRecDepth 100000 in
set_option maxHeartbeats 4000000 in
theorem h_cassette (l : Launch) (hl0 : l.stackTraces = false) (D : va_G) (tys : List (ClassId × FieldType)) (cI cL : ClassId) (hI : tys[0]? = some (cI, .int)) (hL : tys[2]? = some (cL, .long)) (h a1 a2 a3 a4 o : Nat) (fr : va_W) (sz : Nat) (wf nf bf : Nat → Int32) (bs mc : Int32) (ff : Nat → Int32) (og : Nat → Int64) (w n : Nat → Nat) (ok : nmOk wf nf w n) (x y : Int32) : Met l yL_cassette wsL_cassette ({ frames := 10, cells := 1, slots := 6, locals := 230 }) (va_Pc [.ref h, .int x, .int y, .ref o] (zy_pre D tys (nmW cI h a1 a2 a3 a4 wf nf bf bs mc ff ((o, .inl (cL, 1, .inr (.inl og))) :: fr)) sz)) (va_Qi (fun r (u : Unit × (Nat → Int64)) => (r = nI 0 ∧ ∃ rv : Int32, (∃ c : Nat, c < 4 ∧ x = nI c ∧ rv = if y = 0 then nI (n c) else nI (w c)) ∧ u.2 0 = rv.toInt64) ∨ (r = nI 1 ∧ ¬ zr x 0 3)) (zz_B D tys (va_A (nmW cI h a1 a2 a3 a4 wf nf bf bs mc ff ((o, .inl (cL, 1, .inr (.inl og))) :: fr)) sz) (fun u => nmW cI h a1 a2 a3 a4 wf nf bf bs mc ff ((o, .inl (cL, 1, .inr (.inl u.2))) :: fr))) (va_A (nmW cI h a1 a2 a3 a4 wf nf bf bs mc ff ((o, .inl (cL, 1, .inr (.inl og))) :: fr)) sz)) 1 6 (va_A (nmW cI h a1 a2 a3 a4 wf nf bf bs mc ff ((o, .inl (cL, 1, .inr (.inl og))) :: fr)) sz) := by
  refine zy_headI (cc := cL_cassette) (by decide) rfl (Nat.le_of_ble_eq_true rfl) ?_
  intro p e s m below meth cd A ls F hr hlocks htab hP hK hD hA hS hst hnc hl
  obtain ⟨hx, hb, hml, hown, hts⟩ := id F
  have hl : lv_has ls 5 [(0, .ref h), (1, .int x), (2, .int y), (3, .ref o)] := hl
  refine lv_aload_n hx hb dL_cassette_0 rfl (lv_at hl 3 rfl) ?_
  refine lv_iconst (v := nI 0) hx hb dL_cassette_1 (by decide +kernel) ?_
  refine lv_aload_n hx hb dL_cassette_2 rfl (lv_at hl 0 rfl) ?_
  refine lv_iload_n hx hb dL_cassette_3 rfl (lv_at hl 1 rfl) ?_
  refine lv_iload_n hx hb dL_cassette_4 rfl (lv_at hl 2 rfl) ?_
  refine zx_callVi (As := [.int x, .int y]) (rest := [.int (nI 0), .ref o]) F hK hP hD hS hA hst (c_cassette l hl0 D tys cI hI h a1 a2 a3 a4 ((o, .inl (cL, 1, .inr (.inl og))) :: fr) _ wf nf bf bs mc ff w n ok x y) (cwV 2 hts gL_cassette_X0_cassette rfl rfl rfl (by decide +kernel) ⟨Nat.le_of_ble_eq_true rfl, Nat.le_of_ble_eq_true rfl⟩) 0 rfl rfl rfl hl.1 rfl (Nat.le_of_ble_eq_true rfl) dL_cassette_5 ⟨Nat.le_of_ble_eq_true rfl, Nat.le_of_ble_eq_true rfl⟩ (fun E ce q9 u H locs hE hP hD hS g1 g2 g3 => ?_) (fun rv u H locs hu hP hD hS => ?_)
  · obtain ⟨rfl, hz⟩ := hE
    refine vx_catch hown [] ⟨0, 10, 13, 13⟩ [] htab (fun z9 h9 => nomatch h9) (by decide) (by decide) (hts (.classLink RL 13 "java/lang/IllegalArgumentException") (by decide +kernel)) (va_Nw.use rfl hst.2.2.1) g1 g2 g3 ?_
    refine lv_astore (lv' := [(4, .ref q9), (0, .ref h), (1, .int x), (2, .int y), (3, .ref o)]) hx hb dL_cassette_13 hl (by decide) rfl (fun ls hl => ?_)
    refine lv_iconst (v := nI 1) hx hb dL_cassette_15 (by decide +kernel) ?_
    exact zz_iret F hr hlocks hK hS dL_cassette_16 (Nat.le_of_ble_eq_true rfl) (Nat.le_of_ble_eq_true rfl) (u, og) (Or.inr ⟨rfl, hz⟩) hP hD
  · refine lv_i2l (v := rv.toInt64) hx hb dL_cassette_8 rfl ?_
    refine zn_last (k := 0) hx hb hK hP hD hS 5 _ rfl hL (by decide) (by decide) dL_cassette_9 (fun H locs og1 oge hP hD hS => ?_)
    refine lv_goto hx hb dL_cassette_10 rfl ?_
    refine lv_iconst (v := nI 0) hx hb dL_cassette_17 (by decide +kernel) ?_
    exact zz_iret F hr hlocks hK hS dL_cassette_18 (Nat.le_of_ble_eq_true rfl) (Nat.le_of_ble_eq_true rfl) (u, og1) (Or.inl ⟨rfl, rv, hu, oge⟩) hP hD
set_option maxRecDepth 100000 in
set_option maxHeartbeats 4000000 in
theorem h_pay (l : Launch) (hl0 : l.stackTraces = false) (D : va_G) (tys : List (ClassId × FieldType)) (cI cL : ClassId) (hI : tys[0]? = some (cI, .int)) (hL : tys[2]? = some (cL, .long)) (h a1 a2 a3 a4 o : Nat) (fr : va_W) (sz : Nat) (wf nf bf : Nat → Int32) (bs mc : Int32) (ff : Nat → Int32) (og : Nat → Int64) (w n : Nat → Nat) (ok : nmOk wf nf w n) (x y : Int32) : Met l yL_pay wsL_pay ({ frames := 10, cells := 1, slots := 6, locals := 230 }) (va_Pc [.ref h, .int x, .int y, .ref o] (zy_pre D tys (nmW cI h a1 a2 a3 a4 wf nf bf bs mc ff ((o, .inl (cL, 1, .inr (.inl og))) :: fr)) sz)) (va_Qi (fun r (u : ((Nat → Int32) × (Nat → Int32) × Int32 × Int32) × (Nat → Int64)) => (r = nI 0 ∧ ∃ rv : Int32, (∃ v jam : Nat, v ≤ 2000 ∧ jam ≤ 40 ∧ x = nI v ∧ y = nI jam ∧ ∃ (bm : Nat → Nat) (o3 o2 o1 o0 : Nat), mx_B w n v (bm 0) (bm 1) (bm 2) (bm 3) ∧ o3 = min (bm 3) jam ∧ o2 = min (bm 2) (jam - o3) ∧ o1 = min (bm 1) (jam - o3 - o2) ∧ o0 = min (bm 0) (jam - o3 - o2 - o1) ∧ rv = nI (0 + o3 * w 3 + o2 * w 2 + o1 * w 1 + o0 * w 0) ∧ u.1.1 0 = nI (n 0 - o0) ∧ u.1.1 1 = nI (n 1 - o1) ∧ u.1.1 2 = nI (n 2 - o2) ∧ u.1.1 3 = nI (n 3 - o3)) ∧ u.2 0 = rv.toInt64) ∨ (r = nI 1 ∧ ¬ (zr y 0 40 ∧ zr x 0 2000) ∧ u.1.1 = nf) ∨ (r = nI 2 ∧ u.1.1 = nf ∧ zr y 0 40 ∧ ∃ v : Nat, v ≤ 2000 ∧ x = nI v ∧ ¬ mx_has w n v)) (zz_B D tys (va_A (nmW cI h a1 a2 a3 a4 wf nf bf bs mc ff ((o, .inl (cL, 1, .inr (.inl og))) :: fr)) sz) (fun u => nmW cI h a1 a2 a3 a4 wf u.1.1 u.1.2.1 u.1.2.2.1 u.1.2.2.2 ff ((o, .inl (cL, 1, .inr (.inl u.2))) :: fr))) (va_A (nmW cI h a1 a2 a3 a4 wf nf bf bs mc ff ((o, .inl (cL, 1, .inr (.inl og))) :: fr)) sz)) 1 6 (va_A (nmW cI h a1 a2 a3 a4 wf nf bf bs mc ff ((o, .inl (cL, 1, .inr (.inl og))) :: fr)) sz) := by
  refine zy_headI (cc := cL_pay) (by decide) rfl (Nat.le_of_ble_eq_true rfl) ?_
  intro p e s m below meth cd A ls F hr hlocks htab hP hK hD hA hS hst hnc hl
  obtain ⟨hx, hb, hml, hown, hts⟩ := id F
  have hl : lv_has ls 5 [(0, .ref h), (1, .int x), (2, .int y), (3, .ref o)] := hl
  refine lv_aload_n hx hb dL_pay_0 rfl (lv_at hl 3 rfl) ?_
  refine lv_iconst (v := nI 0) hx hb dL_pay_1 (by decide +kernel) ?_
  refine lv_aload_n hx hb dL_pay_2 rfl (lv_at hl 0 rfl) ?_
  refine lv_iload_n hx hb dL_pay_3 rfl (lv_at hl 1 rfl) ?_
  refine lv_iload_n hx hb dL_pay_4 rfl (lv_at hl 2 rfl) ?_
  refine zx_callVi (As := [.int x, .int y]) (rest := [.int (nI 0), .ref o]) F hK hP hD hS hA hst (c_pay l hl0 D tys cI hI h a1 a2 a3 a4 ((o, .inl (cL, 1, .inr (.inl og))) :: fr) _ wf nf bf bs mc ff w n ok x y) (cwV 2 hts gL_pay_X0_pay rfl rfl rfl (by decide +kernel) ⟨Nat.le_of_ble_eq_true rfl, Nat.le_of_ble_eq_true rfl⟩) 0 rfl rfl rfl hl.1 rfl (Nat.le_of_ble_eq_true rfl) dL_pay_5 ⟨Nat.le_of_ble_eq_true rfl, Nat.le_of_ble_eq_true rfl⟩ (fun E ce q9 u H locs hE hP hD hS g1 g2 g3 => ?_) (fun rv u H locs hu hP hD hS => ?_)
  · obtain ⟨hf, ⟨rfl, hz⟩ | ⟨rfl, hz⟩⟩ := hE
    · refine vx_catch hown [] ⟨0, 10, 13, 13⟩ [⟨0, 10, 17, 19⟩] htab (fun z9 h9 => nomatch h9) (by decide) (by decide) (hts (.classLink RL 13 "java/lang/IllegalArgumentException") (by decide +kernel)) (va_Nw.use rfl hst.2.2.1) g1 g2 g3 ?_
      refine lv_astore (lv' := [(4, .ref q9), (0, .ref h), (1, .int x), (2, .int y), (3, .ref o)]) hx hb dL_pay_13 hl (by decide) rfl (fun ls hl => ?_)
      refine lv_iconst (v := nI 1) hx hb dL_pay_15 (by decide +kernel) ?_
      exact zz_iret F hr hlocks hK hS dL_pay_16 (Nat.le_of_ble_eq_true rfl) (Nat.le_of_ble_eq_true rfl) (u, og) (Or.inr (Or.inl ⟨rfl, hz, hf⟩)) hP hD
    · refine vx_catch hown [⟨0, 10, 13, 13⟩] ⟨0, 10, 17, 19⟩ [] htab (fun z9 h9 => by rw [List.mem_singleton] at h9; subst h9; exact Or.inr ⟨by decide, _, hts (.classLink RL 13 "java/lang/IllegalArgumentException") (by decide +kernel), hnc⟩) (by decide) (by decide) (hts (.classLink RL 19 "java/util/NoSuchElementException") (by decide +kernel)) (va_Nw.use rfl hst.2.2.2.1) g1 g2 g3 ?_
      refine lv_astore (lv' := [(4, .ref q9), (0, .ref h), (1, .int x), (2, .int y), (3, .ref o)]) hx hb dL_pay_17 hl (by decide) rfl (fun ls hl => ?_)
      refine lv_iconst (v := nI 2) hx hb dL_pay_19 (by decide +kernel) ?_
      exact zz_iret F hr hlocks hK hS dL_pay_20 (Nat.le_of_ble_eq_true rfl) (Nat.le_of_ble_eq_true rfl) (u, og) (Or.inr (Or.inr ⟨rfl, hf, hz⟩)) hP hD
  · refine lv_i2l (v := rv.toInt64) hx hb dL_pay_8 rfl ?_
    refine zn_last (k := 0) hx hb hK hP hD hS 5 _ rfl hL (by decide) (by decide) dL_pay_9 (fun H locs og1 oge hP hD hS => ?_)
    refine lv_goto hx hb dL_pay_10 rfl ?_
    refine lv_iconst (v := nI 0) hx hb dL_pay_21 (by decide +kernel) ?_
    exact zz_iret F hr hlocks hK hS dL_pay_22 (Nat.le_of_ble_eq_true rfl) (Nat.le_of_ble_eq_true rfl) (u, og1) (Or.inl ⟨rfl, rv, hu, oge⟩) hP hD
end
section
/-! the law's world, its state between two calls -/
theorem zz_cellL (n : Nat) (cA : ClassId) : vp_cell cA (n, .inr (.inl (fun _ => 0))) = arrV cA n (fun _ => defaultValue .long) := rfl
theorem zz_i4 (a : Nat) : nI a + Int32.ofInt 4 = nI (a + 4) := by
  rw [show Int32.ofInt 4 = nI 4 from by decide +kernel]
  exact nI_add a 4
abbrev lwW (cI cZ cL : ClassId) (h a1 a2 a3 a4 g g1 g2 g3 g4 o : Nat) (wf nf bf : Nat → Int32) (bs mc : Int32) (ff : Nat → Int32) (og : Nat → Int64) (wf1 nf1 cf kf : Nat → Int32) (fw mx th : Int32) : va_W :=
  nmW cI h a1 a2 a3 a4 wf nf bf bs mc ff ((o, .inl (cL, 1, .inr (.inl og))) :: mdW cI cZ g g1 g2 g3 g4 wf1 nf1 cf kf fw mx th [])
abbrev lwM (cI cZ cL : ClassId) (h a1 a2 a3 a4 g g1 g2 g3 g4 o : Nat) (wf nf bf : Nat → Int32) (bs mc : Int32) (ff : Nat → Int32) (og : Nat → Int64) (wf1 nf1 cf kf : Nat → Int32) (fw mx th : Int32) : va_W :=
  mdW cI cZ g g1 g2 g3 g4 wf1 nf1 cf kf fw mx th (nmW cI h a1 a2 a3 a4 wf nf bf bs mc ff [(o, .inl (cL, 1, .inr (.inl og)))])
/-- between two calls: both objects hold the same worths and notes -/
def lwS (D : va_G) (cI cZ cL : ClassId) (h a1 a2 a3 a4 g g1 g2 g3 g4 o : Nat) (A : Nat → Prop) (s : State) (b i : Nat) (ls : Array Slot) (H : Heap) (locs : List Loc) : Prop :=
  ∃ (wf nf bf : Nat → Int32) (bs mc : Int32) (ff : Nat → Int32) (og : Nat → Int64) (wf1 nf1 cf kf : Nat → Int32) (fw mx th : Int32) (w n : Nat → Nat),
    lv_has ls 7 [(4, .int (nI i)), (3, .ref o), (2, .ref g), (1, .ref h), (0, .ref b)] ∧ va_P D vwCl (lwW cI cZ cL h a1 a2 a3 a4 g g1 g2 g3 g4 o wf nf bf bs mc ff og wf1 nf1 cf kf fw mx th) H ∧ va_D A (lwW cI cZ cL h a1 a2 a3 a4 g g1 g2 g3 g4 o wf nf bf bs mc ff og wf1 nf1 cf kf fw mx th) ∧ va_S A s.heap H locs ∧ nmOk wf nf w n ∧ nmOk wf1 nf1 w n
/-- what stands over the whole law -/
def lwC (p : Program) (l : Launch) (s : State) (m : MethodId) (c : Code) (D : va_G) (tys : List (ClassId × FieldType)) (cI cZ cL : ClassId) (A : Nat → Prop) (b L : Nat) (xs : Nat → Int32) : Prop :=
  CallFix p m c cL_law 7 s #[Value.ref b] lw_tbl RL ∧ l.stackTraces = false ∧ va_X b L xs s s.heap ∧ b < s.heap.size ∧ ¬ A b ∧ zx_st A s s.heap ∧ va_Nc "java/util/NoSuchElementException" "java/lang/IllegalArgumentException" s ∧ va_K D vwCl tys s ∧ tys[0]? = some (cI, .int) ∧ tys[1]? = some (cZ, .boolean) ∧ tys[2]? = some (cL, .long) ∧ ∀ q, s.heap.size ≤ q → A q
section ZA
variable {p : Program} {l : Launch} {e : Env} {R : Room} {s : State} {m : MethodId} {args : Array Value} {below : List Frame} {meth : Method} {c : Code} {H : Heap} {locs : List Loc} {cells slots : Nat} {Q : State → Prop}
variable {cc : ByteArray} {pc : Nat} {ls : Array Slot} {rest : List Value}
theorem zn_asl {x z : Int64} (h : x = z) (k : W p l e R s m args below meth c H locs cells slots Q (F0 m pc ls (.long z :: rest))) : W p l e R s m args below meth c H locs cells slots Q (F0 m pc ls (.long x :: rest)) := h ▸ k
variable {rest st0 : List Value} {Ts : List Cond} {own : String}
variable {D : va_G} {tys tys2 : List (ClassId × FieldType)} {A : Nat → Prop} {S : Type} {wf : S → va_W} {wl wc wr : va_W} {postv : S → Prop}
variable {y : MethodName} {bytes : ByteArray} {maxL nL mc ms n index : Nat} {ws : List Cond} {rm : Room} {b : Addr} {As : List Value}
/-- a constructor's call that gets some of the cells -/
theorem zz_callIvF (F : CallFix p m c cc nL s args Ts own) (hK : va_K D vwCl tys s) (hP : va_P D vwCl wl H) (hD : va_D A wl) (hS : va_S A s.heap H locs) (hA : ∀ q, s.heap.size ≤ q → A q) (isC isR : List Nat) (hC : isC.map (fun i => wl[i]?) = wc.map some) (hCf : isC.filterMap (fun i => wl[i]?) = wc) (hnd : va_nd isC = true) (hR : isR.map (fun i => wl[i]?) = wr.map some) (hn2 : va_nd isR = true) (hdis : ∀ i ∈ isR, i ∉ isC)
    (hM : Met l y ws rm (va_Pc (.ref b :: As) (zz_pre D tys wc H.size)) (va_Qv postv (zz_B D tys2 (va_A wc H.size) wf) (va_A wc H.size)) mc ms (va_A wc H.size)) (cw : CallB R s args own index y bytes maxL none ws rm mc ms n ∧ y.name = "<init>" ∧ (Cond.instanceMethod y).before args s = true)
    (hn : As.length = n) (hsize : ls.size = nL) (hstack : st0 = As.reverse ++ .ref b :: rest) (hW : (rest.map fun v => v.category).sum ≤ 8) (hdg : decode cc pc = .ok (.invokespecial index, 3)) (hf : cells + mc ≤ R.cells ∧ slots + ms ≤ R.slots)
    (kk : ∀ (u : S) (H1 : Heap) (locs1 : List Loc), postv u → va_P D vwCl (wr ++ wf u) H1 → va_D A (wr ++ wf u) → va_S A s.heap H1 locs1 → W p l e R s m args below meth c H1 locs1 (cells + mc) (slots + ms) Q (F0 m (pc + 3) ls rest)) : W p l e R s m args below meth c H locs cells slots Q (F0 m pc ls st0) := by
  have hPc : va_P D vwCl wc H := hP.sub isC hCf
  have hDc : va_D A wc := hD.sub isC hnd hC
  have hFc := va_free (wc := wc) hD hS hA isC hC
  refine va_callv (va_runI F hM cw (zz_preS hK hPc hDc) rfl hn hsize hstack (lv_room hW) hdg hf) hS (fun q _ h => hFc q h) hFc (fun u t H1 locs1 ht hvm hp hB hz hk hS1 => ?_)
  obtain ⟨hP1, -, hD1⟩ := hB
  rw [ht] at hP1
  obtain ⟨hP2, hD2⟩ := va_join (wr := wr) hP hD isC isR hC hR hn2 hdis hk hFc hP1 hD1
  exact kk u H1 locs1 hp hP2 hD2 hS1
end ZA
set_option maxRecDepth 20000 in
theorem gT_load : GoodIn lw_tbl (wsV RL 47 RX1 yX1_load wsX1_load) := goodIn_p _ [261, 264] (by decide +kernel) (by decide +kernel)
set_option maxRecDepth 20000 in
theorem gT_thrown : GoodIn lw_tbl (wsV RL 48 RX1 yX1_thrown wsX1_thrown) := goodIn_p _ [257] (by decide +kernel) (by decide +kernel)
set_option maxRecDepth 20000 in
theorem gT_best : GoodIn lw_tbl (wsV RL 55 RX1 yX1_best wsX1_best) := goodIn_p _ [268, 272, 264, 276, 66] (by decide +kernel) (by decide +kernel)
set_option maxRecDepth 20000 in
theorem gT_part : GoodIn lw_tbl (wsV RL 59 RX1 yX1_part wsX1_part) := goodIn_p _ [281, 264, 272, 276, 66] (by decide +kernel) (by decide +kernel)
set_option maxRecDepth 20000 in
theorem gT_ways : GoodIn lw_tbl (wsV RL 62 RX1 yX1_ways wsX1_ways) := goodIn_p _ [285, 264, 276, 66] (by decide +kernel) (by decide +kernel)
set_option maxRecDepth 20000 in
theorem gT_pay : GoodIn lw_tbl (wsV RL 65 RX1 yX1_pay wsX1_pay) := goodIn_p _ [289, 264, 272, 276, 66] (by decide +kernel) (by decide +kernel)
set_option maxRecDepth 20000 in
theorem gT_next : GoodIn lw_tbl (wsV RL 68 RX1 yX1_next wsX1_next) := goodIn_p _ [293, 264, 297, 66] (by decide +kernel) (by decide +kernel)
set_option maxRecDepth 20000 in
theorem gT_reach : GoodIn lw_tbl (wsV RL 72 RX1 yX1_reach wsX1_reach) := goodIn_p _ [301, 297, 66] (by decide +kernel) (by decide +kernel)
set_option maxRecDepth 20000 in
theorem gT_cassette : GoodIn lw_tbl (wsV RL 76 RX1 yX1_cassette wsX1_cassette) := goodIn_p _ [305, 264] (by decide +kernel) (by decide +kernel)
set_option maxRecDepth 20000 in
theorem gT_value : GoodIn lw_tbl (wsV RL 80 RX1 yX1_value wsX1_value) := goodIn_p _ [309] (by decide +kernel) (by decide +kernel)
set_option maxRecDepth 20000 in
theorem gT_init : GoodIn lw_tbl wsX1_ini := goodIn_p _ [229, 28] (by decide +kernel) (by decide +kernel)
end
section
set_option maxRecDepth 100000 in
set_option maxHeartbeats 4000000 in
theorem lw_case0 {p : Program} {l : Launch} {e : Env} {s : State} {m : MethodId} {below : List Frame} {meth : Method} {c : Code} {Q : State → Prop} {D : va_G} {tys : List (ClassId × FieldType)} {cI cZ cL : ClassId} {A : Nat → Prop} {b L : Nat} {xs : Nat → Int32} {h a1 a2 a3 a4 g g1 g2 g3 g4 o k : Nat} {ls : Array Slot} {H : Heap} {locs : List Loc} {cells slots : Nat} (C : lwC p l s m c D tys cI cZ cL A b L xs) (hL : L ≤ 2048) (hk : 4 * k + 4 ≤ L) (hc : cells + 1 ≤ 1037) (hs : slots + 6 ≤ 12244) (S0 : lwS D cI cZ cL h a1 a2 a3 a4 g g1 g2 g3 g4 o A s b (4 * k) ls H locs) (kk : ∀ (ls' : Array Slot) (H' : Heap) (locs' : List Loc), lwS D cI cZ cL h a1 a2 a3 a4 g g1 g2 g3 g4 o A s b (4 * k) ls' H' locs' → W p l e room_1 s m #[Value.ref b] below meth c H' locs' (cells + 1) (slots + 6) Q (F0 m 562 ls' [])) : W p l e room_1 s m #[Value.ref b] below meth c H locs cells slots Q (F0 m 88 ls []) := by
  obtain ⟨F, hl0, hX, hbl, hbA, hst, hnc, hK, hI, hZ, hLg, hA⟩ := C
  obtain ⟨hx, hb, hml, hown, hts⟩ := id F
  have FL : CallFix p m c cL_law 7 s #[Value.ref b] wsL_law RL := ⟨hx, hb, hml, hown, fun w hw => hts w (wsL_law_in w hw)⟩
  obtain ⟨wf, nf, bf, bs, mc, ff, og, wf1, nf1, cf, kf, fw, mx, th, w, n, hl, hP, hD, hS, ok, ok1⟩ := S0
  refine lv_aload_n hx hb dL_law_88 rfl (lv_at hl 3 rfl) ?_
  refine lv_aload_n hx hb dL_law_89 rfl (lv_at hl 4 rfl) ?_
  refine lv_iload hx hb dL_law_90 (lv_at hl 0 rfl) ?_
  refine lv_iconst (v := nI 1) hx hb dL_law_92 (by decide +kernel) ?_
  refine zn_add hx hb dL_law_93 ?_
  refine zn_sld (k := (4 * k) + 1) hx hb hX hbl hbA hS (by omega) (by omega) dL_law_94 ?_
  refine lv_aload_n hx hb dL_law_95 rfl (lv_at hl 4 rfl) ?_
  refine lv_iload hx hb dL_law_96 (lv_at hl 0 rfl) ?_
  refine lv_iconst (v := nI 2) hx hb dL_law_98 (by decide +kernel) ?_
  refine zn_add hx hb dL_law_99 ?_
  refine zn_sld (k := (4 * k) + 2) hx hb hX hbl hbA hS (by omega) (by omega) dL_law_100 ?_
  refine lv_aload_n hx hb dL_law_101 rfl (lv_at hl 4 rfl) ?_
  refine lv_iload hx hb dL_law_102 (lv_at hl 0 rfl) ?_
  refine lv_iconst (v := nI 3) hx hb dL_law_104 (by decide +kernel) ?_
  refine zn_add hx hb dL_law_105 ?_
  refine zn_sld (k := (4 * k) + 3) hx hb hX hbl hbA hS (by omega) (by omega) dL_law_106 ?_
  refine zy_callSi (As := [.ref h, .int (xs ((4 * k) + 1)), .int (xs ((4 * k) + 2)), .int (xs ((4 * k) + 3))]) (rest := []) FL hK hP hD hS hA hst hnc (h_load l hl0 D tys cI cL hI hLg h a1 a2 a3 a4 o (mdW cI cZ g g1 g2 g3 g4 wf1 nf1 cf kf fw mx th []) _ wf nf bf bs mc ff og w n ok (xs ((4 * k) + 1)) (xs ((4 * k) + 2)) (xs ((4 * k) + 3))) (vx_cwSW 4 FL.2.2.2.2 gL_law_L_load rfl rfl rfl (by decide +kernel) ⟨Nat.le_of_ble_eq_true rfl, Nat.le_of_ble_eq_true rfl⟩) rfl hl.1 rfl (Nat.le_of_ble_eq_true rfl) dL_law_107 ⟨hc, hs⟩ (fun rr u H locs hu hP hD hS => ?_)
  obtain ⟨wf', nf'⟩ := u
  have hP : va_P D vwCl (lwW cI cZ cL h a1 a2 a3 a4 g g1 g2 g3 g4 o wf' nf' bf bs mc ff og wf1 nf1 cf kf fw mx th) H := hP
  have hD : va_D A (lwW cI cZ cL h a1 a2 a3 a4 g g1 g2 g3 g4 o wf' nf' bf bs mc ff og wf1 nf1 cf kf fw mx th) := hD
  have hP := hP.sub (ws' := (lwM cI cZ cL h a1 a2 a3 a4 g g1 g2 g3 g4 o wf' nf' bf bs mc ff og wf1 nf1 cf kf fw mx th)) [6, 7, 8, 9, 10, 0, 1, 2, 3, 4, 5] rfl
  have hD := hD.sub (ws' := (lwM cI cZ cL h a1 a2 a3 a4 g g1 g2 g3 g4 o wf' nf' bf bs mc ff og wf1 nf1 cf kf fw mx th)) [6, 7, 8, 9, 10, 0, 1, 2, 3, 4, 5] (by decide) rfl
  refine lv_istore (lv' := [(5, .int rr), (4, .int (nI (4 * k))), (3, .ref o), (2, .ref g), (1, .ref h), (0, .ref b)]) hx hb dL_law_110 hl (by decide) rfl (fun ls hl => ?_)
  refine lv_aload_n hx hb dL_law_112 rfl (lv_at hl 3 rfl) ?_
  refine lv_aload_n hx hb dL_law_113 rfl (lv_at hl 5 rfl) ?_
  refine lv_iload hx hb dL_law_114 (lv_at hl 1 rfl) ?_
  refine lv_iconst (v := nI 1) hx hb dL_law_116 (by decide +kernel) ?_
  refine zn_add hx hb dL_law_117 ?_
  refine zn_sld (k := (4 * k) + 1) hx hb hX hbl hbA hS (by omega) (by omega) dL_law_118 ?_
  refine lv_aload_n hx hb dL_law_119 rfl (lv_at hl 5 rfl) ?_
  refine lv_iload hx hb dL_law_120 (lv_at hl 1 rfl) ?_
  refine lv_iconst (v := nI 2) hx hb dL_law_122 (by decide +kernel) ?_
  refine zn_add hx hb dL_law_123 ?_
  refine zn_sld (k := (4 * k) + 2) hx hb hX hbl hbA hS (by omega) (by omega) dL_law_124 ?_
  refine lv_aload_n hx hb dL_law_125 rfl (lv_at hl 5 rfl) ?_
  refine lv_iload hx hb dL_law_126 (lv_at hl 1 rfl) ?_
  refine lv_iconst (v := nI 3) hx hb dL_law_128 (by decide +kernel) ?_
  refine zn_add hx hb dL_law_129 ?_
  refine zn_sld (k := (4 * k) + 3) hx hb hX hbl hbA hS (by omega) (by omega) dL_law_130 ?_
  refine zz_callVv (As := [.int (xs ((4 * k) + 1)), .int (xs ((4 * k) + 2)), .int (xs ((4 * k) + 3))]) (rest := []) F hK hP hD hS hA (c1_load l D tys cI cZ hI hZ g g1 g2 g3 g4 (nmW cI h a1 a2 a3 a4 wf' nf' bf bs mc ff [(o, .inl (cL, 1, .inr (.inl og)))]) _ wf1 nf1 cf kf fw mx th w n ok1 (xs ((4 * k) + 1)) (xs ((4 * k) + 2)) (xs ((4 * k) + 3))) (cwV 3 hts gT_load rfl rfl rfl (by decide +kernel) ⟨Nat.le_of_ble_eq_true rfl, Nat.le_of_ble_eq_true rfl⟩) 0 rfl rfl rfl hl.1 rfl (Nat.le_of_ble_eq_true rfl) dL_law_131 ⟨hc, hs⟩ (fun u H locs hM hP hD hS => ?_)
  obtain ⟨wf1', nf1', th'⟩ := u
  have hP : va_P D vwCl (lwM cI cZ cL h a1 a2 a3 a4 g g1 g2 g3 g4 o wf' nf' bf bs mc ff og wf1' nf1' cf kf fw mx th') H := hP
  have hD : va_D A (lwM cI cZ cL h a1 a2 a3 a4 g g1 g2 g3 g4 o wf' nf' bf bs mc ff og wf1' nf1' cf kf fw mx th') := hD
  have ag0 := ag_load (og0 := 0) (bb := 0) ok ok1 hu hM
  obtain ⟨agE, w', n', ok, ok1⟩ := ag0
  obtain ⟨w, rfl⟩ : ∃ z, z = w' := ⟨_, rfl⟩
  obtain ⟨n, rfl⟩ : ∃ z, z = n' := ⟨_, rfl⟩
  refine lv_aload_n hx hb dL_law_134 rfl (lv_at hl 3 rfl) ?_
  refine zz_callVi (As := []) (rest := []) F hK hP hD hS hA (c1_thrown l D tys cI cZ hI hZ g g1 g2 g3 g4 (nmW cI h a1 a2 a3 a4 wf' nf' bf bs mc ff [(o, .inl (cL, 1, .inr (.inl og)))]) _ wf1' nf1' cf kf fw mx th' w n ok1 ) (cwV 0 hts gT_thrown rfl rfl rfl (by decide +kernel) ⟨Nat.le_of_ble_eq_true rfl, Nat.le_of_ble_eq_true rfl⟩) 0 rfl rfl rfl hl.1 rfl (Nat.le_of_ble_eq_true rfl) dL_law_135 ⟨hc, hs⟩ (fun tt u H locs hT hP hD hS => ?_)
  have hP : va_P D vwCl (lwM cI cZ cL h a1 a2 a3 a4 g g1 g2 g3 g4 o wf' nf' bf bs mc ff og wf1' nf1' cf kf fw mx th') H := hP
  have hD : va_D A (lwM cI cZ cL h a1 a2 a3 a4 g g1 g2 g3 g4 o wf' nf' bf bs mc ff og wf1' nf1' cf kf fw mx th') := hD
  refine zn_as hT ?_
  have ag := (⟨agE, trivial⟩ : th' = rr ∧ True)
  have hP := hP.sub (ws' := (lwW cI cZ cL h a1 a2 a3 a4 g g1 g2 g3 g4 o wf' nf' bf bs mc ff og wf1' nf1' cf kf fw mx th')) [5, 6, 7, 8, 9, 10, 0, 1, 2, 3, 4] rfl
  have hD := hD.sub (ws' := (lwW cI cZ cL h a1 a2 a3 a4 g g1 g2 g3 g4 o wf' nf' bf bs mc ff og wf1' nf1' cf kf fw mx th')) [5, 6, 7, 8, 9, 10, 0, 1, 2, 3, 4] (by decide) rfl
  refine lv_iload hx hb dL_law_138 (lv_at hl 0 rfl) ?_
  refine lv_icmp_eq hx hb dL_law_140 rfl (fun _ => ?_) (fun h9 => absurd ag.1 h9)
  refine lv_goto hx hb dL_law_145 rfl ?_
  have hl : lv_has ls 7 [(4, .int (nI (4 * k))), (3, .ref o), (2, .ref g), (1, .ref h), (0, .ref b)] := lv_sub hl [1, 2, 3, 4, 5] rfl
  exact kk _ _ _ ⟨wf', nf', bf, bs, mc, ff, og, wf1', nf1', cf, kf, fw, mx, th', w, n, hl, hP, hD, hS, ok, ok1⟩
set_option maxRecDepth 100000 in
set_option maxHeartbeats 4000000 in
theorem lw_case1 {p : Program} {l : Launch} {e : Env} {s : State} {m : MethodId} {below : List Frame} {meth : Method} {c : Code} {Q : State → Prop} {D : va_G} {tys : List (ClassId × FieldType)} {cI cZ cL : ClassId} {A : Nat → Prop} {b L : Nat} {xs : Nat → Int32} {h a1 a2 a3 a4 g g1 g2 g3 g4 o k : Nat} {ls : Array Slot} {H : Heap} {locs : List Loc} {cells slots : Nat} (C : lwC p l s m c D tys cI cZ cL A b L xs) (hL : L ≤ 2048) (hk : 4 * k + 4 ≤ L) (hc : cells + 1 ≤ 1037) (hs : slots + 6 ≤ 12244) (S0 : lwS D cI cZ cL h a1 a2 a3 a4 g g1 g2 g3 g4 o A s b (4 * k) ls H locs) (kk : ∀ (ls' : Array Slot) (H' : Heap) (locs' : List Loc), lwS D cI cZ cL h a1 a2 a3 a4 g g1 g2 g3 g4 o A s b (4 * k) ls' H' locs' → W p l e room_1 s m #[Value.ref b] below meth c H' locs' (cells + 1) (slots + 6) Q (F0 m 562 ls' [])) : W p l e room_1 s m #[Value.ref b] below meth c H locs cells slots Q (F0 m 148 ls []) := by
  obtain ⟨F, hl0, hX, hbl, hbA, hst, hnc, hK, hI, hZ, hLg, hA⟩ := C
  obtain ⟨hx, hb, hml, hown, hts⟩ := id F
  have FL : CallFix p m c cL_law 7 s #[Value.ref b] wsL_law RL := ⟨hx, hb, hml, hown, fun w hw => hts w (wsL_law_in w hw)⟩
  obtain ⟨wf, nf, bf, bs, mc, ff, og, wf1, nf1, cf, kf, fw, mx, th, w, n, hl, hP, hD, hS, ok, ok1⟩ := S0
  refine lv_aload_n hx hb dL_law_148 rfl (lv_at hl 3 rfl) ?_
  refine lv_aload_n hx hb dL_law_149 rfl (lv_at hl 4 rfl) ?_
  refine lv_iload hx hb dL_law_150 (lv_at hl 0 rfl) ?_
  refine lv_iconst (v := nI 1) hx hb dL_law_152 (by decide +kernel) ?_
  refine zn_add hx hb dL_law_153 ?_
  refine zn_sld (k := (4 * k) + 1) hx hb hX hbl hbA hS (by omega) (by omega) dL_law_154 ?_
  refine lv_aload_n hx hb dL_law_155 rfl (lv_at hl 1 rfl) ?_
  refine zy_callSi (As := [.ref h, .int (xs ((4 * k) + 1)), .ref o]) (rest := []) FL hK hP hD hS hA hst hnc (h_best l hl0 D tys cI cL hI hLg h a1 a2 a3 a4 o (mdW cI cZ g g1 g2 g3 g4 wf1 nf1 cf kf fw mx th []) _ wf nf bf bs mc ff og w n ok (xs ((4 * k) + 1))) (vx_cwSW 3 FL.2.2.2.2 gL_law_L_best rfl rfl rfl (by decide +kernel) ⟨Nat.le_of_ble_eq_true rfl, Nat.le_of_ble_eq_true rfl⟩) rfl hl.1 rfl (Nat.le_of_ble_eq_true rfl) dL_law_156 ⟨hc, hs⟩ (fun rr u H locs hu hP hD hS => ?_)
  obtain ⟨⟨bf, bs, mc⟩, og⟩ := u
  have hP : va_P D vwCl (lwW cI cZ cL h a1 a2 a3 a4 g g1 g2 g3 g4 o wf nf bf bs mc ff og wf1 nf1 cf kf fw mx th) H := hP
  have hD : va_D A (lwW cI cZ cL h a1 a2 a3 a4 g g1 g2 g3 g4 o wf nf bf bs mc ff og wf1 nf1 cf kf fw mx th) := hD
  have hP := hP.sub (ws' := (lwM cI cZ cL h a1 a2 a3 a4 g g1 g2 g3 g4 o wf nf bf bs mc ff og wf1 nf1 cf kf fw mx th)) [6, 7, 8, 9, 10, 0, 1, 2, 3, 4, 5] rfl
  have hD := hD.sub (ws' := (lwM cI cZ cL h a1 a2 a3 a4 g g1 g2 g3 g4 o wf nf bf bs mc ff og wf1 nf1 cf kf fw mx th)) [6, 7, 8, 9, 10, 0, 1, 2, 3, 4, 5] (by decide) rfl
  refine lv_istore (lv' := [(5, .int rr), (4, .int (nI (4 * k))), (3, .ref o), (2, .ref g), (1, .ref h), (0, .ref b)]) hx hb dL_law_159 hl (by decide) rfl (fun ls hl => ?_)
  refine lv_aload_n hx hb dL_law_161 rfl (lv_at hl 3 rfl) ?_
  refine lv_aload_n hx hb dL_law_162 rfl (lv_at hl 5 rfl) ?_
  refine lv_iload hx hb dL_law_163 (lv_at hl 1 rfl) ?_
  refine lv_iconst (v := nI 1) hx hb dL_law_165 (by decide +kernel) ?_
  refine zn_add hx hb dL_law_166 ?_
  refine zn_sld (k := (4 * k) + 1) hx hb hX hbl hbA hS (by omega) (by omega) dL_law_167 ?_
  refine zz_callVi (As := [.int (xs ((4 * k) + 1))]) (rest := []) F hK hP hD hS hA (c1_best l D tys cI cZ hI hZ g g1 g2 g3 g4 (nmW cI h a1 a2 a3 a4 wf nf bf bs mc ff [(o, .inl (cL, 1, .inr (.inl og)))]) _ wf1 nf1 cf kf fw mx th w n ok1 (xs ((4 * k) + 1))) (cwV 1 hts gT_best rfl rfl rfl (by decide +kernel) ⟨Nat.le_of_ble_eq_true rfl, Nat.le_of_ble_eq_true rfl⟩) 0 rfl rfl rfl hl.1 rfl (Nat.le_of_ble_eq_true rfl) dL_law_168 ⟨hc, hs⟩ (fun bb u H locs hM hP hD hS => ?_)
  obtain ⟨cf, fw, mx, th⟩ := u
  have hP : va_P D vwCl (lwM cI cZ cL h a1 a2 a3 a4 g g1 g2 g3 g4 o wf nf bf bs mc ff og wf1 nf1 cf kf fw mx th) H := hP
  have hD : va_D A (lwM cI cZ cL h a1 a2 a3 a4 g g1 g2 g3 g4 o wf nf bf bs mc ff og wf1 nf1 cf kf fw mx th) := hD
  refine lv_istore (lv' := [(6, .int bb), (5, .int rr), (4, .int (nI (4 * k))), (3, .ref o), (2, .ref g), (1, .ref h), (0, .ref b)]) hx hb dL_law_171 hl (by decide) rfl (fun ls hl => ?_)
  refine lv_aload_n hx hb dL_law_173 rfl (lv_at hl 4 rfl) ?_
  refine zz_callVi (As := []) (rest := []) F hK hP hD hS hA (c1_thrown l D tys cI cZ hI hZ g g1 g2 g3 g4 (nmW cI h a1 a2 a3 a4 wf nf bf bs mc ff [(o, .inl (cL, 1, .inr (.inl og)))]) _ wf1 nf1 cf kf fw mx th w n ok1 ) (cwV 0 hts gT_thrown rfl rfl rfl (by decide +kernel) ⟨Nat.le_of_ble_eq_true rfl, Nat.le_of_ble_eq_true rfl⟩) 0 rfl rfl rfl hl.1 rfl (Nat.le_of_ble_eq_true rfl) dL_law_174 ⟨hc, hs⟩ (fun tt u H locs hT hP hD hS => ?_)
  have hP : va_P D vwCl (lwM cI cZ cL h a1 a2 a3 a4 g g1 g2 g3 g4 o wf nf bf bs mc ff og wf1 nf1 cf kf fw mx th) H := hP
  have hD : va_D A (lwM cI cZ cL h a1 a2 a3 a4 g g1 g2 g3 g4 o wf nf bf bs mc ff og wf1 nf1 cf kf fw mx th) := hD
  refine zn_as hT ?_
  have ag := (ag_best (y := 0) (z := 0) hu hM : th = rr ∧ (rr = 0 → og 0 = bb.toInt64))
  have hP := hP.sub (ws' := (lwW cI cZ cL h a1 a2 a3 a4 g g1 g2 g3 g4 o wf nf bf bs mc ff og wf1 nf1 cf kf fw mx th)) [5, 6, 7, 8, 9, 10, 0, 1, 2, 3, 4] rfl
  have hD := hD.sub (ws' := (lwW cI cZ cL h a1 a2 a3 a4 g g1 g2 g3 g4 o wf nf bf bs mc ff og wf1 nf1 cf kf fw mx th)) [5, 6, 7, 8, 9, 10, 0, 1, 2, 3, 4] (by decide) rfl
  refine lv_iload hx hb dL_law_177 (lv_at hl 1 rfl) ?_
  refine lv_icmp_eq hx hb dL_law_179 rfl (fun _ => ?_) (fun h9 => absurd ag.1 h9)
  refine lv_iload hx hb dL_law_184 (lv_at hl 1 rfl) ?_
  refine lv_if_ne hx hb dL_law_186 rfl (fun _ => ?_) (fun hq => ?_)
  · refine lv_goto hx hb dL_law_201 rfl ?_
    have hl : lv_has ls 7 [(4, .int (nI (4 * k))), (3, .ref o), (2, .ref g), (1, .ref h), (0, .ref b)] := lv_sub hl [2, 3, 4, 5, 6] rfl
    exact kk _ _ _ ⟨wf, nf, bf, bs, mc, ff, og, wf1, nf1, cf, kf, fw, mx, th, w, n, hl, hP, hD, hS, ok, ok1⟩
  · refine lv_aload_n hx hb dL_law_189 rfl (lv_at hl 3 rfl) ?_
    refine lv_iconst (v := nI 0) hx hb dL_law_190 (by decide +kernel) ?_
    refine zn_lald (k := 0) hx hb hK hP 5 _ rfl hLg (by decide) (by decide) dL_law_191 ?_
    refine zn_asl (ag.2 hq) ?_
    refine lv_iload hx hb dL_law_192 (lv_at hl 0 rfl) ?_
    refine lv_i2l (v := bb.toInt64) hx hb dL_law_194 rfl ?_
    refine W.lcmp hx hb dL_law_195 ?_
    refine zn_as (zz_cmp _) ?_
    refine lv_if_eq hx hb dL_law_196 rfl (fun _ => ?_) (fun h9 => absurd rfl h9)
    refine lv_goto hx hb dL_law_201 rfl ?_
    have hl : lv_has ls 7 [(4, .int (nI (4 * k))), (3, .ref o), (2, .ref g), (1, .ref h), (0, .ref b)] := lv_sub hl [2, 3, 4, 5, 6] rfl
    exact kk _ _ _ ⟨wf, nf, bf, bs, mc, ff, og, wf1, nf1, cf, kf, fw, mx, th, w, n, hl, hP, hD, hS, ok, ok1⟩
set_option maxRecDepth 100000 in
set_option maxHeartbeats 4000000 in
theorem lw_case2 {p : Program} {l : Launch} {e : Env} {s : State} {m : MethodId} {below : List Frame} {meth : Method} {c : Code} {Q : State → Prop} {D : va_G} {tys : List (ClassId × FieldType)} {cI cZ cL : ClassId} {A : Nat → Prop} {b L : Nat} {xs : Nat → Int32} {h a1 a2 a3 a4 g g1 g2 g3 g4 o k : Nat} {ls : Array Slot} {H : Heap} {locs : List Loc} {cells slots : Nat} (C : lwC p l s m c D tys cI cZ cL A b L xs) (hL : L ≤ 2048) (hk : 4 * k + 4 ≤ L) (hc : cells + 1 ≤ 1037) (hs : slots + 6 ≤ 12244) (S0 : lwS D cI cZ cL h a1 a2 a3 a4 g g1 g2 g3 g4 o A s b (4 * k) ls H locs) (kk : ∀ (ls' : Array Slot) (H' : Heap) (locs' : List Loc), lwS D cI cZ cL h a1 a2 a3 a4 g g1 g2 g3 g4 o A s b (4 * k) ls' H' locs' → W p l e room_1 s m #[Value.ref b] below meth c H' locs' (cells + 1) (slots + 6) Q (F0 m 562 ls' [])) : W p l e room_1 s m #[Value.ref b] below meth c H locs cells slots Q (F0 m 204 ls []) := by
  obtain ⟨F, hl0, hX, hbl, hbA, hst, hnc, hK, hI, hZ, hLg, hA⟩ := C
  obtain ⟨hx, hb, hml, hown, hts⟩ := id F
  have FL : CallFix p m c cL_law 7 s #[Value.ref b] wsL_law RL := ⟨hx, hb, hml, hown, fun w hw => hts w (wsL_law_in w hw)⟩
  obtain ⟨wf, nf, bf, bs, mc, ff, og, wf1, nf1, cf, kf, fw, mx, th, w, n, hl, hP, hD, hS, ok, ok1⟩ := S0
  refine lv_aload_n hx hb dL_law_204 rfl (lv_at hl 3 rfl) ?_
  refine lv_aload_n hx hb dL_law_205 rfl (lv_at hl 4 rfl) ?_
  refine lv_iload hx hb dL_law_206 (lv_at hl 0 rfl) ?_
  refine lv_iconst (v := nI 1) hx hb dL_law_208 (by decide +kernel) ?_
  refine zn_add hx hb dL_law_209 ?_
  refine zn_sld (k := (4 * k) + 1) hx hb hX hbl hbA hS (by omega) (by omega) dL_law_210 ?_
  refine lv_aload_n hx hb dL_law_211 rfl (lv_at hl 4 rfl) ?_
  refine lv_iload hx hb dL_law_212 (lv_at hl 0 rfl) ?_
  refine lv_iconst (v := nI 2) hx hb dL_law_214 (by decide +kernel) ?_
  refine zn_add hx hb dL_law_215 ?_
  refine zn_sld (k := (4 * k) + 2) hx hb hX hbl hbA hS (by omega) (by omega) dL_law_216 ?_
  refine lv_aload_n hx hb dL_law_217 rfl (lv_at hl 1 rfl) ?_
  refine zy_callSi (As := [.ref h, .int (xs ((4 * k) + 1)), .int (xs ((4 * k) + 2)), .ref o]) (rest := []) FL hK hP hD hS hA hst hnc (h_part l hl0 D tys cI cL hI hLg h a1 a2 a3 a4 o (mdW cI cZ g g1 g2 g3 g4 wf1 nf1 cf kf fw mx th []) _ wf nf bf bs mc ff og w n ok (xs ((4 * k) + 1)) (xs ((4 * k) + 2))) (vx_cwSW 4 FL.2.2.2.2 gL_law_L_part rfl rfl rfl (by decide +kernel) ⟨Nat.le_of_ble_eq_true rfl, Nat.le_of_ble_eq_true rfl⟩) rfl hl.1 rfl (Nat.le_of_ble_eq_true rfl) dL_law_218 ⟨hc, hs⟩ (fun rr u H locs hu hP hD hS => ?_)
  obtain ⟨⟨bf, bs, mc⟩, og⟩ := u
  have hP : va_P D vwCl (lwW cI cZ cL h a1 a2 a3 a4 g g1 g2 g3 g4 o wf nf bf bs mc ff og wf1 nf1 cf kf fw mx th) H := hP
  have hD : va_D A (lwW cI cZ cL h a1 a2 a3 a4 g g1 g2 g3 g4 o wf nf bf bs mc ff og wf1 nf1 cf kf fw mx th) := hD
  have hP := hP.sub (ws' := (lwM cI cZ cL h a1 a2 a3 a4 g g1 g2 g3 g4 o wf nf bf bs mc ff og wf1 nf1 cf kf fw mx th)) [6, 7, 8, 9, 10, 0, 1, 2, 3, 4, 5] rfl
  have hD := hD.sub (ws' := (lwM cI cZ cL h a1 a2 a3 a4 g g1 g2 g3 g4 o wf nf bf bs mc ff og wf1 nf1 cf kf fw mx th)) [6, 7, 8, 9, 10, 0, 1, 2, 3, 4, 5] (by decide) rfl
  refine lv_istore (lv' := [(5, .int rr), (4, .int (nI (4 * k))), (3, .ref o), (2, .ref g), (1, .ref h), (0, .ref b)]) hx hb dL_law_221 hl (by decide) rfl (fun ls hl => ?_)
  refine lv_aload_n hx hb dL_law_223 rfl (lv_at hl 3 rfl) ?_
  refine lv_aload_n hx hb dL_law_224 rfl (lv_at hl 5 rfl) ?_
  refine lv_iload hx hb dL_law_225 (lv_at hl 1 rfl) ?_
  refine lv_iconst (v := nI 1) hx hb dL_law_227 (by decide +kernel) ?_
  refine zn_add hx hb dL_law_228 ?_
  refine zn_sld (k := (4 * k) + 1) hx hb hX hbl hbA hS (by omega) (by omega) dL_law_229 ?_
  refine lv_aload_n hx hb dL_law_230 rfl (lv_at hl 5 rfl) ?_
  refine lv_iload hx hb dL_law_231 (lv_at hl 1 rfl) ?_
  refine lv_iconst (v := nI 2) hx hb dL_law_233 (by decide +kernel) ?_
  refine zn_add hx hb dL_law_234 ?_
  refine zn_sld (k := (4 * k) + 2) hx hb hX hbl hbA hS (by omega) (by omega) dL_law_235 ?_
  refine zz_callVi (As := [.int (xs ((4 * k) + 1)), .int (xs ((4 * k) + 2))]) (rest := []) F hK hP hD hS hA (c1_part l D tys cI cZ hI hZ g g1 g2 g3 g4 (nmW cI h a1 a2 a3 a4 wf nf bf bs mc ff [(o, .inl (cL, 1, .inr (.inl og)))]) _ wf1 nf1 cf kf fw mx th w n ok1 (xs ((4 * k) + 1)) (xs ((4 * k) + 2))) (cwV 2 hts gT_part rfl rfl rfl (by decide +kernel) ⟨Nat.le_of_ble_eq_true rfl, Nat.le_of_ble_eq_true rfl⟩) 0 rfl rfl rfl hl.1 rfl (Nat.le_of_ble_eq_true rfl) dL_law_236 ⟨hc, hs⟩ (fun bb u H locs hM hP hD hS => ?_)
  obtain ⟨cf, fw, mx, th⟩ := u
  have hP : va_P D vwCl (lwM cI cZ cL h a1 a2 a3 a4 g g1 g2 g3 g4 o wf nf bf bs mc ff og wf1 nf1 cf kf fw mx th) H := hP
  have hD : va_D A (lwM cI cZ cL h a1 a2 a3 a4 g g1 g2 g3 g4 o wf nf bf bs mc ff og wf1 nf1 cf kf fw mx th) := hD
  refine lv_istore (lv' := [(6, .int bb), (5, .int rr), (4, .int (nI (4 * k))), (3, .ref o), (2, .ref g), (1, .ref h), (0, .ref b)]) hx hb dL_law_239 hl (by decide) rfl (fun ls hl => ?_)
  refine lv_aload_n hx hb dL_law_241 rfl (lv_at hl 4 rfl) ?_
  refine zz_callVi (As := []) (rest := []) F hK hP hD hS hA (c1_thrown l D tys cI cZ hI hZ g g1 g2 g3 g4 (nmW cI h a1 a2 a3 a4 wf nf bf bs mc ff [(o, .inl (cL, 1, .inr (.inl og)))]) _ wf1 nf1 cf kf fw mx th w n ok1 ) (cwV 0 hts gT_thrown rfl rfl rfl (by decide +kernel) ⟨Nat.le_of_ble_eq_true rfl, Nat.le_of_ble_eq_true rfl⟩) 0 rfl rfl rfl hl.1 rfl (Nat.le_of_ble_eq_true rfl) dL_law_242 ⟨hc, hs⟩ (fun tt u H locs hT hP hD hS => ?_)
  have hP : va_P D vwCl (lwM cI cZ cL h a1 a2 a3 a4 g g1 g2 g3 g4 o wf nf bf bs mc ff og wf1 nf1 cf kf fw mx th) H := hP
  have hD : va_D A (lwM cI cZ cL h a1 a2 a3 a4 g g1 g2 g3 g4 o wf nf bf bs mc ff og wf1 nf1 cf kf fw mx th) := hD
  refine zn_as hT ?_
  have ag := (ag_part (z := 0) hu hM : th = rr ∧ (rr = 0 → og 0 = bb.toInt64))
  have hP := hP.sub (ws' := (lwW cI cZ cL h a1 a2 a3 a4 g g1 g2 g3 g4 o wf nf bf bs mc ff og wf1 nf1 cf kf fw mx th)) [5, 6, 7, 8, 9, 10, 0, 1, 2, 3, 4] rfl
  have hD := hD.sub (ws' := (lwW cI cZ cL h a1 a2 a3 a4 g g1 g2 g3 g4 o wf nf bf bs mc ff og wf1 nf1 cf kf fw mx th)) [5, 6, 7, 8, 9, 10, 0, 1, 2, 3, 4] (by decide) rfl
  refine lv_iload hx hb dL_law_245 (lv_at hl 1 rfl) ?_
  refine lv_icmp_eq hx hb dL_law_247 rfl (fun _ => ?_) (fun h9 => absurd ag.1 h9)
  refine lv_iload hx hb dL_law_252 (lv_at hl 1 rfl) ?_
  refine lv_if_ne hx hb dL_law_254 rfl (fun _ => ?_) (fun hq => ?_)
  · refine lv_goto hx hb dL_law_269 rfl ?_
    have hl : lv_has ls 7 [(4, .int (nI (4 * k))), (3, .ref o), (2, .ref g), (1, .ref h), (0, .ref b)] := lv_sub hl [2, 3, 4, 5, 6] rfl
    exact kk _ _ _ ⟨wf, nf, bf, bs, mc, ff, og, wf1, nf1, cf, kf, fw, mx, th, w, n, hl, hP, hD, hS, ok, ok1⟩
  · refine lv_aload_n hx hb dL_law_257 rfl (lv_at hl 3 rfl) ?_
    refine lv_iconst (v := nI 0) hx hb dL_law_258 (by decide +kernel) ?_
    refine zn_lald (k := 0) hx hb hK hP 5 _ rfl hLg (by decide) (by decide) dL_law_259 ?_
    refine zn_asl (ag.2 hq) ?_
    refine lv_iload hx hb dL_law_260 (lv_at hl 0 rfl) ?_
    refine lv_i2l (v := bb.toInt64) hx hb dL_law_262 rfl ?_
    refine W.lcmp hx hb dL_law_263 ?_
    refine zn_as (zz_cmp _) ?_
    refine lv_if_eq hx hb dL_law_264 rfl (fun _ => ?_) (fun h9 => absurd rfl h9)
    refine lv_goto hx hb dL_law_269 rfl ?_
    have hl : lv_has ls 7 [(4, .int (nI (4 * k))), (3, .ref o), (2, .ref g), (1, .ref h), (0, .ref b)] := lv_sub hl [2, 3, 4, 5, 6] rfl
    exact kk _ _ _ ⟨wf, nf, bf, bs, mc, ff, og, wf1, nf1, cf, kf, fw, mx, th, w, n, hl, hP, hD, hS, ok, ok1⟩
set_option maxRecDepth 100000 in
set_option maxHeartbeats 4000000 in
theorem lw_case3 {p : Program} {l : Launch} {e : Env} {s : State} {m : MethodId} {below : List Frame} {meth : Method} {c : Code} {Q : State → Prop} {D : va_G} {tys : List (ClassId × FieldType)} {cI cZ cL : ClassId} {A : Nat → Prop} {b L : Nat} {xs : Nat → Int32} {h a1 a2 a3 a4 g g1 g2 g3 g4 o k : Nat} {ls : Array Slot} {H : Heap} {locs : List Loc} {cells slots : Nat} (C : lwC p l s m c D tys cI cZ cL A b L xs) (hL : L ≤ 2048) (hk : 4 * k + 4 ≤ L) (hc : cells + 1 ≤ 1037) (hs : slots + 6 ≤ 12244) (S0 : lwS D cI cZ cL h a1 a2 a3 a4 g g1 g2 g3 g4 o A s b (4 * k) ls H locs) (kk : ∀ (ls' : Array Slot) (H' : Heap) (locs' : List Loc), lwS D cI cZ cL h a1 a2 a3 a4 g g1 g2 g3 g4 o A s b (4 * k) ls' H' locs' → W p l e room_1 s m #[Value.ref b] below meth c H' locs' (cells + 1) (slots + 6) Q (F0 m 562 ls' [])) : W p l e room_1 s m #[Value.ref b] below meth c H locs cells slots Q (F0 m 272 ls []) := by
  obtain ⟨F, hl0, hX, hbl, hbA, hst, hnc, hK, hI, hZ, hLg, hA⟩ := C
  obtain ⟨hx, hb, hml, hown, hts⟩ := id F
  have FL : CallFix p m c cL_law 7 s #[Value.ref b] wsL_law RL := ⟨hx, hb, hml, hown, fun w hw => hts w (wsL_law_in w hw)⟩
  obtain ⟨wf, nf, bf, bs, mc, ff, og, wf1, nf1, cf, kf, fw, mx, th, w, n, hl, hP, hD, hS, ok, ok1⟩ := S0
  refine lv_aload_n hx hb dL_law_272 rfl (lv_at hl 3 rfl) ?_
  refine lv_aload_n hx hb dL_law_273 rfl (lv_at hl 4 rfl) ?_
  refine lv_iload hx hb dL_law_274 (lv_at hl 0 rfl) ?_
  refine lv_iconst (v := nI 1) hx hb dL_law_276 (by decide +kernel) ?_
  refine zn_add hx hb dL_law_277 ?_
  refine zn_sld (k := (4 * k) + 1) hx hb hX hbl hbA hS (by omega) (by omega) dL_law_278 ?_
  refine lv_aload_n hx hb dL_law_279 rfl (lv_at hl 1 rfl) ?_
  refine zy_callSi (As := [.ref h, .int (xs ((4 * k) + 1)), .ref o]) (rest := []) FL hK hP hD hS hA hst hnc (h_ways l hl0 D tys cI cL hI hLg h a1 a2 a3 a4 o (mdW cI cZ g g1 g2 g3 g4 wf1 nf1 cf kf fw mx th []) _ wf nf bf bs mc ff og w n ok (xs ((4 * k) + 1))) (vx_cwSW 3 FL.2.2.2.2 gL_law_L_ways rfl rfl rfl (by decide +kernel) ⟨Nat.le_of_ble_eq_true rfl, Nat.le_of_ble_eq_true rfl⟩) rfl hl.1 rfl (Nat.le_of_ble_eq_true rfl) dL_law_280 ⟨hc, hs⟩ (fun rr u H locs hu hP hD hS => ?_)
  obtain ⟨⟨bf, bs, mc⟩, og⟩ := u
  have hP : va_P D vwCl (lwW cI cZ cL h a1 a2 a3 a4 g g1 g2 g3 g4 o wf nf bf bs mc ff og wf1 nf1 cf kf fw mx th) H := hP
  have hD : va_D A (lwW cI cZ cL h a1 a2 a3 a4 g g1 g2 g3 g4 o wf nf bf bs mc ff og wf1 nf1 cf kf fw mx th) := hD
  have hP := hP.sub (ws' := (lwM cI cZ cL h a1 a2 a3 a4 g g1 g2 g3 g4 o wf nf bf bs mc ff og wf1 nf1 cf kf fw mx th)) [6, 7, 8, 9, 10, 0, 1, 2, 3, 4, 5] rfl
  have hD := hD.sub (ws' := (lwM cI cZ cL h a1 a2 a3 a4 g g1 g2 g3 g4 o wf nf bf bs mc ff og wf1 nf1 cf kf fw mx th)) [6, 7, 8, 9, 10, 0, 1, 2, 3, 4, 5] (by decide) rfl
  refine lv_istore (lv' := [(5, .int rr), (4, .int (nI (4 * k))), (3, .ref o), (2, .ref g), (1, .ref h), (0, .ref b)]) hx hb dL_law_283 hl (by decide) rfl (fun ls hl => ?_)
  refine lv_aload_n hx hb dL_law_285 rfl (lv_at hl 3 rfl) ?_
  refine lv_aload_n hx hb dL_law_286 rfl (lv_at hl 5 rfl) ?_
  refine lv_iload hx hb dL_law_287 (lv_at hl 1 rfl) ?_
  refine lv_iconst (v := nI 1) hx hb dL_law_289 (by decide +kernel) ?_
  refine zn_add hx hb dL_law_290 ?_
  refine zn_sld (k := (4 * k) + 1) hx hb hX hbl hbA hS (by omega) (by omega) dL_law_291 ?_
  refine zz_callVi (As := [.int (xs ((4 * k) + 1))]) (rest := []) F hK hP hD hS hA (c1_ways l D tys cI cZ hI hZ g g1 g2 g3 g4 (nmW cI h a1 a2 a3 a4 wf nf bf bs mc ff [(o, .inl (cL, 1, .inr (.inl og)))]) _ wf1 nf1 cf kf fw mx th w n ok1 (xs ((4 * k) + 1))) (cwV 1 hts gT_ways rfl rfl rfl (by decide +kernel) ⟨Nat.le_of_ble_eq_true rfl, Nat.le_of_ble_eq_true rfl⟩) 0 rfl rfl rfl hl.1 rfl (Nat.le_of_ble_eq_true rfl) dL_law_292 ⟨hc, hs⟩ (fun bb u H locs hM hP hD hS => ?_)
  obtain ⟨cf, fw, mx, th⟩ := u
  have hP : va_P D vwCl (lwM cI cZ cL h a1 a2 a3 a4 g g1 g2 g3 g4 o wf nf bf bs mc ff og wf1 nf1 cf kf fw mx th) H := hP
  have hD : va_D A (lwM cI cZ cL h a1 a2 a3 a4 g g1 g2 g3 g4 o wf nf bf bs mc ff og wf1 nf1 cf kf fw mx th) := hD
  refine lv_istore (lv' := [(6, .int bb), (5, .int rr), (4, .int (nI (4 * k))), (3, .ref o), (2, .ref g), (1, .ref h), (0, .ref b)]) hx hb dL_law_295 hl (by decide) rfl (fun ls hl => ?_)
  refine lv_aload_n hx hb dL_law_297 rfl (lv_at hl 4 rfl) ?_
  refine zz_callVi (As := []) (rest := []) F hK hP hD hS hA (c1_thrown l D tys cI cZ hI hZ g g1 g2 g3 g4 (nmW cI h a1 a2 a3 a4 wf nf bf bs mc ff [(o, .inl (cL, 1, .inr (.inl og)))]) _ wf1 nf1 cf kf fw mx th w n ok1 ) (cwV 0 hts gT_thrown rfl rfl rfl (by decide +kernel) ⟨Nat.le_of_ble_eq_true rfl, Nat.le_of_ble_eq_true rfl⟩) 0 rfl rfl rfl hl.1 rfl (Nat.le_of_ble_eq_true rfl) dL_law_298 ⟨hc, hs⟩ (fun tt u H locs hT hP hD hS => ?_)
  have hP : va_P D vwCl (lwM cI cZ cL h a1 a2 a3 a4 g g1 g2 g3 g4 o wf nf bf bs mc ff og wf1 nf1 cf kf fw mx th) H := hP
  have hD : va_D A (lwM cI cZ cL h a1 a2 a3 a4 g g1 g2 g3 g4 o wf nf bf bs mc ff og wf1 nf1 cf kf fw mx th) := hD
  refine zn_as hT ?_
  have ag := (ag_ways (y := 0) (z := 0) hu hM : th = rr ∧ (rr = 0 → og 0 = bb.toInt64))
  have hP := hP.sub (ws' := (lwW cI cZ cL h a1 a2 a3 a4 g g1 g2 g3 g4 o wf nf bf bs mc ff og wf1 nf1 cf kf fw mx th)) [5, 6, 7, 8, 9, 10, 0, 1, 2, 3, 4] rfl
  have hD := hD.sub (ws' := (lwW cI cZ cL h a1 a2 a3 a4 g g1 g2 g3 g4 o wf nf bf bs mc ff og wf1 nf1 cf kf fw mx th)) [5, 6, 7, 8, 9, 10, 0, 1, 2, 3, 4] (by decide) rfl
  refine lv_iload hx hb dL_law_301 (lv_at hl 1 rfl) ?_
  refine lv_icmp_eq hx hb dL_law_303 rfl (fun _ => ?_) (fun h9 => absurd ag.1 h9)
  refine lv_iload hx hb dL_law_308 (lv_at hl 1 rfl) ?_
  refine lv_if_ne hx hb dL_law_310 rfl (fun _ => ?_) (fun hq => ?_)
  · refine lv_goto hx hb dL_law_325 rfl ?_
    have hl : lv_has ls 7 [(4, .int (nI (4 * k))), (3, .ref o), (2, .ref g), (1, .ref h), (0, .ref b)] := lv_sub hl [2, 3, 4, 5, 6] rfl
    exact kk _ _ _ ⟨wf, nf, bf, bs, mc, ff, og, wf1, nf1, cf, kf, fw, mx, th, w, n, hl, hP, hD, hS, ok, ok1⟩
  · refine lv_aload_n hx hb dL_law_313 rfl (lv_at hl 3 rfl) ?_
    refine lv_iconst (v := nI 0) hx hb dL_law_314 (by decide +kernel) ?_
    refine zn_lald (k := 0) hx hb hK hP 5 _ rfl hLg (by decide) (by decide) dL_law_315 ?_
    refine zn_asl (ag.2 hq) ?_
    refine lv_iload hx hb dL_law_316 (lv_at hl 0 rfl) ?_
    refine lv_i2l (v := bb.toInt64) hx hb dL_law_318 rfl ?_
    refine W.lcmp hx hb dL_law_319 ?_
    refine zn_as (zz_cmp _) ?_
    refine lv_if_eq hx hb dL_law_320 rfl (fun _ => ?_) (fun h9 => absurd rfl h9)
    refine lv_goto hx hb dL_law_325 rfl ?_
    have hl : lv_has ls 7 [(4, .int (nI (4 * k))), (3, .ref o), (2, .ref g), (1, .ref h), (0, .ref b)] := lv_sub hl [2, 3, 4, 5, 6] rfl
    exact kk _ _ _ ⟨wf, nf, bf, bs, mc, ff, og, wf1, nf1, cf, kf, fw, mx, th, w, n, hl, hP, hD, hS, ok, ok1⟩
end
section
set_option maxRecDepth 100000 in
set_option maxHeartbeats 4000000 in
theorem lw_case4 {p : Program} {l : Launch} {e : Env} {s : State} {m : MethodId} {below : List Frame} {meth : Method} {c : Code} {Q : State → Prop} {D : va_G} {tys : List (ClassId × FieldType)} {cI cZ cL : ClassId} {A : Nat → Prop} {b L : Nat} {xs : Nat → Int32} {h a1 a2 a3 a4 g g1 g2 g3 g4 o k : Nat} {ls : Array Slot} {H : Heap} {locs : List Loc} {cells slots : Nat} (C : lwC p l s m c D tys cI cZ cL A b L xs) (hL : L ≤ 2048) (hk : 4 * k + 4 ≤ L) (hc : cells + 1 ≤ 1037) (hs : slots + 6 ≤ 12244) (S0 : lwS D cI cZ cL h a1 a2 a3 a4 g g1 g2 g3 g4 o A s b (4 * k) ls H locs) (kk : ∀ (ls' : Array Slot) (H' : Heap) (locs' : List Loc), lwS D cI cZ cL h a1 a2 a3 a4 g g1 g2 g3 g4 o A s b (4 * k) ls' H' locs' → W p l e room_1 s m #[Value.ref b] below meth c H' locs' (cells + 1) (slots + 6) Q (F0 m 562 ls' [])) : W p l e room_1 s m #[Value.ref b] below meth c H locs cells slots Q (F0 m 328 ls []) := by
  obtain ⟨F, hl0, hX, hbl, hbA, hst, hnc, hK, hI, hZ, hLg, hA⟩ := C
  obtain ⟨hx, hb, hml, hown, hts⟩ := id F
  have FL : CallFix p m c cL_law 7 s #[Value.ref b] wsL_law RL := ⟨hx, hb, hml, hown, fun w hw => hts w (wsL_law_in w hw)⟩
  obtain ⟨wf, nf, bf, bs, mc, ff, og, wf1, nf1, cf, kf, fw, mx, th, w, n, hl, hP, hD, hS, ok, ok1⟩ := S0
  refine lv_aload_n hx hb dL_law_328 rfl (lv_at hl 3 rfl) ?_
  refine lv_aload_n hx hb dL_law_329 rfl (lv_at hl 4 rfl) ?_
  refine lv_iload hx hb dL_law_330 (lv_at hl 0 rfl) ?_
  refine lv_iconst (v := nI 1) hx hb dL_law_332 (by decide +kernel) ?_
  refine zn_add hx hb dL_law_333 ?_
  refine zn_sld (k := (4 * k) + 1) hx hb hX hbl hbA hS (by omega) (by omega) dL_law_334 ?_
  refine lv_aload_n hx hb dL_law_335 rfl (lv_at hl 4 rfl) ?_
  refine lv_iload hx hb dL_law_336 (lv_at hl 0 rfl) ?_
  refine lv_iconst (v := nI 2) hx hb dL_law_338 (by decide +kernel) ?_
  refine zn_add hx hb dL_law_339 ?_
  refine zn_sld (k := (4 * k) + 2) hx hb hX hbl hbA hS (by omega) (by omega) dL_law_340 ?_
  refine lv_aload_n hx hb dL_law_341 rfl (lv_at hl 1 rfl) ?_
  refine zy_callSi (As := [.ref h, .int (xs ((4 * k) + 1)), .int (xs ((4 * k) + 2)), .ref o]) (rest := []) FL hK hP hD hS hA hst hnc (h_pay l hl0 D tys cI cL hI hLg h a1 a2 a3 a4 o (mdW cI cZ g g1 g2 g3 g4 wf1 nf1 cf kf fw mx th []) _ wf nf bf bs mc ff og w n ok (xs ((4 * k) + 1)) (xs ((4 * k) + 2))) (vx_cwSW 4 FL.2.2.2.2 gL_law_L_pay rfl rfl rfl (by decide +kernel) ⟨Nat.le_of_ble_eq_true rfl, Nat.le_of_ble_eq_true rfl⟩) rfl hl.1 rfl (Nat.le_of_ble_eq_true rfl) dL_law_342 ⟨hc, hs⟩ (fun rr u H locs hu hP hD hS => ?_)
  obtain ⟨⟨nf', bf, bs, mc⟩, og⟩ := u
  have hP : va_P D vwCl (lwW cI cZ cL h a1 a2 a3 a4 g g1 g2 g3 g4 o wf nf' bf bs mc ff og wf1 nf1 cf kf fw mx th) H := hP
  have hD : va_D A (lwW cI cZ cL h a1 a2 a3 a4 g g1 g2 g3 g4 o wf nf' bf bs mc ff og wf1 nf1 cf kf fw mx th) := hD
  have hP := hP.sub (ws' := (lwM cI cZ cL h a1 a2 a3 a4 g g1 g2 g3 g4 o wf nf' bf bs mc ff og wf1 nf1 cf kf fw mx th)) [6, 7, 8, 9, 10, 0, 1, 2, 3, 4, 5] rfl
  have hD := hD.sub (ws' := (lwM cI cZ cL h a1 a2 a3 a4 g g1 g2 g3 g4 o wf nf' bf bs mc ff og wf1 nf1 cf kf fw mx th)) [6, 7, 8, 9, 10, 0, 1, 2, 3, 4, 5] (by decide) rfl
  refine lv_istore (lv' := [(5, .int rr), (4, .int (nI (4 * k))), (3, .ref o), (2, .ref g), (1, .ref h), (0, .ref b)]) hx hb dL_law_345 hl (by decide) rfl (fun ls hl => ?_)
  refine lv_aload_n hx hb dL_law_347 rfl (lv_at hl 3 rfl) ?_
  refine lv_aload_n hx hb dL_law_348 rfl (lv_at hl 5 rfl) ?_
  refine lv_iload hx hb dL_law_349 (lv_at hl 1 rfl) ?_
  refine lv_iconst (v := nI 1) hx hb dL_law_351 (by decide +kernel) ?_
  refine zn_add hx hb dL_law_352 ?_
  refine zn_sld (k := (4 * k) + 1) hx hb hX hbl hbA hS (by omega) (by omega) dL_law_353 ?_
  refine lv_aload_n hx hb dL_law_354 rfl (lv_at hl 5 rfl) ?_
  refine lv_iload hx hb dL_law_355 (lv_at hl 1 rfl) ?_
  refine lv_iconst (v := nI 2) hx hb dL_law_357 (by decide +kernel) ?_
  refine zn_add hx hb dL_law_358 ?_
  refine zn_sld (k := (4 * k) + 2) hx hb hX hbl hbA hS (by omega) (by omega) dL_law_359 ?_
  refine zz_callVi (As := [.int (xs ((4 * k) + 1)), .int (xs ((4 * k) + 2))]) (rest := []) F hK hP hD hS hA (c1_pay l D tys cI cZ hI hZ g g1 g2 g3 g4 (nmW cI h a1 a2 a3 a4 wf nf' bf bs mc ff [(o, .inl (cL, 1, .inr (.inl og)))]) _ wf1 nf1 cf kf fw mx th w n ok1 (xs ((4 * k) + 1)) (xs ((4 * k) + 2))) (cwV 2 hts gT_pay rfl rfl rfl (by decide +kernel) ⟨Nat.le_of_ble_eq_true rfl, Nat.le_of_ble_eq_true rfl⟩) 0 rfl rfl rfl hl.1 rfl (Nat.le_of_ble_eq_true rfl) dL_law_360 ⟨hc, hs⟩ (fun bb u H locs hM hP hD hS => ?_)
  obtain ⟨nf1', cf, fw, mx, th⟩ := u
  have hP : va_P D vwCl (lwM cI cZ cL h a1 a2 a3 a4 g g1 g2 g3 g4 o wf nf' bf bs mc ff og wf1 nf1' cf kf fw mx th) H := hP
  have hD : va_D A (lwM cI cZ cL h a1 a2 a3 a4 g g1 g2 g3 g4 o wf nf' bf bs mc ff og wf1 nf1' cf kf fw mx th) := hD
  refine lv_istore (lv' := [(6, .int bb), (5, .int rr), (4, .int (nI (4 * k))), (3, .ref o), (2, .ref g), (1, .ref h), (0, .ref b)]) hx hb dL_law_363 hl (by decide) rfl (fun ls hl => ?_)
  have ag0 := ag_pay (z := 0) (og0 := og 0) ok ok1 hu hM
  obtain ⟨agE, n', ok, ok1⟩ := ag0
  obtain ⟨n, rfl⟩ : ∃ z, z = n' := ⟨_, rfl⟩
  refine lv_aload_n hx hb dL_law_365 rfl (lv_at hl 4 rfl) ?_
  refine zz_callVi (As := []) (rest := []) F hK hP hD hS hA (c1_thrown l D tys cI cZ hI hZ g g1 g2 g3 g4 (nmW cI h a1 a2 a3 a4 wf nf' bf bs mc ff [(o, .inl (cL, 1, .inr (.inl og)))]) _ wf1 nf1' cf kf fw mx th w n ok1 ) (cwV 0 hts gT_thrown rfl rfl rfl (by decide +kernel) ⟨Nat.le_of_ble_eq_true rfl, Nat.le_of_ble_eq_true rfl⟩) 0 rfl rfl rfl hl.1 rfl (Nat.le_of_ble_eq_true rfl) dL_law_366 ⟨hc, hs⟩ (fun tt u H locs hT hP hD hS => ?_)
  have hP : va_P D vwCl (lwM cI cZ cL h a1 a2 a3 a4 g g1 g2 g3 g4 o wf nf' bf bs mc ff og wf1 nf1' cf kf fw mx th) H := hP
  have hD : va_D A (lwM cI cZ cL h a1 a2 a3 a4 g g1 g2 g3 g4 o wf nf' bf bs mc ff og wf1 nf1' cf kf fw mx th) := hD
  refine zn_as hT ?_
  have ag := (agE : th = rr ∧ (rr = 0 → og 0 = bb.toInt64))
  have hP := hP.sub (ws' := (lwW cI cZ cL h a1 a2 a3 a4 g g1 g2 g3 g4 o wf nf' bf bs mc ff og wf1 nf1' cf kf fw mx th)) [5, 6, 7, 8, 9, 10, 0, 1, 2, 3, 4] rfl
  have hD := hD.sub (ws' := (lwW cI cZ cL h a1 a2 a3 a4 g g1 g2 g3 g4 o wf nf' bf bs mc ff og wf1 nf1' cf kf fw mx th)) [5, 6, 7, 8, 9, 10, 0, 1, 2, 3, 4] (by decide) rfl
  refine lv_iload hx hb dL_law_369 (lv_at hl 1 rfl) ?_
  refine lv_icmp_eq hx hb dL_law_371 rfl (fun _ => ?_) (fun h9 => absurd ag.1 h9)
  refine lv_iload hx hb dL_law_376 (lv_at hl 1 rfl) ?_
  refine lv_if_ne hx hb dL_law_378 rfl (fun _ => ?_) (fun hq => ?_)
  · refine lv_goto hx hb dL_law_393 rfl ?_
    have hl : lv_has ls 7 [(4, .int (nI (4 * k))), (3, .ref o), (2, .ref g), (1, .ref h), (0, .ref b)] := lv_sub hl [2, 3, 4, 5, 6] rfl
    exact kk _ _ _ ⟨wf, nf', bf, bs, mc, ff, og, wf1, nf1', cf, kf, fw, mx, th, w, n, hl, hP, hD, hS, ok, ok1⟩
  · refine lv_aload_n hx hb dL_law_381 rfl (lv_at hl 3 rfl) ?_
    refine lv_iconst (v := nI 0) hx hb dL_law_382 (by decide +kernel) ?_
    refine zn_lald (k := 0) hx hb hK hP 5 _ rfl hLg (by decide) (by decide) dL_law_383 ?_
    refine zn_asl (ag.2 hq) ?_
    refine lv_iload hx hb dL_law_384 (lv_at hl 0 rfl) ?_
    refine lv_i2l (v := bb.toInt64) hx hb dL_law_386 rfl ?_
    refine W.lcmp hx hb dL_law_387 ?_
    refine zn_as (zz_cmp _) ?_
    refine lv_if_eq hx hb dL_law_388 rfl (fun _ => ?_) (fun h9 => absurd rfl h9)
    refine lv_goto hx hb dL_law_393 rfl ?_
    have hl : lv_has ls 7 [(4, .int (nI (4 * k))), (3, .ref o), (2, .ref g), (1, .ref h), (0, .ref b)] := lv_sub hl [2, 3, 4, 5, 6] rfl
    exact kk _ _ _ ⟨wf, nf', bf, bs, mc, ff, og, wf1, nf1', cf, kf, fw, mx, th, w, n, hl, hP, hD, hS, ok, ok1⟩
set_option maxRecDepth 100000 in
set_option maxHeartbeats 4000000 in
theorem lw_case5 {p : Program} {l : Launch} {e : Env} {s : State} {m : MethodId} {below : List Frame} {meth : Method} {c : Code} {Q : State → Prop} {D : va_G} {tys : List (ClassId × FieldType)} {cI cZ cL : ClassId} {A : Nat → Prop} {b L : Nat} {xs : Nat → Int32} {h a1 a2 a3 a4 g g1 g2 g3 g4 o k : Nat} {ls : Array Slot} {H : Heap} {locs : List Loc} {cells slots : Nat} (C : lwC p l s m c D tys cI cZ cL A b L xs) (hL : L ≤ 2048) (hk : 4 * k + 4 ≤ L) (hc : cells + 1 ≤ 1037) (hs : slots + 6 ≤ 12244) (S0 : lwS D cI cZ cL h a1 a2 a3 a4 g g1 g2 g3 g4 o A s b (4 * k) ls H locs) (kk : ∀ (ls' : Array Slot) (H' : Heap) (locs' : List Loc), lwS D cI cZ cL h a1 a2 a3 a4 g g1 g2 g3 g4 o A s b (4 * k) ls' H' locs' → W p l e room_1 s m #[Value.ref b] below meth c H' locs' (cells + 1) (slots + 6) Q (F0 m 562 ls' [])) : W p l e room_1 s m #[Value.ref b] below meth c H locs cells slots Q (F0 m 396 ls []) := by
  obtain ⟨F, hl0, hX, hbl, hbA, hst, hnc, hK, hI, hZ, hLg, hA⟩ := C
  obtain ⟨hx, hb, hml, hown, hts⟩ := id F
  have FL : CallFix p m c cL_law 7 s #[Value.ref b] wsL_law RL := ⟨hx, hb, hml, hown, fun w hw => hts w (wsL_law_in w hw)⟩
  obtain ⟨wf, nf, bf, bs, mc, ff, og, wf1, nf1, cf, kf, fw, mx, th, w, n, hl, hP, hD, hS, ok, ok1⟩ := S0
  refine lv_aload_n hx hb dL_law_396 rfl (lv_at hl 3 rfl) ?_
  refine lv_aload_n hx hb dL_law_397 rfl (lv_at hl 4 rfl) ?_
  refine lv_iload hx hb dL_law_398 (lv_at hl 0 rfl) ?_
  refine lv_iconst (v := nI 1) hx hb dL_law_400 (by decide +kernel) ?_
  refine zn_add hx hb dL_law_401 ?_
  refine zn_sld (k := (4 * k) + 1) hx hb hX hbl hbA hS (by omega) (by omega) dL_law_402 ?_
  refine lv_aload_n hx hb dL_law_403 rfl (lv_at hl 1 rfl) ?_
  refine zy_callSi (As := [.ref h, .int (xs ((4 * k) + 1)), .ref o]) (rest := []) FL hK hP hD hS hA hst hnc (h_next l hl0 D tys cI cL hI hLg h a1 a2 a3 a4 o (mdW cI cZ g g1 g2 g3 g4 wf1 nf1 cf kf fw mx th []) _ wf nf bf bs mc ff og w n ok (xs ((4 * k) + 1))) (vx_cwSW 3 FL.2.2.2.2 gL_law_L_next rfl rfl rfl (by decide +kernel) ⟨Nat.le_of_ble_eq_true rfl, Nat.le_of_ble_eq_true rfl⟩) rfl hl.1 rfl (Nat.le_of_ble_eq_true rfl) dL_law_404 ⟨hc, hs⟩ (fun rr u H locs hu hP hD hS => ?_)
  obtain ⟨ff, og⟩ := u
  have hP : va_P D vwCl (lwW cI cZ cL h a1 a2 a3 a4 g g1 g2 g3 g4 o wf nf bf bs mc ff og wf1 nf1 cf kf fw mx th) H := hP
  have hD : va_D A (lwW cI cZ cL h a1 a2 a3 a4 g g1 g2 g3 g4 o wf nf bf bs mc ff og wf1 nf1 cf kf fw mx th) := hD
  have hP := hP.sub (ws' := (lwM cI cZ cL h a1 a2 a3 a4 g g1 g2 g3 g4 o wf nf bf bs mc ff og wf1 nf1 cf kf fw mx th)) [6, 7, 8, 9, 10, 0, 1, 2, 3, 4, 5] rfl
  have hD := hD.sub (ws' := (lwM cI cZ cL h a1 a2 a3 a4 g g1 g2 g3 g4 o wf nf bf bs mc ff og wf1 nf1 cf kf fw mx th)) [6, 7, 8, 9, 10, 0, 1, 2, 3, 4, 5] (by decide) rfl
  refine lv_istore (lv' := [(5, .int rr), (4, .int (nI (4 * k))), (3, .ref o), (2, .ref g), (1, .ref h), (0, .ref b)]) hx hb dL_law_407 hl (by decide) rfl (fun ls hl => ?_)
  refine lv_aload_n hx hb dL_law_409 rfl (lv_at hl 3 rfl) ?_
  refine lv_aload_n hx hb dL_law_410 rfl (lv_at hl 5 rfl) ?_
  refine lv_iload hx hb dL_law_411 (lv_at hl 1 rfl) ?_
  refine lv_iconst (v := nI 1) hx hb dL_law_413 (by decide +kernel) ?_
  refine zn_add hx hb dL_law_414 ?_
  refine zn_sld (k := (4 * k) + 1) hx hb hX hbl hbA hS (by omega) (by omega) dL_law_415 ?_
  refine zz_callVi (As := [.int (xs ((4 * k) + 1))]) (rest := []) F hK hP hD hS hA (c1_next l D tys cI cZ hI hZ g g1 g2 g3 g4 (nmW cI h a1 a2 a3 a4 wf nf bf bs mc ff [(o, .inl (cL, 1, .inr (.inl og)))]) _ wf1 nf1 cf kf fw mx th w n ok1 (xs ((4 * k) + 1))) (cwV 1 hts gT_next rfl rfl rfl (by decide +kernel) ⟨Nat.le_of_ble_eq_true rfl, Nat.le_of_ble_eq_true rfl⟩) 0 rfl rfl rfl hl.1 rfl (Nat.le_of_ble_eq_true rfl) dL_law_416 ⟨hc, hs⟩ (fun bb u H locs hM hP hD hS => ?_)
  obtain ⟨kf, th⟩ := u
  have hP : va_P D vwCl (lwM cI cZ cL h a1 a2 a3 a4 g g1 g2 g3 g4 o wf nf bf bs mc ff og wf1 nf1 cf kf fw mx th) H := hP
  have hD : va_D A (lwM cI cZ cL h a1 a2 a3 a4 g g1 g2 g3 g4 o wf nf bf bs mc ff og wf1 nf1 cf kf fw mx th) := hD
  refine lv_istore (lv' := [(6, .int bb), (5, .int rr), (4, .int (nI (4 * k))), (3, .ref o), (2, .ref g), (1, .ref h), (0, .ref b)]) hx hb dL_law_419 hl (by decide) rfl (fun ls hl => ?_)
  refine lv_aload_n hx hb dL_law_421 rfl (lv_at hl 4 rfl) ?_
  refine zz_callVi (As := []) (rest := []) F hK hP hD hS hA (c1_thrown l D tys cI cZ hI hZ g g1 g2 g3 g4 (nmW cI h a1 a2 a3 a4 wf nf bf bs mc ff [(o, .inl (cL, 1, .inr (.inl og)))]) _ wf1 nf1 cf kf fw mx th w n ok1 ) (cwV 0 hts gT_thrown rfl rfl rfl (by decide +kernel) ⟨Nat.le_of_ble_eq_true rfl, Nat.le_of_ble_eq_true rfl⟩) 0 rfl rfl rfl hl.1 rfl (Nat.le_of_ble_eq_true rfl) dL_law_422 ⟨hc, hs⟩ (fun tt u H locs hT hP hD hS => ?_)
  have hP : va_P D vwCl (lwM cI cZ cL h a1 a2 a3 a4 g g1 g2 g3 g4 o wf nf bf bs mc ff og wf1 nf1 cf kf fw mx th) H := hP
  have hD : va_D A (lwM cI cZ cL h a1 a2 a3 a4 g g1 g2 g3 g4 o wf nf bf bs mc ff og wf1 nf1 cf kf fw mx th) := hD
  refine zn_as hT ?_
  have ag := (ag_next (y := 0) (z := 0) hu hM : th = rr ∧ (rr = 0 → og 0 = bb.toInt64))
  have hP := hP.sub (ws' := (lwW cI cZ cL h a1 a2 a3 a4 g g1 g2 g3 g4 o wf nf bf bs mc ff og wf1 nf1 cf kf fw mx th)) [5, 6, 7, 8, 9, 10, 0, 1, 2, 3, 4] rfl
  have hD := hD.sub (ws' := (lwW cI cZ cL h a1 a2 a3 a4 g g1 g2 g3 g4 o wf nf bf bs mc ff og wf1 nf1 cf kf fw mx th)) [5, 6, 7, 8, 9, 10, 0, 1, 2, 3, 4] (by decide) rfl
  refine lv_iload hx hb dL_law_425 (lv_at hl 1 rfl) ?_
  refine lv_icmp_eq hx hb dL_law_427 rfl (fun _ => ?_) (fun h9 => absurd ag.1 h9)
  refine lv_iload hx hb dL_law_432 (lv_at hl 1 rfl) ?_
  refine lv_if_ne hx hb dL_law_434 rfl (fun _ => ?_) (fun hq => ?_)
  · refine lv_goto hx hb dL_law_449 rfl ?_
    have hl : lv_has ls 7 [(4, .int (nI (4 * k))), (3, .ref o), (2, .ref g), (1, .ref h), (0, .ref b)] := lv_sub hl [2, 3, 4, 5, 6] rfl
    exact kk _ _ _ ⟨wf, nf, bf, bs, mc, ff, og, wf1, nf1, cf, kf, fw, mx, th, w, n, hl, hP, hD, hS, ok, ok1⟩
  · refine lv_aload_n hx hb dL_law_437 rfl (lv_at hl 3 rfl) ?_
    refine lv_iconst (v := nI 0) hx hb dL_law_438 (by decide +kernel) ?_
    refine zn_lald (k := 0) hx hb hK hP 5 _ rfl hLg (by decide) (by decide) dL_law_439 ?_
    refine zn_asl (ag.2 hq) ?_
    refine lv_iload hx hb dL_law_440 (lv_at hl 0 rfl) ?_
    refine lv_i2l (v := bb.toInt64) hx hb dL_law_442 rfl ?_
    refine W.lcmp hx hb dL_law_443 ?_
    refine zn_as (zz_cmp _) ?_
    refine lv_if_eq hx hb dL_law_444 rfl (fun _ => ?_) (fun h9 => absurd rfl h9)
    refine lv_goto hx hb dL_law_449 rfl ?_
    have hl : lv_has ls 7 [(4, .int (nI (4 * k))), (3, .ref o), (2, .ref g), (1, .ref h), (0, .ref b)] := lv_sub hl [2, 3, 4, 5, 6] rfl
    exact kk _ _ _ ⟨wf, nf, bf, bs, mc, ff, og, wf1, nf1, cf, kf, fw, mx, th, w, n, hl, hP, hD, hS, ok, ok1⟩
set_option maxRecDepth 100000 in
set_option maxHeartbeats 4000000 in
theorem lw_case6 {p : Program} {l : Launch} {e : Env} {s : State} {m : MethodId} {below : List Frame} {meth : Method} {c : Code} {Q : State → Prop} {D : va_G} {tys : List (ClassId × FieldType)} {cI cZ cL : ClassId} {A : Nat → Prop} {b L : Nat} {xs : Nat → Int32} {h a1 a2 a3 a4 g g1 g2 g3 g4 o k : Nat} {ls : Array Slot} {H : Heap} {locs : List Loc} {cells slots : Nat} (C : lwC p l s m c D tys cI cZ cL A b L xs) (hL : L ≤ 2048) (hk : 4 * k + 4 ≤ L) (hc : cells + 1 ≤ 1037) (hs : slots + 6 ≤ 12244) (S0 : lwS D cI cZ cL h a1 a2 a3 a4 g g1 g2 g3 g4 o A s b (4 * k) ls H locs) (kk : ∀ (ls' : Array Slot) (H' : Heap) (locs' : List Loc), lwS D cI cZ cL h a1 a2 a3 a4 g g1 g2 g3 g4 o A s b (4 * k) ls' H' locs' → W p l e room_1 s m #[Value.ref b] below meth c H' locs' (cells + 1) (slots + 6) Q (F0 m 562 ls' [])) : W p l e room_1 s m #[Value.ref b] below meth c H locs cells slots Q (F0 m 452 ls []) := by
  obtain ⟨F, hl0, hX, hbl, hbA, hst, hnc, hK, hI, hZ, hLg, hA⟩ := C
  obtain ⟨hx, hb, hml, hown, hts⟩ := id F
  have FL : CallFix p m c cL_law 7 s #[Value.ref b] wsL_law RL := ⟨hx, hb, hml, hown, fun w hw => hts w (wsL_law_in w hw)⟩
  obtain ⟨wf, nf, bf, bs, mc, ff, og, wf1, nf1, cf, kf, fw, mx, th, w, n, hl, hP, hD, hS, ok, ok1⟩ := S0
  refine lv_aload_n hx hb dL_law_452 rfl (lv_at hl 3 rfl) ?_
  refine zz_callVi (As := []) (rest := []) FL hK hP hD hS hA (c_reach l D tys cI hI h a1 a2 a3 a4 ((o, .inl (cL, 1, .inr (.inl og))) :: (mdW cI cZ g g1 g2 g3 g4 wf1 nf1 cf kf fw mx th [])) _ wf nf bf bs mc ff w n ok) (cwV 0 FL.2.2.2.2 gL_law_X0_reach rfl rfl rfl (by decide +kernel) ⟨Nat.le_of_ble_eq_true rfl, Nat.le_of_ble_eq_true rfl⟩) 0 rfl rfl rfl hl.1 rfl (Nat.le_of_ble_eq_true rfl) dL_law_453 ⟨by show cells + 0 ≤ 1037; omega, by show slots + 0 ≤ 12244; omega⟩ (fun rr u H locs hu hP hD hS => ?_)
  have hP : va_P D vwCl (lwW cI cZ cL h a1 a2 a3 a4 g g1 g2 g3 g4 o wf nf bf bs mc u og wf1 nf1 cf kf fw mx th) H := hP
  have hD : va_D A (lwW cI cZ cL h a1 a2 a3 a4 g g1 g2 g3 g4 o wf nf bf bs mc u og wf1 nf1 cf kf fw mx th) := hD
  have hP := hP.sub (ws' := (lwM cI cZ cL h a1 a2 a3 a4 g g1 g2 g3 g4 o wf nf bf bs mc u og wf1 nf1 cf kf fw mx th)) [6, 7, 8, 9, 10, 0, 1, 2, 3, 4, 5] rfl
  have hD := hD.sub (ws' := (lwM cI cZ cL h a1 a2 a3 a4 g g1 g2 g3 g4 o wf nf bf bs mc u og wf1 nf1 cf kf fw mx th)) [6, 7, 8, 9, 10, 0, 1, 2, 3, 4, 5] (by decide) rfl
  refine lv_aload_n hx hb dL_law_456 rfl (lv_at hl 2 rfl) ?_
  obtain ⟨u1, rfl⟩ : ∃ z, z = u := ⟨_, rfl⟩
  refine zz_callVi (As := []) (rest := [.int rr]) F hK hP hD hS hA (c1_reach l D tys cI cZ hI hZ g g1 g2 g3 g4 (nmW cI h a1 a2 a3 a4 wf nf bf bs mc u1 [(o, .inl (cL, 1, .inr (.inl og)))]) _ wf1 nf1 cf kf fw mx th w n ok1 ) (cwV 0 hts gT_reach rfl rfl rfl (by decide +kernel) ⟨Nat.le_of_ble_eq_true rfl, Nat.le_of_ble_eq_true rfl⟩) 0 rfl rfl rfl hl.1 rfl (Nat.le_of_ble_eq_true rfl) dL_law_457 ⟨by show cells + 0 + 0 ≤ 1037; omega, by show slots + 0 + 0 ≤ 12244; omega⟩ (fun bb u H locs hM hP hD hS => ?_)
  have hP : va_P D vwCl (lwM cI cZ cL h a1 a2 a3 a4 g g1 g2 g3 g4 o wf nf bf bs mc u1 og wf1 nf1 cf u fw mx (nI 0)) H := hP
  have hD : va_D A (lwM cI cZ cL h a1 a2 a3 a4 g g1 g2 g3 g4 o wf nf bf bs mc u1 og wf1 nf1 cf u fw mx (nI 0)) := hD
  have hP := hP.sub (ws' := (lwW cI cZ cL h a1 a2 a3 a4 g g1 g2 g3 g4 o wf nf bf bs mc u1 og wf1 nf1 cf u fw mx (nI 0))) [5, 6, 7, 8, 9, 10, 0, 1, 2, 3, 4] rfl
  have hD := hD.sub (ws' := (lwW cI cZ cL h a1 a2 a3 a4 g g1 g2 g3 g4 o wf nf bf bs mc u1 og wf1 nf1 cf u fw mx (nI 0))) [5, 6, 7, 8, 9, 10, 0, 1, 2, 3, 4] (by decide) rfl
  refine lv_icmp_eq hx hb dL_law_460 rfl (fun _ => ?_) (fun h9 => absurd (hu.trans hM.symm) h9)
  refine W.widen (k := cells + 1) (n := slots + 6) (by omega) (by omega) ?_
  have hl : lv_has ls 7 [(4, .int (nI (4 * k))), (3, .ref o), (2, .ref g), (1, .ref h), (0, .ref b)] := lv_sub hl [0, 1, 2, 3, 4] rfl
  exact kk _ _ _ ⟨wf, nf, bf, bs, mc, u1, og, wf1, nf1, cf, u, fw, mx, (nI 0), w, n, hl, hP, hD, hS, ok, ok1⟩
set_option maxRecDepth 100000 in
set_option maxHeartbeats 4000000 in
theorem lw_case7 {p : Program} {l : Launch} {e : Env} {s : State} {m : MethodId} {below : List Frame} {meth : Method} {c : Code} {Q : State → Prop} {D : va_G} {tys : List (ClassId × FieldType)} {cI cZ cL : ClassId} {A : Nat → Prop} {b L : Nat} {xs : Nat → Int32} {h a1 a2 a3 a4 g g1 g2 g3 g4 o k : Nat} {ls : Array Slot} {H : Heap} {locs : List Loc} {cells slots : Nat} (C : lwC p l s m c D tys cI cZ cL A b L xs) (hL : L ≤ 2048) (hk : 4 * k + 4 ≤ L) (hc : cells + 1 ≤ 1037) (hs : slots + 6 ≤ 12244) (S0 : lwS D cI cZ cL h a1 a2 a3 a4 g g1 g2 g3 g4 o A s b (4 * k) ls H locs) (kk : ∀ (ls' : Array Slot) (H' : Heap) (locs' : List Loc), lwS D cI cZ cL h a1 a2 a3 a4 g g1 g2 g3 g4 o A s b (4 * k) ls' H' locs' → W p l e room_1 s m #[Value.ref b] below meth c H' locs' (cells + 1) (slots + 6) Q (F0 m 562 ls' [])) : W p l e room_1 s m #[Value.ref b] below meth c H locs cells slots Q (F0 m 465 ls []) := by
  obtain ⟨F, hl0, hX, hbl, hbA, hst, hnc, hK, hI, hZ, hLg, hA⟩ := C
  obtain ⟨hx, hb, hml, hown, hts⟩ := id F
  have FL : CallFix p m c cL_law 7 s #[Value.ref b] wsL_law RL := ⟨hx, hb, hml, hown, fun w hw => hts w (wsL_law_in w hw)⟩
  obtain ⟨wf, nf, bf, bs, mc, ff, og, wf1, nf1, cf, kf, fw, mx, th, w, n, hl, hP, hD, hS, ok, ok1⟩ := S0
  by_cases hq0 : xs (4 * k + 2) = 0
  · refine lv_aload_n hx hb dL_law_465 rfl (lv_at hl 3 rfl) ?_
    refine lv_aload_n hx hb dL_law_466 rfl (lv_at hl 4 rfl) ?_
    refine lv_iload hx hb dL_law_467 (lv_at hl 0 rfl) ?_
    refine lv_iconst (v := nI 1) hx hb dL_law_469 (by decide +kernel) ?_
    refine zn_add hx hb dL_law_470 ?_
    refine zn_sld (k := (4 * k) + 1) hx hb hX hbl hbA hS (by omega) (by omega) dL_law_471 ?_
    refine lv_aload_n hx hb dL_law_472 rfl (lv_at hl 4 rfl) ?_
    refine lv_iload hx hb dL_law_473 (lv_at hl 0 rfl) ?_
    refine lv_iconst (v := nI 2) hx hb dL_law_475 (by decide +kernel) ?_
    refine zn_add hx hb dL_law_476 ?_
    refine zn_sld (k := (4 * k) + 2) hx hb hX hbl hbA hS (by omega) (by omega) dL_law_477 ?_
    refine lv_if_eq hx hb dL_law_478 rfl (fun _ => ?_) (fun h9 => absurd hq0 h9)
    refine lv_iconst (v := nI 0) hx hb dL_law_485 (by decide +kernel) ?_
    refine lv_aload_n hx hb dL_law_486 rfl (lv_at hl 1 rfl) ?_
    refine zy_callSi (As := [.ref h, .int (xs ((4 * k) + 1)), .int (nI 0), .ref o]) (rest := []) FL hK hP hD hS hA hst hnc (h_cassette l hl0 D tys cI cL hI hLg h a1 a2 a3 a4 o (mdW cI cZ g g1 g2 g3 g4 wf1 nf1 cf kf fw mx th []) _ wf nf bf bs mc ff og w n ok (xs ((4 * k) + 1)) (nI 0)) (vx_cwSW 4 FL.2.2.2.2 gL_law_L_cassette rfl rfl rfl (by decide +kernel) ⟨Nat.le_of_ble_eq_true rfl, Nat.le_of_ble_eq_true rfl⟩) rfl hl.1 rfl (Nat.le_of_ble_eq_true rfl) dL_law_487 ⟨hc, hs⟩ (fun rr u H locs hu hP hD hS => ?_)
    obtain ⟨⟨⟩, og⟩ := u
    have hP : va_P D vwCl (lwW cI cZ cL h a1 a2 a3 a4 g g1 g2 g3 g4 o wf nf bf bs mc ff og wf1 nf1 cf kf fw mx th) H := hP
    have hD : va_D A (lwW cI cZ cL h a1 a2 a3 a4 g g1 g2 g3 g4 o wf nf bf bs mc ff og wf1 nf1 cf kf fw mx th) := hD
    have hP := hP.sub (ws' := (lwM cI cZ cL h a1 a2 a3 a4 g g1 g2 g3 g4 o wf nf bf bs mc ff og wf1 nf1 cf kf fw mx th)) [6, 7, 8, 9, 10, 0, 1, 2, 3, 4, 5] rfl
    have hD := hD.sub (ws' := (lwM cI cZ cL h a1 a2 a3 a4 g g1 g2 g3 g4 o wf nf bf bs mc ff og wf1 nf1 cf kf fw mx th)) [6, 7, 8, 9, 10, 0, 1, 2, 3, 4, 5] (by decide) rfl
    refine lv_istore (lv' := [(5, .int rr), (4, .int (nI (4 * k))), (3, .ref o), (2, .ref g), (1, .ref h), (0, .ref b)]) hx hb dL_law_490 hl (by decide) rfl (fun ls hl => ?_)
    refine lv_aload_n hx hb dL_law_492 rfl (lv_at hl 3 rfl) ?_
    refine lv_aload_n hx hb dL_law_493 rfl (lv_at hl 5 rfl) ?_
    refine lv_iload hx hb dL_law_494 (lv_at hl 1 rfl) ?_
    refine lv_iconst (v := nI 1) hx hb dL_law_496 (by decide +kernel) ?_
    refine zn_add hx hb dL_law_497 ?_
    refine zn_sld (k := (4 * k) + 1) hx hb hX hbl hbA hS (by omega) (by omega) dL_law_498 ?_
    refine lv_aload_n hx hb dL_law_499 rfl (lv_at hl 5 rfl) ?_
    refine lv_iload hx hb dL_law_500 (lv_at hl 1 rfl) ?_
    refine lv_iconst (v := nI 2) hx hb dL_law_502 (by decide +kernel) ?_
    refine zn_add hx hb dL_law_503 ?_
    refine zn_sld (k := (4 * k) + 2) hx hb hX hbl hbA hS (by omega) (by omega) dL_law_504 ?_
    refine lv_if_eq hx hb dL_law_505 rfl (fun _ => ?_) (fun h9 => absurd hq0 h9)
    refine lv_iconst (v := nI 0) hx hb dL_law_512 (by decide +kernel) ?_
    refine zz_callVi (As := [.int (xs ((4 * k) + 1)), .int (nI 0)]) (rest := []) F hK hP hD hS hA (c1_cassette l D tys cI cZ hI hZ g g1 g2 g3 g4 (nmW cI h a1 a2 a3 a4 wf nf bf bs mc ff [(o, .inl (cL, 1, .inr (.inl og)))]) _ wf1 nf1 cf kf fw mx th w n ok1 (xs ((4 * k) + 1)) (nI 0)) (cwV 2 hts gT_cassette rfl rfl rfl (by decide +kernel) ⟨Nat.le_of_ble_eq_true rfl, Nat.le_of_ble_eq_true rfl⟩) 0 rfl rfl rfl hl.1 rfl (Nat.le_of_ble_eq_true rfl) dL_law_513 ⟨hc, hs⟩ (fun bb th H locs hM hP hD hS => ?_)
    have hP : va_P D vwCl (lwM cI cZ cL h a1 a2 a3 a4 g g1 g2 g3 g4 o wf nf bf bs mc ff og wf1 nf1 cf kf fw mx th) H := hP
    have hD : va_D A (lwM cI cZ cL h a1 a2 a3 a4 g g1 g2 g3 g4 o wf nf bf bs mc ff og wf1 nf1 cf kf fw mx th) := hD
    refine lv_istore (lv' := [(6, .int bb), (5, .int rr), (4, .int (nI (4 * k))), (3, .ref o), (2, .ref g), (1, .ref h), (0, .ref b)]) hx hb dL_law_516 hl (by decide) rfl (fun ls hl => ?_)
    refine lv_aload_n hx hb dL_law_518 rfl (lv_at hl 4 rfl) ?_
    refine zz_callVi (As := []) (rest := []) F hK hP hD hS hA (c1_thrown l D tys cI cZ hI hZ g g1 g2 g3 g4 (nmW cI h a1 a2 a3 a4 wf nf bf bs mc ff [(o, .inl (cL, 1, .inr (.inl og)))]) _ wf1 nf1 cf kf fw mx th w n ok1 ) (cwV 0 hts gT_thrown rfl rfl rfl (by decide +kernel) ⟨Nat.le_of_ble_eq_true rfl, Nat.le_of_ble_eq_true rfl⟩) 0 rfl rfl rfl hl.1 rfl (Nat.le_of_ble_eq_true rfl) dL_law_519 ⟨hc, hs⟩ (fun tt u H locs hT hP hD hS => ?_)
    have hP : va_P D vwCl (lwM cI cZ cL h a1 a2 a3 a4 g g1 g2 g3 g4 o wf nf bf bs mc ff og wf1 nf1 cf kf fw mx th) H := hP
    have hD : va_D A (lwM cI cZ cL h a1 a2 a3 a4 g g1 g2 g3 g4 o wf nf bf bs mc ff og wf1 nf1 cf kf fw mx th) := hD
    refine zn_as hT ?_
    have ag := (ag_cassette (z := 0) hu hM : th = rr ∧ (rr = 0 → og 0 = bb.toInt64))
    have hP := hP.sub (ws' := (lwW cI cZ cL h a1 a2 a3 a4 g g1 g2 g3 g4 o wf nf bf bs mc ff og wf1 nf1 cf kf fw mx th)) [5, 6, 7, 8, 9, 10, 0, 1, 2, 3, 4] rfl
    have hD := hD.sub (ws' := (lwW cI cZ cL h a1 a2 a3 a4 g g1 g2 g3 g4 o wf nf bf bs mc ff og wf1 nf1 cf kf fw mx th)) [5, 6, 7, 8, 9, 10, 0, 1, 2, 3, 4] (by decide) rfl
    refine lv_iload hx hb dL_law_522 (lv_at hl 1 rfl) ?_
    refine lv_icmp_eq hx hb dL_law_524 rfl (fun _ => ?_) (fun h9 => absurd ag.1 h9)
    refine lv_iload hx hb dL_law_529 (lv_at hl 1 rfl) ?_
    refine lv_if_ne hx hb dL_law_531 rfl (fun _ => ?_) (fun hq => ?_)
    · refine lv_goto hx hb dL_law_546 rfl ?_
      have hl : lv_has ls 7 [(4, .int (nI (4 * k))), (3, .ref o), (2, .ref g), (1, .ref h), (0, .ref b)] := lv_sub hl [2, 3, 4, 5, 6] rfl
      exact kk _ _ _ ⟨wf, nf, bf, bs, mc, ff, og, wf1, nf1, cf, kf, fw, mx, th, w, n, hl, hP, hD, hS, ok, ok1⟩
    · refine lv_aload_n hx hb dL_law_534 rfl (lv_at hl 3 rfl) ?_
      refine lv_iconst (v := nI 0) hx hb dL_law_535 (by decide +kernel) ?_
      refine zn_lald (k := 0) hx hb hK hP 5 _ rfl hLg (by decide) (by decide) dL_law_536 ?_
      refine zn_asl (ag.2 hq) ?_
      refine lv_iload hx hb dL_law_537 (lv_at hl 0 rfl) ?_
      refine lv_i2l (v := bb.toInt64) hx hb dL_law_539 rfl ?_
      refine W.lcmp hx hb dL_law_540 ?_
      refine zn_as (zz_cmp _) ?_
      refine lv_if_eq hx hb dL_law_541 rfl (fun _ => ?_) (fun h9 => absurd rfl h9)
      refine lv_goto hx hb dL_law_546 rfl ?_
      have hl : lv_has ls 7 [(4, .int (nI (4 * k))), (3, .ref o), (2, .ref g), (1, .ref h), (0, .ref b)] := lv_sub hl [2, 3, 4, 5, 6] rfl
      exact kk _ _ _ ⟨wf, nf, bf, bs, mc, ff, og, wf1, nf1, cf, kf, fw, mx, th, w, n, hl, hP, hD, hS, ok, ok1⟩
  · refine lv_aload_n hx hb dL_law_465 rfl (lv_at hl 3 rfl) ?_
    refine lv_aload_n hx hb dL_law_466 rfl (lv_at hl 4 rfl) ?_
    refine lv_iload hx hb dL_law_467 (lv_at hl 0 rfl) ?_
    refine lv_iconst (v := nI 1) hx hb dL_law_469 (by decide +kernel) ?_
    refine zn_add hx hb dL_law_470 ?_
    refine zn_sld (k := (4 * k) + 1) hx hb hX hbl hbA hS (by omega) (by omega) dL_law_471 ?_
    refine lv_aload_n hx hb dL_law_472 rfl (lv_at hl 4 rfl) ?_
    refine lv_iload hx hb dL_law_473 (lv_at hl 0 rfl) ?_
    refine lv_iconst (v := nI 2) hx hb dL_law_475 (by decide +kernel) ?_
    refine zn_add hx hb dL_law_476 ?_
    refine zn_sld (k := (4 * k) + 2) hx hb hX hbl hbA hS (by omega) (by omega) dL_law_477 ?_
    refine lv_if_eq hx hb dL_law_478 rfl (fun h9 => absurd h9 hq0) (fun _ => ?_)
    refine lv_iconst (v := nI 1) hx hb dL_law_481 (by decide +kernel) ?_
    refine lv_goto hx hb dL_law_482 rfl ?_
    refine lv_aload_n hx hb dL_law_486 rfl (lv_at hl 1 rfl) ?_
    refine zy_callSi (As := [.ref h, .int (xs ((4 * k) + 1)), .int (nI 1), .ref o]) (rest := []) FL hK hP hD hS hA hst hnc (h_cassette l hl0 D tys cI cL hI hLg h a1 a2 a3 a4 o (mdW cI cZ g g1 g2 g3 g4 wf1 nf1 cf kf fw mx th []) _ wf nf bf bs mc ff og w n ok (xs ((4 * k) + 1)) (nI 1)) (vx_cwSW 4 FL.2.2.2.2 gL_law_L_cassette rfl rfl rfl (by decide +kernel) ⟨Nat.le_of_ble_eq_true rfl, Nat.le_of_ble_eq_true rfl⟩) rfl hl.1 rfl (Nat.le_of_ble_eq_true rfl) dL_law_487 ⟨hc, hs⟩ (fun rr u H locs hu hP hD hS => ?_)
    obtain ⟨⟨⟩, og⟩ := u
    have hP : va_P D vwCl (lwW cI cZ cL h a1 a2 a3 a4 g g1 g2 g3 g4 o wf nf bf bs mc ff og wf1 nf1 cf kf fw mx th) H := hP
    have hD : va_D A (lwW cI cZ cL h a1 a2 a3 a4 g g1 g2 g3 g4 o wf nf bf bs mc ff og wf1 nf1 cf kf fw mx th) := hD
    have hP := hP.sub (ws' := (lwM cI cZ cL h a1 a2 a3 a4 g g1 g2 g3 g4 o wf nf bf bs mc ff og wf1 nf1 cf kf fw mx th)) [6, 7, 8, 9, 10, 0, 1, 2, 3, 4, 5] rfl
    have hD := hD.sub (ws' := (lwM cI cZ cL h a1 a2 a3 a4 g g1 g2 g3 g4 o wf nf bf bs mc ff og wf1 nf1 cf kf fw mx th)) [6, 7, 8, 9, 10, 0, 1, 2, 3, 4, 5] (by decide) rfl
    refine lv_istore (lv' := [(5, .int rr), (4, .int (nI (4 * k))), (3, .ref o), (2, .ref g), (1, .ref h), (0, .ref b)]) hx hb dL_law_490 hl (by decide) rfl (fun ls hl => ?_)
    refine lv_aload_n hx hb dL_law_492 rfl (lv_at hl 3 rfl) ?_
    refine lv_aload_n hx hb dL_law_493 rfl (lv_at hl 5 rfl) ?_
    refine lv_iload hx hb dL_law_494 (lv_at hl 1 rfl) ?_
    refine lv_iconst (v := nI 1) hx hb dL_law_496 (by decide +kernel) ?_
    refine zn_add hx hb dL_law_497 ?_
    refine zn_sld (k := (4 * k) + 1) hx hb hX hbl hbA hS (by omega) (by omega) dL_law_498 ?_
    refine lv_aload_n hx hb dL_law_499 rfl (lv_at hl 5 rfl) ?_
    refine lv_iload hx hb dL_law_500 (lv_at hl 1 rfl) ?_
    refine lv_iconst (v := nI 2) hx hb dL_law_502 (by decide +kernel) ?_
    refine zn_add hx hb dL_law_503 ?_
    refine zn_sld (k := (4 * k) + 2) hx hb hX hbl hbA hS (by omega) (by omega) dL_law_504 ?_
    refine lv_if_eq hx hb dL_law_505 rfl (fun h9 => absurd h9 hq0) (fun _ => ?_)
    refine lv_iconst (v := nI 1) hx hb dL_law_508 (by decide +kernel) ?_
    refine lv_goto hx hb dL_law_509 rfl ?_
    refine zz_callVi (As := [.int (xs ((4 * k) + 1)), .int (nI 1)]) (rest := []) F hK hP hD hS hA (c1_cassette l D tys cI cZ hI hZ g g1 g2 g3 g4 (nmW cI h a1 a2 a3 a4 wf nf bf bs mc ff [(o, .inl (cL, 1, .inr (.inl og)))]) _ wf1 nf1 cf kf fw mx th w n ok1 (xs ((4 * k) + 1)) (nI 1)) (cwV 2 hts gT_cassette rfl rfl rfl (by decide +kernel) ⟨Nat.le_of_ble_eq_true rfl, Nat.le_of_ble_eq_true rfl⟩) 0 rfl rfl rfl hl.1 rfl (Nat.le_of_ble_eq_true rfl) dL_law_513 ⟨hc, hs⟩ (fun bb th H locs hM hP hD hS => ?_)
    have hP : va_P D vwCl (lwM cI cZ cL h a1 a2 a3 a4 g g1 g2 g3 g4 o wf nf bf bs mc ff og wf1 nf1 cf kf fw mx th) H := hP
    have hD : va_D A (lwM cI cZ cL h a1 a2 a3 a4 g g1 g2 g3 g4 o wf nf bf bs mc ff og wf1 nf1 cf kf fw mx th) := hD
    refine lv_istore (lv' := [(6, .int bb), (5, .int rr), (4, .int (nI (4 * k))), (3, .ref o), (2, .ref g), (1, .ref h), (0, .ref b)]) hx hb dL_law_516 hl (by decide) rfl (fun ls hl => ?_)
    refine lv_aload_n hx hb dL_law_518 rfl (lv_at hl 4 rfl) ?_
    refine zz_callVi (As := []) (rest := []) F hK hP hD hS hA (c1_thrown l D tys cI cZ hI hZ g g1 g2 g3 g4 (nmW cI h a1 a2 a3 a4 wf nf bf bs mc ff [(o, .inl (cL, 1, .inr (.inl og)))]) _ wf1 nf1 cf kf fw mx th w n ok1 ) (cwV 0 hts gT_thrown rfl rfl rfl (by decide +kernel) ⟨Nat.le_of_ble_eq_true rfl, Nat.le_of_ble_eq_true rfl⟩) 0 rfl rfl rfl hl.1 rfl (Nat.le_of_ble_eq_true rfl) dL_law_519 ⟨hc, hs⟩ (fun tt u H locs hT hP hD hS => ?_)
    have hP : va_P D vwCl (lwM cI cZ cL h a1 a2 a3 a4 g g1 g2 g3 g4 o wf nf bf bs mc ff og wf1 nf1 cf kf fw mx th) H := hP
    have hD : va_D A (lwM cI cZ cL h a1 a2 a3 a4 g g1 g2 g3 g4 o wf nf bf bs mc ff og wf1 nf1 cf kf fw mx th) := hD
    refine zn_as hT ?_
    have ag := (ag_cassette (z := 0) hu hM : th = rr ∧ (rr = 0 → og 0 = bb.toInt64))
    have hP := hP.sub (ws' := (lwW cI cZ cL h a1 a2 a3 a4 g g1 g2 g3 g4 o wf nf bf bs mc ff og wf1 nf1 cf kf fw mx th)) [5, 6, 7, 8, 9, 10, 0, 1, 2, 3, 4] rfl
    have hD := hD.sub (ws' := (lwW cI cZ cL h a1 a2 a3 a4 g g1 g2 g3 g4 o wf nf bf bs mc ff og wf1 nf1 cf kf fw mx th)) [5, 6, 7, 8, 9, 10, 0, 1, 2, 3, 4] (by decide) rfl
    refine lv_iload hx hb dL_law_522 (lv_at hl 1 rfl) ?_
    refine lv_icmp_eq hx hb dL_law_524 rfl (fun _ => ?_) (fun h9 => absurd ag.1 h9)
    refine lv_iload hx hb dL_law_529 (lv_at hl 1 rfl) ?_
    refine lv_if_ne hx hb dL_law_531 rfl (fun _ => ?_) (fun hq => ?_)
    · refine lv_goto hx hb dL_law_546 rfl ?_
      have hl : lv_has ls 7 [(4, .int (nI (4 * k))), (3, .ref o), (2, .ref g), (1, .ref h), (0, .ref b)] := lv_sub hl [2, 3, 4, 5, 6] rfl
      exact kk _ _ _ ⟨wf, nf, bf, bs, mc, ff, og, wf1, nf1, cf, kf, fw, mx, th, w, n, hl, hP, hD, hS, ok, ok1⟩
    · refine lv_aload_n hx hb dL_law_534 rfl (lv_at hl 3 rfl) ?_
      refine lv_iconst (v := nI 0) hx hb dL_law_535 (by decide +kernel) ?_
      refine zn_lald (k := 0) hx hb hK hP 5 _ rfl hLg (by decide) (by decide) dL_law_536 ?_
      refine zn_asl (ag.2 hq) ?_
      refine lv_iload hx hb dL_law_537 (lv_at hl 0 rfl) ?_
      refine lv_i2l (v := bb.toInt64) hx hb dL_law_539 rfl ?_
      refine W.lcmp hx hb dL_law_540 ?_
      refine zn_as (zz_cmp _) ?_
      refine lv_if_eq hx hb dL_law_541 rfl (fun _ => ?_) (fun h9 => absurd rfl h9)
      refine lv_goto hx hb dL_law_546 rfl ?_
      have hl : lv_has ls 7 [(4, .int (nI (4 * k))), (3, .ref o), (2, .ref g), (1, .ref h), (0, .ref b)] := lv_sub hl [2, 3, 4, 5, 6] rfl
      exact kk _ _ _ ⟨wf, nf, bf, bs, mc, ff, og, wf1, nf1, cf, kf, fw, mx, th, w, n, hl, hP, hD, hS, ok, ok1⟩
set_option maxRecDepth 100000 in
set_option maxHeartbeats 4000000 in
theorem lw_case8 {p : Program} {l : Launch} {e : Env} {s : State} {m : MethodId} {below : List Frame} {meth : Method} {c : Code} {Q : State → Prop} {D : va_G} {tys : List (ClassId × FieldType)} {cI cZ cL : ClassId} {A : Nat → Prop} {b L : Nat} {xs : Nat → Int32} {h a1 a2 a3 a4 g g1 g2 g3 g4 o k : Nat} {ls : Array Slot} {H : Heap} {locs : List Loc} {cells slots : Nat} (C : lwC p l s m c D tys cI cZ cL A b L xs) (hL : L ≤ 2048) (hk : 4 * k + 4 ≤ L) (hc : cells + 1 ≤ 1037) (hs : slots + 6 ≤ 12244) (S0 : lwS D cI cZ cL h a1 a2 a3 a4 g g1 g2 g3 g4 o A s b (4 * k) ls H locs) (kk : ∀ (ls' : Array Slot) (H' : Heap) (locs' : List Loc), lwS D cI cZ cL h a1 a2 a3 a4 g g1 g2 g3 g4 o A s b (4 * k) ls' H' locs' → W p l e room_1 s m #[Value.ref b] below meth c H' locs' (cells + 1) (slots + 6) Q (F0 m 562 ls' [])) : W p l e room_1 s m #[Value.ref b] below meth c H locs cells slots Q (F0 m 549 ls []) := by
  obtain ⟨F, hl0, hX, hbl, hbA, hst, hnc, hK, hI, hZ, hLg, hA⟩ := C
  obtain ⟨hx, hb, hml, hown, hts⟩ := id F
  have FL : CallFix p m c cL_law 7 s #[Value.ref b] wsL_law RL := ⟨hx, hb, hml, hown, fun w hw => hts w (wsL_law_in w hw)⟩
  obtain ⟨wf, nf, bf, bs, mc, ff, og, wf1, nf1, cf, kf, fw, mx, th, w, n, hl, hP, hD, hS, ok, ok1⟩ := S0
  refine lv_aload_n hx hb dL_law_549 rfl (lv_at hl 3 rfl) ?_
  refine zz_callVi (As := []) (rest := []) FL hK hP hD hS hA (c_value l D tys cI hI h a1 a2 a3 a4 ((o, .inl (cL, 1, .inr (.inl og))) :: (mdW cI cZ g g1 g2 g3 g4 wf1 nf1 cf kf fw mx th [])) _ wf nf bf bs mc ff w n ok) (cwV 0 FL.2.2.2.2 gL_law_X0_value rfl rfl rfl (by decide +kernel) ⟨Nat.le_of_ble_eq_true rfl, Nat.le_of_ble_eq_true rfl⟩) 0 rfl rfl rfl hl.1 rfl (Nat.le_of_ble_eq_true rfl) dL_law_550 ⟨by show cells + 0 ≤ 1037; omega, by show slots + 0 ≤ 12244; omega⟩ (fun rr u H locs hu hP hD hS => ?_)
  have hP : va_P D vwCl (lwW cI cZ cL h a1 a2 a3 a4 g g1 g2 g3 g4 o wf nf bf bs mc ff og wf1 nf1 cf kf fw mx th) H := hP
  have hD : va_D A (lwW cI cZ cL h a1 a2 a3 a4 g g1 g2 g3 g4 o wf nf bf bs mc ff og wf1 nf1 cf kf fw mx th) := hD
  have hP := hP.sub (ws' := (lwM cI cZ cL h a1 a2 a3 a4 g g1 g2 g3 g4 o wf nf bf bs mc ff og wf1 nf1 cf kf fw mx th)) [6, 7, 8, 9, 10, 0, 1, 2, 3, 4, 5] rfl
  have hD := hD.sub (ws' := (lwM cI cZ cL h a1 a2 a3 a4 g g1 g2 g3 g4 o wf nf bf bs mc ff og wf1 nf1 cf kf fw mx th)) [6, 7, 8, 9, 10, 0, 1, 2, 3, 4, 5] (by decide) rfl
  refine lv_aload_n hx hb dL_law_553 rfl (lv_at hl 2 rfl) ?_
  refine zz_callVi (As := []) (rest := [.int rr]) F hK hP hD hS hA (c1_value l D tys cI cZ hI hZ g g1 g2 g3 g4 (nmW cI h a1 a2 a3 a4 wf nf bf bs mc ff [(o, .inl (cL, 1, .inr (.inl og)))]) _ wf1 nf1 cf kf fw mx th w n ok1 ) (cwV 0 hts gT_value rfl rfl rfl (by decide +kernel) ⟨Nat.le_of_ble_eq_true rfl, Nat.le_of_ble_eq_true rfl⟩) 0 rfl rfl rfl hl.1 rfl (Nat.le_of_ble_eq_true rfl) dL_law_554 ⟨by show cells + 0 + 0 ≤ 1037; omega, by show slots + 0 + 0 ≤ 12244; omega⟩ (fun bb u H locs hM hP hD hS => ?_)
  have hP : va_P D vwCl (lwM cI cZ cL h a1 a2 a3 a4 g g1 g2 g3 g4 o wf nf bf bs mc ff og wf1 nf1 cf kf fw mx (nI 0)) H := hP
  have hD : va_D A (lwM cI cZ cL h a1 a2 a3 a4 g g1 g2 g3 g4 o wf nf bf bs mc ff og wf1 nf1 cf kf fw mx (nI 0)) := hD
  have hP := hP.sub (ws' := (lwW cI cZ cL h a1 a2 a3 a4 g g1 g2 g3 g4 o wf nf bf bs mc ff og wf1 nf1 cf kf fw mx (nI 0))) [5, 6, 7, 8, 9, 10, 0, 1, 2, 3, 4] rfl
  have hD := hD.sub (ws' := (lwW cI cZ cL h a1 a2 a3 a4 g g1 g2 g3 g4 o wf nf bf bs mc ff og wf1 nf1 cf kf fw mx (nI 0))) [5, 6, 7, 8, 9, 10, 0, 1, 2, 3, 4] (by decide) rfl
  refine lv_icmp_eq hx hb dL_law_557 rfl (fun _ => ?_) (fun h9 => absurd (hu.trans hM.symm) h9)
  refine W.widen (k := cells + 1) (n := slots + 6) (by omega) (by omega) ?_
  have hl : lv_has ls 7 [(4, .int (nI (4 * k))), (3, .ref o), (2, .ref g), (1, .ref h), (0, .ref b)] := lv_sub hl [0, 1, 2, 3, 4] rfl
  exact kk _ _ _ ⟨wf, nf, bf, bs, mc, ff, og, wf1, nf1, cf, kf, fw, mx, (nI 0), w, n, hl, hP, hD, hS, ok, ok1⟩
end
section
/-! THE CLAIM OUT OF ONE WALK OF THE LAW'S BODY. Your part is whole_start (and what it stands on); all else here is the same for every law, but numbers. -/
def R_law : String := "NoteMixLaw"
def lw_P (b : Addr) (xs : List Int32) (args : Array Value) (s : State) : Prop := args = #[.ref b] ∧ s.IntsAt b xs ∧ xs.length ≤ 2048 ∧ (Jvm.Cond.and given_1 narrow_1).before args s = true
def lw_Q (_ : Array Value) (s : State) (o : Outcome) (t : State) : Prop := o = .returned (some (.int 1)) ∧ Framed s o t [] 1037 12244
def lw_Z (below : List Frame) (a : Array Value) (s : State) : State → Prop := fun t => ∃ o, t.status = .running ∧ Ended t below o ∧ lw_Q a s o t
/-- the law's own end, with 1 on the stack, nothing written that was there before, its room as the claim has it -/
theorem lw_ret {p : Program} {l : Launch} {e : Env} {s : State} {m : MethodId} {below : List Frame} {meth : Method} {c : Code} {b : Nat} (hx : p.tables.exec = Jvm.exec) (hb : c.code = code) (hr : meth.sig.returnType = ret) (hlocks : meth.locks = false) {pc : Nat} {H : Heap} {ls : Array Slot} (hdg : decode code pc = .ok (.ireturn, 1)) : W p l e room_1 s m #[Value.ref b] below meth c H [] 1037 12244 (lw_Z below #[Value.ref b] s) (F0 m pc ls [.int 1]) := by
  intro T hT X
  obtain ⟨fs, hret, hrun, hended, hW, hframe⟩ := X.leave (v := some (.int 1)) (hlocks := hlocks) (fun h => by rw [hr] at h; cases h)
  have hmeth' : T.vm.method? m = some meth := X.method'
  refine ⟨T.setFrames fs, ?_, .returned (some (.int 1)), hrun, hended, rfl, ⟨_, rfl⟩, hW, hframe⟩
  jvm_step X.here [X.here.top, hx, hb, hdg, hmeth', hr, ret, narrow_b1]
  (try refine ⟨rfl, ?_⟩); (try refine ⟨rfl, ?_⟩)
  first | (intro acts; rw [hret _ acts rfl rfl rfl]) | rw [hret _ _ rfl rfl rfl]
  exact Steps.refl _
/-- what holds at the law's entry: the machine, the code, the tables' words (any of lw_tbl by 'hts w (by decide +kernel)'), the script of L ints xs at the cell b, what the Statement gives of the start (any of its parts by flat_of_before) -/
def lw_At (p : Program) (s : State) (m : MethodId) (meth : Method) (c : Code) (b L : Nat) (xs : Nat → Int32) : Prop :=
  p.tables.exec = Jvm.exec ∧ c.code = code ∧ meth.sig.returnType = ret ∧ c.maxLocals = 7 ∧ s.vm.findClass R_law = some m.cls ∧ (∀ w ∈ lw_tbl, w.before #[Value.ref b] s = true) ∧ va_X b L xs s s.heap ∧ b < s.heap.size ∧ meth.locks = false ∧ (Jvm.Cond.and given_1 narrow_1).before #[Value.ref b] s = true
set_option maxRecDepth 100000 in
set_option maxHeartbeats 4000000 in
/-- from the entry, for every script of at most 2048 ints, the law comes to its end with true -/
theorem whole_start {p : Program} {e : Env} {s : State} {m : MethodId} {below : List Frame} {meth : Method} {c : Code} (l : Launch) (hl0 : l.stackTraces = false) {b L : Nat} {xs : Nat → Int32} (hL : L ≤ 2048) (C0 : lw_At p s m meth c b L xs) : W p l e room_1 s m #[Value.ref b] below meth c s.heap [] 0 0 (lw_Z below #[Value.ref b] s) (entryFrame m ([Value.ref b] : List Value).toArray 7) := by
  obtain ⟨hx, hb, hr, hml, hown, hts, hX, hbl, hlocks, hgv⟩ := C0
  have F : CallFix p m c cL_law 7 s #[Value.ref b] lw_tbl RL := ⟨hx, hb, hml, hown, hts⟩
  have FL : CallFix p m c cL_law 7 s #[Value.ref b] wsL_law RL := ⟨hx, hb, hml, hown, fun w hw => hts w (wsL_law_in w hw)⟩
  obtain ⟨cC0, iS0, k0⟩ := u_known (C := RX0) (T := TX0) (N := 6) hts inX0 (hts (.instantiable RX0 6) (by decide +kernel))
  obtain ⟨cC1, iS1, k1⟩ := u_known (C := RX1) (T := TX1) (N := 7) hts inX1 (hts (.instantiable RX1 7) (by decide +kernel))
  obtain ⟨cI, kAI, compI, fI, vI, zI⟩ := Cond.arrayClass_spec (hts (.arrayClass .int) (by decide +kernel))
  obtain ⟨cZ, kAZ, compZ, fZ, vZ, zZ⟩ := Cond.arrayClass_spec (hts (.arrayClass .boolean) (by decide +kernel))
  obtain ⟨cL, kAL, compL, fL, vL, zL⟩ := Cond.arrayClass_spec (hts (.arrayClass .long) (by decide +kernel))
  obtain ⟨D, hDe⟩ : ∃ D : va_G, D = ((fun i => if i = 0 then cC0 else cC1), (fun i => if i = 0 then iS0 else iS1)) := ⟨_, rfl⟩
  obtain ⟨tys, htys⟩ : ∃ t : List (ClassId × FieldType), t = [(cI, .int), (cZ, .boolean), (cL, .long)] := ⟨_, rfl⟩
  have hK : va_K D vwCl tys s := by
    subst hDe htys
    refine ⟨fun i q hq => ?_, fun i q hq => ?_⟩
    · rcases i with _ | _ | i
      · cases hq; exact k0
      · cases hq; exact k1
      · cases hq
    · rcases i with _ | _ | _ | i
      · cases hq; exact ⟨fun n z => ⟨fun k h => (by cases h), kAI, vI, compI, zI⟩, fI⟩
      · cases hq; exact ⟨fun n z => ⟨fun k h => (by cases h), kAZ, vZ, compZ, zZ⟩, fZ⟩
      · cases hq; exact ⟨fun n z => ⟨fun k h => (by cases h), kAL, vL, compL, zL⟩, fL⟩
      · cases hq
  have hI : tys[0]? = some (cI, .int) := by rw [htys]; rfl
  have hZ : tys[1]? = some (cZ, .boolean) := by rw [htys]; rfl
  have hLg : tys[2]? = some (cL, .long) := by rw [htys]; rfl
  obtain ⟨A, hAe⟩ : ∃ A : Nat → Prop, A = fun q => s.heap.size ≤ q := ⟨_, rfl⟩
  have hA : ∀ q : Nat, s.heap.size ≤ q → A q := fun q h => by rw [hAe]; exact h
  have hAn : ∀ q : Nat, q < s.heap.size → ¬ A q := fun q h h9 => by rw [hAe] at h9; exact absurd h9 (Nat.not_le.mpr h)
  have hbA : ¬ A b := hAn b hbl
  have hgf := flat_of_before _ hgv
  have hst : zx_st A s s.heap := ⟨vx_Zqof (hts (.laysStatic Bundle.tN "UNASSIGNED_STACK" Bundle.steD) (by decide +kernel)) (hts (.initialized Bundle.tN) (by decide +kernel)) (hgf (.isRef (.static Bundle.tN "UNASSIGNED_STACK" Bundle.steD)) (by decide +kernel)) hAn, vx_Zqof (hts (.laysStatic Bundle.tN "SUPPRESSED_SENTINEL" Bundle.listD) (by decide +kernel)) (hts (.initialized Bundle.tN) (by decide +kernel)) (hgf (.isRef (.static Bundle.tN "SUPPRESSED_SENTINEL" Bundle.listD)) (by decide +kernel)) hAn, va_Nw.of rfl (hts (.castable "java/lang/IllegalArgumentException" "java/lang/IllegalArgumentException") (by decide +kernel)), va_Nw.of rfl (hts (.castable "java/util/NoSuchElementException" "java/util/NoSuchElementException") (by decide +kernel)), va_Nw.of rfl (hts (.declares ⟨"java/lang/RuntimeException", "<init>", "()V"⟩) (by decide +kernel)), va_Nw.of rfl (hts (.declares ⟨"java/lang/Exception", "<init>", "()V"⟩) (by decide +kernel)), va_Nw.of rfl (hts (.declares ⟨"java/lang/Throwable", "<init>", "()V"⟩) (by decide +kernel))⟩
  have hnc : va_Nc "java/util/NoSuchElementException" "java/lang/IllegalArgumentException" s := va_Nc.of (hgf (.not (.castable "java/util/NoSuchElementException" "java/lang/IllegalArgumentException")) (by decide +kernel))
  have C : lwC p l s m c D tys cI cZ cL A b L xs := ⟨F, hl0, hX, hbl, hbA, hst, hnc, hK, hI, hZ, hLg, hA⟩
  have hP : va_P D vwCl [] s.heap := fun k q h => nomatch h
  have hD : va_D A [] := ⟨fun i j p q h => (by cases h), fun k q h => (by cases h)⟩
  have hS : va_S A s.heap s.heap [] := va_S.rf
  have hl := lv_entry ([.ref b]) (n := 7) (Nat.le_of_ble_eq_true rfl)
  rw [lg_entry_eq]
  generalize (lg_sl ([.ref b]) ++ List.replicate (7 - (lg_sl ([.ref b])).length) Slot.unset).toArray = ls at hl ⊢
  have hl : lv_has ls 7 [(0, .ref b)] := hl
  refine va_new (ci := 0) (fs := [.null, .null, .null, .int 0, .int 0, .null]) (C := RX0) (T := TX0) (N := 6) hx hb hts inX0 tyX0 tyX0_ok hown (hts (.classLink RL 8 RX0) (by decide +kernel)) (hts (.instantiable RX0 6) (by decide +kernel)) (hts (.initialized RX0) (by decide +kernel)) hK hP hD hS hA rfl (fun j hj => by rcases (show j = 0 ∨ j = 1 ∨ j = 2 ∨ j = 3 ∨ j = 4 ∨ j = 5 by omega) with rfl | rfl | rfl | rfl | rfl | rfl <;> rfl) (Nat.le_of_ble_eq_true rfl) (Nat.le_of_ble_eq_true rfl) dL_law_0 (fun h H hP hD hS => ?_)
  have hP : va_P D vwCl [(h, .inr (0, [.null, .null, .null, .int 0, .int 0, .null]))] H := hP
  have hD : va_D A [(h, .inr (0, [.null, .null, .null, .int 0, .int 0, .null]))] := hD
  refine lv_dup hx hb dL_law_3 rfl ?_
  refine zz_callIv (As := []) (rest := [.ref h]) FL hK hP hD hS hA (c_init l D tys cI hI h _) (cwI 0 FL.2.2.2.2 gL_law_X0_init rfl rfl rfl (hts (.initialized RX0) (by decide +kernel)) (hts (.methodLink RL 38 yX0_init) (by decide +kernel)) (hts (.instanceMethod yX0_init) (by decide +kernel)) rfl (by decide +kernel) ⟨Nat.le_of_ble_eq_true rfl, Nat.le_of_ble_eq_true rfl⟩) rfl hl.1 rfl (Nat.le_of_ble_eq_true rfl) dL_law_4 ⟨Nat.le_of_ble_eq_true rfl, Nat.le_of_ble_eq_true rfl⟩ (fun u H locs hu0 hP hD hS => ?_)
  obtain ⟨a1, a2, a3, a4, wf, nf⟩ := u
  have hP : va_P D vwCl (nmW cI h a1 a2 a3 a4 wf nf (fun _ => 0) (nI 0) (nI 0) (fun _ => 0) []) H := hP
  have hD : va_D A (nmW cI h a1 a2 a3 a4 wf nf (fun _ => 0) (nI 0) (nI 0) (fun _ => 0) []) := hD
  refine lv_astore_n (lv' := [(1, .ref h), (0, .ref b)]) hx hb dL_law_7 rfl hl (by decide) rfl (fun ls hl => ?_)
  refine va_new (ci := 1) (fs := [.null, .null, .null, .null, .int 0, .int 0, .int 0]) (C := RX1) (T := TX1) (N := 7) hx hb hts inX1 tyX1 tyX1_ok hown (hts (.classLink RL 39 RX1) (by decide +kernel)) (hts (.instantiable RX1 7) (by decide +kernel)) (hts (.initialized RX1) (by decide +kernel)) hK hP hD hS hA rfl (fun j hj => by rcases (show j = 0 ∨ j = 1 ∨ j = 2 ∨ j = 3 ∨ j = 4 ∨ j = 5 ∨ j = 6 by omega) with rfl | rfl | rfl | rfl | rfl | rfl | rfl <;> rfl) (Nat.le_of_ble_eq_true rfl) (Nat.le_of_ble_eq_true rfl) dL_law_8 (fun g H hP hD hS => ?_)
  have hP : va_P D vwCl (nmW cI h a1 a2 a3 a4 wf nf (fun _ => 0) (nI 0) (nI 0) (fun _ => 0) [(g, .inr (1, [.null, .null, .null, .null, .int 0, .int 0, .int 0]))]) H := hP
  have hD : va_D A (nmW cI h a1 a2 a3 a4 wf nf (fun _ => 0) (nI 0) (nI 0) (fun _ => 0) [(g, .inr (1, [.null, .null, .null, .null, .int 0, .int 0, .int 0]))]) := hD
  refine lv_dup hx hb dL_law_11 rfl ?_
  refine zz_callIvF (wc := [(g, .inr (1, [.null, .null, .null, .null, .int 0, .int 0, .int 0]))]) (wr := nmW cI h a1 a2 a3 a4 wf nf (fun _ => 0) (nI 0) (nI 0) (fun _ => 0) []) (As := []) (rest := [.ref g]) F hK hP hD hS hA [5] [0, 1, 2, 3, 4] rfl rfl (by decide) rfl (by decide) (by decide) (c1_init l D tys cI cZ hI hZ g _) (cwI 0 hts gT_init rfl rfl rfl (hts (.initialized RX1) (by decide +kernel)) (hts (.methodLink RL 41 yX1_init) (by decide +kernel)) (hts (.instanceMethod yX1_init) (by decide +kernel)) rfl (by decide +kernel) ⟨Nat.le_of_ble_eq_true rfl, Nat.le_of_ble_eq_true rfl⟩) rfl hl.1 rfl (Nat.le_of_ble_eq_true rfl) dL_law_12 ⟨Nat.le_of_ble_eq_true rfl, Nat.le_of_ble_eq_true rfl⟩ (fun u H locs hu1 hP hD hS => ?_)
  obtain ⟨g1, g2, g3, g4, wf1, nf1⟩ := u
  have hP : va_P D vwCl (nmW cI h a1 a2 a3 a4 wf nf (fun _ => 0) (nI 0) (nI 0) (fun _ => 0) (mdW cI cZ g g1 g2 g3 g4 wf1 nf1 (fun _ => 0) (fun _ => 0) 0 0 0 [])) H := hP
  have hD : va_D A (nmW cI h a1 a2 a3 a4 wf nf (fun _ => 0) (nI 0) (nI 0) (fun _ => 0) (mdW cI cZ g g1 g2 g3 g4 wf1 nf1 (fun _ => 0) (fun _ => 0) 0 0 0 [])) := hD
  refine lv_astore_n (lv' := [(2, .ref g), (1, .ref h), (0, .ref b)]) hx hb dL_law_15 rfl hl (by decide) rfl (fun ls hl => ?_)
  refine lv_iconst (v := nI 1) hx hb dL_law_16 (by decide +kernel) ?_
  have hK0 := hK
  refine va_newa (atype := .long) (ty := .long) (N' := 1) (a0 := (1, .inr (.inl (fun _ => 0)))) hx hb (hts (.arrayClass .long) (by decide +kernel)) rfl hK hP hD hS hA (fun cA => zz_cellL 1 cA) (by decide +kernel) (by decide +kernel) (by decide +kernel) (Nat.le_of_ble_eq_true rfl) (Nat.le_of_ble_eq_true rfl) dL_law_17 (fun o cA H hK hP hD hS => ?_)
  have hcA := zz_arrL hK0 hLg hK
  rw [hcA] at hP hD
  have hK := hK0
  have hP : va_P D vwCl (nmW cI h a1 a2 a3 a4 wf nf (fun _ => 0) (nI 0) (nI 0) (fun _ => 0) (mdW cI cZ g g1 g2 g3 g4 wf1 nf1 (fun _ => 0) (fun _ => 0) 0 0 0 [(o, .inl (cL, 1, .inr (.inl (fun _ => 0))))])) H := hP
  have hD : va_D A (nmW cI h a1 a2 a3 a4 wf nf (fun _ => 0) (nI 0) (nI 0) (fun _ => 0) (mdW cI cZ g g1 g2 g3 g4 wf1 nf1 (fun _ => 0) (fun _ => 0) 0 0 0 [(o, .inl (cL, 1, .inr (.inl (fun _ => 0))))])) := hD
  have hP := hP.sub (ws' := (lwW cI cZ cL h a1 a2 a3 a4 g g1 g2 g3 g4 o wf nf (fun _ => 0) (nI 0) (nI 0) (fun _ => 0) (fun _ => 0) wf1 nf1 (fun _ => 0) (fun _ => 0) 0 0 0)) [0, 1, 2, 3, 4, 10, 5, 6, 7, 8, 9] rfl
  have hD := hD.sub (ws' := (lwW cI cZ cL h a1 a2 a3 a4 g g1 g2 g3 g4 o wf nf (fun _ => 0) (nI 0) (nI 0) (fun _ => 0) (fun _ => 0) wf1 nf1 (fun _ => 0) (fun _ => 0) 0 0 0)) [0, 1, 2, 3, 4, 10, 5, 6, 7, 8, 9] (by decide) rfl
  refine lv_astore_n (lv' := [(3, .ref o), (2, .ref g), (1, .ref h), (0, .ref b)]) hx hb dL_law_19 rfl hl (by decide) rfl (fun ls hl => ?_)
  refine lv_iconst (v := nI 0) hx hb dL_law_20 (by decide +kernel) ?_
  refine lv_istore (lv' := [(4, .int (nI 0)), (3, .ref o), (2, .ref g), (1, .ref h), (0, .ref b)]) hx hb dL_law_21 hl (by decide) rfl (fun ls hl => ?_)
  refine zz_loopC (fun ls H locs cells slots (k : Nat) => cells = 11 + k ∧ slots = 4040 + 6 * k ∧ 4 * k ≤ 2048 ∧ lwS D cI cZ cL h a1 a2 a3 a4 g g1 g2 g3 g4 o A s b (4 * k) ls H locs) (fun k => 600 - k) ?_ 0 ⟨rfl, rfl, by decide, wf, nf, _, _, _, _, _, wf1, nf1, _, _, _, _, _, nm_w0, nm_n0, hl, hP, hD, hS, hu0, hu1⟩
  rintro ls H locs cells slots k ⟨hcl, hsl, hk, S0⟩ kk
  have S00 := S0
  obtain ⟨wf, nf, bf, bs, mc, ff, og, wf1, nf1, cf, kf, fw, mx, th, w, n, hl, hP, hD, hS, ok, ok1⟩ := S0
  refine lv_iload hx hb dL_law_23 (lv_at hl 0 rfl) ?_
  refine lv_aload_n hx hb dL_law_25 rfl (lv_at hl 4 rfl) ?_
  refine va_slen hx hb hX hbl hbA hS dL_law_26 ?_
  refine zn_as (show Int32.ofNat L = nI L from rfl) ?_
  refine lv_iconst (v := nI 4) hx hb dL_law_27 (by decide +kernel) ?_
  refine lv_isub hx hb dL_law_28 ?_
  refine lv_icmp_gt hx hb dL_law_29 rfl (fun _ => ?_) (fun hlim => ?_)
  · refine lv_iconst (v := 1) hx hb dL_law_568 (by decide +kernel) ?_
    refine va_forget (fun q hq => by have h9 := hS.2.2 q hq; rw [hAe] at h9; exact h9) ?_
    refine W.widen (k := 1037) (n := 12244) (by omega) (by omega) ?_
    exact lw_ret hx hb hr hlocks dL_law_569
  · have hk4 := zz_lim hL (by omega) hlim
    refine lv_aload_n hx hb dL_law_32 rfl (lv_at hl 4 rfl) ?_
    refine lv_iload hx hb dL_law_33 (lv_at hl 0 rfl) ?_
    refine zn_sld (k := 4 * k) hx hb hX hbl hbA hS (by omega) (by omega) dL_law_35 ?_
    refine lv_bipush (v := nI 15) hx hb dL_law_36 (by decide +kernel) ?_
    refine lv_iand hx hb dL_law_38 ?_
    obtain ⟨t, ht, et⟩ := pk_andE (xs (4 * k)) (m := nI 15) 4 (by decide +kernel)
    refine zn_as et ?_
    have kk' : ∀ (ls' : Array Slot) (H' : Heap) (locs' : List Loc), lwS D cI cZ cL h a1 a2 a3 a4 g g1 g2 g3 g4 o A s b (4 * k) ls' H' locs' → W p l e room_1 s m #[Value.ref b] below meth c H' locs' (cells + 1) (slots + 6) (lw_Z below #[Value.ref b] s) (F0 m 562 ls' []) := by
      intro ls H locs ⟨wf, nf, bf, bs, mc, ff, og, wf1, nf1, cf, kf, fw, mx, th, w, n, hl, hP, hD, hS, ok, ok1⟩
      refine lv_iinc (k := 0) (lv' := [(4, .int (nI (4 * k + 4))), (3, .ref o), (2, .ref g), (1, .ref h), (0, .ref b)]) hx hb dL_law_562 hl rfl (zz_i4 _) (by decide) rfl (fun ls hl => ?_)
      refine lv_goto hx hb dL_law_565 rfl ?_
      exact kk _ _ _ _ _ (k + 1) ⟨by omega, by omega, by omega, wf, nf, bf, bs, mc, ff, og, wf1, nf1, cf, kf, fw, mx, th, w, n, hl, hP, hD, hS, ok, ok1⟩ (by omega)
    rcases (show t = 0 ∨ t = 1 ∨ t = 2 ∨ t = 3 ∨ t = 4 ∨ t = 5 ∨ t = 6 ∨ t = 7 ∨ t = 8 ∨ 9 ≤ t by omega) with rfl | rfl | rfl | rfl | rfl | rfl | rfl | rfl | rfl | h9
    · refine lv_tableIn (off := 49) (tgt := 88) hx hb dL_law_39 (by decide +kernel) (by decide +kernel) (by decide +kernel) rfl ?_
      exact lw_case0 C hL hk4 (by omega) (by omega) S00 kk'
    · refine lv_tableIn (off := 109) (tgt := 148) hx hb dL_law_39 (by decide +kernel) (by decide +kernel) (by decide +kernel) rfl ?_
      exact lw_case1 C hL hk4 (by omega) (by omega) S00 kk'
    · refine lv_tableIn (off := 165) (tgt := 204) hx hb dL_law_39 (by decide +kernel) (by decide +kernel) (by decide +kernel) rfl ?_
      exact lw_case2 C hL hk4 (by omega) (by omega) S00 kk'
    · refine lv_tableIn (off := 233) (tgt := 272) hx hb dL_law_39 (by decide +kernel) (by decide +kernel) (by decide +kernel) rfl ?_
      exact lw_case3 C hL hk4 (by omega) (by omega) S00 kk'
    · refine lv_tableIn (off := 289) (tgt := 328) hx hb dL_law_39 (by decide +kernel) (by decide +kernel) (by decide +kernel) rfl ?_
      exact lw_case4 C hL hk4 (by omega) (by omega) S00 kk'
    · refine lv_tableIn (off := 357) (tgt := 396) hx hb dL_law_39 (by decide +kernel) (by decide +kernel) (by decide +kernel) rfl ?_
      exact lw_case5 C hL hk4 (by omega) (by omega) S00 kk'
    · refine lv_tableIn (off := 413) (tgt := 452) hx hb dL_law_39 (by decide +kernel) (by decide +kernel) (by decide +kernel) rfl ?_
      exact lw_case6 C hL hk4 (by omega) (by omega) S00 kk'
    · refine lv_tableIn (off := 426) (tgt := 465) hx hb dL_law_39 (by decide +kernel) (by decide +kernel) (by decide +kernel) rfl ?_
      exact lw_case7 C hL hk4 (by omega) (by omega) S00 kk'
    · refine lv_tableIn (off := 510) (tgt := 549) hx hb dL_law_39 (by decide +kernel) (by decide +kernel) (by decide +kernel) rfl ?_
      exact lw_case8 C hL hk4 (by omega) (by omega) S00 kk'
    · refine lv_tableOut (tgt := 562) hx hb dL_law_39 (Or.inr (by rw [nI_toInt (by omega)]; omega)) rfl ?_
      exact W.widen (k := cells + 1) (n := slots + 6) (by omega) (by omega) (kk' _ _ _ S00)
set_option maxHeartbeats 4000000 in
theorem lw_walk (l : Launch) (hl0 : l.stackTraces = false) (b : Addr) (xs : List Int32) : MetFree l x (headSpec (Jvm.Cond.code x code maxLocals ret :: tables_1) room_1) (lw_P b xs) (fun _ _ _ _ _ => True) lw_Q := by
  refine MetFree.of_bodyS (code := code) (maxLocals := maxLocals) (ret := ret) (by decide) ?_ ?_
  · intro args s m h hn
    obtain ⟨meth, c, h1, h2, h3, h4, h5, h6, -, -⟩ := Cond.code_spec hn (atoms_spec (ws := Jvm.Cond.code x code maxLocals ret :: tables_1) h _ List.mem_cons_self)
    exact ⟨meth, c, h1, h2, h3, h4, h5, h6⟩
  · intro p e s m args below meth c s₁ B hml0 hP _
    obtain ⟨rfl, hx, hbd, hgv⟩ := hP
    obtain ⟨scr, harrAt, hlist, hof, hsmall⟩ := hx
    obtain ⟨hcb, hkn, -, -⟩ := State.arrayAt?_spec harrAt
    have hown : s.vm.findClass R_law = some m.cls := findClass_of_methodNamed B.named
    have hts0 : ∀ c ∈ (Jvm.Cond.code x code maxLocals ret :: tables_1), c.before #[Value.ref b] s = true := atoms_spec (ws := Jvm.Cond.code x code maxLocals ret :: tables_1) B.pre
    have hts : ∀ w ∈ lw_tbl, w.before #[Value.ref b] s = true := k2_hts_sels lw_privs (fun w hw => hts0 w (List.mem_cons_of_mem _ hw)) lw_privs_ok
    have hml : c.maxLocals = 7 := B.maxLocals_eq (hts0 _ List.mem_cons_self)
    have X₀ : Stand p l e room_1 s m #[Value.ref b] below meth c s₁ [] 0 0 := Stand.of_body B
    have hh0 : s₁.heap = s.heap := by rw [B.state]; rfl
    have hsz : scr.slots.size = xs.length := by rw [← Array.length_toList, hlist, List.length_map]
    have hval : ∀ j : Nat, j < xs.length → scr.slots[j]? = some (.int (xs.getD j 0)) := fun j hj => by
      rw [← Array.getElem?_toList, hlist]
      simp [hj]
    have hbl : b < s.heap.size := (Array.getElem?_eq_some_iff.mp hcb).1
    have hX : va_X b xs.length (fun j => xs.getD j 0) s s.heap := ⟨scr, hcb, hof, hkn, hsz, hval⟩
    have K : W p l e room_1 s m #[Value.ref b] below meth c s₁.heap [] 0 0 (lw_Z below #[Value.ref b] s) (entryFrame m ([Value.ref b] : List Value).toArray 7) := by
      rw [hh0]
      exact whole_start l hl0 hbd ⟨B.exec, B.bytes, B.returns, hml, hown, hts, hX, hbl, B.notSynchronized, hgv⟩
    obtain ⟨t, a1, o, b1, b2, b3⟩ := K s₁ rfl X₀
    exact ⟨t, o, a1, b1, b2, b3⟩
theorem lw_pre_spec {args : Array Value} {s : State} (h : (Jvm.Cond.and given_1 narrow_1).before args s = true) (hr : rest_1_c.before args s = true) : ∃ (b : Addr) (xs : List Int32), lw_P b xs args s := by
  have hs := flat_of_before _ h
  have hq := flat_of_before _ hr
  have hc : (Cond.count 1).before args s = true := hs _ (by decide +kernel)
  have harr : (Cond.arrayOf (.arg 0) .int).before args s = true := hs _ (by decide +kernel)
  have hle : (Cond.le (.length (.arg 0)) (.int 2048)).before args s = true := hs _ (by decide +kernel)
  have hlen : (Cond.isInt (.length (.arg 0))).before args s = true := hq _ (by decide +kernel)
  have hall : (Cond.all (.arg 0) (.isInt (.elem (.arg 0) (.index 0)))).before args s = true := hq _ (by decide +kernel)
  obtain ⟨b, xs, hb, hx⟩ := State.ints_of_pre rfl harr hlen hall
  have hsm : xs.length < 2 ^ 31 := hx.choose_spec.2.2.2
  have hev : (Term.length (.arg 0)).eval args s none [] s = some (.int xs.length.toInt32) := hx.length_eval hb
  have hv := Cond.le_ints hev (show (Term.int 2048).eval args s none [] s = some (.int 2048) from rfl)
  have hd : xs.length.toInt32 ≤ 2048 := by
    simpa [Cond.before, Cond.holds, hv] using hle
  have hN : xs.length ≤ 2048 := (Int32.ofNat_le_ofNat hsm (by decide)).mp (show Int32.ofNat xs.length ≤ Int32.ofNat 2048 from hd)
  exact ⟨b, xs, Cond.one_arg hc (show args[0]? = some (.ref b) from hb), hx, hN, h⟩
theorem lw_comes (l : Launch) (hl0 : l.stackTraces = false) : Comes l x (Jvm.Cond.code x code maxLocals ret :: tables_1) room_1 (fun tb e args s => Calls_1 tb e args s ∧ rest_1 tb e args s ∧ Pre_1 tb e args s)
    (fun _ _ args s o t => lw_Q args s o t) := by
  intro p e ha hc hk s m args below hf hfit hheap happ hpre
  obtain ⟨b, xs, hP⟩ := lw_pre_spec hpre.2.2 hpre.2.1
  obtain ⟨k, o, h1, h2, h3, hQ⟩ := lw_walk l hl0 b xs p e ha hc hk s m args below hf ((Spec.applies_iff_loose hf).mp happ).1 hP trivial
  exact ⟨k, o, h1, h2, h3, hQ⟩
theorem lw_frame {s t : State} {o : Outcome} {args : Array Value} (h : Framed s o t [] 1037 12244) :
    Framed s o t (fieldLocs frame_1_writes args s ++ arrayLocs frame_1_arrays args s ++ staticLocs frame_1_statics s) 1037 12244 := h
theorem lw_limb (L : Cond) (hL : ∀ (args : Array Value) (s t : State), L.after args s (.returned (some (.int 1))) t = true) :
    ArmFor flags0 classFile x code maxLocals ret World_1 tables_1 room_1 Calls_1 rest_1 Pre_1
      (fun tb e a s o t => postC L tb e a s o t ∧ Framed s o t (fieldLocs frame_1_writes a s ++ arrayLocs frame_1_arrays a s ++ staticLocs frame_1_statics s) 1037 12244) := by
  intro l hfl _ _ p e ha hc hk s m args below hf hfit hheap happ hpre
  have hl0 : l.stackTraces = false := by
    unfold Launch.stackTraces
    rw [hfl]
    decide +kernel
  obtain ⟨k, o, h1, h2, h3, rfl, hF⟩ := lw_comes l hl0 p e ha hc hk s m args below hf hfit hheap happ hpre
  exact ⟨k, _, h1, h2, h3, hL args s _, lw_frame hF⟩
theorem i_vc : Claimed_1_1 ∧ Claimed_1_2 := ⟨lw_limb limb_1_1 (fun args s t => by simp [limb_1_1, Cond.after, Cond.holds, Cond.value]), lw_limb limb_1_2 (fun args s t => Cond.after_iff.mpr (by
  first | (rw [show limb_1_2 = Cond.eq .result (.int 1) from rfl, Cond.eq_ints (x := 1) (y := 1) rfl rfl]; simp; done) | (simp [limb_1_2, Cond.value, Term.eval]; done)))⟩
end
