/-! the reference's way down: what a walk down to the place K has found -/
def mx_J (w n : Nat → Nat) (v K cnt bs : Nat) (bm : Nat → Nat) : Prop :=
  cnt + mx_c w n v K = mx_c w n v 68921 ∧ cnt ≤ 68921 - K ∧ ((cnt = 0 ∧ bs = 41 ∧ ∀ a b c d, mx_M w n v a b c d → mx_k b c d < K) ∨
    (0 < cnt ∧ mx_M w n v (bm 0) (bm 1) (bm 2) (bm 3) ∧ K ≤ mx_k (bm 1) (bm 2) (bm 3) ∧ bs = bm 0 + bm 1 + bm 2 + bm 3 ∧
      ∀ a b c d, mx_M w n v a b c d → K ≤ mx_k b c d → bs < a + b + c + d ∨ (a + b + c + d = bs ∧ mx_k b c d ≤ mx_k (bm 1) (bm 2) (bm 3))))
theorem mx_J0 {w n bm : Nat → Nat} {v : Nat} : mx_J w n v 68921 0 41 bm := ⟨Nat.zero_add _, Nat.zero_le _, Or.inl ⟨rfl, rfl, fun _ _ _ _ h => mx_klt h⟩⟩
theorem mx_Jbs {w n bm : Nat → Nat} {v K cnt bs : Nat} (h : mx_J w n v K cnt bs bm) : bs ≤ 41 := by
  obtain ⟨_, _, ⟨_, h, _⟩ | ⟨_, ⟨_, _, _, _, h1, _⟩, _, h2, _⟩⟩ := h <;> omega
theorem mx_Jskip {w n bm : Nat → Nat} {v K K' cnt bs : Nat} (h : mx_J w n v K cnt bs bm) (hK : K' ≤ K) (hs : ∀ a b c d, mx_M w n v a b c d → ¬ (K' ≤ mx_k b c d ∧ mx_k b c d < K)) : mx_J w n v K' cnt bs bm := by
  obtain ⟨h1, h0, h2⟩ := h
  obtain ⟨j, rfl⟩ : ∃ j, K = K' + j := ⟨K - K', by omega⟩
  refine ⟨by rw [← mx_skipc j hs]; exact h1, by omega, ?_⟩
  rcases h2 with ⟨e1, e2, e3⟩ | ⟨e1, e2, e3, e4, e5⟩
  · refine Or.inl ⟨e1, e2, fun a b c d hm => ?_⟩
    have x1 := e3 a b c d hm
    have x2 := hs a b c d hm
    omega
  · refine Or.inr ⟨e1, e2, by omega, e4, fun a b c d hm hlt => e5 a b c d hm ?_⟩
    have x2 := hs a b c d hm
    omega
theorem mx_Jnone {w n bm : Nat → Nat} {v b c d cnt bs : Nat} (hb : b ≤ 40) (hc : c ≤ 40) (h : mx_J w n v (mx_k b c d + 1) cnt bs bm) (hn : ∀ a, ¬ mx_M w n v a b c d) : mx_J w n v (mx_k b c d) cnt bs bm := by
  refine mx_Jskip h (Nat.le_succ _) (fun a' b' c' d' hm hk => ?_)
  obtain ⟨_, q2, q3, q4⟩ := mx_M40 hm
  have e : b' = b ∧ c' = c ∧ d' = d := by
    unfold mx_k at hk
    omega
  obtain ⟨rfl, rfl, rfl⟩ := e
  exact hn _ hm
theorem mx_Jfound {w n bm : Nat → Nat} {v a b c d cnt bs : Nat} (h0 : 1 ≤ w 0) (h : mx_J w n v (mx_k b c d + 1) cnt bs bm) (hm : mx_M w n v a b c d) (hlt : a + b + c + d < bs) {bm' : Nat → Nat} (e0 : bm' 0 = a) (e1 : bm' 1 = b) (e2 : bm' 2 = c) (e3 : bm' 3 = d) : mx_J w n v (mx_k b c d) (cnt + 1) (a + b + c + d) bm' := by
  obtain ⟨h1, hc0, h2⟩ := h
  have ht := mx_t1 hm
  have hk := mx_klt hm
  have h1' : cnt + (mx_c w n v (mx_k b c d) + mx_t w n v (mx_k b c d)) = mx_c w n v 68921 := h1
  refine ⟨by omega, by omega, Or.inr ⟨by omega, by rw [e0, e1, e2, e3]; exact hm, by rw [e1, e2, e3]; exact Nat.le_refl _, by rw [e0, e1, e2, e3], ?_⟩⟩
  intro a' b' c' d' hm' hge
  rw [e1, e2, e3]
  by_cases hk : mx_k b' c' d' = mx_k b c d
  · obtain ⟨r1, r2, r3, r4⟩ := mx_same h0 hm hm' hk
    rw [r1, r2, r3, r4]
    exact Or.inr ⟨rfl, Nat.le_refl _⟩
  · rcases h2 with ⟨_, _, q⟩ | ⟨_, _, _, q4, q⟩
    · have q9 := q a' b' c' d' hm'
      omega
    · have q9 := q a' b' c' d' hm' (by omega)
      omega
theorem mx_Jkeep {w n bm : Nat → Nat} {v a b c d cnt bs : Nat} (h0 : 1 ≤ w 0) (h : mx_J w n v (mx_k b c d + 1) cnt bs bm) (hm : mx_M w n v a b c d) (hge : bs ≤ a + b + c + d) : mx_J w n v (mx_k b c d) (cnt + 1) bs bm := by
  obtain ⟨h1, hc0, h2⟩ := h
  have ht := mx_t1 hm
  have hk := mx_klt hm
  have h40 : a + b + c + d ≤ 40 := hm.2.2.2.2.1
  have h1' : cnt + (mx_c w n v (mx_k b c d) + mx_t w n v (mx_k b c d)) = mx_c w n v 68921 := h1
  refine ⟨by omega, by omega, Or.inr ?_⟩
  rcases h2 with ⟨_, q, _⟩ | ⟨q1, q2, q3, q4, q⟩
  · omega
  · refine ⟨by omega, q2, by omega, q4, fun a' b' c' d' hm' hlt => ?_⟩
    by_cases hk : mx_k b' c' d' = mx_k b c d
    · obtain ⟨r1, r2, r3, r4⟩ := mx_same h0 hm hm' hk
      rw [r1, r2, r3, r4]
      omega
    · exact q a' b' c' d' hm' (by omega)
theorem mx_Jend {w n bm : Nat → Nat} {v cnt bs : Nat} (h : mx_J w n v 0 cnt bs bm) : mx_E w n v cnt bs bm := by
  have h9 := mx_Jbs h
  obtain ⟨h1, h0, h2⟩ := h
  refine ⟨h1, h0, h9, ?_⟩
  rcases h2 with ⟨q1, _, q⟩ | ⟨q1, q2, _, q4, q⟩
  · exact Or.inl ⟨q1, fun ⟨a, b, c, d, hm⟩ => absurd (q a b c d hm) (Nat.not_lt_zero _)⟩
  · refine Or.inr ⟨q1, ⟨_, _, _, _, q2⟩, q4, q2, fun a b c d hm => ?_⟩
    have x := q a b c d hm (Nat.zero_le _)
    omega
theorem mx_ks (b c d : Nat) : mx_k (b + 1) c d = mx_k b c d + 1 := by
  unfold mx_k
  omega
theorem md_skip3 {w n : Nat → Nat} {v : Nat} : ∀ a' b' c' d', mx_M w n v a' b' c' d' → ¬ (mx_k 0 0 (min (n 3) 40 + 1) ≤ mx_k b' c' d' ∧ mx_k b' c' d' < 68921) := by
  intro a' b' c' d' hm hk
  obtain ⟨_, q2, q3, q4⟩ := mx_M40 hm
  obtain ⟨m1, m2, m3, m4, m5, m6⟩ := hm
  unfold mx_k at hk
  omega
theorem md_skip2 {w n : Nat → Nat} {v d : Nat} : ∀ a' b' c' d', mx_M w n v a' b' c' d' → ¬ (mx_k 0 (min (n 2) (40 - d) + 1) d ≤ mx_k b' c' d' ∧ mx_k b' c' d' < mx_k 0 0 (d + 1)) := by
  intro a' b' c' d' hm hk
  obtain ⟨_, q2, q3, q4⟩ := mx_M40 hm
  obtain ⟨m1, m2, m3, m4, m5, m6⟩ := hm
  unfold mx_k at hk
  omega
theorem md_skip1 {w n : Nat → Nat} {v c d : Nat} (hc : c ≤ 40) : ∀ a' b' c' d', mx_M w n v a' b' c' d' → ¬ (mx_k (min (n 1) (40 - d - c) + 1) c d ≤ mx_k b' c' d' ∧ mx_k b' c' d' < mx_k 0 (c + 1) d) := by
  intro a' b' c' d' hm hk
  obtain ⟨_, q2, q3, q4⟩ := mx_M40 hm
  obtain ⟨m1, m2, m3, m4, m5, m6⟩ := hm
  unfold mx_k at hk
  omega
/-- what a mix says of what is left for cassette 0 -/
theorem md_inv {w n : Nat → Nat} {v a b c d : Nat} (hw : 1 ≤ w 0) (hm : mx_M w n v a b c d) : d * w 3 + c * w 2 + b * w 1 ≤ v ∧ (v - d * w 3 - c * w 2 - b * w 1) % w 0 = 0 ∧ (v - d * w 3 - c * w 2 - b * w 1) / w 0 = a := by
  obtain ⟨m1, m2, m3, m4, m5, m6⟩ := hm
  have e : v - d * w 3 - c * w 2 - b * w 1 = a * w 0 := by omega
  rw [e]
  exact ⟨by omega, Nat.mul_mod_left _ _, Nat.mul_div_cancel _ hw⟩
theorem md_mix {w n : Nat → Nat} {v b c d : Nat} (h1 : b ≤ n 1) (h2 : c ≤ n 2) (h3 : d ≤ n 3) (hle : d * w 3 + c * w 2 + b * w 1 ≤ v) (hr : (v - d * w 3 - c * w 2 - b * w 1) % w 0 = 0) (hn : (v - d * w 3 - c * w 2 - b * w 1) / w 0 ≤ n 0) (hs : d + c + b + (v - d * w 3 - c * w 2 - b * w 1) / w 0 ≤ 40) : mx_M w n v ((v - d * w 3 - c * w 2 - b * w 1) / w 0) b c d := by
  have e : (v - d * w 3 - c * w 2 - b * w 1) / w 0 * w 0 = v - d * w 3 - c * w 2 - b * w 1 := by
    have h9 := Nat.div_add_mod (v - d * w 3 - c * w 2 - b * w 1) (w 0)
    rw [hr, Nat.add_zero, Nat.mul_comm] at h9
    exact h9
  exact ⟨hn, h1, h2, h3, by omega, by omega⟩
theorem zz_m1 (a : Nat) : nI a + Int32.ofInt (-1) = nI a - 1 := by
  rw [Int32.sub_eq_add_neg]
  rfl
theorem zz_neg3 {v p q r : Nat} (hv : v < 2 ^ 20) (hp : p < 2 ^ 20) (hq : q < 2 ^ 20) (hr : r < 2 ^ 20) (h : v < p + q + r) : nI v - nI p - nI q - nI r < 0 := by
  have e1 : (nI v - nI p).toInt = (v : Int) - p := pk_sub_toInt (by omega) (by omega)
  have e2 : (nI v - nI p - nI q).toInt = (v : Int) - p - q := by
    rw [Int32.toInt_sub, e1, nI_toInt (by omega)]
    exact Int.bmod_eq_of_le (by omega) (by omega)
  have e3 : (nI v - nI p - nI q - nI r).toInt = (v : Int) - p - q - r := by
    rw [Int32.toInt_sub, e2, nI_toInt (by omega)]
    exact Int.bmod_eq_of_le (by omega) (by omega)
  rw [Int32.lt_iff_toInt_lt, e3, Int32.toInt_zero]
  omega
theorem zz_pos3 {v p q r : Nat} (h : p + q + r ≤ v) : nI v - nI p - nI q - nI r = nI (v - p - q - r) := by
  rw [pk_sub (by omega), pk_sub (by omega), pk_sub (by omega)]
section ZM
variable {p : Program} {l : Launch} {e : Env} {R : Room} {s : State} {m : MethodId} {args : Array Value} {below : List Frame} {meth : Method} {c : Code} {H : Heap} {locs : List Loc} {cells slots : Nat} {Q : State → Prop}
variable {cc : ByteArray} {pc : Nat} {ls : Array Slot} {rest : List Value}
theorem zn_if_ltm {a : Nat} {off : Int} {tgt : Nat} (hexec : p.tables.exec = Jvm.exec) (hb : c.code = cc) (ha : a < 2 ^ 31) (hdg : decode cc pc = .ok (.ifCond .lt off, 3)) (ht : (pc : Int) + off = (tgt : Int)) (kt : a = 0 → W p l e R s m args below meth c H locs cells slots Q (F0 m tgt ls rest)) (kf : 0 < a → W p l e R s m args below meth c H locs cells slots Q (F0 m (pc + 3) ls rest)) : W p l e R s m args below meth c H locs cells slots Q (F0 m pc ls (.int (nI a - 1) :: rest)) := by
  refine lv_if_lt hexec hb hdg ht (fun h => ?_) (fun h => ?_)
  · refine kt ?_
    by_cases h0 : a = 0
    · exact h0
    · obtain ⟨k, rfl⟩ : ∃ k, a = k + 1 := ⟨a - 1, by omega⟩
      rw [nI_pred] at h
      exact absurd h (nI_pos (by omega))
  · refine kf ?_
    by_cases h0 : a = 0
    · subst h0
      exact absurd (by decide +kernel) h
    · omega
theorem zn_rem {a b : Nat} (hexec : p.tables.exec = Jvm.exec) (hb : c.code = cc) (ha : a < 2 ^ 31) (h0 : 0 < b) (hd : b < 2 ^ 31) (hdg : decode cc pc = .ok (.irem, 1)) (k : W p l e R s m args below meth c H locs cells slots Q (F0 m (pc + 1) ls (.int (nI (a % b)) :: rest))) : W p l e R s m args below meth c H locs cells slots Q (F0 m pc ls (.int (nI b) :: .int (nI a) :: rest)) := lv_irem hexec hb hdg (nI_ne0 h0 hd) (by rw [pk_rem ha h0 hd]; exact k)
end ZM
section ZH2
variable {l : Launch} {y : MethodName} {ws ws' : List Cond} {rm : Room} {av : List Value} {D : va_G} {tys tys2 : List (ClassId × FieldType)} {wl : va_W} {sz mc ms maxL : Nat} {cc : ByteArray}
/-- .. a boolean comes back -/
theorem zz_headZ {S : Type} {post : Int32 → S → Prop} {wf : S → va_W} (hy : plainName y.cls = true) (hw : ws = Cond.code y cc maxL (some .boolean) :: ws') (hn : (lg_sl av).length ≤ maxL)
    (body : ∀ (p : Program) (e : Env) (s : State) (m : MethodId) (below : List Frame) (meth : Method) (c : Code) (A : Nat → Prop) (ls : Array Slot), CallFix p m c cc maxL s av.toArray ws y.cls → meth.sig.returnType = some .boolean → meth.locks = false → va_P D vwCl wl s.heap → va_K D vwCl tys s → va_D A wl → (∀ q, s.heap.size ≤ q → A q) → va_S A s.heap s.heap [] → lv_has ls maxL (lv_args 0 av) →
      W p l e (headSpec ws rm).room s m av.toArray below meth c s.heap [] 0 0 (MQ below (va_Qi post (zz_B D tys2 A wf) A) av.toArray s mc ms A) (F0 m 0 ls [])) :
    Met l y ws rm (va_Pc av (zz_pre D tys wl sz)) (va_Qi post (zz_B D tys2 (va_A wl sz) wf) (va_A wl sz)) mc ms (va_A wl sz) := by
  refine Met.ofW (cc := cc) (maxL := maxL) (ret := some .boolean) hy hw ?_
  intro p e s m args below meth c s₁ B hml hv
  obtain ⟨rfl, rfl, hP, hK, hD0⟩ := hv
  rw [lg_entry_eq]
  exact body p e s m below meth c _ _ ⟨B.exec, B.bytes, hml, findClass_of_methodNamed B.named, atoms_spec (ws := ws) B.pre⟩ B.returns B.notSynchronized hP hK hD0.self (fun q h => Or.inr h) va_S.rf (lv_entry av hn)
end ZH2
section ZE2
variable {p : Program} {l : Launch} {e : Env} {R : Room} {s : State} {m : MethodId} {args : Array Value} {below : List Frame} {meth : Method} {c : Code} {H : Heap} {locs : List Loc} {cells slots mc ms nL : Nat}
variable {cc : ByteArray} {pc : Nat} {ls : Array Slot} {rest : List Value} {Ts : List Cond} {own : String}
variable {D : va_G} {tys : List (ClassId × FieldType)} {A : Nat → Prop} {S : Type} {wf : S → va_W} {v : Int32} {post : Int32 → S → Prop} {postv : S → Prop} {pe : String → S → Prop}
theorem zz_zret (F : CallFix p m c cc nL s args Ts own) (hr : meth.sig.returnType = some .boolean) (hlocks : meth.locks = false) (hn : narrow .boolean (.int v) = .int v) (hK : va_K D vwCl tys s) (hS : va_S A s.heap H locs) (hdg : decode cc pc = .ok (.ireturn, 1)) (hc : cells ≤ mc) (hs : slots ≤ ms) (u : S) (hp : post v u) (hP : va_P D vwCl (wf u) H) (hD : va_D A (wf u)) :
    W p l e R s m args below meth c H locs cells slots (MQ below (va_Qi post (zz_B D tys A wf) A) args s mc ms A) (F0 m pc ls [.int v]) :=
  W.widen hc hs (W.zret F.1 F.2.1 hr hn (fun t ht hW => ⟨⟨v, u, rfl, hp, by rw [ht]; exact hP, va_K.moved hW.alike hK, hD⟩, hS.F ht⟩) hS.2.2 hdg hlocks)
end ZE2
section ZC2
variable {p : Program} {l : Launch} {e : Env} {R : Room} {s : State} {m : MethodId} {args : Array Value} {below : List Frame} {meth : Method} {c : Code} {H : Heap} {locs : List Loc} {cells slots : Nat} {Q : State → Prop}
variable {cc : ByteArray} {pc : Nat} {ls : Array Slot} {rest st0 : List Value} {Ts : List Cond} {own C : String}
variable {D : va_G} {tys tys1 tys2 : List (ClassId × FieldType)} {A : Nat → Prop} {S : Type} {wf : S → va_W} {wl : va_W} {post : Int32 → S → Prop} {postv : S → Prop} {pe : String → S → Prop}
variable {y : MethodName} {bytes : ByteArray} {maxL nL mc ms n index : Nat} {ret : Option FieldType} {ws : List Cond} {rm : Room} {b : Addr} {As : List Value}
theorem zz_callSi (F : CallFix p m c cc nL s args Ts own) (hK : va_K D vwCl tys s) (hP : va_P D vwCl wl H) (hD : va_D A wl) (hS : va_S A s.heap H locs) (hA : ∀ q, s.heap.size ≤ q → A q)
    (hM : Met l y ws rm (va_Pc As (zz_pre D tys wl H.size)) (va_Qi post (zz_B D tys2 (va_A wl H.size) wf) (va_A wl H.size)) mc ms (va_A wl H.size)) (cw : CallB R s args own index y bytes maxL ret ws rm mc ms n ∧ (Cond.static y).before args s = true)
    (hn : As.length = n) (hsize : ls.size = nL) (hstack : st0 = As.reverse ++ rest) (hW : (rest.map fun v => v.category).sum ≤ 8) (hdg : decode cc pc = .ok (.invokestatic index, 3)) (hf : cells + mc ≤ R.cells ∧ slots + ms ≤ R.slots)
    (kk : ∀ (r : Int32) (u : S) (H1 : Heap) (locs1 : List Loc), post r u → va_P D vwCl (wf u) H1 → va_D A (wf u) → va_S A s.heap H1 locs1 → W p l e R s m args below meth c H1 locs1 (cells + mc) (slots + ms) Q (F0 m (pc + 3) ls (.int r :: rest))) : W p l e R s m args below meth c H locs cells slots Q (F0 m pc ls st0) := by
  have hFc := zz_in hD hS hA
  refine va_calli (va_runS F hM cw (zz_preS hK hP hD) rfl hn hsize hstack (lv_room hW) hdg hf) hS (fun q _ h => hFc q h) hFc (fun r u t H1 locs1 ht hvm hp hB hz hk hS1 => ?_)
  obtain ⟨hP1, -, hD1⟩ := hB
  rw [ht] at hP1
  exact kk r u H1 locs1 hp hP1 (hD1.weaken (fun _ _ _ h => hFc _ h)) hS1
end ZC2
