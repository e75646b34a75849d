/-! contracts of one shape, their calls, their ends: short names over the kit's rows -/
theorem ty3_eq {D : va_G} {cl : List vw_C} {tys : List (ClassId × FieldType)} {s : State} {cA cN : ClassId} (t0 k : Nat) {ty : FieldType} (h : va_K D cl tys s) (h0 : tys[t0]? = some (cA, ty)) (h1 : tys[k]? = some (cN, ty)) (hty : va_RA s cA ty = (s.vm.findClass ("[" ++ ty.toString) = some cA)) (hty2 : va_RA s cN ty = (s.vm.findClass ("[" ++ ty.toString) = some cN)) : cN = cA := by
  have a := (h.2 t0 _ h0).2
  have b := (h.2 k _ h1).2
  rw [hty] at a
  rw [hty2] at b
  exact Option.some.inj (b.symm.trans a)
section HP1
def lw_good : List Cond := lw_tbl.filter goodWord
theorem gd_of {w : Cond} (h : w ∈ lw_tbl) (h2 : goodWord w = true) : w ∈ lw_good := List.mem_filter.mpr ⟨h, h2⟩
def st_k : Nat → Int32 := fun j => ([135, 153, 170, 180, 204, 210, 225, 255] : List Int32).getD j 0
def st_T (A : Nat → Prop) (U : State) (H : Heap) : Prop := ∃ t : Nat, va_Z "LineBlocks$Codec" "END_TYPES" "[I" (.ref t) A U H ∧ va_T .int t 8 (fun j => .int (st_k j)) A U H
theorem st_T.use {A B : Nat → Prop} {u U : State} {H H1 : Heap} (h : st_T A u H) (hvm : u.vm.Alike U.vm) (hq : ∀ a : Nat, a < H.size → ¬ A a → H1[a]? = H[a]?) (hAB : ∀ q, B q → A q) : st_T B U H1 := by
  obtain ⟨t, h1, h2⟩ := h
  exact ⟨t, va_Z.moved hvm ((h1.kept hq).narrow hAB), va_T.moved hvm ((h2.kept hq).narrow hAB)⟩
def nw_T (U : State) : Prop := ∀ q ∈ nw_l, va_Nw (.methodLinkNest q.1 q.2.1 q.2.2 "LineBlocks") U
theorem nw_T.warm {s U : State} (h : nw_T s) (hW : s.WarmedH U.vm) : nw_T U := fun q hq => va_Nw.warmM hW (h q hq)
theorem nw_T.same {s U : State} (h : nw_T s) (hW : s.vm = U.vm) : nw_T U := fun q hq => va_Nw.same rfl hW (h q hq)
def rmL (d lo cells slots : Nat) : Room := { frames := d, cells := cells, slots := slots, locals := lo }
abbrev classes : List vw_C := vwCl
def tys3 (cI cJ cB : ClassId) : List (ClassId × FieldType) := [(cI, .int), (cJ, .long), (cB, .byte)]
abbrev tyL : Type := List (ClassId × FieldType)
def ctP (D : va_G) (cl : List vw_C) (tys : tyL) (av : List Value) (w0 : va_W) (sz : Nat) : Array Value → State → Prop :=
  va_Pc av (fun U => U.heap.size = sz ∧ va_P D cl w0 U.heap ∧ va_K D cl tys U ∧ va_D (fun _ => True) w0 ∧ st_T (va_A w0 sz) U U.heap ∧ nw_T U)
def ctB {S : Type} (D : va_G) (cl : List vw_C) (tys : tyL) (w0 : va_W) (sz : Nat) (w1 : S → va_W) : S → State → Prop :=
  fun u t => va_P D cl (w1 u) t.heap ∧ va_K D cl tys t ∧ va_D (va_A w0 sz) (w1 u)
def cti (l : Launch) (y : MethodName) (ws : List Cond) (rm : Room) (D : va_G) (cl : List vw_C) (tys : tyL) (av : List Value) (w0 : va_W) {S : Type} (post : Int32 → S → Prop) (w1 : S → va_W) : Prop :=
  ∀ sz : Nat, Met l y ws rm (ctP D cl tys av w0 sz) (va_Qi post (ctB D cl tys w0 sz w1) (va_A w0 sz)) 0 0 (va_A w0 sz)
def ctl (l : Launch) (y : MethodName) (ws : List Cond) (rm : Room) (D : va_G) (cl : List vw_C) (tys : tyL) (av : List Value) (w0 : va_W) {S : Type} (post : Int64 → S → Prop) (w1 : S → va_W) : Prop :=
  ∀ sz : Nat, Met l y ws rm (ctP D cl tys av w0 sz) (va_Ql post (ctB D cl tys w0 sz w1) (va_A w0 sz)) 0 0 (va_A w0 sz)
def ctv (l : Launch) (y : MethodName) (ws : List Cond) (rm : Room) (D : va_G) (cl : List vw_C) (tys : tyL) (av : List Value) (w0 : va_W) {S : Type} (post : S → Prop) (w1 : S → va_W) (mc ms : Nat) : Prop :=
  ∀ sz : Nat, Met l y ws rm (ctP D cl tys av w0 sz) (va_Qv post (ctB D cl tys w0 sz w1) (va_A w0 sz)) mc ms (va_A w0 sz)
/-- the words of a method: its own code, and the tables -/
abbrev wsOf (y : MethodName) (cc : ByteArray) (n : Nat) (r : Option FieldType) : List Cond := .code y cc n r :: lw_good
/-- at a method's entry -/
def ctAt (p : Program) (s : State) (m : MethodId) (meth : Method) (c : Code) (args : Array Value) (y : MethodName) (cc : ByteArray) (maxL : Nat) (D : va_G) (cl : List vw_C) (tys : tyL) (av : List Value) (w0 : va_W) (A : Nat → Prop) (ls : Array Slot) : Prop :=
  p.tables.exec = Jvm.exec ∧ c.code = cc ∧ c.maxLocals = maxL ∧ s.vm.findClass y.cls = some m.cls ∧ (∀ w ∈ lw_good, w.before args s = true) ∧ meth.name = y.name ∧
  va_P D cl w0 s.heap ∧ va_K D cl tys s ∧ va_D A w0 ∧ (∀ q : Nat, s.heap.size ≤ q → A q) ∧ va_S A s.heap s.heap [] ∧ st_T A s s.heap ∧ nw_T s ∧ lv_has ls maxL (lv_args 0 av)
theorem ctAt.of {l : Launch} {y : MethodName} {rm : Room} {D : va_G} {cl : List vw_C} {tys : tyL} {av : List Value} {w0 : va_W} {cc : ByteArray} {maxL : Nat} {ret : Option FieldType} (hlen : (lg_sl av).length ≤ maxL) {p : Program} {e : Env} {s : State} {m : MethodId} {args : Array Value} {below : List Frame} {meth : Method} {c : Code} {s₁ : State} {sz : Nat}
    (B : BodyLoose p l y (headSpec (wsOf y cc maxL ret) rm) cc maxL ret e s m args below meth c s₁) (hml : c.maxLocals = maxL) (hv : ctP D cl tys av w0 sz args s) :
    args = av.toArray ∧ s.heap.size = sz ∧ meth.sig.returnType = ret ∧ meth.locks = false ∧ ctAt p s m meth c args y cc maxL D cl tys av w0 (va_A w0 sz) ((lg_sl av ++ List.replicate (maxL - (lg_sl av).length) Slot.unset).toArray) := by
  obtain ⟨rfl, hsz, hP, hK, hD, hZ, hN⟩ := hv
  have hts := atoms_spec (ws := wsOf y cc maxL ret) B.pre
  subst hsz
  exact ⟨rfl, rfl, B.returns, B.notSynchronized, B.exec, B.bytes, hml, findClass_of_methodNamed B.named, fun w h => hts w (List.mem_cons_of_mem _ h), (name_of_methodNamed B.named B.method).1, hP, hK, hD.self, fun q h => Or.inr h, va_S.rf, hZ, hN, lv_entry av hlen⟩
theorem cti.of {l : Launch} {y : MethodName} {rm : Room} {D : va_G} {cl : List vw_C} {tys : tyL} {av : List Value} {w0 : va_W} {S : Type} {post : Int32 → S → Prop} {w1 : S → va_W} {cc : ByteArray} {maxL : Nat} (hy : plainFor y = true) (hlen : (lg_sl av).length ≤ maxL)
    (body : ∀ p e s m args below meth c (A : Nat → Prop) ls (Q : State → Prop), ctAt p s m meth c args y cc maxL D cl tys av w0 A ls →
      (∀ (v : Int32) (u : S) (H : Heap) (locs : List Loc) (pc : Nat) (ls : Array Slot), decode cc pc = .ok (.ireturn, 1) → post v u → va_P D cl (w1 u) H → va_D A (w1 u) → va_S A s.heap H locs → W p l e rm s m args below meth c H locs 0 0 Q (F0 m pc ls [.int v])) →
      W p l e rm s m args below meth c s.heap [] 0 0 Q (F0 m 0 ls [])) :
    cti l y (wsOf y cc maxL (some .int)) rm D cl tys av w0 post w1 := by
  intro sz
  refine va_MetF (cc := cc) (maxL := maxL) (ret := some .int) hy rfl ?_
  intro p e s m args below meth c s₁ B hml hv
  obtain ⟨rfl, rfl, hr, hlk, h⟩ := ctAt.of hlen B hml hv
  rw [lg_entry_eq]
  refine body p e s m _ below meth c _ _ _ h ?_
  intro v u H locs pc ls hdg hq hP hD hS
  exact W.iret (v := v) B.exec B.bytes hr (fun t ht hW => ⟨⟨v, u, rfl, hq, by rw [ht]; exact hP, va_K.moved hW.alike h.2.2.2.2.2.2.2.1, hD⟩, hS.F ht⟩) hS.2.2 hdg hlk
theorem ctz.of {l : Launch} {y : MethodName} {rm : Room} {D : va_G} {cl : List vw_C} {tys : tyL} {av : List Value} {w0 : va_W} {S : Type} {post : Int32 → S → Prop} {w1 : S → va_W} {cc : ByteArray} {maxL : Nat} (hy : plainFor y = true) (hlen : (lg_sl av).length ≤ maxL)
    (body : ∀ p e s m args below meth c (A : Nat → Prop) ls (Q : State → Prop), ctAt p s m meth c args y cc maxL D cl tys av w0 A ls →
      (∀ (v : Int32) (u : S) (H : Heap) (locs : List Loc) (pc : Nat) (ls : Array Slot), decode cc pc = .ok (.ireturn, 1) → narrow .boolean (.int v) = .int v → post v u → va_P D cl (w1 u) H → va_D A (w1 u) → va_S A s.heap H locs → W p l e rm s m args below meth c H locs 0 0 Q (F0 m pc ls [.int v])) →
      W p l e rm s m args below meth c s.heap [] 0 0 Q (F0 m 0 ls [])) :
    cti l y (wsOf y cc maxL (some .boolean)) rm D cl tys av w0 post w1 := by
  intro sz
  refine va_MetF (cc := cc) (maxL := maxL) (ret := some .boolean) hy rfl ?_
  intro p e s m args below meth c s₁ B hml hv
  obtain ⟨rfl, rfl, hr, hlk, h⟩ := ctAt.of hlen B hml hv
  rw [lg_entry_eq]
  refine body p e s m _ below meth c _ _ _ h ?_
  intro v u H locs pc ls hdg hn hq hP hD hS
  exact W.zret (v := v) B.exec B.bytes hr hn (fun t ht hW => ⟨⟨v, u, rfl, hq, by rw [ht]; exact hP, va_K.moved hW.alike h.2.2.2.2.2.2.2.1, hD⟩, hS.F ht⟩) hS.2.2 hdg hlk
theorem ctl.of {l : Launch} {y : MethodName} {rm : Room} {D : va_G} {cl : List vw_C} {tys : tyL} {av : List Value} {w0 : va_W} {S : Type} {post : Int64 → S → Prop} {w1 : S → va_W} {cc : ByteArray} {maxL : Nat} (hy : plainFor y = true) (hlen : (lg_sl av).length ≤ maxL)
    (body : ∀ p e s m args below meth c (A : Nat → Prop) ls (Q : State → Prop), ctAt p s m meth c args y cc maxL D cl tys av w0 A ls →
      (∀ (v : Int64) (u : S) (H : Heap) (locs : List Loc) (pc : Nat) (ls : Array Slot), decode cc pc = .ok (.lreturn, 1) → post v u → va_P D cl (w1 u) H → va_D A (w1 u) → va_S A s.heap H locs → W p l e rm s m args below meth c H locs 0 0 Q (F0 m pc ls [.long v])) →
      W p l e rm s m args below meth c s.heap [] 0 0 Q (F0 m 0 ls [])) :
    ctl l y (wsOf y cc maxL (some .long)) rm D cl tys av w0 post w1 := by
  intro sz
  refine va_MetF (cc := cc) (maxL := maxL) (ret := some .long) hy rfl ?_
  intro p e s m args below meth c s₁ B hml hv
  obtain ⟨rfl, rfl, hr, hlk, h⟩ := ctAt.of hlen B hml hv
  rw [lg_entry_eq]
  refine body p e s m _ below meth c _ _ _ h ?_
  intro v u H locs pc ls hdg hq hP hD hS
  exact W.lret (v := v) B.exec B.bytes hr (fun t ht hW => ⟨⟨v, u, rfl, hq, by rw [ht]; exact hP, va_K.moved hW.alike h.2.2.2.2.2.2.2.1, hD⟩, hS.F ht⟩) hS.2.2 hdg hlk
theorem ctv.of {l : Launch} {y : MethodName} {rm : Room} {D : va_G} {cl : List vw_C} {tys : tyL} {av : List Value} {w0 : va_W} {S : Type} {post : S → Prop} {w1 : S → va_W} {mc ms : Nat} {cc : ByteArray} {maxL : Nat} (hy : plainFor y = true) (hlen : (lg_sl av).length ≤ maxL)
    (body : ∀ p e s m args below meth c (A : Nat → Prop) ls (Q : State → Prop), ctAt p s m meth c args y cc maxL D cl tys av w0 A ls →
      (∀ (u : S) (H : Heap) (locs : List Loc) (pc : Nat) (ls : Array Slot), decode cc pc = .ok (.return_, 1) → post u → va_P D cl (w1 u) H → va_D A (w1 u) → va_S A s.heap H locs → W p l e rm s m args below meth c H locs mc ms Q (F0 m pc ls [])) →
      W p l e rm s m args below meth c s.heap [] 0 0 Q (F0 m 0 ls [])) :
    ctv l y (wsOf y cc maxL none) rm D cl tys av w0 post w1 mc ms := by
  intro sz
  refine va_MetF (cc := cc) (maxL := maxL) (ret := none) hy rfl ?_
  intro p e s m args below meth c s₁ B hml hv
  obtain ⟨rfl, rfl, hr, hlk, h⟩ := ctAt.of hlen B hml hv
  rw [lg_entry_eq]
  refine body p e s m _ below meth c _ _ _ h ?_
  intro u H locs pc ls hdg hq hP hD hS
  exact W.vret B.exec B.bytes hr (fun t ht hW => ⟨⟨u, rfl, hq, by rw [ht]; exact hP, va_K.moved hW.alike h.2.2.2.2.2.2.2.1, hD⟩, hS.F ht⟩) hS.2.2 hdg hlk
end HP1
section HP2
variable {p : Program} {l : Launch} {e : Env} {R : Room} {s : State} {m : MethodId} {args : Array Value} {below : List Frame} {meth : Method} {c : Code} {H : Heap} {locs : List Loc} {cells slots : Nat} {Q : State → Prop}
variable {cc : ByteArray} {pc : Nat} {ls : Array Slot} {rest : List Value} {D : va_G} {cl : List vw_C} {A : Nat → Prop} {tys : tyL}
variable {ws0 wc wr : va_W} {nL n index maxL mc ms : Nat} {ret : Option FieldType} {own C : String} {y : MethodName} {bytes : ByteArray} {rm : Room} {b : Nat} {As st0 : List Value} {w : List Cond}
theorem ct_blind {av : List Value} {w0 : va_W} {sz : Nat} : FrameBlind (ctP D cl tys av w0 sz) := by
  intro a U g mk q
  obtain ⟨q0, q1, qP, qK, qD, qZ, qN⟩ := q
  exact ⟨q0, q1, qP, va_K.moved (u := U) (U := U.calling g mk a) (Vm.Alike.refl U.vm) qK, qD, qZ.use (U := U.calling g mk a) (Vm.Alike.refl U.vm) (fun _ _ _ => rfl) (fun _ h => h), qN.same rfl⟩
theorem ct_pre {av : List Value} (hK : va_K D cl tys s) (hP : va_P D cl ws0 H) (hD : va_D A ws0) (hS : va_S A s.heap H locs) (hA : ∀ q : Nat, s.heap.size ≤ q → A q) (hZ : st_T A s s.heap) (hN : nw_T s) (isC : List Nat) (hn : va_nd isC = true) (hC : isC.map (fun i => ws0[i]?) = wc.map some) (hC2 : isC.filterMap (fun i => ws0[i]?) = wc) :
    ∀ U : State, U.heap = H → s.WarmedH U.vm → ctP D cl tys av wc H.size av.toArray U := by
  intro U hU hW
  have hPc : va_P D cl wc H := hP.sub isC hC2
  have hF := va_free hD hS hA isC hC
  refine ⟨rfl, by rw [hU], by rw [hU]; exact hPc, va_K.moved hW.alike hK, (hD.sub isC hn hC).weaken (fun _ _ _ _ => trivial), ?_, hN.warm hW⟩
  exact hZ.use hW.alike (fun a h1 h2 => by rw [hU]; exact hS.2.1 a h1 h2) hF
theorem call_i {S : Type} {post : Int32 → S → Prop} {w1 : S → va_W} {a : Array Value} (hr : va_Run p l e R s m args below meth c H locs cells slots 0 0 (F0 m pc ls st0) rest (va_Qi post (ctB D cl tys wc H.size w1) (va_A wc H.size) a) (va_A wc H.size)) (hP : va_P D cl ws0 H) (hD : va_D A ws0) (hS : va_S A s.heap H locs) (hA : ∀ q : Nat, s.heap.size ≤ q → A q) (isC isR : List Nat) (hC : isC.map (fun i => ws0[i]?) = wc.map some) (hR : isR.map (fun i => ws0[i]?) = wr.map some) (hn : va_nd isR = true) (hdis : ∀ i ∈ isR, i ∉ isC)
    (kk : ∀ (r : Int32) (u : S) (H1 : Heap) (locs1 : List Loc), post r u → va_P D cl (wr ++ w1 u) H1 → va_D A (wr ++ w1 u) → va_S A s.heap H1 locs1 → W p l e R s m args below meth c H1 locs1 cells slots Q (F0 m (pc + 3) ls (.int r :: rest))) : W p l e R s m args below meth c H locs cells slots Q (F0 m pc ls st0) := by
  have hFc := va_free hD hS hA isC hC
  refine va_calli hr hS (fun q _ h => hFc q h) hFc (fun r u t H1 locs1 ht hvm hw hB hz1 hk1 hS1 => ?_)
  obtain ⟨hP1, hK1, hD1⟩ := hB
  rw [ht] at hP1
  obtain ⟨hP2, hD2⟩ := va_join hP hD isC isR hC hR hn hdis hk1 hFc hP1 hD1
  exact kk r u H1 locs1 hw hP2 hD2 hS1
theorem call_l {S : Type} {post : Int64 → S → Prop} {w1 : S → va_W} {a : Array Value} (hr : va_Run p l e R s m args below meth c H locs cells slots 0 0 (F0 m pc ls st0) rest (va_Ql post (ctB D cl tys wc H.size w1) (va_A wc H.size) a) (va_A wc H.size)) (hP : va_P D cl ws0 H) (hD : va_D A ws0) (hS : va_S A s.heap H locs) (hA : ∀ q : Nat, s.heap.size ≤ q → A q) (isC isR : List Nat) (hC : isC.map (fun i => ws0[i]?) = wc.map some) (hR : isR.map (fun i => ws0[i]?) = wr.map some) (hn : va_nd isR = true) (hdis : ∀ i ∈ isR, i ∉ isC)
    (kk : ∀ (r : Int64) (u : S) (H1 : Heap) (locs1 : List Loc), post r u → va_P D cl (wr ++ w1 u) H1 → va_D A (wr ++ w1 u) → va_S A s.heap H1 locs1 → W p l e R s m args below meth c H1 locs1 cells slots Q (F0 m (pc + 3) ls (.long r :: rest))) : W p l e R s m args below meth c H locs cells slots Q (F0 m pc ls st0) := by
  have hFc := va_free hD hS hA isC hC
  refine va_calll hr hS (fun q _ h => hFc q h) hFc (fun r u t H1 locs1 ht hvm hw hB hz1 hk1 hS1 => ?_)
  obtain ⟨hP1, hK1, hD1⟩ := hB
  rw [ht] at hP1
  obtain ⟨hP2, hD2⟩ := va_join hP hD isC isR hC hR hn hdis hk1 hFc hP1 hD1
  exact kk r u H1 locs1 hw hP2 hD2 hS1
theorem call_v {S : Type} {post : S → Prop} {w1 : S → va_W} {a : Array Value} (hr : va_Run p l e R s m args below meth c H locs cells slots mc ms (F0 m pc ls st0) rest (va_Qv post (ctB D cl tys wc H.size w1) (va_A wc H.size) a) (va_A wc H.size)) (hP : va_P D cl ws0 H) (hD : va_D A ws0) (hS : va_S A s.heap H locs) (hA : ∀ q : Nat, s.heap.size ≤ q → A q) (isC isR : List Nat) (hC : isC.map (fun i => ws0[i]?) = wc.map some) (hR : isR.map (fun i => ws0[i]?) = wr.map some) (hn : va_nd isR = true) (hdis : ∀ i ∈ isR, i ∉ isC)
    (kk : ∀ (u : S) (H1 : Heap) (locs1 : List Loc), post u → va_P D cl (wr ++ w1 u) H1 → va_D A (wr ++ w1 u) → va_S A s.heap H1 locs1 → W p l e R s m args below meth c H1 locs1 (cells + mc) (slots + ms) Q (F0 m (pc + 3) ls rest)) : W p l e R s m args below meth c H locs cells slots Q (F0 m pc ls st0) := by
  have hFc := va_free hD hS hA isC hC
  refine va_callv hr hS (fun q _ h => hFc q h) hFc (fun u t H1 locs1 ht hvm hw hB hz1 hk1 hS1 => ?_)
  obtain ⟨hP1, hK1, hD1⟩ := hB
  rw [ht] at hP1
  obtain ⟨hP2, hD2⟩ := va_join hP hD isC isR hC hR hn hdis hk1 hFc hP1 hD1
  exact kk u H1 locs1 hw hP2 hD2 hS1
end HP2
section HP3
variable {p : Program} {l : Launch} {e : Env} {R : Room} {s : State} {m : MethodId} {args : Array Value} {below : List Frame} {meth : Method} {c : Code} {H : Heap} {locs : List Loc} {cells slots : Nat}
variable {cc : ByteArray} {pc : Nat} {ls : Array Slot} {rest : List Value} {nL n index maxL mc ms : Nat} {ret : Option FieldType} {own : String} {y : MethodName} {bytes : ByteArray} {rm : Room} {b : Nat} {As st0 : List Value} {Pc : Array Value → State → Prop} {Qc : Array Value → State → Outcome → State → Prop} {free : Addr → Prop}
theorem gd_in (h : Cond.code y bytes maxL ret ∈ lw_good) : GoodIn lw_good (wsOf y bytes maxL ret) := by
  intro w hw
  rcases List.mem_cons.mp hw with rfl | hw
  · exact ⟨h, good_of_word (List.mem_filter.mp h).2⟩
  · exact ⟨hw, good_of_word (List.mem_filter.mp hw).2⟩
def lkV (own : String) (index : Nat) (y : MethodName) (bytes : ByteArray) (maxL : Nat) (ret : Option FieldType) (n : Nat) : Prop :=
  Cond.methodLink own index y ∈ lw_good ∧ Cond.instanceMethod y ∈ lw_good ∧ Cond.selects y.cls y y ∈ lw_good ∧ Cond.initialized y.cls ∈ lw_good ∧ Cond.code y bytes maxL ret ∈ lw_good ∧ (y.cls ≠ "java/lang/invoke/MethodHandle" ∧ y.cls ≠ "java/lang/invoke/VarHandle" ∧ (parseMethodDescriptor y.desc).map (fun d => d.parameters.length) = some n)
def lkS (own : String) (index : Nat) (y : MethodName) (bytes : ByteArray) (maxL : Nat) (ret : Option FieldType) (n : Nat) : Prop :=
  Cond.methodLink own index y ∈ lw_good ∧ Cond.static y ∈ lw_good ∧ Cond.initialized y.cls ∈ lw_good ∧ Cond.code y bytes maxL ret ∈ lw_good ∧ (y.cls ≠ "java/lang/invoke/MethodHandle" ∧ y.cls ≠ "java/lang/invoke/VarHandle" ∧ (parseMethodDescriptor y.desc).map (fun d => d.parameters.length) = some n)
def lkI (own : String) (index : Nat) (y : MethodName) (bytes : ByteArray) (maxL : Nat) (n : Nat) : Prop :=
  Cond.methodLink own index y ∈ lw_good ∧ Cond.instanceMethod y ∈ lw_good ∧ Cond.initialized y.cls ∈ lw_good ∧ Cond.code y bytes maxL none ∈ lw_good ∧ (y.cls ≠ "java/lang/invoke/MethodHandle" ∧ y.cls ≠ "java/lang/invoke/VarHandle" ∧ (parseMethodDescriptor y.desc).map (fun d => d.parameters.length) = some n) ∧ y.name = "<init>"
def lkN (own : String) (index : Nat) (y : MethodName) (bytes : ByteArray) (maxL : Nat) (n : Nat) : Prop :=
  (own, index, y) ∈ nw_l ∧ Cond.instanceMethod y ∈ lw_good ∧ Cond.initialized y.cls ∈ lw_good ∧ Cond.code y bytes maxL none ∈ lw_good ∧ (y.cls ≠ "java/lang/invoke/MethodHandle" ∧ y.cls ≠ "java/lang/invoke/VarHandle" ∧ (parseMethodDescriptor y.desc).map (fun d => d.parameters.length) = some n) ∧ y.name = "<init>"
theorem run_V (K : lkV own index y bytes maxL ret n) (hR : rm.frames + 1 ≤ R.frames ∧ 8 + (maxL + 11) + rm.locals ≤ R.locals) (hrc : rm.cells = mc ∧ rm.slots = ms) (S : CallFix p m c cc nL s args lw_good own) (hM : Met l y (wsOf y bytes maxL ret) rm Pc Qc mc ms free) (hbl : FrameBlind Pc) (hp : ∀ U : State, U.heap = H → s.WarmedH U.vm → Pc (Value.ref b :: As).toArray U) (hrv : ∃ cell : Cell, H[b]? = some cell ∧ cell.vm.isStatics = false ∧ s.vm.findClass y.cls = some cell.cls)
    (hn : As.length = n) (hsize : ls.size = nL) (hst : st0 = As.reverse ++ .ref b :: rest) (hW : (rest.map fun v => v.category).sum ≤ 8) (hdg : decode cc pc = .ok (.invokevirtual index, 3)) (hf : cells + mc ≤ R.cells ∧ slots + ms ≤ R.slots) :
    va_Run p l e R s m args below meth c H locs cells slots mc ms (F0 m pc ls st0) rest (Qc (Value.ref b :: As).toArray) free := by
  obtain ⟨k1, k2, k3, k4, k5, k6⟩ := K
  have hts := S.2.2.2.2
  exact va_runV (C := y.cls) S hM ⟨callB_of n hts (gd_in k5) rfl hrc.1 hrc.2 (hts _ k4) (hts _ k1) k6 hR, hts _ k2, hts _ k3⟩ ⟨hbl, hrv, hp⟩ rfl hn hsize hst (lv_room hW) hdg hf
theorem run_S (K : lkS own index y bytes maxL ret n) (hR : rm.frames + 1 ≤ R.frames ∧ 8 + (maxL + 11) + rm.locals ≤ R.locals) (hrc : rm.cells = mc ∧ rm.slots = ms) (S : CallFix p m c cc nL s args lw_good own) (hM : Met l y (wsOf y bytes maxL ret) rm Pc Qc mc ms free) (hbl : FrameBlind Pc) (hp : ∀ U : State, U.heap = H → s.WarmedH U.vm → Pc As.toArray U)
    (hn : As.length = n) (hsize : ls.size = nL) (hst : st0 = As.reverse ++ rest) (hW : (rest.map fun v => v.category).sum ≤ 8) (hdg : decode cc pc = .ok (.invokestatic index, 3)) (hf : cells + mc ≤ R.cells ∧ slots + ms ≤ R.slots) :
    va_Run p l e R s m args below meth c H locs cells slots mc ms (F0 m pc ls st0) rest (Qc As.toArray) free := by
  obtain ⟨k1, k2, k4, k5, k6⟩ := K
  have hts := S.2.2.2.2
  exact va_runS S hM ⟨callB_of n hts (gd_in k5) rfl hrc.1 hrc.2 (hts _ k4) (hts _ k1) k6 hR, hts _ k2⟩ ⟨hbl, hp⟩ rfl hn hsize hst (lv_room hW) hdg hf
theorem run_I (K : lkI own index y bytes maxL n) (hR : rm.frames + 1 ≤ R.frames ∧ 8 + (maxL + 11) + rm.locals ≤ R.locals) (hrc : rm.cells = mc ∧ rm.slots = ms) (S : CallFix p m c cc nL s args lw_good own) (hM : Met l y (wsOf y bytes maxL none) rm Pc Qc mc ms free) (hbl : FrameBlind Pc) (hp : ∀ U : State, U.heap = H → s.WarmedH U.vm → Pc (Value.ref b :: As).toArray U)
    (hn : As.length = n) (hsize : ls.size = nL) (hst : st0 = As.reverse ++ .ref b :: rest) (hW : (rest.map fun v => v.category).sum ≤ 8) (hdg : decode cc pc = .ok (.invokespecial index, 3)) (hf : cells + mc ≤ R.cells ∧ slots + ms ≤ R.slots) :
    va_Run p l e R s m args below meth c H locs cells slots mc ms (F0 m pc ls st0) rest (Qc (Value.ref b :: As).toArray) free := by
  obtain ⟨k1, k2, k4, k5, k6, k7⟩ := K
  have hts := S.2.2.2.2
  exact va_runI S hM ⟨callB_of n hts (gd_in k5) rfl hrc.1 hrc.2 (hts _ k4) (hts _ k1) k6 hR, k7, hts _ k2⟩ ⟨hbl, hp⟩ rfl hn hsize hst (lv_room hW) hdg hf
theorem run_N (K : lkN own index y bytes maxL n) (hN : nw_T s) (hR : rm.frames + 1 ≤ R.frames ∧ 8 + (maxL + 11) + rm.locals ≤ R.locals) (hrc : rm.cells = mc ∧ rm.slots = ms) (S : CallFix p m c cc nL s args lw_good own) (hM : Met l y (wsOf y bytes maxL none) rm Pc Qc mc ms free) (hbl : FrameBlind Pc) (hp : ∀ U : State, U.heap = H → s.WarmedH U.vm → Pc (Value.ref b :: As).toArray U)
    (hn : As.length = n) (hsize : ls.size = nL) (hst : st0 = As.reverse ++ .ref b :: rest) (hW : (rest.map fun v => v.category).sum ≤ 8) (hdg : decode cc pc = .ok (.invokespecial index, 3)) (hf : cells + mc ≤ R.cells ∧ slots + ms ≤ R.slots) :
    va_Run p l e R s m args below meth c H locs cells slots mc ms (F0 m pc ls st0) rest (Qc (Value.ref b :: As).toArray) free := by
  obtain ⟨k1, k2, k4, k5, k6, k7⟩ := K
  have hts := S.2.2.2.2
  exact va_runIN (host := "LineBlocks") S hM ⟨va_cnB n hts (gd_in k5) rfl hrc.1 hrc.2 (hN _ k1) (hts _ k4) k6 hR, k7, hts _ k2⟩ ⟨hbl, hp⟩ rfl hn hsize hst (lv_room hW) hdg hf
end HP3
