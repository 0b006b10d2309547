/-! the ambient of the lists: the empty row that ArrayList shares, the class object of rows of objects; contracts over it; rows of references -/
def gY (e mi : Nat) (A : Nat → Prop) (U : State) (H : Heap) : Prop := va_Z "java/util/ArrayList" "DEFAULTCAPACITY_EMPTY_ELEMENTDATA" "[Ljava/lang/Object;" (.ref e) A U H ∧ va_AO "java/lang/Object" U ∧ va_Mi "[Ljava/lang/Object;" mi U ∧ va_Dc U ∧ va_T (.object "java/lang/Object") e 0 (fun _ => .null) A U H
theorem gY.kept {e mi : Nat} {A : Nat → Prop} {U : State} {H H1 : Heap} (h : gY e mi A U H) (hq : ∀ a : Nat, a < H.size → ¬ A a → H1[a]? = H[a]?) : gY e mi A U H1 := ⟨h.1.kept hq, h.2.1, h.2.2.1, h.2.2.2.1, h.2.2.2.2.kept hq⟩
theorem gY.narrow {e mi : Nat} {A B : Nat → Prop} {U : State} {H : Heap} (h : gY e mi A U H) (hAB : ∀ q, B q → A q) : gY e mi B U H := ⟨h.1.narrow hAB, h.2.1, h.2.2.1, h.2.2.2.1, h.2.2.2.2.narrow hAB⟩
theorem gY.moved {e mi : Nat} {A : Nat → Prop} {u U : State} {H : Heap} (hvm : u.vm.Alike U.vm) (h : gY e mi A u H) : gY e mi A U H := ⟨va_Z.moved hvm h.1, va_AO.moved hvm h.2.1, va_Mi.moved hvm h.2.2.1, va_Dc.moved hvm h.2.2.2.1, va_T.moved hvm h.2.2.2.2⟩
theorem gY.warm {e mi : Nat} {A : Nat → Prop} {s U : State} {H : Heap} (hW : s.WarmedH U.vm) (h : gY e mi A s H) : gY e mi A U H := h.moved hW.alike
theorem gY.calling {e mi : Nat} {A : Nat → Prop} {U : State} {H : Heap} {g : JFrame} {mk : MethodId} {a : Array Value} (h : gY e mi A U H) : gY e mi A (U.calling g mk a) H := gY.moved (u := U) (U := U.calling g mk a) (Vm.Alike.refl U.vm) h
def gPreY (D : va_G) (y : Nat → Nat) (e mi : Nat) (ws : va_W) (sz : Nat) : State → Prop := fun U => gPre D y ws sz U ∧ gY e mi (gvA ws sz) U U.heap
theorem gBlindY {D : va_G} {y : Nat → Nat} {e mi : Nat} {ws : va_W} {sz : Nat} {av : List Value} : FrameBlind (va_Pc av (gPreY D y e mi ws sz)) := fun _ _ _ _ q => ⟨q.1, ⟨q.2.1.1, q.2.1.2.1, q.2.1.2.2.1.calling, q.2.1.2.2.2⟩, q.2.2.calling⟩
theorem gHereY {D : va_G} {y : Nat → Nat} {e mi : Nat} {ws : va_W} {av : List Value} {A : Nat → Prop} {s U : State} {H0 H : Heap} {locs : List Loc} (hP : gvP D vwCl ws H) (hD : gvD A ws) (hE : gE D y s) (hY : gY e mi A s H0) (hS : va_S A H0 H locs) (hA : ∀ q : Nat, H0.size ≤ q → A q) (hU : U.heap = H) (hW : s.WarmedH U.vm) : va_Pc av (gPreY D y e mi ws H.size) av.toArray U :=
  ⟨rfl, (gHere (av := av) hP hD hE hU hW).2, by rw [hU]; exact ((hY.kept hS.2.1).narrow (gFree hD hS hA)).warm hW⟩
def gYv {S : Type} (l : Launch) (yy : MethodName) (wsy : List Cond) (rm : Room) (D : va_G) (y : Nat → Nat) (e mi : Nat) (av : List Value) (ws : va_W) (post : S → Prop) (ws' : S → va_W) : Prop := ∀ sz : Nat, Met l yy wsy rm (va_Pc av (gPreY D y e mi ws sz)) (va_Qv post (fun u => gPost D (gvA ws sz) (ws' u)) (gvA ws sz)) rm.cells rm.slots (gvA ws sz)
def gYi {S : Type} (l : Launch) (yy : MethodName) (wsy : List Cond) (rm : Room) (D : va_G) (y : Nat → Nat) (e mi : Nat) (av : List Value) (ws : va_W) (post : Int32 → S → Prop) (ws' : S → va_W) : Prop := ∀ sz : Nat, Met l yy wsy rm (va_Pc av (gPreY D y e mi ws sz)) (va_Qi post (fun u => gPost D (gvA ws sz) (ws' u)) (gvA ws sz)) rm.cells rm.slots (gvA ws sz)
def gYr {S : Type} (l : Launch) (yy : MethodName) (wsy : List Cond) (rm : Room) (D : va_G) (y : Nat → Nat) (e mi : Nat) (av : List Value) (ws : va_W) (post : Nat → S → Prop) (ws' : S → va_W) : Prop := ∀ sz : Nat, Met l yy wsy rm (va_Pc av (gPreY D y e mi ws sz)) (va_Qr (fun _ => True) (fun u r t => post r u ∧ gPost D (gvA ws sz) (ws' u) t) (gvA ws sz)) rm.cells rm.slots (gvA ws sz)
theorem g_mety_v {S : Type} {l : Launch} {yy : MethodName} {wsy wst : List Cond} {rm : Room} {D : va_G} {y : Nat → Nat} {e9 mi : Nat} {av : List Value} {ws : va_W} {post : S → Prop} {ws' : S → va_W} {cc : ByteArray} {maxL : Nat} (hy : plainName yy.cls = true) (hw : wsy = Cond.code yy cc maxL (none) :: wst) (hlen : (lg_sl av).length ≤ maxL)
    (body : ∀ (p : Program) (e : Env) (s : State) (m : MethodId) (below : List Frame) (meth : Method) (c : Code) (A : Nat → Prop), p.tables.exec = Jvm.exec → c.code = cc → c.maxLocals = maxL → meth.sig.returnType = none → (∀ w ∈ wsy, w.before av.toArray s = true) → s.vm.findClass yy.cls = some m.cls → meth.name = yy.name → meth.locks = false → gE D y s → gvP D vwCl ws s.heap → gvD A ws → va_S A s.heap s.heap [] → (∀ q : Nat, s.heap.size ≤ q → A q) → gY e9 mi A s s.heap → ∀ ls : Array Slot, lv_has ls maxL (lv_args 0 av) →
      W p l e rm s m av.toArray below meth c s.heap [] 0 0 (MQ below (va_Qv post (fun u => gPost D A (ws' u)) A) av.toArray s rm.cells rm.slots A) (F0 m 0 ls [])) : gYv l yy wsy rm D y e9 mi av ws post ws' := by
  intro sz
  refine Met.ofW (cc := cc) (maxL := maxL) (ret := none) hy hw ?_
  intro p e s m args below meth c s₁ B hml hv
  obtain ⟨rfl, ⟨hsz, hP, hE, hD0⟩, hY⟩ := hv
  subst hsz
  have hl := lv_entry av (n := maxL) hlen
  rw [lg_entry_eq]
  exact body p e s m below meth c (gvA ws s.heap.size) B.exec B.bytes hml B.returns (atoms_spec (ws := wsy) B.pre) (findClass_of_methodNamed B.named) (name_of_methodNamed B.named B.method).1 B.notSynchronized hE hP hD0.self va_S.rf (fun q h => Or.inr h) hY _ hl
theorem g_mety_i {S : Type} {l : Launch} {yy : MethodName} {wsy wst : List Cond} {rm : Room} {D : va_G} {y : Nat → Nat} {e9 mi : Nat} {av : List Value} {ws : va_W} {post : Int32 → S → Prop} {ws' : S → va_W} {cc : ByteArray} {maxL : Nat} (hy : plainName yy.cls = true) (hw : wsy = Cond.code yy cc maxL (some .int) :: wst) (hlen : (lg_sl av).length ≤ maxL)
    (body : ∀ (p : Program) (e : Env) (s : State) (m : MethodId) (below : List Frame) (meth : Method) (c : Code) (A : Nat → Prop), p.tables.exec = Jvm.exec → c.code = cc → c.maxLocals = maxL → meth.sig.returnType = some .int → (∀ w ∈ wsy, w.before av.toArray s = true) → s.vm.findClass yy.cls = some m.cls → meth.name = yy.name → meth.locks = false → gE D y s → gvP D vwCl ws s.heap → gvD A ws → va_S A s.heap s.heap [] → (∀ q : Nat, s.heap.size ≤ q → A q) → gY e9 mi A s s.heap → ∀ ls : Array Slot, lv_has ls maxL (lv_args 0 av) →
      W p l e rm s m av.toArray below meth c s.heap [] 0 0 (MQ below (va_Qi post (fun u => gPost D A (ws' u)) A) av.toArray s rm.cells rm.slots A) (F0 m 0 ls [])) : gYi l yy wsy rm D y e9 mi av ws post ws' := by
  intro sz
  refine Met.ofW (cc := cc) (maxL := maxL) (ret := some .int) hy hw ?_
  intro p e s m args below meth c s₁ B hml hv
  obtain ⟨rfl, ⟨hsz, hP, hE, hD0⟩, hY⟩ := hv
  subst hsz
  have hl := lv_entry av (n := maxL) hlen
  rw [lg_entry_eq]
  exact body p e s m below meth c (gvA ws s.heap.size) B.exec B.bytes hml B.returns (atoms_spec (ws := wsy) B.pre) (findClass_of_methodNamed B.named) (name_of_methodNamed B.named B.method).1 B.notSynchronized hE hP hD0.self va_S.rf (fun q h => Or.inr h) hY _ hl
theorem g_mety_z {S : Type} {l : Launch} {yy : MethodName} {wsy wst : List Cond} {rm : Room} {D : va_G} {y : Nat → Nat} {e9 mi : Nat} {av : List Value} {ws : va_W} {post : Int32 → S → Prop} {ws' : S → va_W} {cc : ByteArray} {maxL : Nat} (hy : plainName yy.cls = true) (hw : wsy = Cond.code yy cc maxL (some .boolean) :: wst) (hlen : (lg_sl av).length ≤ maxL)
    (body : ∀ (p : Program) (e : Env) (s : State) (m : MethodId) (below : List Frame) (meth : Method) (c : Code) (A : Nat → Prop), p.tables.exec = Jvm.exec → c.code = cc → c.maxLocals = maxL → meth.sig.returnType = some .boolean → (∀ w ∈ wsy, w.before av.toArray s = true) → s.vm.findClass yy.cls = some m.cls → meth.name = yy.name → meth.locks = false → gE D y s → gvP D vwCl ws s.heap → gvD A ws → va_S A s.heap s.heap [] → (∀ q : Nat, s.heap.size ≤ q → A q) → gY e9 mi A s s.heap → ∀ ls : Array Slot, lv_has ls maxL (lv_args 0 av) →
      W p l e rm s m av.toArray below meth c s.heap [] 0 0 (MQ below (va_Qi post (fun u => gPost D A (ws' u)) A) av.toArray s rm.cells rm.slots A) (F0 m 0 ls [])) : gYi l yy wsy rm D y e9 mi av ws post ws' := by
  intro sz
  refine Met.ofW (cc := cc) (maxL := maxL) (ret := some .boolean) hy hw ?_
  intro p e s m args below meth c s₁ B hml hv
  obtain ⟨rfl, ⟨hsz, hP, hE, hD0⟩, hY⟩ := hv
  subst hsz
  have hl := lv_entry av (n := maxL) hlen
  rw [lg_entry_eq]
  exact body p e s m below meth c (gvA ws s.heap.size) B.exec B.bytes hml B.returns (atoms_spec (ws := wsy) B.pre) (findClass_of_methodNamed B.named) (name_of_methodNamed B.named B.method).1 B.notSynchronized hE hP hD0.self va_S.rf (fun q h => Or.inr h) hY _ hl
theorem g_mety_r {S : Type} {l : Launch} {yy : MethodName} {wsy wst : List Cond} {rm : Room} {D : va_G} {y : Nat → Nat} {e9 mi : Nat} {av : List Value} {ws : va_W} {post : Nat → S → Prop} {ws' : S → va_W} {cc : ByteArray} {maxL : Nat} {rt : FieldType} (hy : plainName yy.cls = true) (hw : wsy = Cond.code yy cc maxL (some rt) :: wst) (hlen : (lg_sl av).length ≤ maxL)
    (body : ∀ (p : Program) (e : Env) (s : State) (m : MethodId) (below : List Frame) (meth : Method) (c : Code) (A : Nat → Prop), p.tables.exec = Jvm.exec → c.code = cc → c.maxLocals = maxL → meth.sig.returnType = some rt → (∀ w ∈ wsy, w.before av.toArray s = true) → s.vm.findClass yy.cls = some m.cls → meth.name = yy.name → meth.locks = false → gE D y s → gvP D vwCl ws s.heap → gvD A ws → va_S A s.heap s.heap [] → (∀ q : Nat, s.heap.size ≤ q → A q) → gY e9 mi A s s.heap → ∀ ls : Array Slot, lv_has ls maxL (lv_args 0 av) →
      W p l e rm s m av.toArray below meth c s.heap [] 0 0 (MQ below (va_Qr (fun _ => True) (fun u r t => post r u ∧ gPost D A (ws' u) t) A) av.toArray s rm.cells rm.slots A) (F0 m 0 ls [])) : gYr l yy wsy rm D y e9 mi av ws post ws' := by
  intro sz
  refine Met.ofW (cc := cc) (maxL := maxL) (ret := some rt) hy hw ?_
  intro p e s m args below meth c s₁ B hml hv
  obtain ⟨rfl, ⟨hsz, hP, hE, hD0⟩, hY⟩ := hv
  subst hsz
  have hl := lv_entry av (n := maxL) hlen
  rw [lg_entry_eq]
  exact body p e s m below meth c (gvA ws s.heap.size) B.exec B.bytes hml B.returns (atoms_spec (ws := wsy) B.pre) (findClass_of_methodNamed B.named) (name_of_methodNamed B.named B.method).1 B.notSynchronized hE hP hD0.self va_S.rf (fun q h => Or.inr h) hY _ hl
section GL5
variable {p : Program} {l : Launch} {e : Env} {R : Room} {s : State} {m : MethodId} {args : Array Value} {below : List Frame} {meth : Method} {c : Code} {H H0 : Heap} {locs : List Loc} {cells slots : Nat} {Q : State → Prop}
variable {cc : ByteArray} {pc : Nat} {ls : Array Slot} {rest : List Value} {D : va_G} {y : Nat → Nat} {A : Nat → Prop} {a : Nat} {ws : va_W}
theorem gcy_V_i {e9 mi : Nat} {S : Type} {yy : MethodName} {bytes : ByteArray} {maxL nL n index : Nat} {ret : Option FieldType} {wsy : List Cond} {rm : Room} {Ts : List Cond} {own C : String} {b : Nat} {As st0 : List Value} {post : Int32 → S → Prop} {ws' : S → va_W} (hM : gYi l yy wsy rm D y e9 mi (.ref b :: As) ws post ws') (F : CallFix p m c cc nL s args Ts own) (cw : CallW R s args own C index yy bytes maxL ret wsy rm rm.cells rm.slots n) (hE : gE D y s) (hY : gY e9 mi A s H0) (hP : gvP D vwCl ws H) (hD : gvD A ws) (hS : va_S A H0 H locs) (hA : ∀ q : Nat, H0.size ≤ q → A q) (q0 : Nat) {ci : Nat} {fs : List Value} {cq : vw_C} (he : ws[q0]? = some (b, .inr (ci, fs))) (hc : vwCl[ci]? = some cq) (hC : cq.1 = C) (hst : st0 = As.reverse ++ .ref b :: rest) (hn : As.length = n) (hl : ls.size = nL) (hW : (rest.map fun v => v.category).sum ≤ 8) (hdg : decode cc pc = .ok (.invokevirtual index, 3)) (hf : cells + rm.cells ≤ R.cells ∧ slots + rm.slots ≤ R.slots)
    (kk : ∀ (r : Int32) (u : S) (H1 : Heap) (locs1 : List Loc), gvP D vwCl (ws' u) H1 → gvD A (ws' u) → va_S A H0 H1 locs1 → post r u → W p l e R s m args below meth c H1 locs1 (cells + rm.cells) (slots + rm.slots) Q (F0 m (pc + 3) ls (.int r :: rest))) : W p l e R s m args below meth c H locs cells slots Q (F0 m pc ls st0) := by
  have hF := gFree hD hS hA
  refine va_calli (va_runV (As := As) (rest := rest) F (hM H.size) cw ⟨gBlindY, (by rw [← hC]; exact gv_recv hE.1 hP hc he), fun U hU hW => gHereY hP hD hE hY hS hA hU hW⟩ rfl hn hl hst (lv_room (pc := pc) (m := m) (ls := ls) (rest := st0) hW) hdg hf) hS (fun q _ h => hF q h) hF ?_
  intro r u t H1 locs1 ht hvm hp hB hz hk hS1
  obtain ⟨hP1, hD1⟩ := hB
  rw [ht] at hP1
  exact kk r u H1 locs1 hP1 (hD1.weaken (fun _ _ _ h => hF _ h)) hS1 hp
theorem gcy_V_v {e9 mi : Nat} {S : Type} {yy : MethodName} {bytes : ByteArray} {maxL nL n index : Nat} {ret : Option FieldType} {wsy : List Cond} {rm : Room} {Ts : List Cond} {own C : String} {b : Nat} {As st0 : List Value} {post : S → Prop} {ws' : S → va_W} (hM : gYv l yy wsy rm D y e9 mi (.ref b :: As) ws post ws') (F : CallFix p m c cc nL s args Ts own) (cw : CallW R s args own C index yy bytes maxL ret wsy rm rm.cells rm.slots n) (hE : gE D y s) (hY : gY e9 mi A s H0) (hP : gvP D vwCl ws H) (hD : gvD A ws) (hS : va_S A H0 H locs) (hA : ∀ q : Nat, H0.size ≤ q → A q) (q0 : Nat) {ci : Nat} {fs : List Value} {cq : vw_C} (he : ws[q0]? = some (b, .inr (ci, fs))) (hc : vwCl[ci]? = some cq) (hC : cq.1 = C) (hst : st0 = As.reverse ++ .ref b :: rest) (hn : As.length = n) (hl : ls.size = nL) (hW : (rest.map fun v => v.category).sum ≤ 8) (hdg : decode cc pc = .ok (.invokevirtual index, 3)) (hf : cells + rm.cells ≤ R.cells ∧ slots + rm.slots ≤ R.slots)
    (kk : ∀ (u : S) (H1 : Heap) (locs1 : List Loc), gvP D vwCl (ws' u) H1 → gvD A (ws' u) → va_S A H0 H1 locs1 → post u → W p l e R s m args below meth c H1 locs1 (cells + rm.cells) (slots + rm.slots) Q (F0 m (pc + 3) ls (rest))) : W p l e R s m args below meth c H locs cells slots Q (F0 m pc ls st0) := by
  have hF := gFree hD hS hA
  refine va_callv (va_runV (As := As) (rest := rest) F (hM H.size) cw ⟨gBlindY, (by rw [← hC]; exact gv_recv hE.1 hP hc he), fun U hU hW => gHereY hP hD hE hY hS hA hU hW⟩ rfl hn hl hst (lv_room (pc := pc) (m := m) (ls := ls) (rest := st0) hW) hdg hf) hS (fun q _ h => hF q h) hF ?_
  intro u t H1 locs1 ht hvm hp hB hz hk hS1
  obtain ⟨hP1, hD1⟩ := hB
  rw [ht] at hP1
  exact kk u H1 locs1 hP1 (hD1.weaken (fun _ _ _ h => hF _ h)) hS1 hp
theorem gcy_V_r {e9 mi : Nat} {S : Type} {yy : MethodName} {bytes : ByteArray} {maxL nL n index : Nat} {ret : Option FieldType} {wsy : List Cond} {rm : Room} {Ts : List Cond} {own C : String} {b : Nat} {As st0 : List Value} {post : Nat → S → Prop} {ws' : S → va_W} (hM : gYr l yy wsy rm D y e9 mi (.ref b :: As) ws post ws') (F : CallFix p m c cc nL s args Ts own) (cw : CallW R s args own C index yy bytes maxL ret wsy rm rm.cells rm.slots n) (hE : gE D y s) (hY : gY e9 mi A s H0) (hP : gvP D vwCl ws H) (hD : gvD A ws) (hS : va_S A H0 H locs) (hA : ∀ q : Nat, H0.size ≤ q → A q) (q0 : Nat) {ci : Nat} {fs : List Value} {cq : vw_C} (he : ws[q0]? = some (b, .inr (ci, fs))) (hc : vwCl[ci]? = some cq) (hC : cq.1 = C) (hst : st0 = As.reverse ++ .ref b :: rest) (hn : As.length = n) (hl : ls.size = nL) (hW : (rest.map fun v => v.category).sum ≤ 8) (hdg : decode cc pc = .ok (.invokevirtual index, 3)) (hf : cells + rm.cells ≤ R.cells ∧ slots + rm.slots ≤ R.slots)
    (kk : ∀ (r : Nat) (u : S) (H1 : Heap) (locs1 : List Loc), gvP D vwCl (ws' u) H1 → gvD A (ws' u) → va_S A H0 H1 locs1 → post r u → W p l e R s m args below meth c H1 locs1 (cells + rm.cells) (slots + rm.slots) Q (F0 m (pc + 3) ls (.ref r :: rest))) : W p l e R s m args below meth c H locs cells slots Q (F0 m pc ls st0) := by
  have hF := gFree hD hS hA
  refine va_callr (va_runV (As := As) (rest := rest) F (hM H.size) cw ⟨gBlindY, (by rw [← hC]; exact gv_recv hE.1 hP hc he), fun U hU hW => gHereY hP hD hE hY hS hA hU hW⟩ rfl hn hl hst (lv_room (pc := pc) (m := m) (ls := ls) (rest := st0) hW) hdg hf) hS (fun q _ h => hF q h) hF ?_
  intro u r t H1 locs1 ht hvm hp hB hz hk hS1
  obtain ⟨hq, hP1, hD1⟩ := hB
  rw [ht] at hP1
  exact kk r u H1 locs1 hP1 (hD1.weaken (fun _ _ _ h => hF _ h)) hS1 hq
theorem gcy_S_r {e9 mi : Nat} {S : Type} {yy : MethodName} {bytes : ByteArray} {maxL nL n index : Nat} {ret : Option FieldType} {wsy : List Cond} {rm : Room} {Ts : List Cond} {own : String} {As st0 : List Value} {post : Nat → S → Prop} {ws' : S → va_W} (hM : gYr l yy wsy rm D y e9 mi As ws post ws') (F : CallFix p m c cc nL s args Ts own) (cw : CallB R s args own index yy bytes maxL ret wsy rm rm.cells rm.slots n ∧ (Cond.static yy).before args s = true) (hE : gE D y s) (hY : gY e9 mi A s H0) (hP : gvP D vwCl ws H) (hD : gvD A ws) (hS : va_S A H0 H locs) (hA : ∀ q : Nat, H0.size ≤ q → A q) (hst : st0 = As.reverse ++ rest) (hn : As.length = n) (hl : ls.size = nL) (hW : (rest.map fun v => v.category).sum ≤ 8) (hdg : decode cc pc = .ok (.invokestatic index, 3)) (hf : cells + rm.cells ≤ R.cells ∧ slots + rm.slots ≤ R.slots)
    (kk : ∀ (r : Nat) (u : S) (H1 : Heap) (locs1 : List Loc), gvP D vwCl (ws' u) H1 → gvD A (ws' u) → va_S A H0 H1 locs1 → post r u → W p l e R s m args below meth c H1 locs1 (cells + rm.cells) (slots + rm.slots) Q (F0 m (pc + 3) ls (.ref r :: rest))) : W p l e R s m args below meth c H locs cells slots Q (F0 m pc ls st0) := by
  have hF := gFree hD hS hA
  refine va_callr (va_runS (As := As) (rest := rest) F (hM H.size) cw ⟨gBlindY, fun U hU hW => gHereY hP hD hE hY hS hA hU hW⟩ rfl hn hl hst (lv_room (pc := pc) (m := m) (ls := ls) (rest := st0) hW) hdg hf) hS (fun q _ h => hF q h) hF ?_
  intro u r t H1 locs1 ht hvm hp hB hz hk hS1
  obtain ⟨hq, hP1, hD1⟩ := hB
  rw [ht] at hP1
  exact kk r u H1 locs1 hP1 (hD1.weaken (fun _ _ _ h => hF _ h)) hS1 hq
theorem gcy_I_v {e9 mi : Nat} {S : Type} {yy : MethodName} {bytes : ByteArray} {maxL nL n index : Nat} {wsy : List Cond} {rm : Room} {Ts : List Cond} {own : String} {b : Nat} {As st0 : List Value} {post : S → Prop} {ws' : S → va_W} (hM : gYv l yy wsy rm D y e9 mi (.ref b :: As) ws post ws') (F : CallFix p m c cc nL s args Ts own) (cw : CallB R s args own index yy bytes maxL none wsy rm rm.cells rm.slots n ∧ yy.name = "<init>" ∧ (Cond.instanceMethod yy).before args s = true) (hE : gE D y s) (hY : gY e9 mi A s H0) (hP : gvP D vwCl ws H) (hD : gvD A ws) (hS : va_S A H0 H locs) (hA : ∀ q : Nat, H0.size ≤ q → A q) (hst : st0 = As.reverse ++ .ref b :: rest) (hn : As.length = n) (hl : ls.size = nL) (hW : (rest.map fun v => v.category).sum ≤ 8) (hdg : decode cc pc = .ok (.invokespecial index, 3)) (hf : cells + rm.cells ≤ R.cells ∧ slots + rm.slots ≤ R.slots)
    (kk : ∀ (u : S) (H1 : Heap) (locs1 : List Loc), gvP D vwCl (ws' u) H1 → gvD A (ws' u) → va_S A H0 H1 locs1 → post u → W p l e R s m args below meth c H1 locs1 (cells + rm.cells) (slots + rm.slots) Q (F0 m (pc + 3) ls (rest))) : W p l e R s m args below meth c H locs cells slots Q (F0 m pc ls st0) := by
  have hF := gFree hD hS hA
  refine va_callv (va_runI (As := As) (rest := rest) F (hM H.size) cw ⟨gBlindY, fun U hU hW => gHereY hP hD hE hY hS hA hU hW⟩ rfl hn hl hst (lv_room (pc := pc) (m := m) (ls := ls) (rest := st0) hW) hdg hf) hS (fun q _ h => hF q h) hF ?_
  intro u t H1 locs1 ht hvm hp hB hz hk hS1
  obtain ⟨hP1, hD1⟩ := hB
  rw [ht] at hP1
  exact kk u H1 locs1 hP1 (hD1.weaken (fun _ _ _ h => hF _ h)) hS1 hp
theorem gcy_IN_v {e9 mi : Nat} {S : Type} {yy : MethodName} {bytes : ByteArray} {maxL nL n index : Nat} {wsy : List Cond} {rm : Room} {Ts : List Cond} {own : String} {host : String} {b : Nat} {As st0 : List Value} {post : S → Prop} {ws' : S → va_W} (hM : gYv l yy wsy rm D y e9 mi (.ref b :: As) ws post ws') (F : CallFix p m c cc nL s args Ts own) (cw : va_CN R s args own index yy host bytes maxL none wsy rm rm.cells rm.slots n ∧ yy.name = "<init>" ∧ (Cond.instanceMethod yy).before args s = true) (hE : gE D y s) (hY : gY e9 mi A s H0) (hP : gvP D vwCl ws H) (hD : gvD A ws) (hS : va_S A H0 H locs) (hA : ∀ q : Nat, H0.size ≤ q → A q) (hst : st0 = As.reverse ++ .ref b :: rest) (hn : As.length = n) (hl : ls.size = nL) (hW : (rest.map fun v => v.category).sum ≤ 8) (hdg : decode cc pc = .ok (.invokespecial index, 3)) (hf : cells + rm.cells ≤ R.cells ∧ slots + rm.slots ≤ R.slots)
    (kk : ∀ (u : S) (H1 : Heap) (locs1 : List Loc), gvP D vwCl (ws' u) H1 → gvD A (ws' u) → va_S A H0 H1 locs1 → post u → W p l e R s m args below meth c H1 locs1 (cells + rm.cells) (slots + rm.slots) Q (F0 m (pc + 3) ls (rest))) : W p l e R s m args below meth c H locs cells slots Q (F0 m pc ls st0) := by
  have hF := gFree hD hS hA
  refine va_callv (va_runIN (As := As) (rest := rest) F (hM H.size) cw ⟨gBlindY, fun U hU hW => gHereY hP hD hE hY hS hA hU hW⟩ rfl hn hl hst (lv_room (pc := pc) (m := m) (ls := ls) (rest := st0) hW) hdg hf) hS (fun q _ h => hF q h) hF ?_
  intro u t H1 locs1 ht hvm hp hB hz hk hS1
  obtain ⟨hP1, hD1⟩ := hB
  rw [ht] at hP1
  exact kk u H1 locs1 hP1 (hD1.weaken (fun _ _ _ h => hF _ h)) hS1 hp
theorem gcy_VN_v {e9 mi : Nat} {S : Type} {yy : MethodName} {bytes : ByteArray} {maxL nL n index : Nat} {ret : Option FieldType} {wsy : List Cond} {rm : Room} {Ts : List Cond} {own C : String} {host : String} {b : Nat} {As st0 : List Value} {post : S → Prop} {ws' : S → va_W} (hM : gYv l yy wsy rm D y e9 mi (.ref b :: As) ws post ws') (F : CallFix p m c cc nL s args Ts own) (cw : va_CN R s args own index yy host bytes maxL ret wsy rm rm.cells rm.slots n ∧ (Cond.instanceMethod yy).before args s = true ∧ (Cond.selects C yy yy).before args s = true) (hE : gE D y s) (hY : gY e9 mi A s H0) (hP : gvP D vwCl ws H) (hD : gvD A ws) (hS : va_S A H0 H locs) (hA : ∀ q : Nat, H0.size ≤ q → A q) (q0 : Nat) {ci : Nat} {fs : List Value} {cq : vw_C} (he : ws[q0]? = some (b, .inr (ci, fs))) (hc : vwCl[ci]? = some cq) (hC : cq.1 = C) (hst : st0 = As.reverse ++ .ref b :: rest) (hn : As.length = n) (hl : ls.size = nL) (hW : (rest.map fun v => v.category).sum ≤ 8) (hdg : decode cc pc = .ok (.invokevirtual index, 3)) (hf : cells + rm.cells ≤ R.cells ∧ slots + rm.slots ≤ R.slots)
    (kk : ∀ (u : S) (H1 : Heap) (locs1 : List Loc), gvP D vwCl (ws' u) H1 → gvD A (ws' u) → va_S A H0 H1 locs1 → post u → W p l e R s m args below meth c H1 locs1 (cells + rm.cells) (slots + rm.slots) Q (F0 m (pc + 3) ls (rest))) : W p l e R s m args below meth c H locs cells slots Q (F0 m pc ls st0) := by
  have hF := gFree hD hS hA
  refine va_callv (va_runVN (As := As) (rest := rest) F (hM H.size) cw ⟨gBlindY, (by rw [← hC]; exact gv_recv hE.1 hP hc he), fun U hU hW => gHereY hP hD hE hY hS hA hU hW⟩ rfl hn hl hst (lv_room (pc := pc) (m := m) (ls := ls) (rest := st0) hW) hdg hf) hS (fun q _ h => hF q h) hF ?_
  intro u t H1 locs1 ht hvm hp hB hz hk hS1
  obtain ⟨hP1, hD1⟩ := hB
  rw [ht] at hP1
  exact kk u H1 locs1 hP1 (hD1.weaken (fun _ _ _ h => hF _ h)) hS1 hp
theorem gcy_VN_i {e9 mi : Nat} {S : Type} {yy : MethodName} {bytes : ByteArray} {maxL nL n index : Nat} {ret : Option FieldType} {wsy : List Cond} {rm : Room} {Ts : List Cond} {own C : String} {host : String} {b : Nat} {As st0 : List Value} {post : Int32 → S → Prop} {ws' : S → va_W} (hM : gYi l yy wsy rm D y e9 mi (.ref b :: As) ws post ws') (F : CallFix p m c cc nL s args Ts own) (cw : va_CN R s args own index yy host bytes maxL ret wsy rm rm.cells rm.slots n ∧ (Cond.instanceMethod yy).before args s = true ∧ (Cond.selects C yy yy).before args s = true) (hE : gE D y s) (hY : gY e9 mi A s H0) (hP : gvP D vwCl ws H) (hD : gvD A ws) (hS : va_S A H0 H locs) (hA : ∀ q : Nat, H0.size ≤ q → A q) (q0 : Nat) {ci : Nat} {fs : List Value} {cq : vw_C} (he : ws[q0]? = some (b, .inr (ci, fs))) (hc : vwCl[ci]? = some cq) (hC : cq.1 = C) (hst : st0 = As.reverse ++ .ref b :: rest) (hn : As.length = n) (hl : ls.size = nL) (hW : (rest.map fun v => v.category).sum ≤ 8) (hdg : decode cc pc = .ok (.invokevirtual index, 3)) (hf : cells + rm.cells ≤ R.cells ∧ slots + rm.slots ≤ R.slots)
    (kk : ∀ (r : Int32) (u : S) (H1 : Heap) (locs1 : List Loc), gvP D vwCl (ws' u) H1 → gvD A (ws' u) → va_S A H0 H1 locs1 → post r u → W p l e R s m args below meth c H1 locs1 (cells + rm.cells) (slots + rm.slots) Q (F0 m (pc + 3) ls (.int r :: rest))) : W p l e R s m args below meth c H locs cells slots Q (F0 m pc ls st0) := by
  have hF := gFree hD hS hA
  refine va_calli (va_runVN (As := As) (rest := rest) F (hM H.size) cw ⟨gBlindY, (by rw [← hC]; exact gv_recv hE.1 hP hc he), fun U hU hW => gHereY hP hD hE hY hS hA hU hW⟩ rfl hn hl hst (lv_room (pc := pc) (m := m) (ls := ls) (rest := st0) hW) hdg hf) hS (fun q _ h => hF q h) hF ?_
  intro r u t H1 locs1 ht hvm hp hB hz hk hS1
  obtain ⟨hP1, hD1⟩ := hB
  rw [ht] at hP1
  exact kk r u H1 locs1 hP1 (hD1.weaken (fun _ _ _ h => hF _ h)) hS1 hp
theorem g_newq (hexec : p.tables.exec = Jvm.exec) (hb : c.code = cc) {own : String} {index : Nat} (hown : s.vm.findClass own = some m.cls) (hclink : (Cond.classLink own index "java/lang/Object").before args s = true) (hover : va_AO "java/lang/Object" s) (hE : gE D y s) (hP : gvP D vwCl ws H) (hD : gvD A ws) (hS : va_S A H0 H locs) (hA : ∀ q : Nat, H0.size ≤ q → A q) {k : Nat} (hk : k < 2 ^ 26) (hcells : cells + 1 ≤ R.cells) (hslots : slots + k ≤ R.slots) (hdg : decode cc pc = .ok (.anewarray index, 3))
    (kk : ∀ (q : Nat) (H1 : Heap), gvP D vwCl (ws ++ [(q, eQ y k (fun _ => none))]) H1 → gvD A (ws ++ [(q, eQ y k (fun _ => none))]) → va_S A H0 H1 locs → W p l e R s m args below meth c H1 locs (cells + 1) (slots + k) Q (F0 m (pc + 3) ls (.ref q :: rest))) : W p l e R s m args below meth c H locs cells slots Q (F0 m pc ls (.int (nI k) :: rest)) := by
  refine va_newq hexec hb hown hclink hover hE.1 hP hD hS hA (g_nneg (by omega)) (g_toNat (by omega)) (by omega) hcells hslots hdg (fun q cA H1 hK' hP' hD' hS' => ?_)
  have h1 := (hK'.2 5 _ rfl).2
  have h2 := (hE.1.2 4 _ rfl).2
  have h3 : cA = y 4 := Option.some.inj ((va_nmO h1 rfl).symm.trans (va_nmO h2 rfl))
  subst h3
  exact kk q H1 (gvP.of_app hP') (gvD.of_app hD') hS'
theorem g_qast (hexec : p.tables.exec = Jvm.exec) (hb : c.code = cc) (hE : gE D y s) (hP : gvP D vwCl ws H) (hD : gvD A ws) (hS : va_S A H0 H locs) (q0 qk ci : Nat) {r : vw_C} {n k v : Nat} {vs : List Value} {f : Nat → Option Nat} (ha : ws[q0]? = some (a, eQ y n f)) (hv : ws[qk]? = some (v, .inr (ci, vs))) (hc : vwCl[ci]? = some r) (hca : va_Nw (.castable r.1 "java/lang/Object") s) (hk : k < n) (hn : n < 2 ^ 31) (hdg : decode cc pc = .ok (.aastore, 1))
    (kk : ∀ (H1 : Heap) (locs1 : List Loc), gvP D vwCl (ws.set q0 (a, eQ y n (va_up f k (some v)))) H1 → gvD A (ws.set q0 (a, eQ y n (va_up f k (some v)))) → va_S A H0 H1 locs1 → W p l e R s m args below meth c H1 locs1 cells slots Q (F0 m (pc + 1) ls rest)) : W p l e R s m args below meth c H locs cells slots Q (F0 m pc ls (.ref v :: .int (nI k) :: .ref a :: rest)) := by
  obtain ⟨q9, ha9, hs9⟩ := gvS_at ha (gs_of (Nat.lt_of_le_of_lt (Nat.zero_le _) hk))
  obtain ⟨k9, hv9, -⟩ := gvS_at hv rfl
  refine va_astqO hexec hb hE.1 hP hD hS q9 4 k9 ci ha9 rfl hca hv9 hc (vp_in_nI hk hn) hdg ?_
  intro H1 locs1 h1 h2 h3
  rw [nI_clamp (by omega)] at h1 h2
  exact kk H1 locs1 (gvP.of_set (hs9 _ (gs_of (Nat.lt_of_le_of_lt (Nat.zero_le _) hk))) h1) (gvD.of_set (hs9 _ (gs_of (Nat.lt_of_le_of_lt (Nat.zero_le _) hk))) h2) h3
theorem g_alenQ (hexec : p.tables.exec = Jvm.exec) (hb : c.code = cc) (hE : gE D y s) (hP : gvP D vwCl ws H) (q0 : Nat) {n : Nat} {f : Nat → Option Nat} (ha : ws[q0]? = some (a, eQ y n f)) (h09 : 0 < n) (hdg : decode cc pc = .ok (.arraylength, 1))
    (kk : W p l e R s m args below meth c H locs cells slots Q (F0 m (pc + 1) ls (.int (nI n) :: rest))) : W p l e R s m args below meth c H locs cells slots Q (F0 m pc ls (.ref a :: rest)) := by
  obtain ⟨q9, ha9, -⟩ := gvS_at ha (gs_of h09)
  exact va_alen hexec hb hE.1 hP q9 4 ha9 rfl (v := nI n) rfl hdg kk
theorem g_mmax (hexec : p.tables.exec = Jvm.exec) (hb : c.code = cc) (hml : c.maxLocals = ls.size) {own : String} {index : Nat} (hown : s.vm.findClass own = some m.cls) (hlink : (Cond.methodLink own index Lib.Math.max.name).before args s = true) (hstat : (Cond.static Lib.Math.max.name).before args s = true) (hini : (Cond.initialized "java/lang/Math").before args s = true) (hcode : (Cond.code Lib.Math.max.name Lib.Math.max.code 2 (some .int)).before args s = true) (hframes : 1 ≤ R.frames) (hlocals : (rest.map fun v => v.category).sum + 13 ≤ R.locals) (hc : cells ≤ R.cells) (hs : slots ≤ R.slots) {x z : Nat} (hx9 : x < 2 ^ 31) (hz9 : z < 2 ^ 31) (hdg : decode cc pc = .ok (.invokestatic index, 3))
    (kk : W p l e R s m args below meth c H locs cells slots Q (F0 m (pc + 3) ls (.int (nI (max x z)) :: rest))) : W p l e R s m args below meth c H locs cells slots Q (F0 m pc ls (.int (nI z) :: .int (nI x) :: rest)) := by
  refine va_mmax hexec hb hml hown hlink hstat hini hcode hframes hlocals hc hs hdg ?_
  have e9 : (if nI x < nI z then nI z else nI x) = nI (max x z) := by
    by_cases h : x < z
    · rw [if_pos ((nI_ltI hx9 hz9).mpr h), Nat.max_eq_right (by omega)]
    · rw [if_neg (fun w => h ((nI_ltI hx9 hz9).mp w)), Nat.max_eq_left (by omega)]
  rw [e9]
  exact kk
theorem g_mminI (hexec : p.tables.exec = Jvm.exec) (hb : c.code = cc) (hml : c.maxLocals = ls.size) {own : String} {index : Nat} (hown : s.vm.findClass own = some m.cls) (hlink : (Cond.methodLink own index Lib.Math.min.name).before args s = true) (hstat : (Cond.static Lib.Math.min.name).before args s = true) (hini : (Cond.initialized "java/lang/Math").before args s = true) (hcode : (Cond.code Lib.Math.min.name Lib.Math.min.code 2 (some .int)).before args s = true) (hframes : 1 ≤ R.frames) (hlocals : (rest.map fun v => v.category).sum + 13 ≤ R.locals) (hc : cells ≤ R.cells) (hs : slots ≤ R.slots) {x z : Nat} (hx9 : x < 2 ^ 31) (hz9 : z < 2 ^ 31) (hdg : decode cc pc = .ok (.invokestatic index, 3))
    (kk : W p l e R s m args below meth c H locs cells slots Q (F0 m (pc + 3) ls (.int (nI (min x z)) :: rest))) : W p l e R s m args below meth c H locs cells slots Q (F0 m pc ls (.int (nI z) :: .int (nI x) :: rest)) := by
  refine va_mmin hexec hb hml hown hlink hstat hini hcode hframes hlocals hc hs hdg ?_
  have e9 : (if nI z < nI x then nI z else nI x) = nI (min x z) := by
    by_cases h : z < x
    · rw [if_pos ((nI_ltI hz9 hx9).mpr h), Nat.min_eq_right (by omega)]
    · rw [if_neg (fun w => h ((nI_ltI hz9 hx9).mp w)), Nat.min_eq_left (by omega)]
  rw [e9]
  exact kk
/-- one row of references copied to the front of another, the elements of a class that may stand there -/
theorem g_copyq (hexec : p.tables.exec = Jvm.exec) (hb : c.code = cc) (hml : c.maxLocals = ls.size) {own : String} {index : Nat} (hown : s.vm.findClass own = some m.cls) (hlink : (Cond.methodLink own index arraycopyName).before args s = true) (hnat : (Cond.native arraycopyName).before args s = true) (hstat : (Cond.static arraycopyName).before args s = true) (hini : (Cond.initialized "java/lang/System").before args s = true) (hE : gE D y s) (hP : gvP D vwCl ws H) (hD : gvD A ws) (hS : va_S A H0 H locs) (q0 q1 ci : Nat) {r : vw_C} {a0 n0 n1 n : Nat} {f g : Nat → Option Nat} (ha0 : ws[q0]? = some (a0, eQ y n0 f)) (ha1 : ws[q1]? = some (a, eQ y n1 g)) (hc : vwCl[ci]? = some r) (hca : va_Nw (.castable r.1 "java/lang/Object") s) (hn : n < 2 ^ 31) (h09 : 0 < n) (h4 : n ≤ n0) (h5 : n ≤ n1) (hel : ∀ i : Nat, i < n → ∀ z : Nat, f i = some z → ∃ (k : Nat) (vs : List Value), ws[k]? = some (z, .inr (ci, vs)))
    (hframes : 1 ≤ R.frames) (hlocals : (rest.map fun v => v.category).sum + (nativeFrameWords "java/lang/System" "arraycopy" 5 + 11) ≤ R.locals) (hdg : decode cc pc = .ok (.invokestatic index, 3))
    (kk : ∀ (H1 : Heap) (locs1 : List Loc), gvP D vwCl (ws.set q1 (a, eQ y n1 (va_cpy f g 0 0 n))) H1 → gvD A (ws.set q1 (a, eQ y n1 (va_cpy f g 0 0 n))) → va_S A H0 H1 locs1 → W p l e R s m args below meth c H1 locs1 cells slots Q (F0 m (pc + 3) ls rest)) : W p l e R s m args below meth c H locs cells slots Q (F0 m pc ls (.int (nI n) :: .int (nI 0) :: .ref a :: .int (nI 0) :: .ref a0 :: rest)) := by
  have e0 : (nI 0).toNatClampNeg = 0 := nI_clamp (by decide)
  have en : (nI n).toNatClampNeg = n := nI_clamp hn
  obtain ⟨q9, ha9, -⟩ := gvS_at ha0 (gs_of (Nat.lt_of_lt_of_le h09 h4))
  obtain ⟨k9, hb9, hs9⟩ := gvS_at ha1 (gs_of (Nat.lt_of_lt_of_le h09 h5))
  refine va_copyq hexec hb hml hown hlink hnat hstat hini hE.1 hP hD hS q9 k9 4 4 (C := r.1) ha9 hb9 rfl rfl (g_nneg (by decide)) (g_nneg (by decide)) (g_nneg hn) (by rw [e0, en]; omega) (by rw [e0, en]; omega) ?_ ?_ hframes hlocals hdg ?_
  · intro i hi z hz
    rw [e0, Nat.zero_add] at hz
    rw [en] at hi
    obtain ⟨k, vs, hk⟩ := hel i hi z hz
    exact gv_recv hE.1 hP hc hk
  · intro comp c0 h1 h2
    obtain ⟨c1, t1, f1, f2, f3⟩ := Cond.castable_spec (va_Nw.use (A := args) rfl hca)
    cases h2.symm.trans f1
    cases h1.symm.trans f2
    exact f3
  · intro H1 locs1 k1 k2 k3
    rw [e0, en] at k1 k2
    exact kk H1 locs1 (gvP.of_set (hs9 _ (gs_of (Nat.lt_of_lt_of_le h09 h5))) k1) (gvD.of_set (hs9 _ (gs_of (Nat.lt_of_lt_of_le h09 h5))) k2) k3
theorem g_getC (hexec : p.tables.exec = Jvm.exec) (hb : c.code = cc) (hml : c.maxLocals = ls.size) {own : String} {index mi : Nat} (hown : s.vm.findClass own = some m.cls) (hlink : (Cond.methodLink own index ⟨"java/lang/Object", "getClass", "()Ljava/lang/Class;"⟩).before args s = true) (hdecl : va_Dc s)
    (hsel : (Cond.selects "[Ljava/lang/Object;" ⟨"java/lang/Object", "getClass", "()Ljava/lang/Class;"⟩ ⟨"java/lang/Object", "getClass", "()Ljava/lang/Class;"⟩).before args s = true) (hinst : (Cond.instanceMethod ⟨"java/lang/Object", "getClass", "()Ljava/lang/Class;"⟩).before args s = true) (hnat : (Cond.native ⟨"java/lang/Object", "getClass", "()Ljava/lang/Class;"⟩).before args s = true) (hM : va_Mi "[Ljava/lang/Object;" mi s) (hE : gE D y s) (hP : gvP D vwCl ws H) (q0 : Nat) {n : Nat} {f : Nat → Option Nat} (ha : ws[q0]? = some (a, eQ y n f)) (h09 : 0 < n) (hframes : 1 ≤ R.frames) (hlocals : (rest.map fun v => v.category).sum + 14 ≤ R.locals) (hdg : decode cc pc = .ok (.invokevirtual index, 3))
    (k : W p l e R s m args below meth c H locs cells slots Q (F0 m (pc + 3) ls (.ref mi :: rest))) : W p l e R s m args below meth c H locs cells slots Q (F0 m pc ls (.ref a :: rest)) := by
  obtain ⟨q9, ha9, -⟩ := gvS_at ha (gs_of h09)
  exact va_getC hexec hb hml hown hlink hdecl.use hsel hinst hnat hM ⟨vp_cell (y 4) (n, .inr (.inr (.inr (.inr f)))), hP q9 _ ha9, rfl, va_nmO (hE.1.2 4 _ rfl).2 rfl⟩ hframes hlocals hdg k
end GL5

/-- what stands in a world stands in another, but at some places -/
def gKeep (w w' : va_W) (ps : List Nat) : Prop := ∀ (q : Nat) (x : Nat × va_E), q ∉ ps → w[q]? = some x → w'[q]? = some x
theorem gKeep.refl (w : va_W) (ps : List Nat) : gKeep w w ps := fun _ _ _ h => h
theorem gKeep.app {w b b' : va_W} {z : Nat × va_E} {ps : List Nat} (e : b' = b ++ [z]) (h : gKeep w b ps) : gKeep w b' ps := fun q x hq hx => g_apE e (h q x hq hx)
theorem gKeep.set_in {w b : va_W} {p : Nat} {z : Nat × va_E} {ps : List Nat} (h : gKeep w b ps) (hp : p ∈ ps) : gKeep w (b.set p z) ps := fun q x hq hx => g_ne (fun e => hq (e ▸ hp)) (h q x hq hx)
theorem gKeep.set_new {w b : va_W} {p : Nat} {z : Nat × va_E} {ps : List Nat} (h : gKeep w b ps) (hp : w.length ≤ p) : gKeep w (b.set p z) ps := fun q x hq hx => g_ne (fun e => by have := g_lt hx; omega) (h q x hq hx)
theorem gIt.appset {ws B : va_W} {p n cap : Nat} {q : Nat → Option Nat} {ad G M Sn : Nat → Nat} {z z' : Nat × va_E} (hB : B = ws ++ [z]) (hp : p = ws.length) (h : gIt ws n cap q ad G M Sn) : gIt (B.set p z') n cap q ad G M Sn := by rw [hB, hp, g_apset]; exact h.app
theorem g_moveP {w : va_W} {p a : Nat} {x : Nat × va_E} (h : w[a]? = some x) (e : p = a) : w[p]? = some x := by rw [e]; exact h
theorem g_lek {p n k : Nat} (h : p = n + k) : n ≤ p := by omega
theorem gk_nil {w : va_W} {ps : List Nat} : ∀ q ∈ ([] : List Nat), w.length ≤ q ∨ q ∈ ps := fun _ h => nomatch h
theorem gk_cons {w : va_W} {ps qs : List Nat} {p : Nat} (h : w.length ≤ p ∨ p ∈ ps) (t : ∀ q ∈ qs, w.length ≤ q ∨ q ∈ ps) : ∀ q ∈ p :: qs, w.length ≤ q ∨ q ∈ ps := fun q hq => (List.mem_cons.mp hq).elim (fun e => e ▸ h) (t q)
theorem gKeep.trans {w b u : va_W} {ps qs : List Nat} (h1 : gKeep w b ps) (h2 : gKeep b u qs) (h3 : ∀ q ∈ qs, w.length ≤ q ∨ q ∈ ps) : gKeep w u ps := fun q x hq hx => h2 q x (fun z => (h3 q z).elim (fun y => by have := g_lt hx; omega) hq) (h1 q x hq hx)