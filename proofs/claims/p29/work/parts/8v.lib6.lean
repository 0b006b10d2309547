/-! the ambient of the law and of its helpers: that of the throws, that of the lists, and which class is not which; contracts over it -/
def gB (_ : State) : Prop := True
theorem gB.moved {u U : State} (_ : u.vm.Alike U.vm) (_ : gB u) : gB U := trivial
def gZ (e mi : Nat) (A : Nat → Prop) (U : State) (H : Heap) : Prop := gX A U H ∧ gY e mi A U H ∧ gB U
theorem gZ.kept {e mi : Nat} {A : Nat → Prop} {U : State} {H H1 : Heap} (h : gZ e mi A U H) (hq : ∀ a : Nat, a < H.size → ¬ A a → H1[a]? = H[a]?) : gZ e mi A U H1 := ⟨h.1.kept hq, h.2.1.kept hq, h.2.2⟩
theorem gZ.narrow {e mi : Nat} {A B : Nat → Prop} {U : State} {H : Heap} (h : gZ e mi A U H) (hAB : ∀ q, B q → A q) : gZ e mi B U H := ⟨h.1.narrow hAB, h.2.1.narrow hAB, h.2.2⟩
theorem gZ.warm {e mi : Nat} {A : Nat → Prop} {s U : State} {H : Heap} (hW : s.WarmedH U.vm) (h : gZ e mi A s H) : gZ e mi A U H := ⟨h.1.warm hW, h.2.1.warm hW, h.2.2.moved hW.alike⟩
theorem gZ.calling {e mi : Nat} {A : Nat → Prop} {U : State} {H : Heap} {g : JFrame} {mk : MethodId} {a : Array Value} (h : gZ e mi A U H) : gZ e mi A (U.calling g mk a) H := ⟨h.1.calling, h.2.1.calling, gB.moved (u := U) (U := U.calling g mk a) (Vm.Alike.refl U.vm) h.2.2⟩
def gPreZ (D : va_G) (y : Nat → Nat) (e mi : Nat) (ws : va_W) (sz : Nat) : State → Prop := fun U => gPre D y ws sz U ∧ gZ e mi (gvA ws sz) U U.heap
theorem gBlindZ {D : va_G} {y : Nat → Nat} {e mi : Nat} {ws : va_W} {sz : Nat} {av : List Value} : FrameBlind (va_Pc av (gPreZ D y e mi ws sz)) := fun _ _ _ _ q => ⟨q.1, ⟨q.2.1.1, q.2.1.2.1, q.2.1.2.2.1.calling, q.2.1.2.2.2⟩, q.2.2.calling⟩
theorem gHereZ {D : va_G} {y : Nat → Nat} {e mi : Nat} {ws : va_W} {av : List Value} {A : Nat → Prop} {s U : State} {H0 H : Heap} {locs : List Loc} (hP : gvP D vwCl ws H) (hD : gvD A ws) (hE : gE D y s) (hZ : gZ e mi A s H0) (hS : va_S A H0 H locs) (hA : ∀ q : Nat, H0.size ≤ q → A q) (hU : U.heap = H) (hW : s.WarmedH U.vm) : va_Pc av (gPreZ D y e mi ws H.size) av.toArray U :=
  ⟨rfl, (gHere (av := av) hP hD hE hU hW).2, by rw [hU]; exact ((hZ.kept hS.2.1).narrow (gFree hD hS hA)).warm hW⟩
def gZv (l : Launch) (yy : MethodName) (wsy : List Cond) (rm : Room) (D : va_G) (y : Nat → Nat) (e mi : Nat) (av : List Value) (ws : va_W) (post : va_W → Prop) : Prop := ∀ sz : Nat, Met l yy wsy rm (va_Pc av (gPreZ D y e mi ws sz)) (va_Qv post (fun u => gPost D (gvA ws sz) u) (gvA ws sz)) rm.cells rm.slots (gvA ws sz)
theorem gZv.of_m {S : Type} {l : Launch} {yy : MethodName} {wsy : List Cond} {rm : Room} {D : va_G} {y : Nat → Nat} {e mi : Nat} {av : List Value} {ws : va_W} {post : S → Prop} {ws' : S → va_W} (h : gMv l yy wsy rm D y av ws post ws') : gZv l yy wsy rm D y e mi av ws (fun w => ∃ u : S, post u ∧ w = ws' u) := fun sz =>
  MetFree.mono (h sz) (fun _ _ q => ⟨q.1, q.2.1⟩) (fun _ _ _ _ _ z => z) (fun _ _ _ _ _ q => ⟨by obtain ⟨⟨u, h1, h2, h3⟩, h4⟩ := q.1; exact ⟨⟨ws' u, h1, ⟨u, h2, rfl⟩, h3⟩, h4⟩, q.2⟩)
theorem gZv.of_y {S : Type} {l : Launch} {yy : MethodName} {wsy : List Cond} {rm : Room} {D : va_G} {y : Nat → Nat} {e mi : Nat} {av : List Value} {ws : va_W} {post : S → Prop} {ws' : S → va_W} (h : gYv l yy wsy rm D y e mi av ws post ws') : gZv l yy wsy rm D y e mi av ws (fun w => ∃ u : S, post u ∧ w = ws' u) := fun sz =>
  MetFree.mono (h sz) (fun _ _ q => ⟨q.1, q.2.1, q.2.2.2.1⟩) (fun _ _ _ _ _ z => z) (fun _ _ _ _ _ q => ⟨by obtain ⟨⟨u, h1, h2, h3⟩, h4⟩ := q.1; exact ⟨⟨ws' u, h1, ⟨u, h2, rfl⟩, h3⟩, h4⟩, q.2⟩)
theorem gZv.imp {l : Launch} {yy : MethodName} {wsy : List Cond} {rm : Room} {D : va_G} {y : Nat → Nat} {e mi : Nat} {av : List Value} {ws : va_W} {P P' : va_W → Prop} (h : gZv l yy wsy rm D y e mi av ws P) (hi : ∀ w, P w → P' w) : gZv l yy wsy rm D y e mi av ws P' := fun sz =>
  MetFree.mono (h sz) (fun _ _ q => q) (fun _ _ _ _ _ z => z) (fun _ _ _ _ _ q => ⟨by obtain ⟨⟨u, h1, h2, h3⟩, h4⟩ := q.1; exact ⟨⟨u, h1, hi u h2, h3⟩, h4⟩, q.2⟩)
def gZi (l : Launch) (yy : MethodName) (wsy : List Cond) (rm : Room) (D : va_G) (y : Nat → Nat) (e mi : Nat) (av : List Value) (ws : va_W) (post : Int32 → va_W → Prop) : Prop := ∀ sz : Nat, Met l yy wsy rm (va_Pc av (gPreZ D y e mi ws sz)) (va_Qi post (fun u => gPost D (gvA ws sz) u) (gvA ws sz)) rm.cells rm.slots (gvA ws sz)
theorem gZi.of_m {S : Type} {l : Launch} {yy : MethodName} {wsy : List Cond} {rm : Room} {D : va_G} {y : Nat → Nat} {e mi : Nat} {av : List Value} {ws : va_W} {post : Int32 → S → Prop} {ws' : S → va_W} (h : gMi l yy wsy rm D y av ws post ws') : gZi l yy wsy rm D y e mi av ws (fun r w => ∃ u : S, post r u ∧ w = ws' u) := fun sz =>
  MetFree.mono (h sz) (fun _ _ q => ⟨q.1, q.2.1⟩) (fun _ _ _ _ _ z => z) (fun _ _ _ _ _ q => ⟨by obtain ⟨⟨r, u, h1, h2, h3⟩, h4⟩ := q.1; exact ⟨⟨r, ws' u, h1, ⟨u, h2, rfl⟩, h3⟩, h4⟩, q.2⟩)
theorem gZi.of_y {S : Type} {l : Launch} {yy : MethodName} {wsy : List Cond} {rm : Room} {D : va_G} {y : Nat → Nat} {e mi : Nat} {av : List Value} {ws : va_W} {post : Int32 → S → Prop} {ws' : S → va_W} (h : gYi l yy wsy rm D y e mi av ws post ws') : gZi l yy wsy rm D y e mi av ws (fun r w => ∃ u : S, post r u ∧ w = ws' u) := fun sz =>
  MetFree.mono (h sz) (fun _ _ q => ⟨q.1, q.2.1, q.2.2.2.1⟩) (fun _ _ _ _ _ z => z) (fun _ _ _ _ _ q => ⟨by obtain ⟨⟨r, u, h1, h2, h3⟩, h4⟩ := q.1; exact ⟨⟨r, ws' u, h1, ⟨u, h2, rfl⟩, h3⟩, h4⟩, q.2⟩)
theorem gZi.imp {l : Launch} {yy : MethodName} {wsy : List Cond} {rm : Room} {D : va_G} {y : Nat → Nat} {e mi : Nat} {av : List Value} {ws : va_W} {P P' : Int32 → va_W → Prop} (h : gZi l yy wsy rm D y e mi av ws P) (hi : ∀ r w, P r w → P' r w) : gZi l yy wsy rm D y e mi av ws P' := fun sz =>
  MetFree.mono (h sz) (fun _ _ q => q) (fun _ _ _ _ _ z => z) (fun _ _ _ _ _ q => ⟨by obtain ⟨⟨r, u, h1, h2, h3⟩, h4⟩ := q.1; exact ⟨⟨r, u, h1, hi r u h2, h3⟩, h4⟩, q.2⟩)
def gZl (l : Launch) (yy : MethodName) (wsy : List Cond) (rm : Room) (D : va_G) (y : Nat → Nat) (e mi : Nat) (av : List Value) (ws : va_W) (post : Int64 → va_W → Prop) : Prop := ∀ sz : Nat, Met l yy wsy rm (va_Pc av (gPreZ D y e mi ws sz)) (va_Ql post (fun u => gPost D (gvA ws sz) u) (gvA ws sz)) rm.cells rm.slots (gvA ws sz)
theorem gZl.of_m {S : Type} {l : Launch} {yy : MethodName} {wsy : List Cond} {rm : Room} {D : va_G} {y : Nat → Nat} {e mi : Nat} {av : List Value} {ws : va_W} {post : Int64 → S → Prop} {ws' : S → va_W} (h : gMl l yy wsy rm D y av ws post ws') : gZl l yy wsy rm D y e mi av ws (fun r w => ∃ u : S, post r u ∧ w = ws' u) := fun sz =>
  MetFree.mono (h sz) (fun _ _ q => ⟨q.1, q.2.1⟩) (fun _ _ _ _ _ z => z) (fun _ _ _ _ _ q => ⟨by obtain ⟨⟨r, u, h1, h2, h3⟩, h4⟩ := q.1; exact ⟨⟨r, ws' u, h1, ⟨u, h2, rfl⟩, h3⟩, h4⟩, q.2⟩)
theorem gZl.imp {l : Launch} {yy : MethodName} {wsy : List Cond} {rm : Room} {D : va_G} {y : Nat → Nat} {e mi : Nat} {av : List Value} {ws : va_W} {P P' : Int64 → va_W → Prop} (h : gZl l yy wsy rm D y e mi av ws P) (hi : ∀ r w, P r w → P' r w) : gZl l yy wsy rm D y e mi av ws P' := fun sz =>
  MetFree.mono (h sz) (fun _ _ q => q) (fun _ _ _ _ _ z => z) (fun _ _ _ _ _ q => ⟨by obtain ⟨⟨r, u, h1, h2, h3⟩, h4⟩ := q.1; exact ⟨⟨r, u, h1, hi r u h2, h3⟩, h4⟩, q.2⟩)
def gZf (l : Launch) (yy : MethodName) (wsy : List Cond) (rm : Room) (D : va_G) (y : Nat → Nat) (e mi : Nat) (av : List Value) (ws : va_W) (post : UInt32 → va_W → Prop) : Prop := ∀ sz : Nat, Met l yy wsy rm (va_Pc av (gPreZ D y e mi ws sz)) (va_Qf post (fun u => gPost D (gvA ws sz) u) (gvA ws sz)) rm.cells rm.slots (gvA ws sz)
theorem gZf.of_m {S : Type} {l : Launch} {yy : MethodName} {wsy : List Cond} {rm : Room} {D : va_G} {y : Nat → Nat} {e mi : Nat} {av : List Value} {ws : va_W} {post : UInt32 → S → Prop} {ws' : S → va_W} (h : gMf l yy wsy rm D y av ws post ws') : gZf l yy wsy rm D y e mi av ws (fun r w => ∃ u : S, post r u ∧ w = ws' u) := fun sz =>
  MetFree.mono (h sz) (fun _ _ q => ⟨q.1, q.2.1⟩) (fun _ _ _ _ _ z => z) (fun _ _ _ _ _ q => ⟨by obtain ⟨⟨r, u, h1, h2, h3⟩, h4⟩ := q.1; exact ⟨⟨r, ws' u, h1, ⟨u, h2, rfl⟩, h3⟩, h4⟩, q.2⟩)
theorem gZf.imp {l : Launch} {yy : MethodName} {wsy : List Cond} {rm : Room} {D : va_G} {y : Nat → Nat} {e mi : Nat} {av : List Value} {ws : va_W} {P P' : UInt32 → va_W → Prop} (h : gZf l yy wsy rm D y e mi av ws P) (hi : ∀ r w, P r w → P' r w) : gZf l yy wsy rm D y e mi av ws P' := fun sz =>
  MetFree.mono (h sz) (fun _ _ q => q) (fun _ _ _ _ _ z => z) (fun _ _ _ _ _ q => ⟨by obtain ⟨⟨r, u, h1, h2, h3⟩, h4⟩ := q.1; exact ⟨⟨r, u, h1, hi r u h2, h3⟩, h4⟩, q.2⟩)
def gZd (l : Launch) (yy : MethodName) (wsy : List Cond) (rm : Room) (D : va_G) (y : Nat → Nat) (e mi : Nat) (av : List Value) (ws : va_W) (post : UInt64 → va_W → Prop) : Prop := ∀ sz : Nat, Met l yy wsy rm (va_Pc av (gPreZ D y e mi ws sz)) (va_Qd post (fun u => gPost D (gvA ws sz) u) (gvA ws sz)) rm.cells rm.slots (gvA ws sz)
theorem gZd.of_m {S : Type} {l : Launch} {yy : MethodName} {wsy : List Cond} {rm : Room} {D : va_G} {y : Nat → Nat} {e mi : Nat} {av : List Value} {ws : va_W} {post : UInt64 → S → Prop} {ws' : S → va_W} (h : gMd l yy wsy rm D y av ws post ws') : gZd l yy wsy rm D y e mi av ws (fun r w => ∃ u : S, post r u ∧ w = ws' u) := fun sz =>
  MetFree.mono (h sz) (fun _ _ q => ⟨q.1, q.2.1⟩) (fun _ _ _ _ _ z => z) (fun _ _ _ _ _ q => ⟨by obtain ⟨⟨r, u, h1, h2, h3⟩, h4⟩ := q.1; exact ⟨⟨r, ws' u, h1, ⟨u, h2, rfl⟩, h3⟩, h4⟩, q.2⟩)
theorem gZd.imp {l : Launch} {yy : MethodName} {wsy : List Cond} {rm : Room} {D : va_G} {y : Nat → Nat} {e mi : Nat} {av : List Value} {ws : va_W} {P P' : UInt64 → va_W → Prop} (h : gZd l yy wsy rm D y e mi av ws P) (hi : ∀ r w, P r w → P' r w) : gZd l yy wsy rm D y e mi av ws P' := fun sz =>
  MetFree.mono (h sz) (fun _ _ q => q) (fun _ _ _ _ _ z => z) (fun _ _ _ _ _ q => ⟨by obtain ⟨⟨r, u, h1, h2, h3⟩, h4⟩ := q.1; exact ⟨⟨r, u, h1, hi r u h2, h3⟩, h4⟩, q.2⟩)
/-- a call that throws, whatever it would answer -/
def gMX (l : Launch) (yy : MethodName) (wsy : List Cond) (rm : Room) (D : va_G) (y : Nat → Nat) (av : List Value) (ws : va_W) (E : String) : Prop := ∀ sz : Nat, vx_Met l yy wsy rm (va_Pc av (gPreX D y ws sz)) (fun _ _ _ _ => False) (gXC D E (gvA ws sz) ws) rm.cells rm.slots (gvA ws sz)
theorem gMX.of_v {l : Launch} {yy : MethodName} {wsy : List Cond} {rm : Room} {D : va_G} {y : Nat → Nat} {av : List Value} {ws : va_W} {E : String} (h : gMxv l yy wsy rm D y av ws E) : gMX l yy wsy rm D y av ws E := fun sz =>
  MetFree.mono (h sz) (fun _ _ q => q) (fun _ _ _ _ _ z => z) (fun _ _ _ _ _ q => q.imp (fun z => ⟨by obtain ⟨⟨_, _, h2, _⟩, _⟩ := z.1; exact h2.elim, z.2⟩) id)
theorem gMX.of_i {l : Launch} {yy : MethodName} {wsy : List Cond} {rm : Room} {D : va_G} {y : Nat → Nat} {av : List Value} {ws : va_W} {E : String} (h : gMxi l yy wsy rm D y av ws E) : gMX l yy wsy rm D y av ws E := fun sz =>
  MetFree.mono (h sz) (fun _ _ q => q) (fun _ _ _ _ _ z => z) (fun _ _ _ _ _ q => q.imp (fun z => ⟨by obtain ⟨⟨_, _, _, h2, _⟩, _⟩ := z.1; exact h2.elim, z.2⟩) id)
theorem gMX.of_l {l : Launch} {yy : MethodName} {wsy : List Cond} {rm : Room} {D : va_G} {y : Nat → Nat} {av : List Value} {ws : va_W} {E : String} (h : gMxl l yy wsy rm D y av ws E) : gMX l yy wsy rm D y av ws E := fun sz =>
  MetFree.mono (h sz) (fun _ _ q => q) (fun _ _ _ _ _ z => z) (fun _ _ _ _ _ q => q.imp (fun z => ⟨by obtain ⟨⟨_, _, _, h2, _⟩, _⟩ := z.1; exact h2.elim, z.2⟩) id)
theorem gMX.of_f {l : Launch} {yy : MethodName} {wsy : List Cond} {rm : Room} {D : va_G} {y : Nat → Nat} {av : List Value} {ws : va_W} {E : String} (h : gMxf l yy wsy rm D y av ws E) : gMX l yy wsy rm D y av ws E := fun sz =>
  MetFree.mono (h sz) (fun _ _ q => q) (fun _ _ _ _ _ z => z) (fun _ _ _ _ _ q => q.imp (fun z => ⟨by obtain ⟨⟨_, _, _, h2, _⟩, _⟩ := z.1; exact h2.elim, z.2⟩) id)
theorem gMX.of_d {l : Launch} {yy : MethodName} {wsy : List Cond} {rm : Room} {D : va_G} {y : Nat → Nat} {av : List Value} {ws : va_W} {E : String} (h : gMxd l yy wsy rm D y av ws E) : gMX l yy wsy rm D y av ws E := fun sz =>
  MetFree.mono (h sz) (fun _ _ q => q) (fun _ _ _ _ _ z => z) (fun _ _ _ _ _ q => q.imp (fun z => ⟨by obtain ⟨⟨_, _, _, h2, _⟩, _⟩ := z.1; exact h2.elim, z.2⟩) id)
theorem g_ofWH {l : Launch} {y : MethodName} {ws ws' : List Cond} {rm : Room} {Pc : Array Value → State → Prop} {Qc : Array Value → State → Outcome → State → Prop} {mc ms : Nat} {free : Addr → Prop} {cc : ByteArray} {maxL : Nat} {ret : Option FieldType} {hh : List (Nat × Nat × Nat × Nat)}
    (hy : plainName y.cls = true) (hw : ws = Cond.codeWith y cc maxL ret hh :: ws')
    (body : ∀ p e s m args below meth c s₁, BodyLoose p l y (headSpec ws rm) cc maxL ret e s m args below meth c s₁ → c.maxLocals = maxL → c.exceptionTable.toList = tableOf hh → Pc args s →
      W p l e (headSpec ws rm).room s m args below meth c s.heap [] 0 0 (MQ below Qc args s mc ms free) (entryFrame m args maxL)) : Met l y ws rm Pc Qc mc ms free := by
  refine MetFree.of_bodyS (code := cc) (maxLocals := maxL) (ret := ret) hy ?_ ?_
  · intro args s m h hn
    obtain ⟨m9, meth, c, hn9, h1, h2, h3, h4, -, h5, h6, -⟩ := Cond.codeWith_spec (atoms_spec (ws := ws) h _ (by rw [hw]; exact List.mem_cons_self))
    cases hn.symm.trans hn9
    exact ⟨meth, c, h1, h2, h3, h4, h5, h6⟩
  · intro p e s m args below meth c s₁ B hml hP _
    have hh0 : s₁.heap = s.heap := by rw [B.state]; rfl
    obtain ⟨t, a1, o, b1, b2, b3⟩ := body p e s m args below meth c s₁ B hml (vx_table (x := y) B (atoms_spec (ws := ws) B.pre _ (by rw [hw]; exact List.mem_cons_self))) hP s₁ hh0 (Stand.of_body B)
    exact ⟨t, o, a1, b1, b2, ⟨b3.1, b3.2⟩⟩
theorem g_metL {l : Launch} {yy : MethodName} {wsy wst : List Cond} {rm : Room} {D : va_G} {y : Nat → Nat} {e9 mi : Nat} {av : List Value} {ws : va_W} {post : Int32 → va_W → Prop} {cc : ByteArray} {maxL : Nat} {hh : List (Nat × Nat × Nat × Nat)} (hy : plainName yy.cls = true) (hw : wsy = Cond.codeWith yy cc maxL (some .int) hh :: wst) (hlen : (lg_sl av).length ≤ maxL)
    (body : ∀ (p : Program) (e : Env) (s : State) (m : MethodId) (below : List Frame) (meth : Method) (c : Code) (A : Nat → Prop), p.tables.exec = Jvm.exec → c.code = cc → c.maxLocals = maxL → meth.sig.returnType = some .int → (∀ w ∈ wsy, w.before av.toArray s = true) → s.vm.findClass yy.cls = some m.cls → meth.locks = false → gE D y s → gvP D vwCl ws s.heap → gvD A ws → va_S A s.heap s.heap [] → (∀ q : Nat, s.heap.size ≤ q → A q) → gZ e9 mi A s s.heap → c.exceptionTable.toList = tableOf hh → ∀ ls : Array Slot, lv_has ls maxL (lv_args 0 av) →
      W p l e rm s m av.toArray below meth c s.heap [] 0 0 (MQ below (va_Qi post (fun u => gPost D A u) A) av.toArray s rm.cells rm.slots A) (F0 m 0 ls [])) : gZi l yy wsy rm D y e9 mi av ws post := by
  intro sz
  refine g_ofWH (cc := cc) (maxL := maxL) (ret := some .int) hy hw ?_
  intro p e s m args below meth c s₁ B hml htab hv
  obtain ⟨rfl, ⟨hsz, hP, hE, hD0⟩, hZ⟩ := hv
  subst hsz
  have hl := lv_entry av (n := maxL) hlen
  rw [lg_entry_eq]
  exact body p e s m below meth c (gvA ws s.heap.size) B.exec B.bytes hml B.returns (atoms_spec (ws := wsy) B.pre) (findClass_of_methodNamed B.named) B.notSynchronized hE hP hD0.self va_S.rf (fun q h => Or.inr h) hZ htab _ hl
section GL6
variable {p : Program} {l : Launch} {e : Env} {R : Room} {s : State} {m : MethodId} {args : Array Value} {below : List Frame} {meth : Method} {c : Code} {H H0 : Heap} {locs : List Loc} {cells slots : Nat} {Q : State → Prop}
variable {cc : ByteArray} {pc : Nat} {ls : Array Slot} {rest : List Value} {D : va_G} {y : Nat → Nat} {A : Nat → Prop} {a : Nat} {ws : va_W}
theorem gcz_V_v {e9 mi : Nat} {yy : MethodName} {bytes : ByteArray} {maxL nL n index : Nat} {ret : Option FieldType} {wsy : List Cond} {rm : Room} {Ts : List Cond} {own C : String} {b : Nat} {As st0 : List Value} {post : va_W → Prop} (hM : gZv l yy wsy rm D y e9 mi (.ref b :: As) ws post) (F : CallFix p m c cc nL s args Ts own) (cw : CallW R s args own C index yy bytes maxL ret wsy rm rm.cells rm.slots n) (hE : gE D y s) (hZ : gZ e9 mi A s H0) (hP : gvP D vwCl ws H) (hD : gvD A ws) (hS : va_S A H0 H locs) (hA : ∀ q : Nat, H0.size ≤ q → A q) (q0 : Nat) {ci : Nat} {fs : List Value} {cq : vw_C} (he : ws[q0]? = some (b, .inr (ci, fs))) (hc : vwCl[ci]? = some cq) (hC : cq.1 = C) (hst : st0 = As.reverse ++ .ref b :: rest) (hn : As.length = n) (hl : ls.size = nL) (hW : (rest.map fun v => v.category).sum ≤ 8) (hdg : decode cc pc = .ok (.invokevirtual index, 3)) (hf : cells + rm.cells ≤ R.cells ∧ slots + rm.slots ≤ R.slots)
    (kk : ∀ (u : va_W) (H1 : Heap) (locs1 : List Loc), gvP D vwCl u H1 → gvD A u → va_S A H0 H1 locs1 → post u → W p l e R s m args below meth c H1 locs1 (cells + rm.cells) (slots + rm.slots) Q (F0 m (pc + 3) ls (rest))) : W p l e R s m args below meth c H locs cells slots Q (F0 m pc ls st0) := by
  have hF := gFree hD hS hA
  refine va_callv (va_runV (As := As) (rest := rest) F (hM H.size) cw ⟨gBlindZ, (by rw [← hC]; exact gv_recv hE.1 hP hc he), fun U hU hW => gHereZ hP hD hE hZ hS hA hU hW⟩ rfl hn hl hst (lv_room (pc := pc) (m := m) (ls := ls) (rest := st0) hW) hdg hf) hS (fun q _ h => hF q h) hF ?_
  intro u t H1 locs1 ht hvm hp hB hz hk hS1
  obtain ⟨hP1, hD1⟩ := hB
  rw [ht] at hP1
  exact kk u H1 locs1 hP1 (hD1.weaken (fun _ _ _ h => hF _ h)) hS1 hp
theorem gcz_V_i {e9 mi : Nat} {yy : MethodName} {bytes : ByteArray} {maxL nL n index : Nat} {ret : Option FieldType} {wsy : List Cond} {rm : Room} {Ts : List Cond} {own C : String} {b : Nat} {As st0 : List Value} {post : Int32 → va_W → Prop} (hM : gZi l yy wsy rm D y e9 mi (.ref b :: As) ws post) (F : CallFix p m c cc nL s args Ts own) (cw : CallW R s args own C index yy bytes maxL ret wsy rm rm.cells rm.slots n) (hE : gE D y s) (hZ : gZ e9 mi A s H0) (hP : gvP D vwCl ws H) (hD : gvD A ws) (hS : va_S A H0 H locs) (hA : ∀ q : Nat, H0.size ≤ q → A q) (q0 : Nat) {ci : Nat} {fs : List Value} {cq : vw_C} (he : ws[q0]? = some (b, .inr (ci, fs))) (hc : vwCl[ci]? = some cq) (hC : cq.1 = C) (hst : st0 = As.reverse ++ .ref b :: rest) (hn : As.length = n) (hl : ls.size = nL) (hW : (rest.map fun v => v.category).sum ≤ 8) (hdg : decode cc pc = .ok (.invokevirtual index, 3)) (hf : cells + rm.cells ≤ R.cells ∧ slots + rm.slots ≤ R.slots)
    (kk : ∀ (r : Int32) (u : va_W) (H1 : Heap) (locs1 : List Loc), gvP D vwCl u H1 → gvD A u → va_S A H0 H1 locs1 → post r u → W p l e R s m args below meth c H1 locs1 (cells + rm.cells) (slots + rm.slots) Q (F0 m (pc + 3) ls (.int r :: rest))) : W p l e R s m args below meth c H locs cells slots Q (F0 m pc ls st0) := by
  have hF := gFree hD hS hA
  refine va_calli (va_runV (As := As) (rest := rest) F (hM H.size) cw ⟨gBlindZ, (by rw [← hC]; exact gv_recv hE.1 hP hc he), fun U hU hW => gHereZ hP hD hE hZ hS hA hU hW⟩ rfl hn hl hst (lv_room (pc := pc) (m := m) (ls := ls) (rest := st0) hW) hdg hf) hS (fun q _ h => hF q h) hF ?_
  intro r u t H1 locs1 ht hvm hp hB hz hk hS1
  obtain ⟨hP1, hD1⟩ := hB
  rw [ht] at hP1
  exact kk r u H1 locs1 hP1 (hD1.weaken (fun _ _ _ h => hF _ h)) hS1 hp
theorem gcz_V_l {e9 mi : Nat} {yy : MethodName} {bytes : ByteArray} {maxL nL n index : Nat} {ret : Option FieldType} {wsy : List Cond} {rm : Room} {Ts : List Cond} {own C : String} {b : Nat} {As st0 : List Value} {post : Int64 → va_W → Prop} (hM : gZl l yy wsy rm D y e9 mi (.ref b :: As) ws post) (F : CallFix p m c cc nL s args Ts own) (cw : CallW R s args own C index yy bytes maxL ret wsy rm rm.cells rm.slots n) (hE : gE D y s) (hZ : gZ e9 mi A s H0) (hP : gvP D vwCl ws H) (hD : gvD A ws) (hS : va_S A H0 H locs) (hA : ∀ q : Nat, H0.size ≤ q → A q) (q0 : Nat) {ci : Nat} {fs : List Value} {cq : vw_C} (he : ws[q0]? = some (b, .inr (ci, fs))) (hc : vwCl[ci]? = some cq) (hC : cq.1 = C) (hst : st0 = As.reverse ++ .ref b :: rest) (hn : As.length = n) (hl : ls.size = nL) (hW : (rest.map fun v => v.category).sum ≤ 8) (hdg : decode cc pc = .ok (.invokevirtual index, 3)) (hf : cells + rm.cells ≤ R.cells ∧ slots + rm.slots ≤ R.slots)
    (kk : ∀ (r : Int64) (u : va_W) (H1 : Heap) (locs1 : List Loc), gvP D vwCl u H1 → gvD A u → va_S A H0 H1 locs1 → post r u → W p l e R s m args below meth c H1 locs1 (cells + rm.cells) (slots + rm.slots) Q (F0 m (pc + 3) ls (.long r :: rest))) : W p l e R s m args below meth c H locs cells slots Q (F0 m pc ls st0) := by
  have hF := gFree hD hS hA
  refine va_calll (va_runV (As := As) (rest := rest) F (hM H.size) cw ⟨gBlindZ, (by rw [← hC]; exact gv_recv hE.1 hP hc he), fun U hU hW => gHereZ hP hD hE hZ hS hA hU hW⟩ rfl hn hl hst (lv_room (pc := pc) (m := m) (ls := ls) (rest := st0) hW) hdg hf) hS (fun q _ h => hF q h) hF ?_
  intro r u t H1 locs1 ht hvm hp hB hz hk hS1
  obtain ⟨hP1, hD1⟩ := hB
  rw [ht] at hP1
  exact kk r u H1 locs1 hP1 (hD1.weaken (fun _ _ _ h => hF _ h)) hS1 hp
theorem gcz_V_f {e9 mi : Nat} {yy : MethodName} {bytes : ByteArray} {maxL nL n index : Nat} {ret : Option FieldType} {wsy : List Cond} {rm : Room} {Ts : List Cond} {own C : String} {b : Nat} {As st0 : List Value} {post : UInt32 → va_W → Prop} (hM : gZf l yy wsy rm D y e9 mi (.ref b :: As) ws post) (F : CallFix p m c cc nL s args Ts own) (cw : CallW R s args own C index yy bytes maxL ret wsy rm rm.cells rm.slots n) (hE : gE D y s) (hZ : gZ e9 mi A s H0) (hP : gvP D vwCl ws H) (hD : gvD A ws) (hS : va_S A H0 H locs) (hA : ∀ q : Nat, H0.size ≤ q → A q) (q0 : Nat) {ci : Nat} {fs : List Value} {cq : vw_C} (he : ws[q0]? = some (b, .inr (ci, fs))) (hc : vwCl[ci]? = some cq) (hC : cq.1 = C) (hst : st0 = As.reverse ++ .ref b :: rest) (hn : As.length = n) (hl : ls.size = nL) (hW : (rest.map fun v => v.category).sum ≤ 8) (hdg : decode cc pc = .ok (.invokevirtual index, 3)) (hf : cells + rm.cells ≤ R.cells ∧ slots + rm.slots ≤ R.slots)
    (kk : ∀ (r : UInt32) (u : va_W) (H1 : Heap) (locs1 : List Loc), gvP D vwCl u H1 → gvD A u → va_S A H0 H1 locs1 → post r u → W p l e R s m args below meth c H1 locs1 (cells + rm.cells) (slots + rm.slots) Q (F0 m (pc + 3) ls (.float r :: rest))) : W p l e R s m args below meth c H locs cells slots Q (F0 m pc ls st0) := by
  have hF := gFree hD hS hA
  refine va_callf (va_runV (As := As) (rest := rest) F (hM H.size) cw ⟨gBlindZ, (by rw [← hC]; exact gv_recv hE.1 hP hc he), fun U hU hW => gHereZ hP hD hE hZ hS hA hU hW⟩ rfl hn hl hst (lv_room (pc := pc) (m := m) (ls := ls) (rest := st0) hW) hdg hf) hS (fun q _ h => hF q h) hF ?_
  intro r u t H1 locs1 ht hvm hp hB hz hk hS1
  obtain ⟨hP1, hD1⟩ := hB
  rw [ht] at hP1
  exact kk r u H1 locs1 hP1 (hD1.weaken (fun _ _ _ h => hF _ h)) hS1 hp
theorem gcz_V_d {e9 mi : Nat} {yy : MethodName} {bytes : ByteArray} {maxL nL n index : Nat} {ret : Option FieldType} {wsy : List Cond} {rm : Room} {Ts : List Cond} {own C : String} {b : Nat} {As st0 : List Value} {post : UInt64 → va_W → Prop} (hM : gZd l yy wsy rm D y e9 mi (.ref b :: As) ws post) (F : CallFix p m c cc nL s args Ts own) (cw : CallW R s args own C index yy bytes maxL ret wsy rm rm.cells rm.slots n) (hE : gE D y s) (hZ : gZ e9 mi A s H0) (hP : gvP D vwCl ws H) (hD : gvD A ws) (hS : va_S A H0 H locs) (hA : ∀ q : Nat, H0.size ≤ q → A q) (q0 : Nat) {ci : Nat} {fs : List Value} {cq : vw_C} (he : ws[q0]? = some (b, .inr (ci, fs))) (hc : vwCl[ci]? = some cq) (hC : cq.1 = C) (hst : st0 = As.reverse ++ .ref b :: rest) (hn : As.length = n) (hl : ls.size = nL) (hW : (rest.map fun v => v.category).sum ≤ 8) (hdg : decode cc pc = .ok (.invokevirtual index, 3)) (hf : cells + rm.cells ≤ R.cells ∧ slots + rm.slots ≤ R.slots)
    (kk : ∀ (r : UInt64) (u : va_W) (H1 : Heap) (locs1 : List Loc), gvP D vwCl u H1 → gvD A u → va_S A H0 H1 locs1 → post r u → W p l e R s m args below meth c H1 locs1 (cells + rm.cells) (slots + rm.slots) Q (F0 m (pc + 3) ls (.double r :: rest))) : W p l e R s m args below meth c H locs cells slots Q (F0 m pc ls st0) := by
  have hF := gFree hD hS hA
  refine va_calld (va_runV (As := As) (rest := rest) F (hM H.size) cw ⟨gBlindZ, (by rw [← hC]; exact gv_recv hE.1 hP hc he), fun U hU hW => gHereZ hP hD hE hZ hS hA hU hW⟩ rfl hn hl hst (lv_room (pc := pc) (m := m) (ls := ls) (rest := st0) hW) hdg hf) hS (fun q _ h => hF q h) hF ?_
  intro r u t H1 locs1 ht hvm hp hB hz hk hS1
  obtain ⟨hP1, hD1⟩ := hB
  rw [ht] at hP1
  exact kk r u H1 locs1 hP1 (hD1.weaken (fun _ _ _ h => hF _ h)) hS1 hp
theorem gcz_S_i {e9 mi : Nat} {yy : MethodName} {bytes : ByteArray} {maxL nL n index : Nat} {ret : Option FieldType} {hh : List (Nat × Nat × Nat × Nat)} {wsy : List Cond} {rm : Room} {Ts : List Cond} {own : String} {As st0 : List Value} {post : Int32 → va_W → Prop} (hM : gZi l yy wsy rm D y e9 mi As ws post) (F : CallFix p m c cc nL s args Ts own) (cw : vx_CSW R s args own index yy bytes maxL ret hh wsy rm rm.cells rm.slots n) (hE : gE D y s) (hZ : gZ e9 mi A s H0) (hP : gvP D vwCl ws H) (hD : gvD A ws) (hS : va_S A H0 H locs) (hA : ∀ q : Nat, H0.size ≤ q → A q) (hst : st0 = As.reverse ++ rest) (hn : As.length = n) (hl : ls.size = nL) (hW : (rest.map fun v => v.category).sum ≤ 8) (hdg : decode cc pc = .ok (.invokestatic index, 3)) (hf : cells + rm.cells ≤ R.cells ∧ slots + rm.slots ≤ R.slots)
    (kk : ∀ (r : Int32) (u : va_W) (H1 : Heap) (locs1 : List Loc), gvP D vwCl u H1 → gvD A u → va_S A H0 H1 locs1 → post r u → W p l e R s m args below meth c H1 locs1 (cells + rm.cells) (slots + rm.slots) Q (F0 m (pc + 3) ls (.int r :: rest))) : W p l e R s m args below meth c H locs cells slots Q (F0 m pc ls st0) := by
  have hF := gFree hD hS hA
  refine va_calli (vx_runSW (As := As) (rest := rest) F (hM H.size) cw ⟨gBlindZ, fun U hU hW => gHereZ hP hD hE hZ hS hA hU hW⟩ rfl hn hl hst (lv_room (pc := pc) (m := m) (ls := ls) (rest := st0) hW) hdg hf) hS (fun q _ h => hF q h) hF ?_
  intro r u t H1 locs1 ht hvm hp hB hz hk hS1
  obtain ⟨hP1, hD1⟩ := hB
  rw [ht] at hP1
  exact kk r u H1 locs1 hP1 (hD1.weaken (fun _ _ _ h => hF _ h)) hS1 hp
/-- a call that throws, caught by the row x of the caller's table -/
theorem gcz_VX {yy : MethodName} {bytes : ByteArray} {maxL nL n index : Nat} {ret : Option FieldType} {wsy : List Cond} {rm : Room} {Ts : List Cond} {own C : String} {b : Nat} {As st0 : List Value} {E : String} (hM : gMX l yy wsy rm D y (.ref b :: As) ws E) (F : CallFix p m c cc nL s args Ts own) (cw : CallW R s args own C index yy bytes maxL ret wsy rm rm.cells rm.slots n) (hE : gE D y s) (hX : gX A s s.heap) (hP : gvP D vwCl ws H) (hD : gvD A ws) (hS : va_S A s.heap H locs) (hA : ∀ q : Nat, s.heap.size ≤ q → A q) (q0 : Nat) {ci : Nat} {fs : List Value} {cq : vw_C} (he : ws[q0]? = some (b, .inr (ci, fs))) (hc : vwCl[ci]? = some cq) (hC : cq.1 = C) (hst : st0 = As.reverse ++ .ref b :: rest) (hn : As.length = n) (hl : ls.size = nL) (hW : (rest.map fun v => v.category).sum ≤ 8) (hdg : decode cc pc = .ok (.invokevirtual index, 3)) (hf : cells + rm.cells ≤ R.cells ∧ slots + rm.slots ≤ R.slots)
    (pre : List ExceptionTableEntry) (x : ExceptionTableEntry) (suf : List ExceptionTableEntry) (hsplit : c.exceptionTable.toList = pre ++ x :: suf) (hpass : ∀ z ∈ pre, covers z pc = false ∨ (z.catchType ≠ 0 ∧ ∃ nm : String, (Cond.classLink own z.catchType nm).before args s = true ∧ va_Nc E nm s)) (hx : covers x pc = true) (h0 : x.catchType ≠ 0) (hlink : (Cond.classLink own x.catchType E).before args s = true) (hcast : (Cond.castable E E).before args s = true)
    (kk : ∀ (q9 : Nat) (H1 : Heap) (locs1 : List Loc), gvP D vwCl ws H1 → gvD A ws → va_S A s.heap H1 locs1 → W p l e R s m args below meth c H1 locs1 (cells + rm.cells) (slots + rm.slots) Q (F0 m x.handlerPc ls [.ref q9])) : W p l e R s m args below meth c H locs cells slots Q (F0 m pc ls st0) := by
  have hF := gFree hD hS hA
  have hr := vx_runV (below := below) (meth := meth) (e := e) (H := H) (locs := locs) (As := As) (rest := rest) (g := F0 m pc ls st0) F (hM H.size) cw ⟨gBlindX, (by rw [← hC]; exact gv_recv hE.1 hP hc he), fun U hU hW => gHereX hP hD hE hX hS hA hU hW⟩ rfl hn hl hst (lv_room (pc := pc) (m := m) (ls := ls) (rest := st0) hW) hdg hf
  intro T hT X
  rcases hr T hT X with ⟨v, st₀, t, T', L, h0', X', hL, e1, e2, hbad, st⟩ | ⟨q, st₀, t, T', L, E', ce, h0', X', hL, e1, e2, ⟨u, hp, hB, hFF⟩, hce, hcv, hcl, st⟩
  · exact hbad.elim
  · obtain ⟨rfl, hP1, hD1⟩ := hB
    obtain ⟨k1, k2, k3⟩ := vx_keep h0' e1 hS (fun q _ h => hF q h) (fun q h => hF q h) hL hFF
    have hP2 : gvP D vwCl ws T'.heap := by rw [e1]; exact hP1
    obtain ⟨t2, a1, b1⟩ := vx_catch (rest := rest) (ls := ls) (pc := pc) F.2.2.2.1 pre x suf hsplit hpass hx h0 hlink hcast (by rw [e1]; exact hce) hcv hcl (kk q T'.heap (locs ++ L) hP2 (hD1.weaken (fun _ _ _ h => hF _ h)) k3) T' rfl X'
    exact ⟨t2, st.trans a1, b1⟩
end GL6
