/-! methods that throw: the ambient, the throw, the call that throws -/
def gTexts : List (Nat × String) := [(70, "there are 12 items"), (101, "the item is not in season"), (110, "there is a quote"), (128, "there is a link"), (135, "no such household"), (173, "nothing is published"), (175, "there are 10 contracts"), (239, "nothing of that kind is told of a contract"), (248, "nothing of that kind is counted"), (250, "no such group"), (252, "no such outlet"), (254, "no such kind of index"), (256, "no such item"), (258, "no such contract"), (260, "the month is not published"), (264, "an argument is out of range"), (267, "24 months are published"), (269, "there is no quote")]
def gX (A : Nat → Prop) (U : State) (H : Heap) : Prop := vx_Zq Bundle.tN "UNASSIGNED_STACK" Bundle.steD A U H ∧ vx_Zq Bundle.tN "SUPPRESSED_SENTINEL" Bundle.listD A U H ∧ ∀ q ∈ gTexts, ∃ sa, vk_R RX6 q.1 q.2 sa U
theorem gX.kept {A : Nat → Prop} {U : State} {H H1 : Heap} (h : gX A U H) (hq : ∀ a : Nat, a < H.size → ¬ A a → H1[a]? = H[a]?) : gX A U H1 := ⟨h.1.kept hq, h.2.1.kept hq, h.2.2⟩
theorem gX.narrow {A B : Nat → Prop} {U : State} {H : Heap} (h : gX A U H) (hAB : ∀ q, B q → A q) : gX B U H := ⟨h.1.narrow hAB, h.2.1.narrow hAB, h.2.2⟩
theorem gX.warm {A : Nat → Prop} {s U : State} {H : Heap} (hW : s.WarmedH U.vm) (h : gX A s H) : gX A U H := ⟨vx_Zq.moved hW.alike h.1, vx_Zq.moved hW.alike h.2.1, fun q hq => by obtain ⟨sa, k⟩ := h.2.2 q hq; exact ⟨sa, k.warm hW⟩⟩
theorem gX.calling {A : Nat → Prop} {U : State} {H : Heap} {g : JFrame} {mk : MethodId} {a : Array Value} (h : gX A U H) : gX A (U.calling g mk a) H := ⟨vx_Zq.moved (u := U) (U := U.calling g mk a) (Vm.Alike.refl U.vm) h.1, vx_Zq.moved (u := U) (U := U.calling g mk a) (Vm.Alike.refl U.vm) h.2.1, fun q hq => by obtain ⟨sa, k⟩ := h.2.2 q hq; exact ⟨sa, vk_R.same (u := U) (U := U.calling g mk a) rfl k⟩⟩
def gPreX (D : va_G) (y : Nat → Nat) (ws : va_W) (sz : Nat) : State → Prop := fun U => gPre D y ws sz U ∧ gX (gvA ws sz) U U.heap
theorem gBlindX {D : va_G} {y : Nat → Nat} {ws : va_W} {sz : Nat} {av : List Value} : FrameBlind (va_Pc av (gPreX D y ws sz)) := fun _ _ _ _ q => ⟨q.1, ⟨q.2.1.1, q.2.1.2.1, q.2.1.2.2.1.calling, q.2.1.2.2.2⟩, q.2.2.calling⟩
theorem gHereX {D : va_G} {y : Nat → Nat} {ws : va_W} {av : List Value} {A : Nat → Prop} {s U : State} {H0 H : Heap} {locs : List Loc} (hP : gvP D vwCl ws H) (hD : gvD A ws) (hE : gE D y s) (hX : gX A s H0) (hS : va_S A H0 H locs) (hA : ∀ q : Nat, H0.size ≤ q → A q) (hU : U.heap = H) (hW : s.WarmedH U.vm) : va_Pc av (gPreX D y ws H.size) av.toArray U :=
  ⟨rfl, (gHere (av := av) hP hD hE hU hW).2, by rw [hU]; exact ((hX.kept hS.2.1).narrow (gFree hD hS hA)).warm hW⟩
def gXC (D : va_G) (E : String) (A : Nat → Prop) (ws : va_W) : String → State → State → Prop := vx_X (fun _ : Unit => True) (fun E' _ t => E' = E ∧ gPost D A ws t) A
abbrev gQXd (A : Nat → Prop) : Array Value → State → Outcome → State → Prop := va_Qd (fun (_ : UInt64) (_ : Unit) => False) (fun _ _ => True) A
def gMxd (l : Launch) (yy : MethodName) (wsy : List Cond) (rm : Room) (D : va_G) (y : Nat → Nat) (av : List Value) (ws : va_W) (E : String) : Prop := ∀ sz : Nat, vx_Met l yy wsy rm (va_Pc av (gPreX D y ws sz)) (gQXd (gvA ws sz)) (gXC D E (gvA ws sz) ws) rm.cells rm.slots (gvA ws sz)
abbrev gQXi (A : Nat → Prop) : Array Value → State → Outcome → State → Prop := va_Qi (fun (_ : Int32) (_ : Unit) => False) (fun _ _ => True) A
def gMxi (l : Launch) (yy : MethodName) (wsy : List Cond) (rm : Room) (D : va_G) (y : Nat → Nat) (av : List Value) (ws : va_W) (E : String) : Prop := ∀ sz : Nat, vx_Met l yy wsy rm (va_Pc av (gPreX D y ws sz)) (gQXi (gvA ws sz)) (gXC D E (gvA ws sz) ws) rm.cells rm.slots (gvA ws sz)
abbrev gQXl (A : Nat → Prop) : Array Value → State → Outcome → State → Prop := va_Ql (fun (_ : Int64) (_ : Unit) => False) (fun _ _ => True) A
def gMxl (l : Launch) (yy : MethodName) (wsy : List Cond) (rm : Room) (D : va_G) (y : Nat → Nat) (av : List Value) (ws : va_W) (E : String) : Prop := ∀ sz : Nat, vx_Met l yy wsy rm (va_Pc av (gPreX D y ws sz)) (gQXl (gvA ws sz)) (gXC D E (gvA ws sz) ws) rm.cells rm.slots (gvA ws sz)
abbrev gQXf (A : Nat → Prop) : Array Value → State → Outcome → State → Prop := va_Qf (fun (_ : UInt32) (_ : Unit) => False) (fun _ _ => True) A
def gMxf (l : Launch) (yy : MethodName) (wsy : List Cond) (rm : Room) (D : va_G) (y : Nat → Nat) (av : List Value) (ws : va_W) (E : String) : Prop := ∀ sz : Nat, vx_Met l yy wsy rm (va_Pc av (gPreX D y ws sz)) (gQXf (gvA ws sz)) (gXC D E (gvA ws sz) ws) rm.cells rm.slots (gvA ws sz)
abbrev gQXv (A : Nat → Prop) : Array Value → State → Outcome → State → Prop := va_Qv (fun (_ : Unit) => False) (fun _ _ => True) A
def gMxv (l : Launch) (yy : MethodName) (wsy : List Cond) (rm : Room) (D : va_G) (y : Nat → Nat) (av : List Value) (ws : va_W) (E : String) : Prop := ∀ sz : Nat, vx_Met l yy wsy rm (va_Pc av (gPreX D y ws sz)) (gQXv (gvA ws sz)) (gXC D E (gvA ws sz) ws) rm.cells rm.slots (gvA ws sz)
theorem g_metx_d {l : Launch} {yy : MethodName} {wsy wst : List Cond} {rm : Room} {D : va_G} {y : Nat → Nat} {av : List Value} {ws : va_W} {E : String} {cc : ByteArray} {maxL : Nat} (hy : plainName yy.cls = true) (hw : wsy = Cond.code yy cc maxL (some .double) :: wst) (hlen : (lg_sl av).length ≤ maxL)
    (body : ∀ (p : Program) (e : Env) (s : State) (m : MethodId) (below : List Frame) (meth : Method) (c : Code) (A : Nat → Prop), p.tables.exec = Jvm.exec → c.code = cc → c.maxLocals = maxL → meth.sig.returnType = some .double → (∀ w ∈ wsy, w.before av.toArray s = true) → s.vm.findClass yy.cls = some m.cls → meth.name = yy.name → meth.locks = false → gE D y s → gvP D vwCl ws s.heap → gvD A ws → va_S A s.heap s.heap [] → (∀ q : Nat, s.heap.size ≤ q → A q) → (∀ x ∈ c.exceptionTable.toList, False) → gX A s s.heap → ∀ ls : Array Slot, lv_has ls maxL (lv_args 0 av) →
      W p l e rm s m av.toArray below meth c s.heap [] 0 0 (vx_MQ below (gQXd A) (gXC D E A ws) av.toArray s rm.cells rm.slots A) (F0 m 0 ls [])) : gMxd l yy wsy rm D y av ws E := by
  intro sz
  refine vx_ofW (cc := cc) (maxL := maxL) (ret := some .double) hy hw ?_
  intro p e s m args below meth c s₁ B hml hex hv
  obtain ⟨rfl, ⟨hsz, hP, hE, hD0⟩, hX⟩ := hv
  subst hsz
  have hl := lv_entry av (n := maxL) hlen
  rw [lg_entry_eq]
  exact body p e s m below meth c (gvA ws s.heap.size) B.exec B.bytes hml B.returns (atoms_spec (ws := wsy) B.pre) (findClass_of_methodNamed B.named) (name_of_methodNamed B.named B.method).1 B.notSynchronized hE hP hD0.self va_S.rf (fun q h => Or.inr h) hex hX _ hl
theorem g_metx_i {l : Launch} {yy : MethodName} {wsy wst : List Cond} {rm : Room} {D : va_G} {y : Nat → Nat} {av : List Value} {ws : va_W} {E : String} {cc : ByteArray} {maxL : Nat} (hy : plainName yy.cls = true) (hw : wsy = Cond.code yy cc maxL (some .int) :: wst) (hlen : (lg_sl av).length ≤ maxL)
    (body : ∀ (p : Program) (e : Env) (s : State) (m : MethodId) (below : List Frame) (meth : Method) (c : Code) (A : Nat → Prop), p.tables.exec = Jvm.exec → c.code = cc → c.maxLocals = maxL → meth.sig.returnType = some .int → (∀ w ∈ wsy, w.before av.toArray s = true) → s.vm.findClass yy.cls = some m.cls → meth.name = yy.name → meth.locks = false → gE D y s → gvP D vwCl ws s.heap → gvD A ws → va_S A s.heap s.heap [] → (∀ q : Nat, s.heap.size ≤ q → A q) → (∀ x ∈ c.exceptionTable.toList, False) → gX A s s.heap → ∀ ls : Array Slot, lv_has ls maxL (lv_args 0 av) →
      W p l e rm s m av.toArray below meth c s.heap [] 0 0 (vx_MQ below (gQXi A) (gXC D E A ws) av.toArray s rm.cells rm.slots A) (F0 m 0 ls [])) : gMxi l yy wsy rm D y av ws E := by
  intro sz
  refine vx_ofW (cc := cc) (maxL := maxL) (ret := some .int) hy hw ?_
  intro p e s m args below meth c s₁ B hml hex hv
  obtain ⟨rfl, ⟨hsz, hP, hE, hD0⟩, hX⟩ := hv
  subst hsz
  have hl := lv_entry av (n := maxL) hlen
  rw [lg_entry_eq]
  exact body p e s m below meth c (gvA ws s.heap.size) B.exec B.bytes hml B.returns (atoms_spec (ws := wsy) B.pre) (findClass_of_methodNamed B.named) (name_of_methodNamed B.named B.method).1 B.notSynchronized hE hP hD0.self va_S.rf (fun q h => Or.inr h) hex hX _ hl
theorem g_metx_l {l : Launch} {yy : MethodName} {wsy wst : List Cond} {rm : Room} {D : va_G} {y : Nat → Nat} {av : List Value} {ws : va_W} {E : String} {cc : ByteArray} {maxL : Nat} (hy : plainName yy.cls = true) (hw : wsy = Cond.code yy cc maxL (some .long) :: wst) (hlen : (lg_sl av).length ≤ maxL)
    (body : ∀ (p : Program) (e : Env) (s : State) (m : MethodId) (below : List Frame) (meth : Method) (c : Code) (A : Nat → Prop), p.tables.exec = Jvm.exec → c.code = cc → c.maxLocals = maxL → meth.sig.returnType = some .long → (∀ w ∈ wsy, w.before av.toArray s = true) → s.vm.findClass yy.cls = some m.cls → meth.name = yy.name → meth.locks = false → gE D y s → gvP D vwCl ws s.heap → gvD A ws → va_S A s.heap s.heap [] → (∀ q : Nat, s.heap.size ≤ q → A q) → (∀ x ∈ c.exceptionTable.toList, False) → gX A s s.heap → ∀ ls : Array Slot, lv_has ls maxL (lv_args 0 av) →
      W p l e rm s m av.toArray below meth c s.heap [] 0 0 (vx_MQ below (gQXl A) (gXC D E A ws) av.toArray s rm.cells rm.slots A) (F0 m 0 ls [])) : gMxl l yy wsy rm D y av ws E := by
  intro sz
  refine vx_ofW (cc := cc) (maxL := maxL) (ret := some .long) hy hw ?_
  intro p e s m args below meth c s₁ B hml hex hv
  obtain ⟨rfl, ⟨hsz, hP, hE, hD0⟩, hX⟩ := hv
  subst hsz
  have hl := lv_entry av (n := maxL) hlen
  rw [lg_entry_eq]
  exact body p e s m below meth c (gvA ws s.heap.size) B.exec B.bytes hml B.returns (atoms_spec (ws := wsy) B.pre) (findClass_of_methodNamed B.named) (name_of_methodNamed B.named B.method).1 B.notSynchronized hE hP hD0.self va_S.rf (fun q h => Or.inr h) hex hX _ hl
theorem g_metx_f {l : Launch} {yy : MethodName} {wsy wst : List Cond} {rm : Room} {D : va_G} {y : Nat → Nat} {av : List Value} {ws : va_W} {E : String} {cc : ByteArray} {maxL : Nat} (hy : plainName yy.cls = true) (hw : wsy = Cond.code yy cc maxL (some .float) :: wst) (hlen : (lg_sl av).length ≤ maxL)
    (body : ∀ (p : Program) (e : Env) (s : State) (m : MethodId) (below : List Frame) (meth : Method) (c : Code) (A : Nat → Prop), p.tables.exec = Jvm.exec → c.code = cc → c.maxLocals = maxL → meth.sig.returnType = some .float → (∀ w ∈ wsy, w.before av.toArray s = true) → s.vm.findClass yy.cls = some m.cls → meth.name = yy.name → meth.locks = false → gE D y s → gvP D vwCl ws s.heap → gvD A ws → va_S A s.heap s.heap [] → (∀ q : Nat, s.heap.size ≤ q → A q) → (∀ x ∈ c.exceptionTable.toList, False) → gX A s s.heap → ∀ ls : Array Slot, lv_has ls maxL (lv_args 0 av) →
      W p l e rm s m av.toArray below meth c s.heap [] 0 0 (vx_MQ below (gQXf A) (gXC D E A ws) av.toArray s rm.cells rm.slots A) (F0 m 0 ls [])) : gMxf l yy wsy rm D y av ws E := by
  intro sz
  refine vx_ofW (cc := cc) (maxL := maxL) (ret := some .float) hy hw ?_
  intro p e s m args below meth c s₁ B hml hex hv
  obtain ⟨rfl, ⟨hsz, hP, hE, hD0⟩, hX⟩ := hv
  subst hsz
  have hl := lv_entry av (n := maxL) hlen
  rw [lg_entry_eq]
  exact body p e s m below meth c (gvA ws s.heap.size) B.exec B.bytes hml B.returns (atoms_spec (ws := wsy) B.pre) (findClass_of_methodNamed B.named) (name_of_methodNamed B.named B.method).1 B.notSynchronized hE hP hD0.self va_S.rf (fun q h => Or.inr h) hex hX _ hl
theorem g_metx_v {l : Launch} {yy : MethodName} {wsy wst : List Cond} {rm : Room} {D : va_G} {y : Nat → Nat} {av : List Value} {ws : va_W} {E : String} {cc : ByteArray} {maxL : Nat} (hy : plainName yy.cls = true) (hw : wsy = Cond.code yy cc maxL (none) :: wst) (hlen : (lg_sl av).length ≤ maxL)
    (body : ∀ (p : Program) (e : Env) (s : State) (m : MethodId) (below : List Frame) (meth : Method) (c : Code) (A : Nat → Prop), p.tables.exec = Jvm.exec → c.code = cc → c.maxLocals = maxL → meth.sig.returnType = none → (∀ w ∈ wsy, w.before av.toArray s = true) → s.vm.findClass yy.cls = some m.cls → meth.name = yy.name → meth.locks = false → gE D y s → gvP D vwCl ws s.heap → gvD A ws → va_S A s.heap s.heap [] → (∀ q : Nat, s.heap.size ≤ q → A q) → (∀ x ∈ c.exceptionTable.toList, False) → gX A s s.heap → ∀ ls : Array Slot, lv_has ls maxL (lv_args 0 av) →
      W p l e rm s m av.toArray below meth c s.heap [] 0 0 (vx_MQ below (gQXv A) (gXC D E A ws) av.toArray s rm.cells rm.slots A) (F0 m 0 ls [])) : gMxv l yy wsy rm D y av ws E := by
  intro sz
  refine vx_ofW (cc := cc) (maxL := maxL) (ret := none) hy hw ?_
  intro p e s m args below meth c s₁ B hml hex hv
  obtain ⟨rfl, ⟨hsz, hP, hE, hD0⟩, hX⟩ := hv
  subst hsz
  have hl := lv_entry av (n := maxL) hlen
  rw [lg_entry_eq]
  exact body p e s m below meth c (gvA ws s.heap.size) B.exec B.bytes hml B.returns (atoms_spec (ws := wsy) B.pre) (findClass_of_methodNamed B.named) (name_of_methodNamed B.named B.method).1 B.notSynchronized hE hP hD0.self va_S.rf (fun q h => Or.inr h) hex hX _ hl
theorem g_metx_z {l : Launch} {yy : MethodName} {wsy wst : List Cond} {rm : Room} {D : va_G} {y : Nat → Nat} {av : List Value} {ws : va_W} {E : String} {cc : ByteArray} {maxL : Nat} (hy : plainName yy.cls = true) (hw : wsy = Cond.code yy cc maxL (some .boolean) :: wst) (hlen : (lg_sl av).length ≤ maxL)
    (body : ∀ (p : Program) (e : Env) (s : State) (m : MethodId) (below : List Frame) (meth : Method) (c : Code) (A : Nat → Prop), p.tables.exec = Jvm.exec → c.code = cc → c.maxLocals = maxL → meth.sig.returnType = some .boolean → (∀ w ∈ wsy, w.before av.toArray s = true) → s.vm.findClass yy.cls = some m.cls → meth.name = yy.name → meth.locks = false → gE D y s → gvP D vwCl ws s.heap → gvD A ws → va_S A s.heap s.heap [] → (∀ q : Nat, s.heap.size ≤ q → A q) → (∀ x ∈ c.exceptionTable.toList, False) → gX A s s.heap → ∀ ls : Array Slot, lv_has ls maxL (lv_args 0 av) →
      W p l e rm s m av.toArray below meth c s.heap [] 0 0 (vx_MQ below (gQXi A) (gXC D E A ws) av.toArray s rm.cells rm.slots A) (F0 m 0 ls [])) : gMxi l yy wsy rm D y av ws E := by
  intro sz
  refine vx_ofW (cc := cc) (maxL := maxL) (ret := some .boolean) hy hw ?_
  intro p e s m args below meth c s₁ B hml hex hv
  obtain ⟨rfl, ⟨hsz, hP, hE, hD0⟩, hX⟩ := hv
  subst hsz
  have hl := lv_entry av (n := maxL) hlen
  rw [lg_entry_eq]
  exact body p e s m below meth c (gvA ws s.heap.size) B.exec B.bytes hml B.returns (atoms_spec (ws := wsy) B.pre) (findClass_of_methodNamed B.named) (name_of_methodNamed B.named B.method).1 B.notSynchronized hE hP hD0.self va_S.rf (fun q h => Or.inr h) hex hX _ hl
section GLX
variable {p : Program} {l : Launch} {e : Env} {R : Room} {s : State} {m : MethodId} {args : Array Value} {below : List Frame} {meth : Method} {c : Code} {H : Heap} {locs : List Loc} {cells slots : Nat} {Q : State → Prop}
variable {cc : ByteArray} {pc : Nat} {ls : Array Slot} {rest : List Value} {D : va_G} {y : Nat → Nat} {A : Nat → Prop} {a : Nat} {ws : va_W}
theorem gXC.of {E : String} {t : State} {ws : va_W} (hP : gvP D vwCl ws H) (hD : gvD A ws) (hS : va_S A s.heap H locs) (h1 : H.size ≤ t.heap.size) (h2 : ∀ q : Nat, q < H.size → t.heap[q]? = H[q]?) : gXC D E A ws E s t :=
  ⟨(), trivial, ⟨rfl, hP.kept (fun k q hq => h2 q.1 ((hP k q hq).lt)), hD⟩, Nat.le_trans hS.1 h1, fun q hq hn => (h2 q (Nat.lt_of_lt_of_le hq hS.1)).trans (hS.2.1 q hq hn)⟩
theorem g_throwS (hexec : p.tables.exec = Jvm.exec) (hb : c.code = cc) (hl : l.stackTraces = false) {cls text : String} {names : List String} {ik is ic : Nat} {B : List Cond} {Qc : Array Value → State → Outcome → State → Prop}
    (hown : s.vm.findClass RX6 = some m.cls) (hcls : Bundle.fit cls = true) (hnames : ∀ n ∈ names, Bundle.fit n = true) (hk : (Cond.classLink RX6 ik cls).before args s = true) (hini : (Cond.initialized cls).before args s = true) (htx : (is, text) ∈ gTexts)
    (hat1 : ∀ w ∈ (vx_atS RX6 ic cls names).filter goodWord, w.before args s = true) (hat2 : ∀ w ∈ (vx_atS RX6 ic cls names).filter (fun w => !goodWord w), w ∈ B) (hat3 : ∀ w ∈ B, w.before args s = true)
    (hgood : ∀ w ∈ Cond.classLink RX6 ik cls :: Cond.initialized cls :: vx_atS RX6 ic cls names, vx_ot w = true) (hX : gX A s s.heap) (hS : va_S A s.heap H locs) (hP : gvP D vwCl ws H) (hD : gvD A ws) (hsize : ls.size = c.maxLocals) (hex : ∀ x ∈ c.exceptionTable.toList, False) (hlocks : meth.locks = false)
    (d0 : decode cc pc = .ok (.new ik, 3)) (d3 : decode cc (pc + 3) = .ok (.dup, 1)) (d4 : decode cc (pc + 4) = .ok (.ldc is, 2)) (d6 : decode cc (pc + 6) = .ok (.invokespecial ic, 3)) (d9 : decode cc (pc + 9) = .ok (.athrow, 1))
    (hRf : names.length + 3 < R.frames) (hRl : (rest.map fun v => v.category).sum + (13 * (names.length + 1) + 43) ≤ R.locals) (hRc : cells + 1 ≤ R.cells) (hRs : slots + 6 ≤ R.slots) {mc ms : Nat} (hc : cells + 1 ≤ mc) (hs : slots + 6 ≤ ms) :
    W p l e R s m args below meth c H locs cells slots (vx_MQ below Qc (gXC D cls A ws) args s mc ms A) (F0 m pc ls rest) := by
  obtain ⟨sa, hstr⟩ := hX.2.2 _ htx
  exact vx_throwS hexec hb hl hown hcls hnames hk hini hstr (vx_hat hat1 hat2 hat3) hgood hX.1 hX.2.1 hS hsize d0 d3 d4 d6 d9 (fun x hx => absurd hx (hex x)) hRf hRl hRc hRs hlocks (fun t h1 h2 h3 => gXC.of hP hD hS h2 h3) hS.2.2 hc hs
theorem g_throwSW (hexec : p.tables.exec = Jvm.exec) (hb : c.code = cc) (hl : l.stackTraces = false) {cls text : String} {names : List String} {ik is ic : Nat} {B : List Cond} {Qc : Array Value → State → Outcome → State → Prop}
    (hown : s.vm.findClass RX6 = some m.cls) (hcls : Bundle.fit cls = true) (hnames : ∀ n ∈ names, Bundle.fit n = true) (hk : (Cond.classLink RX6 ik cls).before args s = true) (hini : (Cond.initialized cls).before args s = true) (htx : (is, text) ∈ gTexts)
    (hat1 : ∀ w ∈ (vx_atS RX6 ic cls names).filter goodWord, w.before args s = true) (hat2 : ∀ w ∈ (vx_atS RX6 ic cls names).filter (fun w => !goodWord w), w ∈ B) (hat3 : ∀ w ∈ B, w.before args s = true)
    (hgood : ∀ w ∈ Cond.classLink RX6 ik cls :: Cond.initialized cls :: vx_atS RX6 ic cls names, vx_ot w = true) (hX : gX A s s.heap) (hS : va_S A s.heap H locs) (hP : gvP D vwCl ws H) (hD : gvD A ws) (hsize : ls.size = c.maxLocals) (hex : ∀ x ∈ c.exceptionTable.toList, False) (hlocks : meth.locks = false)
    (d0 : decode cc pc = .ok (.new ik, 3)) (d3 : decode cc (pc + 3) = .ok (.dup, 1)) (d4 : decode cc (pc + 4) = .ok (.ldc_w is, 3)) (d6 : decode cc (pc + 7) = .ok (.invokespecial ic, 3)) (d9 : decode cc (pc + 10) = .ok (.athrow, 1))
    (hRf : names.length + 3 < R.frames) (hRl : (rest.map fun v => v.category).sum + (13 * (names.length + 1) + 43) ≤ R.locals) (hRc : cells + 1 ≤ R.cells) (hRs : slots + 6 ≤ R.slots) {mc ms : Nat} (hc : cells + 1 ≤ mc) (hs : slots + 6 ≤ ms) :
    W p l e R s m args below meth c H locs cells slots (vx_MQ below Qc (gXC D cls A ws) args s mc ms A) (F0 m pc ls rest) := by
  obtain ⟨sa, hstr⟩ := hX.2.2 _ htx
  exact vx_throwSW hexec hb hl hown hcls hnames hk hini hstr (vx_hat hat1 hat2 hat3) hgood hX.1 hX.2.1 hS hsize d0 d3 d4 d6 d9 (fun x hx => absurd hx (hex x)) hRf hRl hRc hRs hlocks (fun t h1 h2 h3 => gXC.of hP hD hS h2 h3) hS.2.2 hc hs
theorem gcx_V_v {yy : MethodName} {bytes : ByteArray} {maxL nL n index : Nat} {ret : Option FieldType} {wsy : List Cond} {rm : Room} {Ts : List Cond} {own C : String} {b : Nat} {As st0 : List Value} {E : String} {Qc : Array Value → State → Outcome → State → Prop} (hM : gMxv l yy wsy rm D y (.ref b :: As) ws E) (F : CallFix p m c cc nL s args Ts own) (cw : CallW R s args own C index yy bytes maxL ret wsy rm rm.cells rm.slots n) (hE : gE D y s) (hX : gX A s s.heap) (hex : ∀ x ∈ c.exceptionTable.toList, False) (hlocks : meth.locks = false) (hP : gvP D vwCl ws H) (hD : gvD A ws) (hS : va_S A s.heap H locs) (hA : ∀ q : Nat, s.heap.size ≤ q → A q) (q0 : Nat) {ci : Nat} {fs : List Value} {cq : vw_C} (he : ws[q0]? = some (b, .inr (ci, fs))) (hc : vwCl[ci]? = some cq) (hC : cq.1 = C) (hst : st0 = As.reverse ++ .ref b :: rest) (hn : As.length = n) (hl : ls.size = nL) (hW : (rest.map fun v => v.category).sum ≤ 8) (hdg : decode cc pc = .ok (.invokevirtual index, 3)) (hf : cells + rm.cells ≤ R.cells ∧ slots + rm.slots ≤ R.slots) {mc ms : Nat} (hmc : cells + rm.cells ≤ mc) (hms : slots + rm.slots ≤ ms) : W p l e R s m args below meth c H locs cells slots (vx_MQ below Qc (gXC D E A ws) args s mc ms A) (F0 m pc ls st0) := by
  have hF := gFree hD hS hA
  refine vx_callv (vx_runV (As := As) (rest := rest) F (hM H.size) cw ⟨gBlindX, (by rw [← hC]; exact gv_recv hE.1 hP hc he), fun U hU hW => gHereX hP hD hE hX hS hA hU hW⟩ rfl hn hl hst (lv_room (pc := pc) (m := m) (ls := ls) (rest := st0) hW) hdg hf) hS (fun q _ h => hF q h) hF (fun q _ h => hF q h) ?_ (fun _ _ _ _ _ _ h => h.elim)
  intro E' ce q9 u t H1 locs1 ht hvm hp hB hz hk hS1 hcell hv hcl
  obtain ⟨rfl, hP1, hD1⟩ := hB
  rw [ht] at hP1
  exact vx_out (fun x hx => absurd hx (hex x)) hlocks hcell hv hcl (fun t2 h2 _ => gXC.of hP1 (hD1.weaken (fun _ _ _ h => hF _ h)) hS1 (by rw [h2]; exact Nat.le_refl _) (fun q _ => by rw [h2])) hS1.2.2 hmc hms
theorem gcx_S_v {yy : MethodName} {bytes : ByteArray} {maxL nL n index : Nat} {ret : Option FieldType} {wsy : List Cond} {rm : Room} {Ts : List Cond} {own : String} {As st0 : List Value} {E : String} {Qc : Array Value → State → Outcome → State → Prop} (hM : gMxv l yy wsy rm D y As ws E) (F : CallFix p m c cc nL s args Ts own) (cw : CallB R s args own index yy bytes maxL ret wsy rm rm.cells rm.slots n ∧ (Cond.static yy).before args s = true) (hE : gE D y s) (hX : gX A s s.heap) (hex : ∀ x ∈ c.exceptionTable.toList, False) (hlocks : meth.locks = false) (hP : gvP D vwCl ws H) (hD : gvD A ws) (hS : va_S A s.heap H locs) (hA : ∀ q : Nat, s.heap.size ≤ q → A q) (hst : st0 = As.reverse ++ rest) (hn : As.length = n) (hl : ls.size = nL) (hW : (rest.map fun v => v.category).sum ≤ 8) (hdg : decode cc pc = .ok (.invokestatic index, 3)) (hf : cells + rm.cells ≤ R.cells ∧ slots + rm.slots ≤ R.slots) {mc ms : Nat} (hmc : cells + rm.cells ≤ mc) (hms : slots + rm.slots ≤ ms) : W p l e R s m args below meth c H locs cells slots (vx_MQ below Qc (gXC D E A ws) args s mc ms A) (F0 m pc ls st0) := by
  have hF := gFree hD hS hA
  refine vx_callv (vx_runS (As := As) (rest := rest) F (hM H.size) cw ⟨gBlindX, fun U hU hW => gHereX hP hD hE hX hS hA hU hW⟩ rfl hn hl hst (lv_room (pc := pc) (m := m) (ls := ls) (rest := st0) hW) hdg hf) hS (fun q _ h => hF q h) hF (fun q _ h => hF q h) ?_ (fun _ _ _ _ _ _ h => h.elim)
  intro E' ce q9 u t H1 locs1 ht hvm hp hB hz hk hS1 hcell hv hcl
  obtain ⟨rfl, hP1, hD1⟩ := hB
  rw [ht] at hP1
  exact vx_out (fun x hx => absurd hx (hex x)) hlocks hcell hv hcl (fun t2 h2 _ => gXC.of hP1 (hD1.weaken (fun _ _ _ h => hF _ h)) hS1 (by rw [h2]; exact Nat.le_refl _) (fun q _ => by rw [h2])) hS1.2.2 hmc hms
end GLX
theorem hnest_r : Cond.declares (Bundle.initS "java/lang/RuntimeException") ∈ gNest := by decide +kernel
theorem hnest_e : Cond.declares (Bundle.initS "java/lang/Exception") ∈ gNest := by decide +kernel
theorem hnest_t : Cond.declares (Bundle.initS Bundle.tN) ∈ gNest := by decide +kernel
theorem hgood_72 : ∀ w ∈ Cond.classLink RX6 68 "java/lang/IllegalStateException" :: Cond.initialized "java/lang/IllegalStateException" :: vx_atS RX6 72 "java/lang/IllegalStateException" ["java/lang/RuntimeException", "java/lang/Exception"], vx_ot w = true := by decide +kernel
theorem hat2_72 : ∀ w ∈ (vx_atS RX6 72 "java/lang/IllegalStateException" ["java/lang/RuntimeException", "java/lang/Exception"]).filter (fun w => !goodWord w), w ∈ [Cond.castable "java/lang/IllegalStateException" "java/lang/IllegalStateException", Cond.declares (Bundle.initS "java/lang/RuntimeException"), Cond.declares (Bundle.initS "java/lang/Exception"), Cond.declares (Bundle.initS Bundle.tN)] := by decide +kernel
theorem hnest_72 : Cond.castable "java/lang/IllegalStateException" "java/lang/IllegalStateException" ∈ gNest := by decide +kernel
theorem htex_72 : ∀ n ∈ ["java/lang/RuntimeException", "java/lang/Exception"], Bundle.fit n = true := by decide +kernel
theorem hgood_137 : ∀ w ∈ Cond.classLink RX6 133 "java/lang/IndexOutOfBoundsException" :: Cond.initialized "java/lang/IndexOutOfBoundsException" :: vx_atS RX6 137 "java/lang/IndexOutOfBoundsException" ["java/lang/RuntimeException", "java/lang/Exception"], vx_ot w = true := by decide +kernel
theorem hat2_137 : ∀ w ∈ (vx_atS RX6 137 "java/lang/IndexOutOfBoundsException" ["java/lang/RuntimeException", "java/lang/Exception"]).filter (fun w => !goodWord w), w ∈ [Cond.castable "java/lang/IndexOutOfBoundsException" "java/lang/IndexOutOfBoundsException", Cond.declares (Bundle.initS "java/lang/RuntimeException"), Cond.declares (Bundle.initS "java/lang/Exception"), Cond.declares (Bundle.initS Bundle.tN)] := by decide +kernel
theorem hnest_137 : Cond.castable "java/lang/IndexOutOfBoundsException" "java/lang/IndexOutOfBoundsException" ∈ gNest := by decide +kernel
theorem htex_137 : ∀ n ∈ ["java/lang/RuntimeException", "java/lang/Exception"], Bundle.fit n = true := by decide +kernel
theorem hgood_266 : ∀ w ∈ Cond.classLink RX6 262 "java/lang/IllegalArgumentException" :: Cond.initialized "java/lang/IllegalArgumentException" :: vx_atS RX6 266 "java/lang/IllegalArgumentException" ["java/lang/RuntimeException", "java/lang/Exception"], vx_ot w = true := by decide +kernel
theorem hat2_266 : ∀ w ∈ (vx_atS RX6 266 "java/lang/IllegalArgumentException" ["java/lang/RuntimeException", "java/lang/Exception"]).filter (fun w => !goodWord w), w ∈ [Cond.castable "java/lang/IllegalArgumentException" "java/lang/IllegalArgumentException", Cond.declares (Bundle.initS "java/lang/RuntimeException"), Cond.declares (Bundle.initS "java/lang/Exception"), Cond.declares (Bundle.initS Bundle.tN)] := by decide +kernel
theorem hnest_266 : Cond.castable "java/lang/IllegalArgumentException" "java/lang/IllegalArgumentException" ∈ gNest := by decide +kernel
theorem htex_266 : ∀ n ∈ ["java/lang/RuntimeException", "java/lang/Exception"], Bundle.fit n = true := by decide +kernel
