/-! the law's calls: -1003 for what is not possible -/
theorem g_metZ {l : Launch} {yy : MethodName} {wsy wst : List Cond} {rm : Room} {D : va_G} {y : Nat → Nat} {e9 mi : Nat} {av : List Value} {ws : va_W} {post : Int32 → va_W → Prop} {cc : ByteArray} {maxL : Nat} {rt : FieldType} (hy : plainName yy.cls = true) (hw : wsy = Cond.code yy cc maxL (some rt) :: wst) (hlen : (lg_sl av).length ≤ maxL)
    (body : ∀ (p : Program) (e : Env) (s : State) (m : MethodId) (below : List Frame) (meth : Method) (c : Code) (A : Nat → Prop), p.tables.exec = Jvm.exec → c.code = cc → c.maxLocals = maxL → meth.sig.returnType = some rt → (∀ w ∈ wsy, w.before av.toArray s = true) → s.vm.findClass yy.cls = some m.cls → meth.locks = false → gE D y s → gvP D vwCl ws s.heap → gvD A ws → va_S A s.heap s.heap [] → (∀ q : Nat, s.heap.size ≤ q → A q) → gZ e9 mi A s s.heap → ∀ ls : Array Slot, lv_has ls maxL (lv_args 0 av) →
      W p l e rm s m av.toArray below meth c s.heap [] 0 0 (MQ below (va_Qi post (fun u => gPost D A u) A) av.toArray s rm.cells rm.slots A) (F0 m 0 ls [])) : gZi l yy wsy rm D y e9 mi av ws post := by
  intro sz
  refine Met.ofW (cc := cc) (maxL := maxL) (ret := some rt) hy hw ?_
  intro p e s m args below meth c s₁ B hml hv
  obtain ⟨rfl, ⟨hsz, hP, hE, hD0⟩, hZ⟩ := hv
  subst hsz
  have hl := lv_entry av (n := maxL) hlen
  rw [lg_entry_eq]
  exact body p e s m below meth c (gvA ws s.heap.size) B.exec B.bytes hml B.returns (atoms_spec (ws := wsy) B.pre) (findClass_of_methodNamed B.named) B.notSynchronized hE hP hD0.self va_S.rf (fun q h => Or.inr h) hZ _ hl
section GL13
variable {p : Program} {l : Launch} {e : Env} {R : Room} {s : State} {m : MethodId} {args : Array Value} {below : List Frame} {meth : Method} {c : Code} {H H0 : Heap} {locs : List Loc} {cells slots : Nat} {Q : State → Prop}
variable {cc : ByteArray} {pc : Nat} {ls : Array Slot} {rest : List Value} {D : va_G} {y : Nat → Nat} {A : Nat → Prop} {a : Nat} {ws : va_W}
theorem gcz_Sn_i {e9 mi : Nat} {yy : MethodName} {bytes : ByteArray} {maxL nL n index : Nat} {ret : Option FieldType} {wsy : List Cond} {rm : Room} {Ts : List Cond} {own : String} {As st0 : List Value} {post : Int32 → va_W → Prop} (hM : gZi l yy wsy rm D y e9 mi As ws post) (F : CallFix p m c cc nL s args Ts own) (cw : CallB R s args own index yy bytes maxL ret wsy rm rm.cells rm.slots n ∧ (Cond.static yy).before args s = true) (hE : gE D y s) (hZ : gZ e9 mi A s H0) (hP : gvP D vwCl ws H) (hD : gvD A ws) (hS : va_S A H0 H locs) (hA : ∀ q : Nat, H0.size ≤ q → A q) (hst : st0 = As.reverse ++ rest) (hn : As.length = n) (hl : ls.size = nL) (hW : (rest.map fun v => v.category).sum ≤ 8) (hdg : decode cc pc = .ok (.invokestatic index, 3)) (hf : cells + rm.cells ≤ R.cells ∧ slots + rm.slots ≤ R.slots)
    (kk : ∀ (r : Int32) (u : va_W) (H1 : Heap) (locs1 : List Loc), gvP D vwCl u H1 → gvD A u → va_S A H0 H1 locs1 → post r u → W p l e R s m args below meth c H1 locs1 (cells + rm.cells) (slots + rm.slots) Q (F0 m (pc + 3) ls (.int r :: rest))) : W p l e R s m args below meth c H locs cells slots Q (F0 m pc ls st0) := by
  have hF := gFree hD hS hA
  refine va_calli (va_runS (As := As) (rest := rest) F (hM H.size) cw ⟨gBlindZ, fun U hU hW => gHereZ hP hD hE hZ hS hA hU hW⟩ rfl hn hl hst (lv_room (pc := pc) (m := m) (ls := ls) (rest := st0) hW) hdg hf) hS (fun q _ h => hF q h) hF ?_
  intro r u t H1 locs1 ht hvm hp hB hz hk hS1
  obtain ⟨hP1, hD1⟩ := hB
  rw [ht] at hP1
  exact kk r u H1 locs1 hP1 (hD1.weaken (fun _ _ _ h => hF _ h)) hS1 hp
theorem gcz_SX {yy : MethodName} {bytes : ByteArray} {maxL nL n index : Nat} {ret : Option FieldType} {wsy : List Cond} {rm : Room} {Ts : List Cond} {own : String} {As st0 : List Value} {E : String} (hM : gMX l yy wsy rm D y As ws E) (F : CallFix p m c cc nL s args Ts own) (cw : CallB R s args own index yy bytes maxL ret wsy rm rm.cells rm.slots n ∧ (Cond.static yy).before args s = true) (hE : gE D y s) (hX : gX A s s.heap) (hP : gvP D vwCl ws H) (hD : gvD A ws) (hS : va_S A s.heap H locs) (hA : ∀ q : Nat, s.heap.size ≤ q → A q) (hst : st0 = As.reverse ++ rest) (hn : As.length = n) (hl : ls.size = nL) (hW : (rest.map fun v => v.category).sum ≤ 8) (hdg : decode cc pc = .ok (.invokestatic index, 3)) (hf : cells + rm.cells ≤ R.cells ∧ slots + rm.slots ≤ R.slots)
    (pre : List ExceptionTableEntry) (x : ExceptionTableEntry) (suf : List ExceptionTableEntry) (hsplit : c.exceptionTable.toList = pre ++ x :: suf) (hpass : ∀ z ∈ pre, covers z pc = false ∨ (z.catchType ≠ 0 ∧ ∃ nm : String, (Cond.classLink own z.catchType nm).before args s = true ∧ va_Nc E nm s)) (hx : covers x pc = true) (h0 : x.catchType ≠ 0) (hlink : (Cond.classLink own x.catchType E).before args s = true) (hcast : (Cond.castable E E).before args s = true)
    (kk : ∀ (q9 : Nat) (H1 : Heap) (locs1 : List Loc), gvP D vwCl ws H1 → gvD A ws → va_S A s.heap H1 locs1 → W p l e R s m args below meth c H1 locs1 (cells + rm.cells) (slots + rm.slots) Q (F0 m x.handlerPc ls [.ref q9])) : W p l e R s m args below meth c H locs cells slots Q (F0 m pc ls st0) := by
  have hF := gFree hD hS hA
  have hr := vx_runS (below := below) (meth := meth) (e := e) (H := H) (locs := locs) (As := As) (rest := rest) (g := F0 m pc ls st0) F (hM H.size) cw ⟨gBlindX, fun U hU hW => gHereX hP hD hE hX hS hA hU hW⟩ rfl hn hl hst (lv_room (pc := pc) (m := m) (ls := ls) (rest := st0) hW) hdg hf
  intro T hT X
  rcases hr T hT X with ⟨v, st₀, t, T', L, h0', X', hL, e1, e2, hbad, st⟩ | ⟨q, st₀, t, T', L, E', ce, h0', X', hL, e1, e2, ⟨u, hp, hB, hFF⟩, hce, hcv, hcl, st⟩
  · exact hbad.elim
  · obtain ⟨rfl, hP1, hD1⟩ := hB
    obtain ⟨k1, k2, k3⟩ := vx_keep h0' e1 hS (fun q _ h => hF q h) (fun q h => hF q h) hL hFF
    have hP2 : gvP D vwCl ws T'.heap := by rw [e1]; exact hP1
    obtain ⟨t2, a1, b1⟩ := vx_catch (rest := rest) (ls := ls) (pc := pc) F.2.2.2.1 pre x suf hsplit hpass hx h0 hlink hcast (by rw [e1]; exact hce) hcv hcl (kk q T'.heap (locs ++ L) hP2 (hD1.weaken (fun _ _ _ h => hF _ h)) k3) T' rfl X'
    exact ⟨t2, st.trans a1, b1⟩
end GL13
set_option maxRecDepth 100000 in
theorem c_L_links (l : Launch) {D : va_G} {y : Nat → Nat} {e9 mi : Nat} {ws : va_W} {rm : Room} {p_off a_off : Nat} {fs : List Value} {x0 x1 x2 x3 : Int32} {P : va_W → Prop} (hX : gZv l yX6_link wsX6_link rm D y e9 mi [.ref a_off, .int x0, .int x1, .int x2, .int x3] ws P) (ho : ws[p_off]? = some (a_off, .inr (7, fs))) : gZi l yL_links wsL_links { frames := rm.frames + 1, cells := rm.cells, slots := rm.slots, locals := 8 + (6 + 11) + rm.locals } D y e9 mi [.ref a_off, .int x0, .int x1, .int x2, .int x3] ws (fun r u => r = nI 0 ∧ P u) := by
  refine g_metZ (cc := cL_links) (maxL := 5) (by decide) rfl (Nat.le_of_ble_eq_true rfl) ?_
  intro p e s m below meth c A hx hb hml hr hts hown hlocks hE hP hD hS hA hZ ls hl
  have hown : s.vm.findClass RL = some m.cls := hown
  have hl : lv_has ls 5 [(0, .ref a_off), (1, .int x0), (2, .int x1), (3, .int x2), (4, .int x3)] := hl
  refine lv_aload_n hx hb dL_links_0 rfl (lv_at hl 0 rfl) ?_
  refine lv_iload_n hx hb dL_links_1 rfl (lv_at hl 1 rfl) ?_
  refine lv_iload_n hx hb dL_links_2 rfl (lv_at hl 2 rfl) ?_
  refine lv_iload_n hx hb dL_links_3 rfl (lv_at hl 3 rfl) ?_
  refine lv_iload hx hb dL_links_4 (lv_at hl 4 rfl) ?_
  refine gcz_V_v (As := [.int x0, .int x1, .int x2, .int x3]) (rest := []) hX ⟨hx, hb, hml, hown, hts⟩ (cwV 4 hts gL_links_X6_link rfl rfl rfl (by decide +kernel) ⟨Nat.le_refl _, Nat.le_refl _⟩) hE hZ hP hD hS hA _ ho rfl rfl rfl rfl hl.1 (Nat.le_of_ble_eq_true rfl) dL_links_6 ⟨Nat.le_of_eq (Nat.zero_add _), Nat.le_of_eq (Nat.zero_add _)⟩ (fun u H locs hP hD hS q => ?_)
  rw [Nat.zero_add, Nat.zero_add]
  refine lv_iconst (v := nI 0) hx hb dL_links_9 (by decide) ?_
  exact g_iret hx hb hr hlocks _ dL_links_10 hS hP hD ⟨rfl, q⟩
set_option maxRecDepth 100000 in
theorem x_L_links (l : Launch) {D : va_G} {y : Nat → Nat} {ws : va_W} {rm : Room} {p_off a_off : Nat} {fs : List Value} {x0 x1 x2 x3 : Int32} (hX : gMxv l yX6_link wsX6_link rm D y [.ref a_off, .int x0, .int x1, .int x2, .int x3] ws "java/lang/IllegalStateException") (ho : ws[p_off]? = some (a_off, .inr (7, fs))) : gMxi l yL_links wsL_links { frames := rm.frames + 1, cells := rm.cells, slots := rm.slots, locals := 8 + (6 + 11) + rm.locals } D y [.ref a_off, .int x0, .int x1, .int x2, .int x3] ws "java/lang/IllegalStateException" := by
  refine g_metx_i (cc := cL_links) (maxL := 5) (by decide) rfl (Nat.le_of_ble_eq_true rfl) ?_
  intro p e s m below meth c A hx hb hml hr hts hown hnm hlocks hE hP hD hS hA hex hXX ls hl
  have hown : s.vm.findClass RL = some m.cls := hown
  have hl : lv_has ls 5 [(0, .ref a_off), (1, .int x0), (2, .int x1), (3, .int x2), (4, .int x3)] := hl
  refine lv_aload_n hx hb dL_links_0 rfl (lv_at hl 0 rfl) ?_
  refine lv_iload_n hx hb dL_links_1 rfl (lv_at hl 1 rfl) ?_
  refine lv_iload_n hx hb dL_links_2 rfl (lv_at hl 2 rfl) ?_
  refine lv_iload_n hx hb dL_links_3 rfl (lv_at hl 3 rfl) ?_
  refine lv_iload hx hb dL_links_4 (lv_at hl 4 rfl) ?_
  refine gcx_V_v (R := { frames := rm.frames + 1, cells := rm.cells, slots := rm.slots, locals := 8 + (6 + 11) + rm.locals }) (As := [.int x0, .int x1, .int x2, .int x3]) (rest := []) hX ⟨hx, hb, hml, hown, hts⟩ (cwV 4 hts gL_links_X6_link rfl rfl rfl (by decide +kernel) ⟨Nat.le_refl _, Nat.le_refl _⟩) hE hXX hex hlocks hP hD hS hA _ ho rfl rfl rfl rfl hl.1 (Nat.le_of_ble_eq_true rfl) dL_links_6 ⟨Nat.le_of_eq (Nat.zero_add _), Nat.le_of_eq (Nat.zero_add _)⟩ (Nat.le_of_eq (Nat.zero_add _)) (Nat.le_of_eq (Nat.zero_add _))
def nI32m1003 : Int32 := Int32.ofInt (-1003)

set_option maxRecDepth 100000 in
theorem okC_quote (l : Launch) {D : va_G} {y : Nat → Nat} {e9 mi : Nat} {ws : va_W} {rm : Room} {p_off a_off : Nat} {fs : List Value} {x0 x1 x2 x3 : Int32} {P : Int32 → va_W → Prop} (hX : gZi l yX6_quote wsX6_quote rm D y e9 mi [.ref a_off, .int x0, .int x1, .int x2, .int x3] ws P) (ho : ws[p_off]? = some (a_off, .inr (7, fs))) : gZi l yL_calls wsL_calls { frames := rm.frames + 1, cells := rm.cells, slots := rm.slots, locals := 8 + (6 + 11) + rm.locals } D y e9 mi [.ref a_off, .int (nI 0), .int x0, .int x1, .int x2, .int x3] ws P := by
  refine g_metL (cc := cL_calls) (maxL := 7) (hh := [(0, 94, 95, 33)]) (by decide) rfl (Nat.le_of_ble_eq_true rfl) ?_
  intro p e s m below meth c A hx hb hml hr hts hown hlocks hE hP hD hS hA hZ htab ls hl
  have hown : s.vm.findClass RL = some m.cls := hown
  have hl : lv_has ls 7 [(0, .ref a_off), (1, .int (nI 0)), (2, .int x0), (3, .int x1), (4, .int x2), (5, .int x3)] := hl
  refine lv_iload_n hx hb dL_calls_0 rfl (lv_at hl 1 rfl) ?_
  refine lv_if_ne (tgt := 17) hx hb dL_calls_1 (by decide) (fun h => absurd (by decide) h) (fun _ => ?_)
  refine lv_aload_n hx hb dL_calls_4 rfl (lv_at hl 0 rfl) ?_
  refine lv_iload_n hx hb dL_calls_5 rfl (lv_at hl 2 rfl) ?_
  refine lv_iload_n hx hb dL_calls_6 rfl (lv_at hl 3 rfl) ?_
  refine lv_iload hx hb dL_calls_7 (lv_at hl 4 rfl) ?_
  refine lv_iload hx hb dL_calls_9 (lv_at hl 5 rfl) ?_
  refine gcz_V_i (As := [.int x0, .int x1, .int x2, .int x3]) (rest := []) hX ⟨hx, hb, hml, hown, hts⟩ (cwV 4 hts gL_calls_X6_quote rfl rfl rfl (by decide +kernel) ⟨Nat.le_refl _, Nat.le_refl _⟩) hE hZ hP hD hS hA _ ho rfl rfl rfl rfl hl.1 (Nat.le_of_ble_eq_true rfl) dL_calls_11 ⟨Nat.le_of_eq (Nat.zero_add _), Nat.le_of_eq (Nat.zero_add _)⟩ (fun r u H locs hP hD hS q => ?_)
  rw [Nat.zero_add, Nat.zero_add]
  refine lv_goto (tgt := 94) hx hb dL_calls_14 (by decide) ?_
  exact g_iret hx hb hr hlocks _ dL_calls_94 hS hP hD q
set_option maxRecDepth 100000 in
theorem exC_quote (l : Launch) {D : va_G} {y : Nat → Nat} {e9 mi : Nat} {ws : va_W} {rm : Room} {p_off a_off : Nat} {fs : List Value} {x0 x1 x2 x3 : Int32} (hX : gMX l yX6_quote wsX6_quote rm D y [.ref a_off, .int x0, .int x1, .int x2, .int x3] ws "java/lang/IllegalStateException") (ho : ws[p_off]? = some (a_off, .inr (7, fs))) : gZi l yL_calls wsL_calls { frames := rm.frames + 1, cells := rm.cells, slots := rm.slots, locals := 8 + (6 + 11) + rm.locals } D y e9 mi [.ref a_off, .int (nI 0), .int x0, .int x1, .int x2, .int x3] ws (fun r w => r = nI32m1003 ∧ w = ws) := by
  refine g_metL (cc := cL_calls) (maxL := 7) (hh := [(0, 94, 95, 33)]) (by decide) rfl (Nat.le_of_ble_eq_true rfl) ?_
  intro p e s m below meth c A hx hb hml hr hts hown hlocks hE hP hD hS hA hZ htab ls hl
  have hown : s.vm.findClass RL = some m.cls := hown
  have hl : lv_has ls 7 [(0, .ref a_off), (1, .int (nI 0)), (2, .int x0), (3, .int x1), (4, .int x2), (5, .int x3)] := hl
  refine lv_iload_n hx hb dL_calls_0 rfl (lv_at hl 1 rfl) ?_
  refine lv_if_ne (tgt := 17) hx hb dL_calls_1 (by decide) (fun h => absurd (by decide) h) (fun _ => ?_)
  refine lv_aload_n hx hb dL_calls_4 rfl (lv_at hl 0 rfl) ?_
  refine lv_iload_n hx hb dL_calls_5 rfl (lv_at hl 2 rfl) ?_
  refine lv_iload_n hx hb dL_calls_6 rfl (lv_at hl 3 rfl) ?_
  refine lv_iload hx hb dL_calls_7 (lv_at hl 4 rfl) ?_
  refine lv_iload hx hb dL_calls_9 (lv_at hl 5 rfl) ?_
  refine gcz_VX (As := [.int x0, .int x1, .int x2, .int x3]) (rest := []) hX ⟨hx, hb, hml, hown, hts⟩ (cwV 4 hts gL_calls_X6_quote rfl rfl rfl (by decide +kernel) ⟨Nat.le_refl _, Nat.le_refl _⟩) hE hZ.1 hP hD hS hA _ ho rfl rfl rfl rfl hl.1 (Nat.le_of_ble_eq_true rfl) dL_calls_11 ⟨Nat.le_of_eq (Nat.zero_add _), Nat.le_of_eq (Nat.zero_add _)⟩ [] ⟨0, 94, 95, 33⟩ [] (htab.trans rfl) (fun _ h => absurd h List.not_mem_nil) (by decide) (by decide) (hts (.classLink RL 33 "java/lang/IllegalStateException") (by decide +kernel)) (va_Nw.use rfl (hE.2 _ hnest_72)) (fun q9 H locs hP hD hS => ?_)
  rw [Nat.zero_add, Nat.zero_add]
  refine lv_astore (lv' := [(6, .ref q9), (0, .ref a_off), (1, .int (nI 0)), (2, .int x0), (3, .int x1), (4, .int x2), (5, .int x3)]) hx hb dL_calls_95 hl (by decide) rfl (fun ls hl => ?_)
  refine lv_sipush (v := nI32m1003) hx hb dL_calls_97 (by decide) ?_
  exact g_iret hx hb hr hlocks ws dL_calls_100 hS hP hD ⟨rfl, rfl⟩
set_option maxRecDepth 100000 in
theorem okC_confirm (l : Launch) {D : va_G} {y : Nat → Nat} {e9 mi : Nat} {ws : va_W} {rm : Room} {p_off a_off : Nat} {fs : List Value} {x0 x1 x2 x3 : Int32} {P : Int32 → va_W → Prop} (hX : gZi l yX6_confirm wsX6_confirm rm D y e9 mi [.ref a_off, .int x0, .int x1] ws P) (hbo : ∀ r u, P r u → ∃ b : Bool, r = gb b) (ho : ws[p_off]? = some (a_off, .inr (7, fs))) : gZi l yL_calls wsL_calls { frames := rm.frames + 1, cells := rm.cells, slots := rm.slots, locals := 8 + (5 + 11) + rm.locals } D y e9 mi [.ref a_off, .int (nI 1), .int x0, .int x1, .int x2, .int x3] ws P := by
  refine g_metL (cc := cL_calls) (maxL := 7) (hh := [(0, 94, 95, 33)]) (by decide) rfl (Nat.le_of_ble_eq_true rfl) ?_
  intro p e s m below meth c A hx hb hml hr hts hown hlocks hE hP hD hS hA hZ htab ls hl
  have hown : s.vm.findClass RL = some m.cls := hown
  have hl : lv_has ls 7 [(0, .ref a_off), (1, .int (nI 1)), (2, .int x0), (3, .int x1), (4, .int x2), (5, .int x3)] := hl
  refine lv_iload_n hx hb dL_calls_0 rfl (lv_at hl 1 rfl) ?_
  refine lv_if_ne (tgt := 17) hx hb dL_calls_1 (by decide) (fun _ => ?_) (fun h => absurd h (by decide))
  refine lv_iload_n hx hb dL_calls_17 rfl (lv_at hl 1 rfl) ?_
  refine lv_iconst (v := nI 1) hx hb dL_calls_18 (by decide) ?_
  refine lv_icmp_ne (tgt := 39) hx hb dL_calls_19 (by decide) (fun h => absurd rfl h) (fun _ => ?_)
  refine lv_aload_n hx hb dL_calls_22 rfl (lv_at hl 0 rfl) ?_
  refine lv_iload_n hx hb dL_calls_23 rfl (lv_at hl 2 rfl) ?_
  refine lv_iload_n hx hb dL_calls_24 rfl (lv_at hl 3 rfl) ?_
  refine gcz_V_i (As := [.int x0, .int x1]) (rest := []) hX ⟨hx, hb, hml, hown, hts⟩ (cwV 2 hts gL_calls_X6_confirm rfl rfl rfl (by decide +kernel) ⟨Nat.le_refl _, Nat.le_refl _⟩) hE hZ hP hD hS hA _ ho rfl rfl rfl rfl hl.1 (Nat.le_of_ble_eq_true rfl) dL_calls_25 ⟨Nat.le_of_eq (Nat.zero_add _), Nat.le_of_eq (Nat.zero_add _)⟩ (fun r u H locs hP hD hS q => ?_)
  rw [Nat.zero_add, Nat.zero_add]
  obtain ⟨b, rfl⟩ := hbo r u q
  refine g_bif_eq (tgt := 35) hx hb dL_calls_28 (by decide) (fun hbb => ?_) (fun hbb => ?_) <;> subst hbb
  · refine lv_iconst (v := gb false) hx hb dL_calls_35 (by decide) ?_
    refine lv_goto (tgt := 94) hx hb dL_calls_36 (by decide) ?_
    exact g_iret hx hb hr hlocks _ dL_calls_94 hS hP hD q
  · refine lv_iconst (v := gb true) hx hb dL_calls_31 (by decide) ?_
    refine lv_goto (tgt := 94) hx hb dL_calls_32 (by decide) ?_
    exact g_iret hx hb hr hlocks _ dL_calls_94 hS hP hD q
set_option maxRecDepth 100000 in
theorem exC_confirm (l : Launch) {D : va_G} {y : Nat → Nat} {e9 mi : Nat} {ws : va_W} {rm : Room} {p_off a_off : Nat} {fs : List Value} {x0 x1 x2 x3 : Int32} (hX : gMX l yX6_confirm wsX6_confirm rm D y [.ref a_off, .int x0, .int x1] ws "java/lang/IllegalStateException") (ho : ws[p_off]? = some (a_off, .inr (7, fs))) : gZi l yL_calls wsL_calls { frames := rm.frames + 1, cells := rm.cells, slots := rm.slots, locals := 8 + (5 + 11) + rm.locals } D y e9 mi [.ref a_off, .int (nI 1), .int x0, .int x1, .int x2, .int x3] ws (fun r w => r = nI32m1003 ∧ w = ws) := by
  refine g_metL (cc := cL_calls) (maxL := 7) (hh := [(0, 94, 95, 33)]) (by decide) rfl (Nat.le_of_ble_eq_true rfl) ?_
  intro p e s m below meth c A hx hb hml hr hts hown hlocks hE hP hD hS hA hZ htab ls hl
  have hown : s.vm.findClass RL = some m.cls := hown
  have hl : lv_has ls 7 [(0, .ref a_off), (1, .int (nI 1)), (2, .int x0), (3, .int x1), (4, .int x2), (5, .int x3)] := hl
  refine lv_iload_n hx hb dL_calls_0 rfl (lv_at hl 1 rfl) ?_
  refine lv_if_ne (tgt := 17) hx hb dL_calls_1 (by decide) (fun _ => ?_) (fun h => absurd h (by decide))
  refine lv_iload_n hx hb dL_calls_17 rfl (lv_at hl 1 rfl) ?_
  refine lv_iconst (v := nI 1) hx hb dL_calls_18 (by decide) ?_
  refine lv_icmp_ne (tgt := 39) hx hb dL_calls_19 (by decide) (fun h => absurd rfl h) (fun _ => ?_)
  refine lv_aload_n hx hb dL_calls_22 rfl (lv_at hl 0 rfl) ?_
  refine lv_iload_n hx hb dL_calls_23 rfl (lv_at hl 2 rfl) ?_
  refine lv_iload_n hx hb dL_calls_24 rfl (lv_at hl 3 rfl) ?_
  refine gcz_VX (As := [.int x0, .int x1]) (rest := []) hX ⟨hx, hb, hml, hown, hts⟩ (cwV 2 hts gL_calls_X6_confirm rfl rfl rfl (by decide +kernel) ⟨Nat.le_refl _, Nat.le_refl _⟩) hE hZ.1 hP hD hS hA _ ho rfl rfl rfl rfl hl.1 (Nat.le_of_ble_eq_true rfl) dL_calls_25 ⟨Nat.le_of_eq (Nat.zero_add _), Nat.le_of_eq (Nat.zero_add _)⟩ [] ⟨0, 94, 95, 33⟩ [] (htab.trans rfl) (fun _ h => absurd h List.not_mem_nil) (by decide) (by decide) (hts (.classLink RL 33 "java/lang/IllegalStateException") (by decide +kernel)) (va_Nw.use rfl (hE.2 _ hnest_72)) (fun q9 H locs hP hD hS => ?_)
  rw [Nat.zero_add, Nat.zero_add]
  refine lv_astore (lv' := [(6, .ref q9), (0, .ref a_off), (1, .int (nI 1)), (2, .int x0), (3, .int x1), (4, .int x2), (5, .int x3)]) hx hb dL_calls_95 hl (by decide) rfl (fun ls hl => ?_)
  refine lv_sipush (v := nI32m1003) hx hb dL_calls_97 (by decide) ?_
  exact g_iret hx hb hr hlocks ws dL_calls_100 hS hP hD ⟨rfl, rfl⟩
set_option maxRecDepth 100000 in
theorem okC_links (l : Launch) {D : va_G} {y : Nat → Nat} {e9 mi : Nat} {ws : va_W} {rm : Room} {p_off a_off : Nat} {fs : List Value} {x0 x1 x2 x3 : Int32} {P : Int32 → va_W → Prop} (hX : gZi l yL_links wsL_links rm D y e9 mi [.ref a_off, .int x0, .int x1, .int x2, .int x3] ws P) (ho : ws[p_off]? = some (a_off, .inr (7, fs))) : gZi l yL_calls wsL_calls { frames := rm.frames + 1, cells := rm.cells, slots := rm.slots, locals := 8 + (5 + 11) + rm.locals } D y e9 mi [.ref a_off, .int (nI 2), .int x0, .int x1, .int x2, .int x3] ws P := by
  refine g_metL (cc := cL_calls) (maxL := 7) (hh := [(0, 94, 95, 33)]) (by decide) rfl (Nat.le_of_ble_eq_true rfl) ?_
  intro p e s m below meth c A hx hb hml hr hts hown hlocks hE hP hD hS hA hZ htab ls hl
  have hown : s.vm.findClass RL = some m.cls := hown
  have hl : lv_has ls 7 [(0, .ref a_off), (1, .int (nI 2)), (2, .int x0), (3, .int x1), (4, .int x2), (5, .int x3)] := hl
  refine lv_iload_n hx hb dL_calls_0 rfl (lv_at hl 1 rfl) ?_
  refine lv_if_ne (tgt := 17) hx hb dL_calls_1 (by decide) (fun _ => ?_) (fun h => absurd h (by decide))
  refine lv_iload_n hx hb dL_calls_17 rfl (lv_at hl 1 rfl) ?_
  refine lv_iconst (v := nI 1) hx hb dL_calls_18 (by decide) ?_
  refine lv_icmp_ne (tgt := 39) hx hb dL_calls_19 (by decide) (fun _ => ?_) (fun h => absurd h (by decide))
  refine lv_iload_n hx hb dL_calls_39 rfl (lv_at hl 1 rfl) ?_
  refine lv_iconst (v := nI 2) hx hb dL_calls_40 (by decide) ?_
  refine lv_icmp_ne (tgt := 57) hx hb dL_calls_41 (by decide) (fun h => absurd rfl h) (fun _ => ?_)
  refine lv_aload_n hx hb dL_calls_44 rfl (lv_at hl 0 rfl) ?_
  refine lv_iload_n hx hb dL_calls_45 rfl (lv_at hl 2 rfl) ?_
  refine lv_iload_n hx hb dL_calls_46 rfl (lv_at hl 3 rfl) ?_
  refine lv_iload hx hb dL_calls_47 (lv_at hl 4 rfl) ?_
  refine lv_iload hx hb dL_calls_49 (lv_at hl 5 rfl) ?_
  refine gcz_Sn_i (As := [.ref a_off, .int x0, .int x1, .int x2, .int x3]) (rest := []) hX ⟨hx, hb, hml, hown, hts⟩ (va_cwS 5 hts gL_calls_L_links rfl rfl rfl (by decide +kernel) ⟨Nat.le_refl _, Nat.le_refl _⟩) hE hZ hP hD hS hA rfl rfl hl.1 (Nat.le_of_ble_eq_true rfl) dL_calls_51 ⟨Nat.le_of_eq (Nat.zero_add _), Nat.le_of_eq (Nat.zero_add _)⟩ (fun r u H locs hP hD hS q => ?_)
  rw [Nat.zero_add, Nat.zero_add]
  refine lv_goto (tgt := 94) hx hb dL_calls_54 (by decide) ?_
  exact g_iret hx hb hr hlocks _ dL_calls_94 hS hP hD q
set_option maxRecDepth 100000 in
theorem exC_links (l : Launch) {D : va_G} {y : Nat → Nat} {e9 mi : Nat} {ws : va_W} {rm : Room} {p_off a_off : Nat} {fs : List Value} {x0 x1 x2 x3 : Int32} (hX : gMX l yL_links wsL_links rm D y [.ref a_off, .int x0, .int x1, .int x2, .int x3] ws "java/lang/IllegalStateException") (ho : ws[p_off]? = some (a_off, .inr (7, fs))) : gZi l yL_calls wsL_calls { frames := rm.frames + 1, cells := rm.cells, slots := rm.slots, locals := 8 + (5 + 11) + rm.locals } D y e9 mi [.ref a_off, .int (nI 2), .int x0, .int x1, .int x2, .int x3] ws (fun r w => r = nI32m1003 ∧ w = ws) := by
  refine g_metL (cc := cL_calls) (maxL := 7) (hh := [(0, 94, 95, 33)]) (by decide) rfl (Nat.le_of_ble_eq_true rfl) ?_
  intro p e s m below meth c A hx hb hml hr hts hown hlocks hE hP hD hS hA hZ htab ls hl
  have hown : s.vm.findClass RL = some m.cls := hown
  have hl : lv_has ls 7 [(0, .ref a_off), (1, .int (nI 2)), (2, .int x0), (3, .int x1), (4, .int x2), (5, .int x3)] := hl
  refine lv_iload_n hx hb dL_calls_0 rfl (lv_at hl 1 rfl) ?_
  refine lv_if_ne (tgt := 17) hx hb dL_calls_1 (by decide) (fun _ => ?_) (fun h => absurd h (by decide))
  refine lv_iload_n hx hb dL_calls_17 rfl (lv_at hl 1 rfl) ?_
  refine lv_iconst (v := nI 1) hx hb dL_calls_18 (by decide) ?_
  refine lv_icmp_ne (tgt := 39) hx hb dL_calls_19 (by decide) (fun _ => ?_) (fun h => absurd h (by decide))
  refine lv_iload_n hx hb dL_calls_39 rfl (lv_at hl 1 rfl) ?_
  refine lv_iconst (v := nI 2) hx hb dL_calls_40 (by decide) ?_
  refine lv_icmp_ne (tgt := 57) hx hb dL_calls_41 (by decide) (fun h => absurd rfl h) (fun _ => ?_)
  refine lv_aload_n hx hb dL_calls_44 rfl (lv_at hl 0 rfl) ?_
  refine lv_iload_n hx hb dL_calls_45 rfl (lv_at hl 2 rfl) ?_
  refine lv_iload_n hx hb dL_calls_46 rfl (lv_at hl 3 rfl) ?_
  refine lv_iload hx hb dL_calls_47 (lv_at hl 4 rfl) ?_
  refine lv_iload hx hb dL_calls_49 (lv_at hl 5 rfl) ?_
  refine gcz_SX (As := [.ref a_off, .int x0, .int x1, .int x2, .int x3]) (rest := []) hX ⟨hx, hb, hml, hown, hts⟩ (va_cwS 5 hts gL_calls_L_links rfl rfl rfl (by decide +kernel) ⟨Nat.le_refl _, Nat.le_refl _⟩) hE hZ.1 hP hD hS hA rfl rfl hl.1 (Nat.le_of_ble_eq_true rfl) dL_calls_51 ⟨Nat.le_of_eq (Nat.zero_add _), Nat.le_of_eq (Nat.zero_add _)⟩ [] ⟨0, 94, 95, 33⟩ [] (htab.trans rfl) (fun _ h => absurd h List.not_mem_nil) (by decide) (by decide) (hts (.classLink RL 33 "java/lang/IllegalStateException") (by decide +kernel)) (va_Nw.use rfl (hE.2 _ hnest_72)) (fun q9 H locs hP hD hS => ?_)
  rw [Nat.zero_add, Nat.zero_add]
  refine lv_astore (lv' := [(6, .ref q9), (0, .ref a_off), (1, .int (nI 2)), (2, .int x0), (3, .int x1), (4, .int x2), (5, .int x3)]) hx hb dL_calls_95 hl (by decide) rfl (fun ls hl => ?_)
  refine lv_sipush (v := nI32m1003) hx hb dL_calls_97 (by decide) ?_
  exact g_iret hx hb hr hlocks ws dL_calls_100 hS hP hD ⟨rfl, rfl⟩
set_option maxRecDepth 100000 in
theorem okC_fix (l : Launch) {D : va_G} {y : Nat → Nat} {e9 mi : Nat} {ws : va_W} {rm : Room} {p_off a_off : Nat} {fs : List Value} {x0 x1 x2 x3 : Int32} {P : Int32 → va_W → Prop} (hX : gZi l yX6_fix wsX6_fix rm D y e9 mi [.ref a_off, .int x0, .int x1, .int x2, .int x3] ws P) (ho : ws[p_off]? = some (a_off, .inr (7, fs))) : gZi l yL_calls wsL_calls { frames := rm.frames + 1, cells := rm.cells, slots := rm.slots, locals := 8 + (6 + 11) + rm.locals } D y e9 mi [.ref a_off, .int (nI 3), .int x0, .int x1, .int x2, .int x3] ws P := by
  refine g_metL (cc := cL_calls) (maxL := 7) (hh := [(0, 94, 95, 33)]) (by decide) rfl (Nat.le_of_ble_eq_true rfl) ?_
  intro p e s m below meth c A hx hb hml hr hts hown hlocks hE hP hD hS hA hZ htab ls hl
  have hown : s.vm.findClass RL = some m.cls := hown
  have hl : lv_has ls 7 [(0, .ref a_off), (1, .int (nI 3)), (2, .int x0), (3, .int x1), (4, .int x2), (5, .int x3)] := hl
  refine lv_iload_n hx hb dL_calls_0 rfl (lv_at hl 1 rfl) ?_
  refine lv_if_ne (tgt := 17) hx hb dL_calls_1 (by decide) (fun _ => ?_) (fun h => absurd h (by decide))
  refine lv_iload_n hx hb dL_calls_17 rfl (lv_at hl 1 rfl) ?_
  refine lv_iconst (v := nI 1) hx hb dL_calls_18 (by decide) ?_
  refine lv_icmp_ne (tgt := 39) hx hb dL_calls_19 (by decide) (fun _ => ?_) (fun h => absurd h (by decide))
  refine lv_iload_n hx hb dL_calls_39 rfl (lv_at hl 1 rfl) ?_
  refine lv_iconst (v := nI 2) hx hb dL_calls_40 (by decide) ?_
  refine lv_icmp_ne (tgt := 57) hx hb dL_calls_41 (by decide) (fun _ => ?_) (fun h => absurd h (by decide))
  refine lv_iload_n hx hb dL_calls_57 rfl (lv_at hl 1 rfl) ?_
  refine lv_iconst (v := nI 3) hx hb dL_calls_58 (by decide) ?_
  refine lv_icmp_ne (tgt := 75) hx hb dL_calls_59 (by decide) (fun h => absurd rfl h) (fun _ => ?_)
  refine lv_aload_n hx hb dL_calls_62 rfl (lv_at hl 0 rfl) ?_
  refine lv_iload_n hx hb dL_calls_63 rfl (lv_at hl 2 rfl) ?_
  refine lv_iload_n hx hb dL_calls_64 rfl (lv_at hl 3 rfl) ?_
  refine lv_iload hx hb dL_calls_65 (lv_at hl 4 rfl) ?_
  refine lv_iload hx hb dL_calls_67 (lv_at hl 5 rfl) ?_
  refine gcz_V_i (As := [.int x0, .int x1, .int x2, .int x3]) (rest := []) hX ⟨hx, hb, hml, hown, hts⟩ (cwV 4 hts gL_calls_X6_fix rfl rfl rfl (by decide +kernel) ⟨Nat.le_refl _, Nat.le_refl _⟩) hE hZ hP hD hS hA _ ho rfl rfl rfl rfl hl.1 (Nat.le_of_ble_eq_true rfl) dL_calls_69 ⟨Nat.le_of_eq (Nat.zero_add _), Nat.le_of_eq (Nat.zero_add _)⟩ (fun r u H locs hP hD hS q => ?_)
  rw [Nat.zero_add, Nat.zero_add]
  refine lv_goto (tgt := 94) hx hb dL_calls_72 (by decide) ?_
  exact g_iret hx hb hr hlocks _ dL_calls_94 hS hP hD q
set_option maxRecDepth 100000 in
theorem exC_fix (l : Launch) {D : va_G} {y : Nat → Nat} {e9 mi : Nat} {ws : va_W} {rm : Room} {p_off a_off : Nat} {fs : List Value} {x0 x1 x2 x3 : Int32} (hX : gMX l yX6_fix wsX6_fix rm D y [.ref a_off, .int x0, .int x1, .int x2, .int x3] ws "java/lang/IllegalStateException") (ho : ws[p_off]? = some (a_off, .inr (7, fs))) : gZi l yL_calls wsL_calls { frames := rm.frames + 1, cells := rm.cells, slots := rm.slots, locals := 8 + (6 + 11) + rm.locals } D y e9 mi [.ref a_off, .int (nI 3), .int x0, .int x1, .int x2, .int x3] ws (fun r w => r = nI32m1003 ∧ w = ws) := by
  refine g_metL (cc := cL_calls) (maxL := 7) (hh := [(0, 94, 95, 33)]) (by decide) rfl (Nat.le_of_ble_eq_true rfl) ?_
  intro p e s m below meth c A hx hb hml hr hts hown hlocks hE hP hD hS hA hZ htab ls hl
  have hown : s.vm.findClass RL = some m.cls := hown
  have hl : lv_has ls 7 [(0, .ref a_off), (1, .int (nI 3)), (2, .int x0), (3, .int x1), (4, .int x2), (5, .int x3)] := hl
  refine lv_iload_n hx hb dL_calls_0 rfl (lv_at hl 1 rfl) ?_
  refine lv_if_ne (tgt := 17) hx hb dL_calls_1 (by decide) (fun _ => ?_) (fun h => absurd h (by decide))
  refine lv_iload_n hx hb dL_calls_17 rfl (lv_at hl 1 rfl) ?_
  refine lv_iconst (v := nI 1) hx hb dL_calls_18 (by decide) ?_
  refine lv_icmp_ne (tgt := 39) hx hb dL_calls_19 (by decide) (fun _ => ?_) (fun h => absurd h (by decide))
  refine lv_iload_n hx hb dL_calls_39 rfl (lv_at hl 1 rfl) ?_
  refine lv_iconst (v := nI 2) hx hb dL_calls_40 (by decide) ?_
  refine lv_icmp_ne (tgt := 57) hx hb dL_calls_41 (by decide) (fun _ => ?_) (fun h => absurd h (by decide))
  refine lv_iload_n hx hb dL_calls_57 rfl (lv_at hl 1 rfl) ?_
  refine lv_iconst (v := nI 3) hx hb dL_calls_58 (by decide) ?_
  refine lv_icmp_ne (tgt := 75) hx hb dL_calls_59 (by decide) (fun h => absurd rfl h) (fun _ => ?_)
  refine lv_aload_n hx hb dL_calls_62 rfl (lv_at hl 0 rfl) ?_
  refine lv_iload_n hx hb dL_calls_63 rfl (lv_at hl 2 rfl) ?_
  refine lv_iload_n hx hb dL_calls_64 rfl (lv_at hl 3 rfl) ?_
  refine lv_iload hx hb dL_calls_65 (lv_at hl 4 rfl) ?_
  refine lv_iload hx hb dL_calls_67 (lv_at hl 5 rfl) ?_
  refine gcz_VX (As := [.int x0, .int x1, .int x2, .int x3]) (rest := []) hX ⟨hx, hb, hml, hown, hts⟩ (cwV 4 hts gL_calls_X6_fix rfl rfl rfl (by decide +kernel) ⟨Nat.le_refl _, Nat.le_refl _⟩) hE hZ.1 hP hD hS hA _ ho rfl rfl rfl rfl hl.1 (Nat.le_of_ble_eq_true rfl) dL_calls_69 ⟨Nat.le_of_eq (Nat.zero_add _), Nat.le_of_eq (Nat.zero_add _)⟩ [] ⟨0, 94, 95, 33⟩ [] (htab.trans rfl) (fun _ h => absurd h List.not_mem_nil) (by decide) (by decide) (hts (.classLink RL 33 "java/lang/IllegalStateException") (by decide +kernel)) (va_Nw.use rfl (hE.2 _ hnest_72)) (fun q9 H locs hP hD hS => ?_)
  rw [Nat.zero_add, Nat.zero_add]
  refine lv_astore (lv' := [(6, .ref q9), (0, .ref a_off), (1, .int (nI 3)), (2, .int x0), (3, .int x1), (4, .int x2), (5, .int x3)]) hx hb dL_calls_95 hl (by decide) rfl (fun ls hl => ?_)
  refine lv_sipush (v := nI32m1003) hx hb dL_calls_97 (by decide) ?_
  exact g_iret hx hb hr hlocks ws dL_calls_100 hS hP hD ⟨rfl, rfl⟩
set_option maxRecDepth 100000 in
theorem okC_contract (l : Launch) {D : va_G} {y : Nat → Nat} {e9 mi : Nat} {ws : va_W} {rm : Room} {p_off a_off : Nat} {fs : List Value} {x0 x1 x2 : Int32} {b9 : Bool} {P : Int32 → va_W → Prop} (hX : gZi l yX6_contract wsX6_contract rm D y e9 mi [.ref a_off, .int x0, .int x1, .int x2, .int (gb b9)] ws P) (ho : ws[p_off]? = some (a_off, .inr (7, fs))) : gZi l yL_calls wsL_calls { frames := rm.frames + 1, cells := rm.cells, slots := rm.slots, locals := 8 + (6 + 11) + rm.locals } D y e9 mi [.ref a_off, .int (nI 4), .int x0, .int x1, .int x2, .int (gb b9)] ws P := by
  refine g_metL (cc := cL_calls) (maxL := 7) (hh := [(0, 94, 95, 33)]) (by decide) rfl (Nat.le_of_ble_eq_true rfl) ?_
  intro p e s m below meth c A hx hb hml hr hts hown hlocks hE hP hD hS hA hZ htab ls hl
  have hown : s.vm.findClass RL = some m.cls := hown
  have hl : lv_has ls 7 [(0, .ref a_off), (1, .int (nI 4)), (2, .int x0), (3, .int x1), (4, .int x2), (5, .int (gb b9))] := hl
  refine lv_iload_n hx hb dL_calls_0 rfl (lv_at hl 1 rfl) ?_
  refine lv_if_ne (tgt := 17) hx hb dL_calls_1 (by decide) (fun _ => ?_) (fun h => absurd h (by decide))
  refine lv_iload_n hx hb dL_calls_17 rfl (lv_at hl 1 rfl) ?_
  refine lv_iconst (v := nI 1) hx hb dL_calls_18 (by decide) ?_
  refine lv_icmp_ne (tgt := 39) hx hb dL_calls_19 (by decide) (fun _ => ?_) (fun h => absurd h (by decide))
  refine lv_iload_n hx hb dL_calls_39 rfl (lv_at hl 1 rfl) ?_
  refine lv_iconst (v := nI 2) hx hb dL_calls_40 (by decide) ?_
  refine lv_icmp_ne (tgt := 57) hx hb dL_calls_41 (by decide) (fun _ => ?_) (fun h => absurd h (by decide))
  refine lv_iload_n hx hb dL_calls_57 rfl (lv_at hl 1 rfl) ?_
  refine lv_iconst (v := nI 3) hx hb dL_calls_58 (by decide) ?_
  refine lv_icmp_ne (tgt := 75) hx hb dL_calls_59 (by decide) (fun _ => ?_) (fun h => absurd h (by decide))
  refine lv_aload_n hx hb dL_calls_75 rfl (lv_at hl 0 rfl) ?_
  refine lv_iload_n hx hb dL_calls_76 rfl (lv_at hl 2 rfl) ?_
  refine lv_iload_n hx hb dL_calls_77 rfl (lv_at hl 3 rfl) ?_
  refine lv_iload hx hb dL_calls_78 (lv_at hl 4 rfl) ?_
  refine lv_iload hx hb dL_calls_80 (lv_at hl 5 rfl) ?_
  refine lv_iconst (v := nI 1) hx hb dL_calls_82 (by decide) ?_
  cases b9
  · refine lv_icmp_ne (tgt := 90) hx hb dL_calls_83 (by decide) (fun _ => ?_) (fun h => absurd h (by decide))
    refine lv_iconst (v := gb false) hx hb dL_calls_90 (by decide) ?_
    refine gcz_V_i (As := [.int x0, .int x1, .int x2, .int (gb false)]) (rest := []) hX ⟨hx, hb, hml, hown, hts⟩ (cwV 4 hts gL_calls_X6_contract rfl rfl rfl (by decide +kernel) ⟨Nat.le_refl _, Nat.le_refl _⟩) hE hZ hP hD hS hA _ ho rfl rfl rfl rfl hl.1 (Nat.le_of_ble_eq_true rfl) dL_calls_91 ⟨Nat.le_of_eq (Nat.zero_add _), Nat.le_of_eq (Nat.zero_add _)⟩ (fun r u H locs hP hD hS q => ?_)
    rw [Nat.zero_add, Nat.zero_add]
    exact g_iret hx hb hr hlocks _ dL_calls_94 hS hP hD q
  · refine lv_icmp_ne (tgt := 90) hx hb dL_calls_83 (by decide) (fun h => absurd (by decide) h) (fun _ => ?_)
    refine lv_iconst (v := gb true) hx hb dL_calls_86 (by decide) ?_
    refine lv_goto (tgt := 91) hx hb dL_calls_87 (by decide) ?_
    refine gcz_V_i (As := [.int x0, .int x1, .int x2, .int (gb true)]) (rest := []) hX ⟨hx, hb, hml, hown, hts⟩ (cwV 4 hts gL_calls_X6_contract rfl rfl rfl (by decide +kernel) ⟨Nat.le_refl _, Nat.le_refl _⟩) hE hZ hP hD hS hA _ ho rfl rfl rfl rfl hl.1 (Nat.le_of_ble_eq_true rfl) dL_calls_91 ⟨Nat.le_of_eq (Nat.zero_add _), Nat.le_of_eq (Nat.zero_add _)⟩ (fun r u H locs hP hD hS q => ?_)
    rw [Nat.zero_add, Nat.zero_add]
    exact g_iret hx hb hr hlocks _ dL_calls_94 hS hP hD q
set_option maxRecDepth 100000 in
theorem exC_contract (l : Launch) {D : va_G} {y : Nat → Nat} {e9 mi : Nat} {ws : va_W} {rm : Room} {p_off a_off : Nat} {fs : List Value} {x0 x1 x2 : Int32} {b9 : Bool} (hX : gMX l yX6_contract wsX6_contract rm D y [.ref a_off, .int x0, .int x1, .int x2, .int (gb b9)] ws "java/lang/IllegalStateException") (ho : ws[p_off]? = some (a_off, .inr (7, fs))) : gZi l yL_calls wsL_calls { frames := rm.frames + 1, cells := rm.cells, slots := rm.slots, locals := 8 + (6 + 11) + rm.locals } D y e9 mi [.ref a_off, .int (nI 4), .int x0, .int x1, .int x2, .int (gb b9)] ws (fun r w => r = nI32m1003 ∧ w = ws) := by
  refine g_metL (cc := cL_calls) (maxL := 7) (hh := [(0, 94, 95, 33)]) (by decide) rfl (Nat.le_of_ble_eq_true rfl) ?_
  intro p e s m below meth c A hx hb hml hr hts hown hlocks hE hP hD hS hA hZ htab ls hl
  have hown : s.vm.findClass RL = some m.cls := hown
  have hl : lv_has ls 7 [(0, .ref a_off), (1, .int (nI 4)), (2, .int x0), (3, .int x1), (4, .int x2), (5, .int (gb b9))] := hl
  refine lv_iload_n hx hb dL_calls_0 rfl (lv_at hl 1 rfl) ?_
  refine lv_if_ne (tgt := 17) hx hb dL_calls_1 (by decide) (fun _ => ?_) (fun h => absurd h (by decide))
  refine lv_iload_n hx hb dL_calls_17 rfl (lv_at hl 1 rfl) ?_
  refine lv_iconst (v := nI 1) hx hb dL_calls_18 (by decide) ?_
  refine lv_icmp_ne (tgt := 39) hx hb dL_calls_19 (by decide) (fun _ => ?_) (fun h => absurd h (by decide))
  refine lv_iload_n hx hb dL_calls_39 rfl (lv_at hl 1 rfl) ?_
  refine lv_iconst (v := nI 2) hx hb dL_calls_40 (by decide) ?_
  refine lv_icmp_ne (tgt := 57) hx hb dL_calls_41 (by decide) (fun _ => ?_) (fun h => absurd h (by decide))
  refine lv_iload_n hx hb dL_calls_57 rfl (lv_at hl 1 rfl) ?_
  refine lv_iconst (v := nI 3) hx hb dL_calls_58 (by decide) ?_
  refine lv_icmp_ne (tgt := 75) hx hb dL_calls_59 (by decide) (fun _ => ?_) (fun h => absurd h (by decide))
  refine lv_aload_n hx hb dL_calls_75 rfl (lv_at hl 0 rfl) ?_
  refine lv_iload_n hx hb dL_calls_76 rfl (lv_at hl 2 rfl) ?_
  refine lv_iload_n hx hb dL_calls_77 rfl (lv_at hl 3 rfl) ?_
  refine lv_iload hx hb dL_calls_78 (lv_at hl 4 rfl) ?_
  refine lv_iload hx hb dL_calls_80 (lv_at hl 5 rfl) ?_
  refine lv_iconst (v := nI 1) hx hb dL_calls_82 (by decide) ?_
  cases b9
  · refine lv_icmp_ne (tgt := 90) hx hb dL_calls_83 (by decide) (fun _ => ?_) (fun h => absurd h (by decide))
    refine lv_iconst (v := gb false) hx hb dL_calls_90 (by decide) ?_
    refine gcz_VX (As := [.int x0, .int x1, .int x2, .int (gb false)]) (rest := []) hX ⟨hx, hb, hml, hown, hts⟩ (cwV 4 hts gL_calls_X6_contract rfl rfl rfl (by decide +kernel) ⟨Nat.le_refl _, Nat.le_refl _⟩) hE hZ.1 hP hD hS hA _ ho rfl rfl rfl rfl hl.1 (Nat.le_of_ble_eq_true rfl) dL_calls_91 ⟨Nat.le_of_eq (Nat.zero_add _), Nat.le_of_eq (Nat.zero_add _)⟩ [] ⟨0, 94, 95, 33⟩ [] (htab.trans rfl) (fun _ h => absurd h List.not_mem_nil) (by decide) (by decide) (hts (.classLink RL 33 "java/lang/IllegalStateException") (by decide +kernel)) (va_Nw.use rfl (hE.2 _ hnest_72)) (fun q9 H locs hP hD hS => ?_)
    rw [Nat.zero_add, Nat.zero_add]
    refine lv_astore (lv' := [(6, .ref q9), (0, .ref a_off), (1, .int (nI 4)), (2, .int x0), (3, .int x1), (4, .int x2), (5, .int (gb false))]) hx hb dL_calls_95 hl (by decide) rfl (fun ls hl => ?_)
    refine lv_sipush (v := nI32m1003) hx hb dL_calls_97 (by decide) ?_
    exact g_iret hx hb hr hlocks ws dL_calls_100 hS hP hD ⟨rfl, rfl⟩
  · refine lv_icmp_ne (tgt := 90) hx hb dL_calls_83 (by decide) (fun h => absurd (by decide) h) (fun _ => ?_)
    refine lv_iconst (v := gb true) hx hb dL_calls_86 (by decide) ?_
    refine lv_goto (tgt := 91) hx hb dL_calls_87 (by decide) ?_
    refine gcz_VX (As := [.int x0, .int x1, .int x2, .int (gb true)]) (rest := []) hX ⟨hx, hb, hml, hown, hts⟩ (cwV 4 hts gL_calls_X6_contract rfl rfl rfl (by decide +kernel) ⟨Nat.le_refl _, Nat.le_refl _⟩) hE hZ.1 hP hD hS hA _ ho rfl rfl rfl rfl hl.1 (Nat.le_of_ble_eq_true rfl) dL_calls_91 ⟨Nat.le_of_eq (Nat.zero_add _), Nat.le_of_eq (Nat.zero_add _)⟩ [] ⟨0, 94, 95, 33⟩ [] (htab.trans rfl) (fun _ h => absurd h List.not_mem_nil) (by decide) (by decide) (hts (.classLink RL 33 "java/lang/IllegalStateException") (by decide +kernel)) (va_Nw.use rfl (hE.2 _ hnest_72)) (fun q9 H locs hP hD hS => ?_)
    rw [Nat.zero_add, Nat.zero_add]
    refine lv_astore (lv' := [(6, .ref q9), (0, .ref a_off), (1, .int (nI 4)), (2, .int x0), (3, .int x1), (4, .int x2), (5, .int (gb true))]) hx hb dL_calls_95 hl (by decide) rfl (fun ls hl => ?_)
    refine lv_sipush (v := nI32m1003) hx hb dL_calls_97 (by decide) ?_
    exact g_iret hx hb hr hlocks ws dL_calls_100 hS hP hD ⟨rfl, rfl⟩
