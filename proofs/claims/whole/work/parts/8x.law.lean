/-! the law: its script, what its tests ask of equal answers -/
def LWB (p : Program) (s : State) (m : MethodId) (c : Code) (meth : Method) (b L : Nat) (xs : Nat → Int32) (D : va_G) (y : Nat → Nat) (e9 mi : Nat) (A : Nat → Prop) : Prop :=
  p.tables.exec = Jvm.exec ∧ c.code = cL_law ∧ c.maxLocals = 9 ∧ (∀ w ∈ wsL_law, w.before #[Value.ref b] s = true) ∧ s.vm.findClass RL = some m.cls ∧ gE D y s ∧ gZ e9 mi A s s.heap ∧ va_X b L xs s s.heap ∧ b < s.heap.size ∧ ¬ A b ∧ (∀ q : Nat, s.heap.size ≤ q → A q) ∧ L ≤ 2560
abbrev l0L (i b a_off a_mod a_out a_outD : Nat) : List (Nat × Value) := [(5, .int (nI i)), (0, .ref b), (1, .ref a_off), (2, .ref a_mod), (3, .ref a_out), (4, .ref a_outD)]
abbrev rmT : Room := { frames := 0, cells := 0, slots := 0, locals := 0 }
def bz (x : Int32) : Bool := !decide (x = 0)
section GL7
variable {p : Program} {l : Launch} {e : Env} {R : Room} {s : State} {m : MethodId} {args : Array Value} {below : List Frame} {meth : Method} {c : Code} {H H0 : Heap} {locs : List Loc} {cells slots : Nat} {Q : State → Prop}
variable {cc : ByteArray} {pc : Nat} {ls : Array Slot} {rest : List Value} {D : va_G} {y : Nat → Nat} {A : Nat → Prop} {a : Nat} {ws : va_W}
theorem g_scr (hexec : p.tables.exec = Jvm.exec) (hb : c.code = cc) {b L : Nat} {xs : Nat → Int32} (hX : va_X b L xs s H0) (hbl : b < H0.size) (hbA : ¬ A b) (hS : va_S A H0 H locs) {k : Nat} (hk : k < L) (hL : L ≤ 2560) (hdg : decode cc pc = .ok (.iaload, 1))
    (kk : W p l e R s m args below meth c H locs cells slots Q (F0 m (pc + 1) ls (.int (xs k) :: rest))) : W p l e R s m args below meth c H locs cells slots Q (F0 m pc ls (.int (nI k) :: .ref b :: rest)) := by
  refine va_sld hexec hb hX hbl hbA hS (vp_in_nI hk (by omega)) hdg ?_
  rw [nI_clamp (by omega)]
  exact kk
theorem g_lcmpE (hexec : p.tables.exec = Jvm.exec) (hb : c.code = cc) {x : Int64} {off : Int} {tgt : Nat} (hdg : decode cc pc = .ok (.lcmp, 1)) (hdh : decode cc (pc + 1) = .ok (.ifCond .eq off, 3)) (ht : ((pc + 1 : Nat) : Int) + off = (tgt : Int))
    (kt : W p l e R s m args below meth c H locs cells slots Q (F0 m tgt ls rest)) : W p l e R s m args below meth c H locs cells slots Q (F0 m pc ls (.long x :: .long x :: rest)) := by
  refine W.lcmp hexec hb hdg ?_
  have e0 : lg_cmp x x = 0 := by unfold lg_cmp; simp
  rw [e0]
  exact lv_if_eq hexec hb hdh ht (fun _ => kt) (fun h => absurd rfl h)
theorem g_icmpE (hexec : p.tables.exec = Jvm.exec) (hb : c.code = cc) {x : Int32} {off : Int} {tgt : Nat} (hdg : decode cc pc = .ok (.if_icmp .eq off, 3)) (ht : (pc : Int) + off = (tgt : Int))
    (kt : W p l e R s m args below meth c H locs cells slots Q (F0 m tgt ls rest)) : W p l e R s m args below meth c H locs cells slots Q (F0 m pc ls (.int x :: .int x :: rest)) :=
  lv_icmp_eq hexec hb hdg ht (fun _ => kt) (fun h => absurd rfl h)
/-- x != 0 as a value -/
theorem g_bsel (hexec : p.tables.exec = Jvm.exec) (hb : c.code = cc) {x : Int32} {t1 t2 : Nat} {o1 o2 : Int} (d1 : decode cc pc = .ok (.ifCond .eq o1, 3)) (h1 : (pc : Int) + o1 = (t1 : Int)) (d2 : decode cc (pc + 3) = .ok (.iconst 1, 1)) (d3 : decode cc (pc + 3 + 1) = .ok (.goto o2, 3)) (h3 : ((pc + 3 + 1 : Nat) : Int) + o2 = (t2 : Int)) (d4 : decode cc t1 = .ok (.iconst 0, 1)) (h4 : t1 + 1 = t2)
    (kk : W p l e R s m args below meth c H locs cells slots Q (F0 m t2 ls (.int (gb (bz x)) :: rest))) : W p l e R s m args below meth c H locs cells slots Q (F0 m pc ls (.int x :: rest)) := by
  refine lv_if_eq hexec hb d1 h1 (fun h => ?_) (fun h => ?_)
  · refine lv_iconst (v := gb (bz x)) hexec hb d4 (by rw [h]; decide) ?_
    rw [h4]; exact kk
  · refine lv_iconst (v := gb (bz x)) hexec hb d2 (by rw [show bz x = true by simp [bz, h]]; decide) ?_
    exact lv_goto hexec hb d3 h3 kk
/-- b ? 1L : 0L as a value -/
theorem g_lsel (hexec : p.tables.exec = Jvm.exec) (hb : c.code = cc) {x : Int32} {t1 t2 : Nat} {o1 o2 : Int} (d1 : decode cc pc = .ok (.ifCond .eq o1, 3)) (h1 : (pc : Int) + o1 = (t1 : Int)) (d2 : decode cc (pc + 3) = .ok (.lconst 1, 1)) (d3 : decode cc (pc + 3 + 1) = .ok (.goto o2, 3)) (h3 : ((pc + 3 + 1 : Nat) : Int) + o2 = (t2 : Int)) (d4 : decode cc t1 = .ok (.lconst 0, 1)) (h4 : t1 + 1 = t2)
    (kk : W p l e R s m args below meth c H locs cells slots Q (F0 m t2 ls (.long (cvb x) :: rest))) : W p l e R s m args below meth c H locs cells slots Q (F0 m pc ls (.int x :: rest)) := by
  refine lv_if_eq hexec hb d1 h1 (fun h => ?_) (fun h => ?_)
  · refine lv_lconst (v := cvb x) hexec hb d4 (by rw [h]; decide) ?_
    rw [h4]; exact kk
  · refine lv_lconst (v := cvb x) hexec hb d2 (by rw [show cvb x = 1 by simp [cvb, h]]; decide) ?_
    exact lv_goto hexec hb d3 h3 kk
theorem Deq_n64 {x : UInt64} (h : vf_n64 x) : Deq x x := FP.Core.dcmp_refl (by
  have z := FP.Core.isNaN_bits x
  rw [← Bool.not_eq_true]
  intro h9
  have := z.mp h9
  unfold vf_n64 at h
  rw [UInt64.le_iff_toNat_le, FP.Core.mask_toNat, show (0x7ff0000000000000 : UInt64).toNat = 9218868437227405312 from by decide] at h
  omega)
end GL7

set_option maxHeartbeats 4000000 in
set_option maxRecDepth 100000 in
theorem law_item {p : Program} {l : Launch} {e : Env} {s : State} {m : MethodId} {below : List Frame} {meth : Method} {c : Code} {H : Heap} {locs : List Loc} {cells slots : Nat} {Q : State → Prop} {ls : Array Slot} {D : va_G} {y : Nat → Nat} {A : Nat → Prop} {ws : va_W} {b L e9 mi : Nat} {xs : Nat → Int32} {i a_off a_mod a_out a_outD : Nat} {rL rM : Room} {P1 : Int32 → va_W → Prop} {P2 : Int32 → va_W → Int32 → va_W → Prop}
    (hB : LWB p s m c meth b L xs D y e9 mi A) (hP : gvP D vwCl ws H) (hD : gvD A ws) (hS : va_S A s.heap H locs) (hl : lv_has ls 9 (l0L i b a_off a_mod a_out a_outD)) (hi : i + 5 ≤ L)
    (hL : gZi l yL_item wsL_item rL D y e9 mi [.ref a_off, .int (xs (i + 1)), .int (xs (i + 2)), .int (xs (i + 3)), .ref a_out] ws P1)
    (hM : ∀ r u, P1 r u → gZi l yX7_item wsX7_item rM D y e9 mi [.ref a_mod, .int (xs (i + 1)), .int (xs (i + 2)), .int (xs (i + 3))] u (P2 r u))
    (hm : ∀ r u, P1 r u → ∃ (q : Nat) (fs : List Value), u[q]? = some (a_mod, Sum.inr (8, fs)))
    (hm2 : ∀ r u v w, P1 r u → P2 r u v w → ∃ (q : Nat) (fs : List Value), w[q]? = some (a_mod, Sum.inr (8, fs)))
    (hT : ∀ r u v w, P1 r u → P2 r u v w → gZi l yX7_thrown wsX7_thrown rmT D y e9 mi [.ref a_mod] w (fun t w' => r = t ∧ w = w'))
    (hO : ∀ r u v w, P1 r u → P2 r u v w → r = nI 0 → ∃ (q : Nat) (o : Nat → Int64), w[q]? = some (a_out, eJ y 1 o) ∧ o 0 = v.toInt64)
    (hRL : rL.frames + 1 ≤ room_1.frames ∧ 8 + (6 + 11) + rL.locals ≤ room_1.locals) (hRM : rM.frames + 1 ≤ room_1.frames ∧ 8 + (4 + 11) + rM.locals ≤ room_1.locals)
    (hC : cells + rL.cells + rM.cells ≤ 601024 ∧ slots + rL.slots + rM.slots ≤ 7293034)
    (kk : ∀ (r : Int32) (u : va_W) (v : Int32) (w : va_W) (H : Heap) (locs : List Loc) (ls : Array Slot), P1 r u → P2 r u v w → gvP D vwCl w H → gvD A w → va_S A s.heap H locs → lv_has ls 9 (l0L i b a_off a_mod a_out a_outD) → W p l e room_1 s m #[.ref b] below meth c H locs (cells + rL.cells + rM.cells) (slots + rL.slots + rM.slots) Q (F0 m 2166 ls [])) : W p l e room_1 s m #[.ref b] below meth c H locs cells slots Q (F0 m 164 ls []) := by
  obtain ⟨hx, hb, hml, hts, hown, hE, hZ, hX, hbl, hbA, hA, hL9⟩ := hB
  refine lv_aload_n hx hb dL_law_164 rfl (lv_at hl 2 rfl) ?_
  refine lv_aload_n hx hb dL_law_165 rfl (lv_at hl 1 rfl) ?_
  refine lv_iload hx hb dL_law_166 (lv_at hl 0 rfl) ?_
  refine lv_iconst (v := nI 1) hx hb dL_law_168 (by decide) ?_
  refine g_iadd hx hb dL_law_169 (nI_add _ _) ?_
  refine g_scr hx hb hX hbl hbA hS (by omega) hL9 dL_law_170 ?_
  refine lv_aload_n hx hb dL_law_171 rfl (lv_at hl 1 rfl) ?_
  refine lv_iload hx hb dL_law_172 (lv_at hl 0 rfl) ?_
  refine lv_iconst (v := nI 2) hx hb dL_law_174 (by decide) ?_
  refine g_iadd hx hb dL_law_175 (nI_add _ _) ?_
  refine g_scr hx hb hX hbl hbA hS (by omega) hL9 dL_law_176 ?_
  refine lv_aload_n hx hb dL_law_177 rfl (lv_at hl 1 rfl) ?_
  refine lv_iload hx hb dL_law_178 (lv_at hl 0 rfl) ?_
  refine lv_iconst (v := nI 3) hx hb dL_law_180 (by decide) ?_
  refine g_iadd hx hb dL_law_181 (nI_add _ _) ?_
  refine g_scr hx hb hX hbl hbA hS (by omega) hL9 dL_law_182 ?_
  refine lv_aload_n hx hb dL_law_183 rfl (lv_at hl 4 rfl) ?_
  refine gcz_S_i (As := [.ref a_off, .int (xs (i + 1)), .int (xs (i + 2)), .int (xs (i + 3)), .ref a_out]) (rest := []) hL ⟨hx, hb, hml, hown, hts⟩ (vx_cwSW 5 hts gL_law_L_item rfl rfl rfl (by decide +kernel) hRL) hE hZ hP hD hS hA rfl rfl hl.1 (Nat.le_of_ble_eq_true rfl) dL_law_184 ⟨by show _ ≤ 601024; omega, by show _ ≤ 7293034; omega⟩ (fun r u H locs hP hD hS q1 => ?_)
  refine lv_istore (lv' := [(6, .int r), (5, .int (nI i)), (0, .ref b), (1, .ref a_off), (2, .ref a_mod), (3, .ref a_out), (4, .ref a_outD)]) hx hb dL_law_187 hl (by decide) rfl (fun ls hl => ?_)
  refine lv_aload_n hx hb dL_law_189 rfl (lv_at hl 4 rfl) ?_
  refine lv_aload_n hx hb dL_law_190 rfl (lv_at hl 2 rfl) ?_
  refine lv_iload hx hb dL_law_191 (lv_at hl 1 rfl) ?_
  refine lv_iconst (v := nI 1) hx hb dL_law_193 (by decide) ?_
  refine g_iadd hx hb dL_law_194 (nI_add _ _) ?_
  refine g_scr hx hb hX hbl hbA hS (by omega) hL9 dL_law_195 ?_
  refine lv_aload_n hx hb dL_law_196 rfl (lv_at hl 2 rfl) ?_
  refine lv_iload hx hb dL_law_197 (lv_at hl 1 rfl) ?_
  refine lv_iconst (v := nI 2) hx hb dL_law_199 (by decide) ?_
  refine g_iadd hx hb dL_law_200 (nI_add _ _) ?_
  refine g_scr hx hb hX hbl hbA hS (by omega) hL9 dL_law_201 ?_
  refine lv_aload_n hx hb dL_law_202 rfl (lv_at hl 2 rfl) ?_
  refine lv_iload hx hb dL_law_203 (lv_at hl 1 rfl) ?_
  refine lv_iconst (v := nI 3) hx hb dL_law_205 (by decide) ?_
  refine g_iadd hx hb dL_law_206 (nI_add _ _) ?_
  refine g_scr hx hb hX hbl hbA hS (by omega) hL9 dL_law_207 ?_
  obtain ⟨q9, fs9, g9⟩ := hm r u q1
  refine gcz_V_i (As := [.int (xs (i + 1)), .int (xs (i + 2)), .int (xs (i + 3))]) (rest := []) (hM r u q1) ⟨hx, hb, hml, hown, hts⟩ (cwV 3 hts gL_law_X7_item rfl rfl rfl (by decide +kernel) hRM) hE hZ hP hD hS hA _ g9 rfl rfl rfl rfl hl.1 (Nat.le_of_ble_eq_true rfl) dL_law_208 ⟨by show _ ≤ 601024; omega, by show _ ≤ 7293034; omega⟩ (fun v w H locs hP hD hS q2 => ?_)
  refine lv_istore (lv' := [(7, .int v), (6, .int r), (5, .int (nI i)), (0, .ref b), (1, .ref a_off), (2, .ref a_mod), (3, .ref a_out), (4, .ref a_outD)]) hx hb dL_law_211 hl (by decide) rfl (fun ls hl => ?_)
  refine lv_aload_n hx hb dL_law_213 rfl (lv_at hl 5 rfl) ?_
  obtain ⟨q8, fs8, g8⟩ := hm2 r u v w q1 q2
  refine gcz_V_i (As := []) (rest := []) (hT r u v w q1 q2) ⟨hx, hb, hml, hown, hts⟩ (cwV 0 hts gL_law_X7_thrown rfl rfl rfl (by decide +kernel) ⟨Nat.le_of_ble_eq_true rfl, Nat.le_of_ble_eq_true rfl⟩) hE hZ hP hD hS hA _ g8 rfl rfl rfl rfl hl.1 (Nat.le_of_ble_eq_true rfl) dL_law_214 ⟨by show _ ≤ 601024; exact hC.1, by show _ ≤ 7293034; exact hC.2⟩ (fun t w1 H locs hP hD hS q3 => ?_)
  obtain ⟨rfl, rfl⟩ := q3
  refine lv_iload hx hb dL_law_217 (lv_at hl 1 rfl) ?_
  refine g_icmpE (tgt := 224) hx hb dL_law_219 (by decide) ?_
  refine lv_iload hx hb dL_law_224 (lv_at hl 1 rfl) ?_
  refine lv_if_ne (tgt := 241) hx hb dL_law_226 (by decide) (fun _ => ?_) (fun h0 => ?_)
  · exact lv_goto (tgt := 2166) hx hb dL_law_241 (by decide) (kk r u v w H locs ls q1 q2 hP hD hS (lv_sub hl [2, 3, 4, 5, 6, 7] rfl))
  have h0 : r = nI 0 := by rw [show nI 0 = 0 from by decide]; exact h0
  obtain ⟨q7, o, g7, ho⟩ := hO r u v w q1 q2 h0
  refine lv_aload_n hx hb dL_law_229 rfl (lv_at hl 6 rfl) ?_
  refine lv_iconst (v := nI 0) hx hb dL_law_230 (by decide) ?_
  refine g_lald hx hb hE hP _ g7 (by decide) (by decide) dL_law_231 ?_
  refine lv_iload hx hb dL_law_232 (lv_at hl 0 rfl) ?_
  refine lv_i2l (v := Int32.toInt64 v) hx hb dL_law_234 rfl ?_
  rw [ho]
  refine g_lcmpE (tgt := 241) hx hb dL_law_235 dL_law_236 (by decide) ?_
  exact lv_goto (tgt := 2166) hx hb dL_law_241 (by decide) (kk r u v w H locs ls q1 q2 hP hD hS (lv_sub hl [2, 3, 4, 5, 6, 7] rfl))
set_option maxHeartbeats 4000000 in
set_option maxRecDepth 100000 in
theorem law_quote {p : Program} {l : Launch} {e : Env} {s : State} {m : MethodId} {below : List Frame} {meth : Method} {c : Code} {H : Heap} {locs : List Loc} {cells slots : Nat} {Q : State → Prop} {ls : Array Slot} {D : va_G} {y : Nat → Nat} {A : Nat → Prop} {ws : va_W} {b L e9 mi : Nat} {xs : Nat → Int32} {i a_off a_mod a_out a_outD : Nat} {rL rM : Room} {P1 : Int32 → va_W → Prop} {P2 : Int32 → va_W → Int32 → va_W → Prop}
    (hB : LWB p s m c meth b L xs D y e9 mi A) (hP : gvP D vwCl ws H) (hD : gvD A ws) (hS : va_S A s.heap H locs) (hl : lv_has ls 9 (l0L i b a_off a_mod a_out a_outD)) (hi : i + 5 ≤ L)
    (hL : gZi l yL_quote wsL_quote rL D y e9 mi [.ref a_off, .int (xs (i + 1)), .int (xs (i + 2)), .int (xs (i + 3)), .int (xs (i + 4)), .ref a_out] ws P1)
    (hM : ∀ r u, P1 r u → gZi l yX7_quote wsX7_quote rM D y e9 mi [.ref a_mod, .int (xs (i + 1)), .int (xs (i + 2)), .int (xs (i + 3)), .int (xs (i + 4))] u (P2 r u))
    (hm : ∀ r u, P1 r u → ∃ (q : Nat) (fs : List Value), u[q]? = some (a_mod, Sum.inr (8, fs)))
    (hm2 : ∀ r u v w, P1 r u → P2 r u v w → ∃ (q : Nat) (fs : List Value), w[q]? = some (a_mod, Sum.inr (8, fs)))
    (hT : ∀ r u v w, P1 r u → P2 r u v w → gZi l yX7_thrown wsX7_thrown rmT D y e9 mi [.ref a_mod] w (fun t w' => r = t ∧ w = w'))
    (hO : ∀ r u v w, P1 r u → P2 r u v w → r = nI 0 → ∃ (q : Nat) (o : Nat → Int64), w[q]? = some (a_out, eJ y 1 o) ∧ o 0 = v.toInt64)
    (hRL : rL.frames + 1 ≤ room_1.frames ∧ 8 + (7 + 11) + rL.locals ≤ room_1.locals) (hRM : rM.frames + 1 ≤ room_1.frames ∧ 8 + (5 + 11) + rM.locals ≤ room_1.locals)
    (hC : cells + rL.cells + rM.cells ≤ 601024 ∧ slots + rL.slots + rM.slots ≤ 7293034)
    (kk : ∀ (r : Int32) (u : va_W) (v : Int32) (w : va_W) (H : Heap) (locs : List Loc) (ls : Array Slot), P1 r u → P2 r u v w → gvP D vwCl w H → gvD A w → va_S A s.heap H locs → lv_has ls 9 (l0L i b a_off a_mod a_out a_outD) → W p l e room_1 s m #[.ref b] below meth c H locs (cells + rL.cells + rM.cells) (slots + rL.slots + rM.slots) Q (F0 m 2166 ls [])) : W p l e room_1 s m #[.ref b] below meth c H locs cells slots Q (F0 m 244 ls []) := by
  obtain ⟨hx, hb, hml, hts, hown, hE, hZ, hX, hbl, hbA, hA, hL9⟩ := hB
  refine lv_aload_n hx hb dL_law_244 rfl (lv_at hl 2 rfl) ?_
  refine lv_aload_n hx hb dL_law_245 rfl (lv_at hl 1 rfl) ?_
  refine lv_iload hx hb dL_law_246 (lv_at hl 0 rfl) ?_
  refine lv_iconst (v := nI 1) hx hb dL_law_248 (by decide) ?_
  refine g_iadd hx hb dL_law_249 (nI_add _ _) ?_
  refine g_scr hx hb hX hbl hbA hS (by omega) hL9 dL_law_250 ?_
  refine lv_aload_n hx hb dL_law_251 rfl (lv_at hl 1 rfl) ?_
  refine lv_iload hx hb dL_law_252 (lv_at hl 0 rfl) ?_
  refine lv_iconst (v := nI 2) hx hb dL_law_254 (by decide) ?_
  refine g_iadd hx hb dL_law_255 (nI_add _ _) ?_
  refine g_scr hx hb hX hbl hbA hS (by omega) hL9 dL_law_256 ?_
  refine lv_aload_n hx hb dL_law_257 rfl (lv_at hl 1 rfl) ?_
  refine lv_iload hx hb dL_law_258 (lv_at hl 0 rfl) ?_
  refine lv_iconst (v := nI 3) hx hb dL_law_260 (by decide) ?_
  refine g_iadd hx hb dL_law_261 (nI_add _ _) ?_
  refine g_scr hx hb hX hbl hbA hS (by omega) hL9 dL_law_262 ?_
  refine lv_aload_n hx hb dL_law_263 rfl (lv_at hl 1 rfl) ?_
  refine lv_iload hx hb dL_law_264 (lv_at hl 0 rfl) ?_
  refine lv_iconst (v := nI 4) hx hb dL_law_266 (by decide) ?_
  refine g_iadd hx hb dL_law_267 (nI_add _ _) ?_
  refine g_scr hx hb hX hbl hbA hS (by omega) hL9 dL_law_268 ?_
  refine lv_aload_n hx hb dL_law_269 rfl (lv_at hl 4 rfl) ?_
  refine gcz_S_i (As := [.ref a_off, .int (xs (i + 1)), .int (xs (i + 2)), .int (xs (i + 3)), .int (xs (i + 4)), .ref a_out]) (rest := []) hL ⟨hx, hb, hml, hown, hts⟩ (vx_cwSW 6 hts gL_law_L_quote rfl rfl rfl (by decide +kernel) hRL) hE hZ hP hD hS hA rfl rfl hl.1 (Nat.le_of_ble_eq_true rfl) dL_law_270 ⟨by show _ ≤ 601024; omega, by show _ ≤ 7293034; omega⟩ (fun r u H locs hP hD hS q1 => ?_)
  refine lv_istore (lv' := [(6, .int r), (5, .int (nI i)), (0, .ref b), (1, .ref a_off), (2, .ref a_mod), (3, .ref a_out), (4, .ref a_outD)]) hx hb dL_law_273 hl (by decide) rfl (fun ls hl => ?_)
  refine lv_aload_n hx hb dL_law_275 rfl (lv_at hl 4 rfl) ?_
  refine lv_aload_n hx hb dL_law_276 rfl (lv_at hl 2 rfl) ?_
  refine lv_iload hx hb dL_law_277 (lv_at hl 1 rfl) ?_
  refine lv_iconst (v := nI 1) hx hb dL_law_279 (by decide) ?_
  refine g_iadd hx hb dL_law_280 (nI_add _ _) ?_
  refine g_scr hx hb hX hbl hbA hS (by omega) hL9 dL_law_281 ?_
  refine lv_aload_n hx hb dL_law_282 rfl (lv_at hl 2 rfl) ?_
  refine lv_iload hx hb dL_law_283 (lv_at hl 1 rfl) ?_
  refine lv_iconst (v := nI 2) hx hb dL_law_285 (by decide) ?_
  refine g_iadd hx hb dL_law_286 (nI_add _ _) ?_
  refine g_scr hx hb hX hbl hbA hS (by omega) hL9 dL_law_287 ?_
  refine lv_aload_n hx hb dL_law_288 rfl (lv_at hl 2 rfl) ?_
  refine lv_iload hx hb dL_law_289 (lv_at hl 1 rfl) ?_
  refine lv_iconst (v := nI 3) hx hb dL_law_291 (by decide) ?_
  refine g_iadd hx hb dL_law_292 (nI_add _ _) ?_
  refine g_scr hx hb hX hbl hbA hS (by omega) hL9 dL_law_293 ?_
  refine lv_aload_n hx hb dL_law_294 rfl (lv_at hl 2 rfl) ?_
  refine lv_iload hx hb dL_law_295 (lv_at hl 1 rfl) ?_
  refine lv_iconst (v := nI 4) hx hb dL_law_297 (by decide) ?_
  refine g_iadd hx hb dL_law_298 (nI_add _ _) ?_
  refine g_scr hx hb hX hbl hbA hS (by omega) hL9 dL_law_299 ?_
  obtain ⟨q9, fs9, g9⟩ := hm r u q1
  refine gcz_V_i (As := [.int (xs (i + 1)), .int (xs (i + 2)), .int (xs (i + 3)), .int (xs (i + 4))]) (rest := []) (hM r u q1) ⟨hx, hb, hml, hown, hts⟩ (cwV 4 hts gL_law_X7_quote rfl rfl rfl (by decide +kernel) hRM) hE hZ hP hD hS hA _ g9 rfl rfl rfl rfl hl.1 (Nat.le_of_ble_eq_true rfl) dL_law_300 ⟨by show _ ≤ 601024; omega, by show _ ≤ 7293034; omega⟩ (fun v w H locs hP hD hS q2 => ?_)
  refine lv_istore (lv' := [(7, .int v), (6, .int r), (5, .int (nI i)), (0, .ref b), (1, .ref a_off), (2, .ref a_mod), (3, .ref a_out), (4, .ref a_outD)]) hx hb dL_law_303 hl (by decide) rfl (fun ls hl => ?_)
  refine lv_aload_n hx hb dL_law_305 rfl (lv_at hl 5 rfl) ?_
  obtain ⟨q8, fs8, g8⟩ := hm2 r u v w q1 q2
  refine gcz_V_i (As := []) (rest := []) (hT r u v w q1 q2) ⟨hx, hb, hml, hown, hts⟩ (cwV 0 hts gL_law_X7_thrown rfl rfl rfl (by decide +kernel) ⟨Nat.le_of_ble_eq_true rfl, Nat.le_of_ble_eq_true rfl⟩) hE hZ hP hD hS hA _ g8 rfl rfl rfl rfl hl.1 (Nat.le_of_ble_eq_true rfl) dL_law_306 ⟨by show _ ≤ 601024; exact hC.1, by show _ ≤ 7293034; exact hC.2⟩ (fun t w1 H locs hP hD hS q3 => ?_)
  obtain ⟨rfl, rfl⟩ := q3
  refine lv_iload hx hb dL_law_309 (lv_at hl 1 rfl) ?_
  refine g_icmpE (tgt := 316) hx hb dL_law_311 (by decide) ?_
  refine lv_iload hx hb dL_law_316 (lv_at hl 1 rfl) ?_
  refine lv_if_ne (tgt := 333) hx hb dL_law_318 (by decide) (fun _ => ?_) (fun h0 => ?_)
  · exact lv_goto (tgt := 2166) hx hb dL_law_333 (by decide) (kk r u v w H locs ls q1 q2 hP hD hS (lv_sub hl [2, 3, 4, 5, 6, 7] rfl))
  have h0 : r = nI 0 := by rw [show nI 0 = 0 from by decide]; exact h0
  obtain ⟨q7, o, g7, ho⟩ := hO r u v w q1 q2 h0
  refine lv_aload_n hx hb dL_law_321 rfl (lv_at hl 6 rfl) ?_
  refine lv_iconst (v := nI 0) hx hb dL_law_322 (by decide) ?_
  refine g_lald hx hb hE hP _ g7 (by decide) (by decide) dL_law_323 ?_
  refine lv_iload hx hb dL_law_324 (lv_at hl 0 rfl) ?_
  refine lv_i2l (v := Int32.toInt64 v) hx hb dL_law_326 rfl ?_
  rw [ho]
  refine g_lcmpE (tgt := 333) hx hb dL_law_327 dL_law_328 (by decide) ?_
  exact lv_goto (tgt := 2166) hx hb dL_law_333 (by decide) (kk r u v w H locs ls q1 q2 hP hD hS (lv_sub hl [2, 3, 4, 5, 6, 7] rfl))
set_option maxHeartbeats 4000000 in
set_option maxRecDepth 100000 in
theorem law_confirm {p : Program} {l : Launch} {e : Env} {s : State} {m : MethodId} {below : List Frame} {meth : Method} {c : Code} {H : Heap} {locs : List Loc} {cells slots : Nat} {Q : State → Prop} {ls : Array Slot} {D : va_G} {y : Nat → Nat} {A : Nat → Prop} {ws : va_W} {b L e9 mi : Nat} {xs : Nat → Int32} {i a_off a_mod a_out a_outD : Nat} {rL rM : Room} {P1 : Int32 → va_W → Prop} {P2 : Int32 → va_W → Int32 → va_W → Prop}
    (hB : LWB p s m c meth b L xs D y e9 mi A) (hP : gvP D vwCl ws H) (hD : gvD A ws) (hS : va_S A s.heap H locs) (hl : lv_has ls 9 (l0L i b a_off a_mod a_out a_outD)) (hi : i + 5 ≤ L)
    (hL : gZi l yL_confirm wsL_confirm rL D y e9 mi [.ref a_off, .int (xs (i + 1)), .int (xs (i + 2)), .ref a_out] ws P1)
    (hM : ∀ r u, P1 r u → gZi l yX7_confirm wsX7_confirm rM D y e9 mi [.ref a_mod, .int (xs (i + 1)), .int (xs (i + 2))] u (P2 r u))
    (hm : ∀ r u, P1 r u → ∃ (q : Nat) (fs : List Value), u[q]? = some (a_mod, Sum.inr (8, fs)))
    (hm2 : ∀ r u v w, P1 r u → P2 r u v w → ∃ (q : Nat) (fs : List Value), w[q]? = some (a_mod, Sum.inr (8, fs)))
    (hT : ∀ r u v w, P1 r u → P2 r u v w → gZi l yX7_thrown wsX7_thrown rmT D y e9 mi [.ref a_mod] w (fun t w' => r = t ∧ w = w'))
    (hO : ∀ r u v w, P1 r u → P2 r u v w → r = nI 0 → ∃ (q : Nat) (o : Nat → Int64), w[q]? = some (a_out, eJ y 1 o) ∧ o 0 = cvb v)
    (hRL : rL.frames + 1 ≤ room_1.frames ∧ 8 + (5 + 11) + rL.locals ≤ room_1.locals) (hRM : rM.frames + 1 ≤ room_1.frames ∧ 8 + (4 + 11) + rM.locals ≤ room_1.locals)
    (hC : cells + rL.cells + rM.cells ≤ 601024 ∧ slots + rL.slots + rM.slots ≤ 7293034)
    (kk : ∀ (r : Int32) (u : va_W) (v : Int32) (w : va_W) (H : Heap) (locs : List Loc) (ls : Array Slot), P1 r u → P2 r u v w → gvP D vwCl w H → gvD A w → va_S A s.heap H locs → lv_has ls 9 (l0L i b a_off a_mod a_out a_outD) → W p l e room_1 s m #[.ref b] below meth c H locs (cells + rL.cells + rM.cells) (slots + rL.slots + rM.slots) Q (F0 m 2166 ls [])) : W p l e room_1 s m #[.ref b] below meth c H locs cells slots Q (F0 m 336 ls []) := by
  obtain ⟨hx, hb, hml, hts, hown, hE, hZ, hX, hbl, hbA, hA, hL9⟩ := hB
  refine lv_aload_n hx hb dL_law_336 rfl (lv_at hl 2 rfl) ?_
  refine lv_aload_n hx hb dL_law_337 rfl (lv_at hl 1 rfl) ?_
  refine lv_iload hx hb dL_law_338 (lv_at hl 0 rfl) ?_
  refine lv_iconst (v := nI 1) hx hb dL_law_340 (by decide) ?_
  refine g_iadd hx hb dL_law_341 (nI_add _ _) ?_
  refine g_scr hx hb hX hbl hbA hS (by omega) hL9 dL_law_342 ?_
  refine lv_aload_n hx hb dL_law_343 rfl (lv_at hl 1 rfl) ?_
  refine lv_iload hx hb dL_law_344 (lv_at hl 0 rfl) ?_
  refine lv_iconst (v := nI 2) hx hb dL_law_346 (by decide) ?_
  refine g_iadd hx hb dL_law_347 (nI_add _ _) ?_
  refine g_scr hx hb hX hbl hbA hS (by omega) hL9 dL_law_348 ?_
  refine lv_aload_n hx hb dL_law_349 rfl (lv_at hl 4 rfl) ?_
  refine gcz_S_i (As := [.ref a_off, .int (xs (i + 1)), .int (xs (i + 2)), .ref a_out]) (rest := []) hL ⟨hx, hb, hml, hown, hts⟩ (vx_cwSW 4 hts gL_law_L_confirm rfl rfl rfl (by decide +kernel) hRL) hE hZ hP hD hS hA rfl rfl hl.1 (Nat.le_of_ble_eq_true rfl) dL_law_350 ⟨by show _ ≤ 601024; omega, by show _ ≤ 7293034; omega⟩ (fun r u H locs hP hD hS q1 => ?_)
  refine lv_istore (lv' := [(6, .int r), (5, .int (nI i)), (0, .ref b), (1, .ref a_off), (2, .ref a_mod), (3, .ref a_out), (4, .ref a_outD)]) hx hb dL_law_353 hl (by decide) rfl (fun ls hl => ?_)
  refine lv_aload_n hx hb dL_law_355 rfl (lv_at hl 4 rfl) ?_
  refine lv_aload_n hx hb dL_law_356 rfl (lv_at hl 2 rfl) ?_
  refine lv_iload hx hb dL_law_357 (lv_at hl 1 rfl) ?_
  refine lv_iconst (v := nI 1) hx hb dL_law_359 (by decide) ?_
  refine g_iadd hx hb dL_law_360 (nI_add _ _) ?_
  refine g_scr hx hb hX hbl hbA hS (by omega) hL9 dL_law_361 ?_
  refine lv_aload_n hx hb dL_law_362 rfl (lv_at hl 2 rfl) ?_
  refine lv_iload hx hb dL_law_363 (lv_at hl 1 rfl) ?_
  refine lv_iconst (v := nI 2) hx hb dL_law_365 (by decide) ?_
  refine g_iadd hx hb dL_law_366 (nI_add _ _) ?_
  refine g_scr hx hb hX hbl hbA hS (by omega) hL9 dL_law_367 ?_
  obtain ⟨q9, fs9, g9⟩ := hm r u q1
  refine gcz_V_i (As := [.int (xs (i + 1)), .int (xs (i + 2))]) (rest := []) (hM r u q1) ⟨hx, hb, hml, hown, hts⟩ (cwV 2 hts gL_law_X7_confirm rfl rfl rfl (by decide +kernel) hRM) hE hZ hP hD hS hA _ g9 rfl rfl rfl rfl hl.1 (Nat.le_of_ble_eq_true rfl) dL_law_368 ⟨by show _ ≤ 601024; omega, by show _ ≤ 7293034; omega⟩ (fun v w H locs hP hD hS q2 => ?_)
  refine lv_istore (lv' := [(7, .int v), (6, .int r), (5, .int (nI i)), (0, .ref b), (1, .ref a_off), (2, .ref a_mod), (3, .ref a_out), (4, .ref a_outD)]) hx hb dL_law_371 hl (by decide) rfl (fun ls hl => ?_)
  refine lv_aload_n hx hb dL_law_373 rfl (lv_at hl 5 rfl) ?_
  obtain ⟨q8, fs8, g8⟩ := hm2 r u v w q1 q2
  refine gcz_V_i (As := []) (rest := []) (hT r u v w q1 q2) ⟨hx, hb, hml, hown, hts⟩ (cwV 0 hts gL_law_X7_thrown rfl rfl rfl (by decide +kernel) ⟨Nat.le_of_ble_eq_true rfl, Nat.le_of_ble_eq_true rfl⟩) hE hZ hP hD hS hA _ g8 rfl rfl rfl rfl hl.1 (Nat.le_of_ble_eq_true rfl) dL_law_374 ⟨by show _ ≤ 601024; exact hC.1, by show _ ≤ 7293034; exact hC.2⟩ (fun t w1 H locs hP hD hS q3 => ?_)
  obtain ⟨rfl, rfl⟩ := q3
  refine lv_iload hx hb dL_law_377 (lv_at hl 1 rfl) ?_
  refine g_icmpE (tgt := 384) hx hb dL_law_379 (by decide) ?_
  refine lv_iload hx hb dL_law_384 (lv_at hl 1 rfl) ?_
  refine lv_if_ne (tgt := 408) hx hb dL_law_386 (by decide) (fun _ => ?_) (fun h0 => ?_)
  · exact lv_goto (tgt := 2166) hx hb dL_law_408 (by decide) (kk r u v w H locs ls q1 q2 hP hD hS (lv_sub hl [2, 3, 4, 5, 6, 7] rfl))
  have h0 : r = nI 0 := by rw [show nI 0 = 0 from by decide]; exact h0
  obtain ⟨q7, o, g7, ho⟩ := hO r u v w q1 q2 h0
  refine lv_aload_n hx hb dL_law_389 rfl (lv_at hl 6 rfl) ?_
  refine lv_iconst (v := nI 0) hx hb dL_law_390 (by decide) ?_
  refine g_lald hx hb hE hP _ g7 (by decide) (by decide) dL_law_391 ?_
  refine lv_iload hx hb dL_law_392 (lv_at hl 0 rfl) ?_
  refine g_lsel (t1 := 401) (t2 := 402) hx hb dL_law_394 (by decide) dL_law_397 dL_law_398 (by decide) dL_law_401 rfl ?_
  rw [ho]
  refine g_lcmpE (tgt := 408) hx hb dL_law_402 dL_law_403 (by decide) ?_
  exact lv_goto (tgt := 2166) hx hb dL_law_408 (by decide) (kk r u v w H locs ls q1 q2 hP hD hS (lv_sub hl [2, 3, 4, 5, 6, 7] rfl))
set_option maxHeartbeats 4000000 in
set_option maxRecDepth 100000 in
theorem law_link {p : Program} {l : Launch} {e : Env} {s : State} {m : MethodId} {below : List Frame} {meth : Method} {c : Code} {H : Heap} {locs : List Loc} {cells slots : Nat} {Q : State → Prop} {ls : Array Slot} {D : va_G} {y : Nat → Nat} {A : Nat → Prop} {ws : va_W} {b L e9 mi : Nat} {xs : Nat → Int32} {i a_off a_mod a_out a_outD : Nat} {rL rM : Room} {P1 : Int32 → va_W → Prop} {P2 : Int32 → va_W → va_W → Prop}
    (hB : LWB p s m c meth b L xs D y e9 mi A) (hP : gvP D vwCl ws H) (hD : gvD A ws) (hS : va_S A s.heap H locs) (hl : lv_has ls 9 (l0L i b a_off a_mod a_out a_outD)) (hi : i + 5 ≤ L)
    (hL : gZi l yL_link wsL_link rL D y e9 mi [.ref a_off, .int (xs (i + 1)), .int (xs (i + 2)), .int (xs (i + 3)), .int (xs (i + 4))] ws P1)
    (hM : ∀ r u, P1 r u → gZv l yX7_link wsX7_link rM D y e9 mi [.ref a_mod, .int (xs (i + 1)), .int (xs (i + 2)), .int (xs (i + 3)), .int (xs (i + 4))] u (P2 r u))
    (hm : ∀ r u, P1 r u → ∃ (q : Nat) (fs : List Value), u[q]? = some (a_mod, Sum.inr (8, fs)))
    (hm2 : ∀ r u w, P1 r u → P2 r u w → ∃ (q : Nat) (fs : List Value), w[q]? = some (a_mod, Sum.inr (8, fs)))
    (hT : ∀ r u w, P1 r u → P2 r u w → gZi l yX7_thrown wsX7_thrown rmT D y e9 mi [.ref a_mod] w (fun t w' => r = t ∧ w = w'))
    (hRL : rL.frames + 1 ≤ room_1.frames ∧ 8 + (6 + 11) + rL.locals ≤ room_1.locals) (hRM : rM.frames + 1 ≤ room_1.frames ∧ 8 + (5 + 11) + rM.locals ≤ room_1.locals)
    (hC : cells + rL.cells + rM.cells ≤ 601024 ∧ slots + rL.slots + rM.slots ≤ 7293034)
    (kk : ∀ (r : Int32) (u : va_W) (w : va_W) (H : Heap) (locs : List Loc) (ls : Array Slot), P1 r u → P2 r u w → gvP D vwCl w H → gvD A w → va_S A s.heap H locs → lv_has ls 9 (l0L i b a_off a_mod a_out a_outD) → W p l e room_1 s m #[.ref b] below meth c H locs (cells + rL.cells + rM.cells) (slots + rL.slots + rM.slots) Q (F0 m 2166 ls [])) : W p l e room_1 s m #[.ref b] below meth c H locs cells slots Q (F0 m 411 ls []) := by
  obtain ⟨hx, hb, hml, hts, hown, hE, hZ, hX, hbl, hbA, hA, hL9⟩ := hB
  refine lv_aload_n hx hb dL_law_411 rfl (lv_at hl 2 rfl) ?_
  refine lv_aload_n hx hb dL_law_412 rfl (lv_at hl 1 rfl) ?_
  refine lv_iload hx hb dL_law_413 (lv_at hl 0 rfl) ?_
  refine lv_iconst (v := nI 1) hx hb dL_law_415 (by decide) ?_
  refine g_iadd hx hb dL_law_416 (nI_add _ _) ?_
  refine g_scr hx hb hX hbl hbA hS (by omega) hL9 dL_law_417 ?_
  refine lv_aload_n hx hb dL_law_418 rfl (lv_at hl 1 rfl) ?_
  refine lv_iload hx hb dL_law_419 (lv_at hl 0 rfl) ?_
  refine lv_iconst (v := nI 2) hx hb dL_law_421 (by decide) ?_
  refine g_iadd hx hb dL_law_422 (nI_add _ _) ?_
  refine g_scr hx hb hX hbl hbA hS (by omega) hL9 dL_law_423 ?_
  refine lv_aload_n hx hb dL_law_424 rfl (lv_at hl 1 rfl) ?_
  refine lv_iload hx hb dL_law_425 (lv_at hl 0 rfl) ?_
  refine lv_iconst (v := nI 3) hx hb dL_law_427 (by decide) ?_
  refine g_iadd hx hb dL_law_428 (nI_add _ _) ?_
  refine g_scr hx hb hX hbl hbA hS (by omega) hL9 dL_law_429 ?_
  refine lv_aload_n hx hb dL_law_430 rfl (lv_at hl 1 rfl) ?_
  refine lv_iload hx hb dL_law_431 (lv_at hl 0 rfl) ?_
  refine lv_iconst (v := nI 4) hx hb dL_law_433 (by decide) ?_
  refine g_iadd hx hb dL_law_434 (nI_add _ _) ?_
  refine g_scr hx hb hX hbl hbA hS (by omega) hL9 dL_law_435 ?_
  refine gcz_S_i (As := [.ref a_off, .int (xs (i + 1)), .int (xs (i + 2)), .int (xs (i + 3)), .int (xs (i + 4))]) (rest := []) hL ⟨hx, hb, hml, hown, hts⟩ (vx_cwSW 5 hts gL_law_L_link rfl rfl rfl (by decide +kernel) hRL) hE hZ hP hD hS hA rfl rfl hl.1 (Nat.le_of_ble_eq_true rfl) dL_law_436 ⟨by show _ ≤ 601024; omega, by show _ ≤ 7293034; omega⟩ (fun r u H locs hP hD hS q1 => ?_)
  refine lv_istore (lv' := [(6, .int r), (5, .int (nI i)), (0, .ref b), (1, .ref a_off), (2, .ref a_mod), (3, .ref a_out), (4, .ref a_outD)]) hx hb dL_law_439 hl (by decide) rfl (fun ls hl => ?_)
  refine lv_aload_n hx hb dL_law_441 rfl (lv_at hl 4 rfl) ?_
  refine lv_aload_n hx hb dL_law_442 rfl (lv_at hl 2 rfl) ?_
  refine lv_iload hx hb dL_law_443 (lv_at hl 1 rfl) ?_
  refine lv_iconst (v := nI 1) hx hb dL_law_445 (by decide) ?_
  refine g_iadd hx hb dL_law_446 (nI_add _ _) ?_
  refine g_scr hx hb hX hbl hbA hS (by omega) hL9 dL_law_447 ?_
  refine lv_aload_n hx hb dL_law_448 rfl (lv_at hl 2 rfl) ?_
  refine lv_iload hx hb dL_law_449 (lv_at hl 1 rfl) ?_
  refine lv_iconst (v := nI 2) hx hb dL_law_451 (by decide) ?_
  refine g_iadd hx hb dL_law_452 (nI_add _ _) ?_
  refine g_scr hx hb hX hbl hbA hS (by omega) hL9 dL_law_453 ?_
  refine lv_aload_n hx hb dL_law_454 rfl (lv_at hl 2 rfl) ?_
  refine lv_iload hx hb dL_law_455 (lv_at hl 1 rfl) ?_
  refine lv_iconst (v := nI 3) hx hb dL_law_457 (by decide) ?_
  refine g_iadd hx hb dL_law_458 (nI_add _ _) ?_
  refine g_scr hx hb hX hbl hbA hS (by omega) hL9 dL_law_459 ?_
  refine lv_aload_n hx hb dL_law_460 rfl (lv_at hl 2 rfl) ?_
  refine lv_iload hx hb dL_law_461 (lv_at hl 1 rfl) ?_
  refine lv_iconst (v := nI 4) hx hb dL_law_463 (by decide) ?_
  refine g_iadd hx hb dL_law_464 (nI_add _ _) ?_
  refine g_scr hx hb hX hbl hbA hS (by omega) hL9 dL_law_465 ?_
  obtain ⟨q9, fs9, g9⟩ := hm r u q1
  refine gcz_V_v (As := [.int (xs (i + 1)), .int (xs (i + 2)), .int (xs (i + 3)), .int (xs (i + 4))]) (rest := []) (hM r u q1) ⟨hx, hb, hml, hown, hts⟩ (cwV 4 hts gL_law_X7_link rfl rfl rfl (by decide +kernel) hRM) hE hZ hP hD hS hA _ g9 rfl rfl rfl rfl hl.1 (Nat.le_of_ble_eq_true rfl) dL_law_466 ⟨by show _ ≤ 601024; omega, by show _ ≤ 7293034; omega⟩ (fun w H locs hP hD hS q2 => ?_)
  refine lv_aload_n hx hb dL_law_469 rfl (lv_at hl 4 rfl) ?_
  obtain ⟨q8, fs8, g8⟩ := hm2 r u w q1 q2
  refine gcz_V_i (As := []) (rest := []) (hT r u w q1 q2) ⟨hx, hb, hml, hown, hts⟩ (cwV 0 hts gL_law_X7_thrown rfl rfl rfl (by decide +kernel) ⟨Nat.le_of_ble_eq_true rfl, Nat.le_of_ble_eq_true rfl⟩) hE hZ hP hD hS hA _ g8 rfl rfl rfl rfl hl.1 (Nat.le_of_ble_eq_true rfl) dL_law_470 ⟨by show _ ≤ 601024; exact hC.1, by show _ ≤ 7293034; exact hC.2⟩ (fun t w1 H locs hP hD hS q3 => ?_)
  obtain ⟨rfl, rfl⟩ := q3
  refine lv_iload hx hb dL_law_473 (lv_at hl 0 rfl) ?_
  refine g_icmpE (tgt := 480) hx hb dL_law_475 (by decide) ?_
  exact lv_goto (tgt := 2166) hx hb dL_law_480 (by decide) (kk r u w H locs ls q1 q2 hP hD hS (lv_sub hl [1, 2, 3, 4, 5, 6] rfl))
set_option maxHeartbeats 4000000 in
set_option maxRecDepth 100000 in
theorem law_spend {p : Program} {l : Launch} {e : Env} {s : State} {m : MethodId} {below : List Frame} {meth : Method} {c : Code} {H : Heap} {locs : List Loc} {cells slots : Nat} {Q : State → Prop} {ls : Array Slot} {D : va_G} {y : Nat → Nat} {A : Nat → Prop} {ws : va_W} {b L e9 mi : Nat} {xs : Nat → Int32} {i a_off a_mod a_out a_outD : Nat} {rL rM : Room} {P1 : Int32 → va_W → Prop} {P2 : Int32 → va_W → Int32 → va_W → Prop}
    (hB : LWB p s m c meth b L xs D y e9 mi A) (hP : gvP D vwCl ws H) (hD : gvD A ws) (hS : va_S A s.heap H locs) (hl : lv_has ls 9 (l0L i b a_off a_mod a_out a_outD)) (hi : i + 5 ≤ L)
    (hL : gZi l yL_spend wsL_spend rL D y e9 mi [.ref a_off, .int (xs (i + 1)), .int (xs (i + 2)), .int (xs (i + 3)), .ref a_out] ws P1)
    (hM : ∀ r u, P1 r u → gZi l yX7_spend wsX7_spend rM D y e9 mi [.ref a_mod, .int (xs (i + 1)), .int (xs (i + 2)), .int (xs (i + 3))] u (P2 r u))
    (hm : ∀ r u, P1 r u → ∃ (q : Nat) (fs : List Value), u[q]? = some (a_mod, Sum.inr (8, fs)))
    (hm2 : ∀ r u v w, P1 r u → P2 r u v w → ∃ (q : Nat) (fs : List Value), w[q]? = some (a_mod, Sum.inr (8, fs)))
    (hT : ∀ r u v w, P1 r u → P2 r u v w → gZi l yX7_thrown wsX7_thrown rmT D y e9 mi [.ref a_mod] w (fun t w' => r = t ∧ w = w'))
    (hO : ∀ r u v w, P1 r u → P2 r u v w → r = nI 0 → ∃ (q : Nat) (o : Nat → Int64), w[q]? = some (a_out, eJ y 1 o) ∧ o 0 = v.toInt64)
    (hRL : rL.frames + 1 ≤ room_1.frames ∧ 8 + (6 + 11) + rL.locals ≤ room_1.locals) (hRM : rM.frames + 1 ≤ room_1.frames ∧ 8 + (5 + 11) + rM.locals ≤ room_1.locals)
    (hC : cells + rL.cells + rM.cells ≤ 601024 ∧ slots + rL.slots + rM.slots ≤ 7293034)
    (kk : ∀ (r : Int32) (u : va_W) (v : Int32) (w : va_W) (H : Heap) (locs : List Loc) (ls : Array Slot), P1 r u → P2 r u v w → gvP D vwCl w H → gvD A w → va_S A s.heap H locs → lv_has ls 9 (l0L i b a_off a_mod a_out a_outD) → W p l e room_1 s m #[.ref b] below meth c H locs (cells + rL.cells + rM.cells) (slots + rL.slots + rM.slots) Q (F0 m 2166 ls [])) : W p l e room_1 s m #[.ref b] below meth c H locs cells slots Q (F0 m 483 ls []) := by
  obtain ⟨hx, hb, hml, hts, hown, hE, hZ, hX, hbl, hbA, hA, hL9⟩ := hB
  refine lv_aload_n hx hb dL_law_483 rfl (lv_at hl 2 rfl) ?_
  refine lv_aload_n hx hb dL_law_484 rfl (lv_at hl 1 rfl) ?_
  refine lv_iload hx hb dL_law_485 (lv_at hl 0 rfl) ?_
  refine lv_iconst (v := nI 1) hx hb dL_law_487 (by decide) ?_
  refine g_iadd hx hb dL_law_488 (nI_add _ _) ?_
  refine g_scr hx hb hX hbl hbA hS (by omega) hL9 dL_law_489 ?_
  refine lv_aload_n hx hb dL_law_490 rfl (lv_at hl 1 rfl) ?_
  refine lv_iload hx hb dL_law_491 (lv_at hl 0 rfl) ?_
  refine lv_iconst (v := nI 2) hx hb dL_law_493 (by decide) ?_
  refine g_iadd hx hb dL_law_494 (nI_add _ _) ?_
  refine g_scr hx hb hX hbl hbA hS (by omega) hL9 dL_law_495 ?_
  refine lv_aload_n hx hb dL_law_496 rfl (lv_at hl 1 rfl) ?_
  refine lv_iload hx hb dL_law_497 (lv_at hl 0 rfl) ?_
  refine lv_iconst (v := nI 3) hx hb dL_law_499 (by decide) ?_
  refine g_iadd hx hb dL_law_500 (nI_add _ _) ?_
  refine g_scr hx hb hX hbl hbA hS (by omega) hL9 dL_law_501 ?_
  refine lv_aload_n hx hb dL_law_502 rfl (lv_at hl 4 rfl) ?_
  refine gcz_S_i (As := [.ref a_off, .int (xs (i + 1)), .int (xs (i + 2)), .int (xs (i + 3)), .ref a_out]) (rest := []) hL ⟨hx, hb, hml, hown, hts⟩ (vx_cwSW 5 hts gL_law_L_spend rfl rfl rfl (by decide +kernel) hRL) hE hZ hP hD hS hA rfl rfl hl.1 (Nat.le_of_ble_eq_true rfl) dL_law_503 ⟨by show _ ≤ 601024; omega, by show _ ≤ 7293034; omega⟩ (fun r u H locs hP hD hS q1 => ?_)
  refine lv_istore (lv' := [(6, .int r), (5, .int (nI i)), (0, .ref b), (1, .ref a_off), (2, .ref a_mod), (3, .ref a_out), (4, .ref a_outD)]) hx hb dL_law_506 hl (by decide) rfl (fun ls hl => ?_)
  refine lv_aload_n hx hb dL_law_508 rfl (lv_at hl 4 rfl) ?_
  refine lv_aload_n hx hb dL_law_509 rfl (lv_at hl 2 rfl) ?_
  refine lv_iload hx hb dL_law_510 (lv_at hl 1 rfl) ?_
  refine lv_iconst (v := nI 1) hx hb dL_law_512 (by decide) ?_
  refine g_iadd hx hb dL_law_513 (nI_add _ _) ?_
  refine g_scr hx hb hX hbl hbA hS (by omega) hL9 dL_law_514 ?_
  refine lv_aload_n hx hb dL_law_515 rfl (lv_at hl 2 rfl) ?_
  refine lv_iload hx hb dL_law_516 (lv_at hl 1 rfl) ?_
  refine lv_iconst (v := nI 2) hx hb dL_law_518 (by decide) ?_
  refine g_iadd hx hb dL_law_519 (nI_add _ _) ?_
  refine g_scr hx hb hX hbl hbA hS (by omega) hL9 dL_law_520 ?_
  refine lv_aload_n hx hb dL_law_521 rfl (lv_at hl 2 rfl) ?_
  refine lv_iload hx hb dL_law_522 (lv_at hl 1 rfl) ?_
  refine lv_iconst (v := nI 3) hx hb dL_law_524 (by decide) ?_
  refine g_iadd hx hb dL_law_525 (nI_add _ _) ?_
  refine g_scr hx hb hX hbl hbA hS (by omega) hL9 dL_law_526 ?_
  obtain ⟨q9, fs9, g9⟩ := hm r u q1
  refine gcz_V_i (As := [.int (xs (i + 1)), .int (xs (i + 2)), .int (xs (i + 3))]) (rest := []) (hM r u q1) ⟨hx, hb, hml, hown, hts⟩ (cwV 3 hts gL_law_X7_spend rfl rfl rfl (by decide +kernel) hRM) hE hZ hP hD hS hA _ g9 rfl rfl rfl rfl hl.1 (Nat.le_of_ble_eq_true rfl) dL_law_527 ⟨by show _ ≤ 601024; omega, by show _ ≤ 7293034; omega⟩ (fun v w H locs hP hD hS q2 => ?_)
  refine lv_istore (lv' := [(7, .int v), (6, .int r), (5, .int (nI i)), (0, .ref b), (1, .ref a_off), (2, .ref a_mod), (3, .ref a_out), (4, .ref a_outD)]) hx hb dL_law_530 hl (by decide) rfl (fun ls hl => ?_)
  refine lv_aload_n hx hb dL_law_532 rfl (lv_at hl 5 rfl) ?_
  obtain ⟨q8, fs8, g8⟩ := hm2 r u v w q1 q2
  refine gcz_V_i (As := []) (rest := []) (hT r u v w q1 q2) ⟨hx, hb, hml, hown, hts⟩ (cwV 0 hts gL_law_X7_thrown rfl rfl rfl (by decide +kernel) ⟨Nat.le_of_ble_eq_true rfl, Nat.le_of_ble_eq_true rfl⟩) hE hZ hP hD hS hA _ g8 rfl rfl rfl rfl hl.1 (Nat.le_of_ble_eq_true rfl) dL_law_533 ⟨by show _ ≤ 601024; exact hC.1, by show _ ≤ 7293034; exact hC.2⟩ (fun t w1 H locs hP hD hS q3 => ?_)
  obtain ⟨rfl, rfl⟩ := q3
  refine lv_iload hx hb dL_law_536 (lv_at hl 1 rfl) ?_
  refine g_icmpE (tgt := 543) hx hb dL_law_538 (by decide) ?_
  refine lv_iload hx hb dL_law_543 (lv_at hl 1 rfl) ?_
  refine lv_if_ne (tgt := 560) hx hb dL_law_545 (by decide) (fun _ => ?_) (fun h0 => ?_)
  · exact lv_goto (tgt := 2166) hx hb dL_law_560 (by decide) (kk r u v w H locs ls q1 q2 hP hD hS (lv_sub hl [2, 3, 4, 5, 6, 7] rfl))
  have h0 : r = nI 0 := by rw [show nI 0 = 0 from by decide]; exact h0
  obtain ⟨q7, o, g7, ho⟩ := hO r u v w q1 q2 h0
  refine lv_aload_n hx hb dL_law_548 rfl (lv_at hl 6 rfl) ?_
  refine lv_iconst (v := nI 0) hx hb dL_law_549 (by decide) ?_
  refine g_lald hx hb hE hP _ g7 (by decide) (by decide) dL_law_550 ?_
  refine lv_iload hx hb dL_law_551 (lv_at hl 0 rfl) ?_
  refine lv_i2l (v := Int32.toInt64 v) hx hb dL_law_553 rfl ?_
  rw [ho]
  refine g_lcmpE (tgt := 560) hx hb dL_law_554 dL_law_555 (by decide) ?_
  exact lv_goto (tgt := 2166) hx hb dL_law_560 (by decide) (kk r u v w H locs ls q1 q2 hP hD hS (lv_sub hl [2, 3, 4, 5, 6, 7] rfl))
set_option maxHeartbeats 4000000 in
set_option maxRecDepth 100000 in
theorem law_adopt {p : Program} {l : Launch} {e : Env} {s : State} {m : MethodId} {below : List Frame} {meth : Method} {c : Code} {H : Heap} {locs : List Loc} {cells slots : Nat} {Q : State → Prop} {ls : Array Slot} {D : va_G} {y : Nat → Nat} {A : Nat → Prop} {ws : va_W} {b L e9 mi : Nat} {xs : Nat → Int32} {i a_off a_mod a_out a_outD : Nat} {rL rM : Room} {P1 : Int64 → va_W → Prop} {P2 : Int64 → va_W → Int64 → va_W → Prop}
    (hB : LWB p s m c meth b L xs D y e9 mi A) (hP : gvP D vwCl ws H) (hD : gvD A ws) (hS : va_S A s.heap H locs) (hl : lv_has ls 9 (l0L i b a_off a_mod a_out a_outD)) (hi : i + 5 ≤ L)
    {fs0 : List Value} {q0 : Nat} (ho : ws[q0]? = some (a_off, .inr (7, fs0)))
    (hL : gZl l yX6_adopt wsX6_adopt rL D y e9 mi [.ref a_off] ws P1)
    (hM : ∀ r u, P1 r u → gZl l yX7_adopt wsX7_adopt rM D y e9 mi [.ref a_mod] u (P2 r u))
    (hm : ∀ r u, P1 r u → ∃ (q : Nat) (fs : List Value), u[q]? = some (a_mod, Sum.inr (8, fs)))
    (hO : ∀ r u v w, P1 r u → P2 r u v w → r = v)
    (hRL : rL.frames + 1 ≤ room_1.frames ∧ 8 + (1 + 11) + rL.locals ≤ room_1.locals) (hRM : rM.frames + 1 ≤ room_1.frames ∧ 8 + (4 + 11) + rM.locals ≤ room_1.locals)
    (hC : cells + rL.cells + rM.cells ≤ 601024 ∧ slots + rL.slots + rM.slots ≤ 7293034)
    (kk : ∀ (r : Int64) (u : va_W) (v : Int64) (w : va_W) (H : Heap) (locs : List Loc) (ls : Array Slot), P1 r u → P2 r u v w → gvP D vwCl w H → gvD A w → va_S A s.heap H locs → lv_has ls 9 (l0L i b a_off a_mod a_out a_outD) → W p l e room_1 s m #[.ref b] below meth c H locs (cells + rL.cells + rM.cells) (slots + rL.slots + rM.slots) Q (F0 m 2166 ls [])) : W p l e room_1 s m #[.ref b] below meth c H locs cells slots Q (F0 m 563 ls []) := by
  obtain ⟨hx, hb, hml, hts, hown, hE, hZ, hX, hbl, hbA, hA, hL9⟩ := hB
  refine lv_aload_n hx hb dL_law_563 rfl (lv_at hl 2 rfl) ?_
  refine gcz_V_l (As := []) (rest := []) hL ⟨hx, hb, hml, hown, hts⟩ (cwV 0 hts gL_law_X6_adopt rfl rfl rfl (by decide +kernel) hRL) hE hZ hP hD hS hA _ ho rfl rfl rfl rfl hl.1 (Nat.le_of_ble_eq_true rfl) dL_law_564 ⟨by show _ ≤ 601024; omega, by show _ ≤ 7293034; omega⟩ (fun r u H locs hP hD hS q1 => ?_)
  refine lv_aload_n hx hb dL_law_567 rfl (lv_at hl 3 rfl) ?_
  obtain ⟨q9, fs9, g9⟩ := hm r u q1
  refine gcz_V_l (As := []) (rest := [.long r]) (hM r u q1) ⟨hx, hb, hml, hown, hts⟩ (cwV 0 hts gL_law_X7_adopt rfl rfl rfl (by decide +kernel) hRM) hE hZ hP hD hS hA _ g9 rfl rfl rfl rfl hl.1 (Nat.le_of_ble_eq_true rfl) dL_law_568 ⟨by show _ ≤ 601024; omega, by show _ ≤ 7293034; omega⟩ (fun v w H locs hP hD hS q2 => ?_)
  obtain rfl := hO r u v w q1 q2
  exact g_lcmpE (tgt := 2166) hx hb dL_law_571 dL_law_572 (by decide) (kk r u r w H locs ls q1 q2 hP hD hS hl)
set_option maxHeartbeats 4000000 in
set_option maxRecDepth 100000 in
theorem law_publish {p : Program} {l : Launch} {e : Env} {s : State} {m : MethodId} {below : List Frame} {meth : Method} {c : Code} {H : Heap} {locs : List Loc} {cells slots : Nat} {Q : State → Prop} {ls : Array Slot} {D : va_G} {y : Nat → Nat} {A : Nat → Prop} {ws : va_W} {b L e9 mi : Nat} {xs : Nat → Int32} {i a_off a_mod a_out a_outD : Nat} {rL rM : Room} {P1 : Int32 → va_W → Prop} {P2 : Int32 → va_W → Int32 → va_W → Prop}
    (hB : LWB p s m c meth b L xs D y e9 mi A) (hP : gvP D vwCl ws H) (hD : gvD A ws) (hS : va_S A s.heap H locs) (hl : lv_has ls 9 (l0L i b a_off a_mod a_out a_outD)) (hi : i + 5 ≤ L)
    (hL : gZi l yL_publish wsL_publish rL D y e9 mi [.ref a_off, .ref a_out] ws P1)
    (hM : ∀ r u, P1 r u → gZi l yX7_publish wsX7_publish rM D y e9 mi [.ref a_mod] u (P2 r u))
    (hm : ∀ r u, P1 r u → ∃ (q : Nat) (fs : List Value), u[q]? = some (a_mod, Sum.inr (8, fs)))
    (hm2 : ∀ r u v w, P1 r u → P2 r u v w → ∃ (q : Nat) (fs : List Value), w[q]? = some (a_mod, Sum.inr (8, fs)))
    (hT : ∀ r u v w, P1 r u → P2 r u v w → gZi l yX7_thrown wsX7_thrown rmT D y e9 mi [.ref a_mod] w (fun t w' => r = t ∧ w = w'))
    (hO : ∀ r u v w, P1 r u → P2 r u v w → r = nI 0 → ∃ (q : Nat) (o : Nat → Int64), w[q]? = some (a_out, eJ y 1 o) ∧ o 0 = v.toInt64)
    (hRL : rL.frames + 1 ≤ room_1.frames ∧ 8 + (3 + 11) + rL.locals ≤ room_1.locals) (hRM : rM.frames + 1 ≤ room_1.frames ∧ 8 + (3 + 11) + rM.locals ≤ room_1.locals)
    (hC : cells + rL.cells + rM.cells ≤ 601024 ∧ slots + rL.slots + rM.slots ≤ 7293034)
    (kk : ∀ (r : Int32) (u : va_W) (v : Int32) (w : va_W) (H : Heap) (locs : List Loc) (ls : Array Slot), P1 r u → P2 r u v w → gvP D vwCl w H → gvD A w → va_S A s.heap H locs → lv_has ls 9 (l0L i b a_off a_mod a_out a_outD) → W p l e room_1 s m #[.ref b] below meth c H locs (cells + rL.cells + rM.cells) (slots + rL.slots + rM.slots) Q (F0 m 2166 ls [])) : W p l e room_1 s m #[.ref b] below meth c H locs cells slots Q (F0 m 577 ls []) := by
  obtain ⟨hx, hb, hml, hts, hown, hE, hZ, hX, hbl, hbA, hA, hL9⟩ := hB
  refine lv_aload_n hx hb dL_law_577 rfl (lv_at hl 2 rfl) ?_
  refine lv_aload_n hx hb dL_law_578 rfl (lv_at hl 4 rfl) ?_
  refine gcz_S_i (As := [.ref a_off, .ref a_out]) (rest := []) hL ⟨hx, hb, hml, hown, hts⟩ (vx_cwSW 2 hts gL_law_L_publish rfl rfl rfl (by decide +kernel) hRL) hE hZ hP hD hS hA rfl rfl hl.1 (Nat.le_of_ble_eq_true rfl) dL_law_579 ⟨by show _ ≤ 601024; omega, by show _ ≤ 7293034; omega⟩ (fun r u H locs hP hD hS q1 => ?_)
  refine lv_istore (lv' := [(6, .int r), (5, .int (nI i)), (0, .ref b), (1, .ref a_off), (2, .ref a_mod), (3, .ref a_out), (4, .ref a_outD)]) hx hb dL_law_582 hl (by decide) rfl (fun ls hl => ?_)
  refine lv_aload_n hx hb dL_law_584 rfl (lv_at hl 4 rfl) ?_
  obtain ⟨q9, fs9, g9⟩ := hm r u q1
  refine gcz_V_i (As := []) (rest := []) (hM r u q1) ⟨hx, hb, hml, hown, hts⟩ (cwV 0 hts gL_law_X7_publish rfl rfl rfl (by decide +kernel) hRM) hE hZ hP hD hS hA _ g9 rfl rfl rfl rfl hl.1 (Nat.le_of_ble_eq_true rfl) dL_law_585 ⟨by show _ ≤ 601024; omega, by show _ ≤ 7293034; omega⟩ (fun v w H locs hP hD hS q2 => ?_)
  refine lv_istore (lv' := [(7, .int v), (6, .int r), (5, .int (nI i)), (0, .ref b), (1, .ref a_off), (2, .ref a_mod), (3, .ref a_out), (4, .ref a_outD)]) hx hb dL_law_588 hl (by decide) rfl (fun ls hl => ?_)
  refine lv_aload_n hx hb dL_law_590 rfl (lv_at hl 5 rfl) ?_
  obtain ⟨q8, fs8, g8⟩ := hm2 r u v w q1 q2
  refine gcz_V_i (As := []) (rest := []) (hT r u v w q1 q2) ⟨hx, hb, hml, hown, hts⟩ (cwV 0 hts gL_law_X7_thrown rfl rfl rfl (by decide +kernel) ⟨Nat.le_of_ble_eq_true rfl, Nat.le_of_ble_eq_true rfl⟩) hE hZ hP hD hS hA _ g8 rfl rfl rfl rfl hl.1 (Nat.le_of_ble_eq_true rfl) dL_law_591 ⟨by show _ ≤ 601024; exact hC.1, by show _ ≤ 7293034; exact hC.2⟩ (fun t w1 H locs hP hD hS q3 => ?_)
  obtain ⟨rfl, rfl⟩ := q3
  refine lv_iload hx hb dL_law_594 (lv_at hl 1 rfl) ?_
  refine g_icmpE (tgt := 601) hx hb dL_law_596 (by decide) ?_
  refine lv_iload hx hb dL_law_601 (lv_at hl 1 rfl) ?_
  refine lv_if_ne (tgt := 618) hx hb dL_law_603 (by decide) (fun _ => ?_) (fun h0 => ?_)
  · exact lv_goto (tgt := 2166) hx hb dL_law_618 (by decide) (kk r u v w H locs ls q1 q2 hP hD hS (lv_sub hl [2, 3, 4, 5, 6, 7] rfl))
  have h0 : r = nI 0 := by rw [show nI 0 = 0 from by decide]; exact h0
  obtain ⟨q7, o, g7, ho⟩ := hO r u v w q1 q2 h0
  refine lv_aload_n hx hb dL_law_606 rfl (lv_at hl 6 rfl) ?_
  refine lv_iconst (v := nI 0) hx hb dL_law_607 (by decide) ?_
  refine g_lald hx hb hE hP _ g7 (by decide) (by decide) dL_law_608 ?_
  refine lv_iload hx hb dL_law_609 (lv_at hl 0 rfl) ?_
  refine lv_i2l (v := Int32.toInt64 v) hx hb dL_law_611 rfl ?_
  rw [ho]
  refine g_lcmpE (tgt := 618) hx hb dL_law_612 dL_law_613 (by decide) ?_
  exact lv_goto (tgt := 2166) hx hb dL_law_618 (by decide) (kk r u v w H locs ls q1 q2 hP hD hS (lv_sub hl [2, 3, 4, 5, 6, 7] rfl))
set_option maxHeartbeats 4000000 in
set_option maxRecDepth 100000 in
theorem law_fix {p : Program} {l : Launch} {e : Env} {s : State} {m : MethodId} {below : List Frame} {meth : Method} {c : Code} {H : Heap} {locs : List Loc} {cells slots : Nat} {Q : State → Prop} {ls : Array Slot} {D : va_G} {y : Nat → Nat} {A : Nat → Prop} {ws : va_W} {b L e9 mi : Nat} {xs : Nat → Int32} {i a_off a_mod a_out a_outD : Nat} {rL rM : Room} {P1 : Int32 → va_W → Prop} {P2 : Int32 → va_W → Int32 → va_W → Prop}
    (hB : LWB p s m c meth b L xs D y e9 mi A) (hP : gvP D vwCl ws H) (hD : gvD A ws) (hS : va_S A s.heap H locs) (hl : lv_has ls 9 (l0L i b a_off a_mod a_out a_outD)) (hi : i + 5 ≤ L)
    (hL : gZi l yL_fix wsL_fix rL D y e9 mi [.ref a_off, .int (xs (i + 1)), .int (xs (i + 2)), .int (xs (i + 3)), .int (xs (i + 4)), .ref a_out] ws P1)
    (hM : ∀ r u, P1 r u → gZi l yX7_fix wsX7_fix rM D y e9 mi [.ref a_mod, .int (xs (i + 1)), .int (xs (i + 2)), .int (xs (i + 3)), .int (xs (i + 4))] u (P2 r u))
    (hm : ∀ r u, P1 r u → ∃ (q : Nat) (fs : List Value), u[q]? = some (a_mod, Sum.inr (8, fs)))
    (hm2 : ∀ r u v w, P1 r u → P2 r u v w → ∃ (q : Nat) (fs : List Value), w[q]? = some (a_mod, Sum.inr (8, fs)))
    (hT : ∀ r u v w, P1 r u → P2 r u v w → gZi l yX7_thrown wsX7_thrown rmT D y e9 mi [.ref a_mod] w (fun t w' => r = t ∧ w = w'))
    (hO : ∀ r u v w, P1 r u → P2 r u v w → r = nI 0 → ∃ (q : Nat) (o : Nat → Int64), w[q]? = some (a_out, eJ y 1 o) ∧ o 0 = v.toInt64)
    (hRL : rL.frames + 1 ≤ room_1.frames ∧ 8 + (7 + 11) + rL.locals ≤ room_1.locals) (hRM : rM.frames + 1 ≤ room_1.frames ∧ 8 + (7 + 11) + rM.locals ≤ room_1.locals)
    (hC : cells + rL.cells + rM.cells ≤ 601024 ∧ slots + rL.slots + rM.slots ≤ 7293034)
    (kk : ∀ (r : Int32) (u : va_W) (v : Int32) (w : va_W) (H : Heap) (locs : List Loc) (ls : Array Slot), P1 r u → P2 r u v w → gvP D vwCl w H → gvD A w → va_S A s.heap H locs → lv_has ls 9 (l0L i b a_off a_mod a_out a_outD) → W p l e room_1 s m #[.ref b] below meth c H locs (cells + rL.cells + rM.cells) (slots + rL.slots + rM.slots) Q (F0 m 2166 ls [])) : W p l e room_1 s m #[.ref b] below meth c H locs cells slots Q (F0 m 621 ls []) := by
  obtain ⟨hx, hb, hml, hts, hown, hE, hZ, hX, hbl, hbA, hA, hL9⟩ := hB
  refine lv_aload_n hx hb dL_law_621 rfl (lv_at hl 2 rfl) ?_
  refine lv_aload_n hx hb dL_law_622 rfl (lv_at hl 1 rfl) ?_
  refine lv_iload hx hb dL_law_623 (lv_at hl 0 rfl) ?_
  refine lv_iconst (v := nI 1) hx hb dL_law_625 (by decide) ?_
  refine g_iadd hx hb dL_law_626 (nI_add _ _) ?_
  refine g_scr hx hb hX hbl hbA hS (by omega) hL9 dL_law_627 ?_
  refine lv_aload_n hx hb dL_law_628 rfl (lv_at hl 1 rfl) ?_
  refine lv_iload hx hb dL_law_629 (lv_at hl 0 rfl) ?_
  refine lv_iconst (v := nI 2) hx hb dL_law_631 (by decide) ?_
  refine g_iadd hx hb dL_law_632 (nI_add _ _) ?_
  refine g_scr hx hb hX hbl hbA hS (by omega) hL9 dL_law_633 ?_
  refine lv_aload_n hx hb dL_law_634 rfl (lv_at hl 1 rfl) ?_
  refine lv_iload hx hb dL_law_635 (lv_at hl 0 rfl) ?_
  refine lv_iconst (v := nI 3) hx hb dL_law_637 (by decide) ?_
  refine g_iadd hx hb dL_law_638 (nI_add _ _) ?_
  refine g_scr hx hb hX hbl hbA hS (by omega) hL9 dL_law_639 ?_
  refine lv_aload_n hx hb dL_law_640 rfl (lv_at hl 1 rfl) ?_
  refine lv_iload hx hb dL_law_641 (lv_at hl 0 rfl) ?_
  refine lv_iconst (v := nI 4) hx hb dL_law_643 (by decide) ?_
  refine g_iadd hx hb dL_law_644 (nI_add _ _) ?_
  refine g_scr hx hb hX hbl hbA hS (by omega) hL9 dL_law_645 ?_
  refine lv_aload_n hx hb dL_law_646 rfl (lv_at hl 4 rfl) ?_
  refine gcz_S_i (As := [.ref a_off, .int (xs (i + 1)), .int (xs (i + 2)), .int (xs (i + 3)), .int (xs (i + 4)), .ref a_out]) (rest := []) hL ⟨hx, hb, hml, hown, hts⟩ (vx_cwSW 6 hts gL_law_L_fix rfl rfl rfl (by decide +kernel) hRL) hE hZ hP hD hS hA rfl rfl hl.1 (Nat.le_of_ble_eq_true rfl) dL_law_647 ⟨by show _ ≤ 601024; omega, by show _ ≤ 7293034; omega⟩ (fun r u H locs hP hD hS q1 => ?_)
  refine lv_istore (lv' := [(6, .int r), (5, .int (nI i)), (0, .ref b), (1, .ref a_off), (2, .ref a_mod), (3, .ref a_out), (4, .ref a_outD)]) hx hb dL_law_650 hl (by decide) rfl (fun ls hl => ?_)
  refine lv_aload_n hx hb dL_law_652 rfl (lv_at hl 4 rfl) ?_
  refine lv_aload_n hx hb dL_law_653 rfl (lv_at hl 2 rfl) ?_
  refine lv_iload hx hb dL_law_654 (lv_at hl 1 rfl) ?_
  refine lv_iconst (v := nI 1) hx hb dL_law_656 (by decide) ?_
  refine g_iadd hx hb dL_law_657 (nI_add _ _) ?_
  refine g_scr hx hb hX hbl hbA hS (by omega) hL9 dL_law_658 ?_
  refine lv_aload_n hx hb dL_law_659 rfl (lv_at hl 2 rfl) ?_
  refine lv_iload hx hb dL_law_660 (lv_at hl 1 rfl) ?_
  refine lv_iconst (v := nI 2) hx hb dL_law_662 (by decide) ?_
  refine g_iadd hx hb dL_law_663 (nI_add _ _) ?_
  refine g_scr hx hb hX hbl hbA hS (by omega) hL9 dL_law_664 ?_
  refine lv_aload_n hx hb dL_law_665 rfl (lv_at hl 2 rfl) ?_
  refine lv_iload hx hb dL_law_666 (lv_at hl 1 rfl) ?_
  refine lv_iconst (v := nI 3) hx hb dL_law_668 (by decide) ?_
  refine g_iadd hx hb dL_law_669 (nI_add _ _) ?_
  refine g_scr hx hb hX hbl hbA hS (by omega) hL9 dL_law_670 ?_
  refine lv_aload_n hx hb dL_law_671 rfl (lv_at hl 2 rfl) ?_
  refine lv_iload hx hb dL_law_672 (lv_at hl 1 rfl) ?_
  refine lv_iconst (v := nI 4) hx hb dL_law_674 (by decide) ?_
  refine g_iadd hx hb dL_law_675 (nI_add _ _) ?_
  refine g_scr hx hb hX hbl hbA hS (by omega) hL9 dL_law_676 ?_
  obtain ⟨q9, fs9, g9⟩ := hm r u q1
  refine gcz_V_i (As := [.int (xs (i + 1)), .int (xs (i + 2)), .int (xs (i + 3)), .int (xs (i + 4))]) (rest := []) (hM r u q1) ⟨hx, hb, hml, hown, hts⟩ (cwV 4 hts gL_law_X7_fix rfl rfl rfl (by decide +kernel) hRM) hE hZ hP hD hS hA _ g9 rfl rfl rfl rfl hl.1 (Nat.le_of_ble_eq_true rfl) dL_law_677 ⟨by show _ ≤ 601024; omega, by show _ ≤ 7293034; omega⟩ (fun v w H locs hP hD hS q2 => ?_)
  refine lv_istore (lv' := [(7, .int v), (6, .int r), (5, .int (nI i)), (0, .ref b), (1, .ref a_off), (2, .ref a_mod), (3, .ref a_out), (4, .ref a_outD)]) hx hb dL_law_680 hl (by decide) rfl (fun ls hl => ?_)
  refine lv_aload_n hx hb dL_law_682 rfl (lv_at hl 5 rfl) ?_
  obtain ⟨q8, fs8, g8⟩ := hm2 r u v w q1 q2
  refine gcz_V_i (As := []) (rest := []) (hT r u v w q1 q2) ⟨hx, hb, hml, hown, hts⟩ (cwV 0 hts gL_law_X7_thrown rfl rfl rfl (by decide +kernel) ⟨Nat.le_of_ble_eq_true rfl, Nat.le_of_ble_eq_true rfl⟩) hE hZ hP hD hS hA _ g8 rfl rfl rfl rfl hl.1 (Nat.le_of_ble_eq_true rfl) dL_law_683 ⟨by show _ ≤ 601024; exact hC.1, by show _ ≤ 7293034; exact hC.2⟩ (fun t w1 H locs hP hD hS q3 => ?_)
  obtain ⟨rfl, rfl⟩ := q3
  refine lv_iload hx hb dL_law_686 (lv_at hl 1 rfl) ?_
  refine g_icmpE (tgt := 693) hx hb dL_law_688 (by decide) ?_
  refine lv_iload hx hb dL_law_693 (lv_at hl 1 rfl) ?_
  refine lv_if_ne (tgt := 710) hx hb dL_law_695 (by decide) (fun _ => ?_) (fun h0 => ?_)
  · exact lv_goto (tgt := 2166) hx hb dL_law_710 (by decide) (kk r u v w H locs ls q1 q2 hP hD hS (lv_sub hl [2, 3, 4, 5, 6, 7] rfl))
  have h0 : r = nI 0 := by rw [show nI 0 = 0 from by decide]; exact h0
  obtain ⟨q7, o, g7, ho⟩ := hO r u v w q1 q2 h0
  refine lv_aload_n hx hb dL_law_698 rfl (lv_at hl 6 rfl) ?_
  refine lv_iconst (v := nI 0) hx hb dL_law_699 (by decide) ?_
  refine g_lald hx hb hE hP _ g7 (by decide) (by decide) dL_law_700 ?_
  refine lv_iload hx hb dL_law_701 (lv_at hl 0 rfl) ?_
  refine lv_i2l (v := Int32.toInt64 v) hx hb dL_law_703 rfl ?_
  rw [ho]
  refine g_lcmpE (tgt := 710) hx hb dL_law_704 dL_law_705 (by decide) ?_
  exact lv_goto (tgt := 2166) hx hb dL_law_710 (by decide) (kk r u v w H locs ls q1 q2 hP hD hS (lv_sub hl [2, 3, 4, 5, 6, 7] rfl))
set_option maxHeartbeats 4000000 in
set_option maxRecDepth 100000 in
theorem law_contract {p : Program} {l : Launch} {e : Env} {s : State} {m : MethodId} {below : List Frame} {meth : Method} {c : Code} {H : Heap} {locs : List Loc} {cells slots : Nat} {Q : State → Prop} {ls : Array Slot} {D : va_G} {y : Nat → Nat} {A : Nat → Prop} {ws : va_W} {b L e9 mi : Nat} {xs : Nat → Int32} {i a_off a_mod a_out a_outD : Nat} {rL rM : Room} {P1 : Int32 → va_W → Prop} {P2 : Int32 → va_W → Int32 → va_W → Prop}
    (hB : LWB p s m c meth b L xs D y e9 mi A) (hP : gvP D vwCl ws H) (hD : gvD A ws) (hS : va_S A s.heap H locs) (hl : lv_has ls 9 (l0L i b a_off a_mod a_out a_outD)) (hi : i + 5 ≤ L)
    (hL : gZi l yL_contract wsL_contract rL D y e9 mi [.ref a_off, .int (xs (i + 1)), .int (xs (i + 2)), .int (xs (i + 3)), .int (gb (bz (xs (i + 4)))), .ref a_out] ws P1)
    (hM : ∀ r u, P1 r u → gZi l yX7_contract wsX7_contract rM D y e9 mi [.ref a_mod, .int (xs (i + 1)), .int (xs (i + 2)), .int (xs (i + 3)), .int (gb (bz (xs (i + 4))))] u (P2 r u))
    (hm : ∀ r u, P1 r u → ∃ (q : Nat) (fs : List Value), u[q]? = some (a_mod, Sum.inr (8, fs)))
    (hm2 : ∀ r u v w, P1 r u → P2 r u v w → ∃ (q : Nat) (fs : List Value), w[q]? = some (a_mod, Sum.inr (8, fs)))
    (hT : ∀ r u v w, P1 r u → P2 r u v w → gZi l yX7_thrown wsX7_thrown rmT D y e9 mi [.ref a_mod] w (fun t w' => r = t ∧ w = w'))
    (hO : ∀ r u v w, P1 r u → P2 r u v w → r = nI 0 → ∃ (q : Nat) (o : Nat → Int64), w[q]? = some (a_out, eJ y 1 o) ∧ o 0 = v.toInt64)
    (hRL : rL.frames + 1 ≤ room_1.frames ∧ 8 + (7 + 11) + rL.locals ≤ room_1.locals) (hRM : rM.frames + 1 ≤ room_1.frames ∧ 8 + (5 + 11) + rM.locals ≤ room_1.locals)
    (hC : cells + rL.cells + rM.cells ≤ 601024 ∧ slots + rL.slots + rM.slots ≤ 7293034)
    (kk : ∀ (r : Int32) (u : va_W) (v : Int32) (w : va_W) (H : Heap) (locs : List Loc) (ls : Array Slot), P1 r u → P2 r u v w → gvP D vwCl w H → gvD A w → va_S A s.heap H locs → lv_has ls 9 (l0L i b a_off a_mod a_out a_outD) → W p l e room_1 s m #[.ref b] below meth c H locs (cells + rL.cells + rM.cells) (slots + rL.slots + rM.slots) Q (F0 m 2166 ls [])) : W p l e room_1 s m #[.ref b] below meth c H locs cells slots Q (F0 m 713 ls []) := by
  obtain ⟨hx, hb, hml, hts, hown, hE, hZ, hX, hbl, hbA, hA, hL9⟩ := hB
  refine lv_aload_n hx hb dL_law_713 rfl (lv_at hl 2 rfl) ?_
  refine lv_aload_n hx hb dL_law_714 rfl (lv_at hl 1 rfl) ?_
  refine lv_iload hx hb dL_law_715 (lv_at hl 0 rfl) ?_
  refine lv_iconst (v := nI 1) hx hb dL_law_717 (by decide) ?_
  refine g_iadd hx hb dL_law_718 (nI_add _ _) ?_
  refine g_scr hx hb hX hbl hbA hS (by omega) hL9 dL_law_719 ?_
  refine lv_aload_n hx hb dL_law_720 rfl (lv_at hl 1 rfl) ?_
  refine lv_iload hx hb dL_law_721 (lv_at hl 0 rfl) ?_
  refine lv_iconst (v := nI 2) hx hb dL_law_723 (by decide) ?_
  refine g_iadd hx hb dL_law_724 (nI_add _ _) ?_
  refine g_scr hx hb hX hbl hbA hS (by omega) hL9 dL_law_725 ?_
  refine lv_aload_n hx hb dL_law_726 rfl (lv_at hl 1 rfl) ?_
  refine lv_iload hx hb dL_law_727 (lv_at hl 0 rfl) ?_
  refine lv_iconst (v := nI 3) hx hb dL_law_729 (by decide) ?_
  refine g_iadd hx hb dL_law_730 (nI_add _ _) ?_
  refine g_scr hx hb hX hbl hbA hS (by omega) hL9 dL_law_731 ?_
  refine lv_aload_n hx hb dL_law_732 rfl (lv_at hl 1 rfl) ?_
  refine lv_iload hx hb dL_law_733 (lv_at hl 0 rfl) ?_
  refine lv_iconst (v := nI 4) hx hb dL_law_735 (by decide) ?_
  refine g_iadd hx hb dL_law_736 (nI_add _ _) ?_
  refine g_scr hx hb hX hbl hbA hS (by omega) hL9 dL_law_737 ?_
  refine g_bsel (t1 := 745) (t2 := 746) hx hb dL_law_738 (by decide) dL_law_741 dL_law_742 (by decide) dL_law_745 rfl ?_
  refine lv_aload_n hx hb dL_law_746 rfl (lv_at hl 4 rfl) ?_
  refine gcz_S_i (As := [.ref a_off, .int (xs (i + 1)), .int (xs (i + 2)), .int (xs (i + 3)), .int (gb (bz (xs (i + 4)))), .ref a_out]) (rest := []) hL ⟨hx, hb, hml, hown, hts⟩ (vx_cwSW 6 hts gL_law_L_contract rfl rfl rfl (by decide +kernel) hRL) hE hZ hP hD hS hA rfl rfl hl.1 (Nat.le_of_ble_eq_true rfl) dL_law_747 ⟨by show _ ≤ 601024; omega, by show _ ≤ 7293034; omega⟩ (fun r u H locs hP hD hS q1 => ?_)
  refine lv_istore (lv' := [(6, .int r), (5, .int (nI i)), (0, .ref b), (1, .ref a_off), (2, .ref a_mod), (3, .ref a_out), (4, .ref a_outD)]) hx hb dL_law_750 hl (by decide) rfl (fun ls hl => ?_)
  refine lv_aload_n hx hb dL_law_752 rfl (lv_at hl 4 rfl) ?_
  refine lv_aload_n hx hb dL_law_753 rfl (lv_at hl 2 rfl) ?_
  refine lv_iload hx hb dL_law_754 (lv_at hl 1 rfl) ?_
  refine lv_iconst (v := nI 1) hx hb dL_law_756 (by decide) ?_
  refine g_iadd hx hb dL_law_757 (nI_add _ _) ?_
  refine g_scr hx hb hX hbl hbA hS (by omega) hL9 dL_law_758 ?_
  refine lv_aload_n hx hb dL_law_759 rfl (lv_at hl 2 rfl) ?_
  refine lv_iload hx hb dL_law_760 (lv_at hl 1 rfl) ?_
  refine lv_iconst (v := nI 2) hx hb dL_law_762 (by decide) ?_
  refine g_iadd hx hb dL_law_763 (nI_add _ _) ?_
  refine g_scr hx hb hX hbl hbA hS (by omega) hL9 dL_law_764 ?_
  refine lv_aload_n hx hb dL_law_765 rfl (lv_at hl 2 rfl) ?_
  refine lv_iload hx hb dL_law_766 (lv_at hl 1 rfl) ?_
  refine lv_iconst (v := nI 3) hx hb dL_law_768 (by decide) ?_
  refine g_iadd hx hb dL_law_769 (nI_add _ _) ?_
  refine g_scr hx hb hX hbl hbA hS (by omega) hL9 dL_law_770 ?_
  refine lv_aload_n hx hb dL_law_771 rfl (lv_at hl 2 rfl) ?_
  refine lv_iload hx hb dL_law_772 (lv_at hl 1 rfl) ?_
  refine lv_iconst (v := nI 4) hx hb dL_law_774 (by decide) ?_
  refine g_iadd hx hb dL_law_775 (nI_add _ _) ?_
  refine g_scr hx hb hX hbl hbA hS (by omega) hL9 dL_law_776 ?_
  refine g_bsel (t1 := 784) (t2 := 785) hx hb dL_law_777 (by decide) dL_law_780 dL_law_781 (by decide) dL_law_784 rfl ?_
  obtain ⟨q9, fs9, g9⟩ := hm r u q1
  refine gcz_V_i (As := [.int (xs (i + 1)), .int (xs (i + 2)), .int (xs (i + 3)), .int (gb (bz (xs (i + 4))))]) (rest := []) (hM r u q1) ⟨hx, hb, hml, hown, hts⟩ (cwV 4 hts gL_law_X7_contract rfl rfl rfl (by decide +kernel) hRM) hE hZ hP hD hS hA _ g9 rfl rfl rfl rfl hl.1 (Nat.le_of_ble_eq_true rfl) dL_law_785 ⟨by show _ ≤ 601024; omega, by show _ ≤ 7293034; omega⟩ (fun v w H locs hP hD hS q2 => ?_)
  refine lv_istore (lv' := [(7, .int v), (6, .int r), (5, .int (nI i)), (0, .ref b), (1, .ref a_off), (2, .ref a_mod), (3, .ref a_out), (4, .ref a_outD)]) hx hb dL_law_788 hl (by decide) rfl (fun ls hl => ?_)
  refine lv_aload_n hx hb dL_law_790 rfl (lv_at hl 5 rfl) ?_
  obtain ⟨q8, fs8, g8⟩ := hm2 r u v w q1 q2
  refine gcz_V_i (As := []) (rest := []) (hT r u v w q1 q2) ⟨hx, hb, hml, hown, hts⟩ (cwV 0 hts gL_law_X7_thrown rfl rfl rfl (by decide +kernel) ⟨Nat.le_of_ble_eq_true rfl, Nat.le_of_ble_eq_true rfl⟩) hE hZ hP hD hS hA _ g8 rfl rfl rfl rfl hl.1 (Nat.le_of_ble_eq_true rfl) dL_law_791 ⟨by show _ ≤ 601024; exact hC.1, by show _ ≤ 7293034; exact hC.2⟩ (fun t w1 H locs hP hD hS q3 => ?_)
  obtain ⟨rfl, rfl⟩ := q3
  refine lv_iload hx hb dL_law_794 (lv_at hl 1 rfl) ?_
  refine g_icmpE (tgt := 801) hx hb dL_law_796 (by decide) ?_
  refine lv_iload hx hb dL_law_801 (lv_at hl 1 rfl) ?_
  refine lv_if_ne (tgt := 818) hx hb dL_law_803 (by decide) (fun _ => ?_) (fun h0 => ?_)
  · exact lv_goto (tgt := 2166) hx hb dL_law_818 (by decide) (kk r u v w H locs ls q1 q2 hP hD hS (lv_sub hl [2, 3, 4, 5, 6, 7] rfl))
  have h0 : r = nI 0 := by rw [show nI 0 = 0 from by decide]; exact h0
  obtain ⟨q7, o, g7, ho⟩ := hO r u v w q1 q2 h0
  refine lv_aload_n hx hb dL_law_806 rfl (lv_at hl 6 rfl) ?_
  refine lv_iconst (v := nI 0) hx hb dL_law_807 (by decide) ?_
  refine g_lald hx hb hE hP _ g7 (by decide) (by decide) dL_law_808 ?_
  refine lv_iload hx hb dL_law_809 (lv_at hl 0 rfl) ?_
  refine lv_i2l (v := Int32.toInt64 v) hx hb dL_law_811 rfl ?_
  rw [ho]
  refine g_lcmpE (tgt := 818) hx hb dL_law_812 dL_law_813 (by decide) ?_
  exact lv_goto (tgt := 2166) hx hb dL_law_818 (by decide) (kk r u v w H locs ls q1 q2 hP hD hS (lv_sub hl [2, 3, 4, 5, 6, 7] rfl))
set_option maxHeartbeats 4000000 in
set_option maxRecDepth 100000 in
theorem law_price {p : Program} {l : Launch} {e : Env} {s : State} {m : MethodId} {below : List Frame} {meth : Method} {c : Code} {H : Heap} {locs : List Loc} {cells slots : Nat} {Q : State → Prop} {ls : Array Slot} {D : va_G} {y : Nat → Nat} {A : Nat → Prop} {ws : va_W} {b L e9 mi : Nat} {xs : Nat → Int32} {i a_off a_mod a_out a_outD : Nat} {rL rM : Room} {P1 : Int32 → va_W → Prop} {P2 : Int32 → va_W → UInt64 → va_W → Prop}
    (hB : LWB p s m c meth b L xs D y e9 mi A) (hP : gvP D vwCl ws H) (hD : gvD A ws) (hS : va_S A s.heap H locs) (hl : lv_has ls 9 (l0L i b a_off a_mod a_out a_outD)) (hi : i + 5 ≤ L)
    (hL : gZi l yL_price wsL_price rL D y e9 mi [.ref a_off, .int (xs (i + 1)), .int (xs (i + 2)), .int (xs (i + 3)), .ref a_outD] ws P1)
    (hM : ∀ r u, P1 r u → gZd l yX7_price wsX7_price rM D y e9 mi [.ref a_mod, .int (xs (i + 1)), .int (xs (i + 2)), .int (xs (i + 3))] u (P2 r u))
    (hm : ∀ r u, P1 r u → ∃ (q : Nat) (fs : List Value), u[q]? = some (a_mod, Sum.inr (8, fs)))
    (hm2 : ∀ r u v w, P1 r u → P2 r u v w → ∃ (q : Nat) (fs : List Value), w[q]? = some (a_mod, Sum.inr (8, fs)))
    (hT : ∀ r u v w, P1 r u → P2 r u v w → gZi l yX7_thrown wsX7_thrown rmT D y e9 mi [.ref a_mod] w (fun t w' => r = t ∧ w = w'))
    (hO : ∀ r u v w, P1 r u → P2 r u v w → r = nI 0 → ∃ (q : Nat) (o : Nat → UInt64), w[q]? = some (a_outD, eD y 1 o) ∧ o 0 = v)
    (hRL : rL.frames + 1 ≤ room_1.frames ∧ 8 + (6 + 11) + rL.locals ≤ room_1.locals) (hRM : rM.frames + 1 ≤ room_1.frames ∧ 8 + (4 + 11) + rM.locals ≤ room_1.locals)
    (hC : cells + rL.cells + rM.cells ≤ 601024 ∧ slots + rL.slots + rM.slots ≤ 7293034)
    (kk : ∀ (r : Int32) (u : va_W) (v : UInt64) (w : va_W) (H : Heap) (locs : List Loc) (ls : Array Slot), P1 r u → P2 r u v w → gvP D vwCl w H → gvD A w → va_S A s.heap H locs → lv_has ls 9 (l0L i b a_off a_mod a_out a_outD) → W p l e room_1 s m #[.ref b] below meth c H locs (cells + rL.cells + rM.cells) (slots + rL.slots + rM.slots) Q (F0 m 2166 ls [])) : W p l e room_1 s m #[.ref b] below meth c H locs cells slots Q (F0 m 821 ls []) := by
  obtain ⟨hx, hb, hml, hts, hown, hE, hZ, hX, hbl, hbA, hA, hL9⟩ := hB
  refine lv_aload_n hx hb dL_law_821 rfl (lv_at hl 2 rfl) ?_
  refine lv_aload_n hx hb dL_law_822 rfl (lv_at hl 1 rfl) ?_
  refine lv_iload hx hb dL_law_823 (lv_at hl 0 rfl) ?_
  refine lv_iconst (v := nI 1) hx hb dL_law_825 (by decide) ?_
  refine g_iadd hx hb dL_law_826 (nI_add _ _) ?_
  refine g_scr hx hb hX hbl hbA hS (by omega) hL9 dL_law_827 ?_
  refine lv_aload_n hx hb dL_law_828 rfl (lv_at hl 1 rfl) ?_
  refine lv_iload hx hb dL_law_829 (lv_at hl 0 rfl) ?_
  refine lv_iconst (v := nI 2) hx hb dL_law_831 (by decide) ?_
  refine g_iadd hx hb dL_law_832 (nI_add _ _) ?_
  refine g_scr hx hb hX hbl hbA hS (by omega) hL9 dL_law_833 ?_
  refine lv_aload_n hx hb dL_law_834 rfl (lv_at hl 1 rfl) ?_
  refine lv_iload hx hb dL_law_835 (lv_at hl 0 rfl) ?_
  refine lv_iconst (v := nI 3) hx hb dL_law_837 (by decide) ?_
  refine g_iadd hx hb dL_law_838 (nI_add _ _) ?_
  refine g_scr hx hb hX hbl hbA hS (by omega) hL9 dL_law_839 ?_
  refine lv_aload hx hb dL_law_840 (lv_at hl 5 rfl) ?_
  refine gcz_S_i (As := [.ref a_off, .int (xs (i + 1)), .int (xs (i + 2)), .int (xs (i + 3)), .ref a_outD]) (rest := []) hL ⟨hx, hb, hml, hown, hts⟩ (vx_cwSW 5 hts gL_law_L_price rfl rfl rfl (by decide +kernel) hRL) hE hZ hP hD hS hA rfl rfl hl.1 (Nat.le_of_ble_eq_true rfl) dL_law_842 ⟨by show _ ≤ 601024; omega, by show _ ≤ 7293034; omega⟩ (fun r u H locs hP hD hS q1 => ?_)
  refine lv_istore (lv' := [(6, .int r), (5, .int (nI i)), (0, .ref b), (1, .ref a_off), (2, .ref a_mod), (3, .ref a_out), (4, .ref a_outD)]) hx hb dL_law_845 hl (by decide) rfl (fun ls hl => ?_)
  refine lv_aload_n hx hb dL_law_847 rfl (lv_at hl 4 rfl) ?_
  refine lv_aload_n hx hb dL_law_848 rfl (lv_at hl 2 rfl) ?_
  refine lv_iload hx hb dL_law_849 (lv_at hl 1 rfl) ?_
  refine lv_iconst (v := nI 1) hx hb dL_law_851 (by decide) ?_
  refine g_iadd hx hb dL_law_852 (nI_add _ _) ?_
  refine g_scr hx hb hX hbl hbA hS (by omega) hL9 dL_law_853 ?_
  refine lv_aload_n hx hb dL_law_854 rfl (lv_at hl 2 rfl) ?_
  refine lv_iload hx hb dL_law_855 (lv_at hl 1 rfl) ?_
  refine lv_iconst (v := nI 2) hx hb dL_law_857 (by decide) ?_
  refine g_iadd hx hb dL_law_858 (nI_add _ _) ?_
  refine g_scr hx hb hX hbl hbA hS (by omega) hL9 dL_law_859 ?_
  refine lv_aload_n hx hb dL_law_860 rfl (lv_at hl 2 rfl) ?_
  refine lv_iload hx hb dL_law_861 (lv_at hl 1 rfl) ?_
  refine lv_iconst (v := nI 3) hx hb dL_law_863 (by decide) ?_
  refine g_iadd hx hb dL_law_864 (nI_add _ _) ?_
  refine g_scr hx hb hX hbl hbA hS (by omega) hL9 dL_law_865 ?_
  obtain ⟨q9, fs9, g9⟩ := hm r u q1
  refine gcz_V_d (As := [.int (xs (i + 1)), .int (xs (i + 2)), .int (xs (i + 3))]) (rest := []) (hM r u q1) ⟨hx, hb, hml, hown, hts⟩ (cwV 3 hts gL_law_X7_price rfl rfl rfl (by decide +kernel) hRM) hE hZ hP hD hS hA _ g9 rfl rfl rfl rfl hl.1 (Nat.le_of_ble_eq_true rfl) dL_law_866 ⟨by show _ ≤ 601024; omega, by show _ ≤ 7293034; omega⟩ (fun v w H locs hP hD hS q2 => ?_)
  refine lv_dstore (lv' := [(7, .double v), (6, .int r), (5, .int (nI i)), (0, .ref b), (1, .ref a_off), (2, .ref a_mod), (3, .ref a_out), (4, .ref a_outD)]) hx hb dL_law_869 hl (by decide) rfl (fun ls hl => ?_)
  refine lv_aload_n hx hb dL_law_871 rfl (lv_at hl 5 rfl) ?_
  obtain ⟨q8, fs8, g8⟩ := hm2 r u v w q1 q2
  refine gcz_V_i (As := []) (rest := []) (hT r u v w q1 q2) ⟨hx, hb, hml, hown, hts⟩ (cwV 0 hts gL_law_X7_thrown rfl rfl rfl (by decide +kernel) ⟨Nat.le_of_ble_eq_true rfl, Nat.le_of_ble_eq_true rfl⟩) hE hZ hP hD hS hA _ g8 rfl rfl rfl rfl hl.1 (Nat.le_of_ble_eq_true rfl) dL_law_872 ⟨by show _ ≤ 601024; exact hC.1, by show _ ≤ 7293034; exact hC.2⟩ (fun t w1 H locs hP hD hS q3 => ?_)
  obtain ⟨rfl, rfl⟩ := q3
  refine lv_iload hx hb dL_law_875 (lv_at hl 1 rfl) ?_
  refine g_icmpE (tgt := 882) hx hb dL_law_877 (by decide) ?_
  refine lv_iload hx hb dL_law_882 (lv_at hl 1 rfl) ?_
  refine lv_if_ne (tgt := 919) hx hb dL_law_884 (by decide) (fun _ => ?_) (fun h0 => ?_)
  · exact lv_goto (tgt := 2166) hx hb dL_law_919 (by decide) (kk r u v w H locs ls q1 q2 hP hD hS (lv_sub hl [2, 3, 4, 5, 6, 7] rfl))
  have h0 : r = nI 0 := by rw [show nI 0 = 0 from by decide]; exact h0
  obtain ⟨q7, o, g7, ho⟩ := hO r u v w q1 q2 h0
  refine lv_aload hx hb dL_law_887 (lv_at hl 7 rfl) ?_
  refine lv_iconst (v := nI 0) hx hb dL_law_889 (by decide) ?_
  refine g_dald hx hb hE hP _ g7 (by decide) (by decide) dL_law_890 ?_
  refine lv_dload hx hb dL_law_891 (lv_at hl 0 rfl) ?_
  rw [ho]
  refine g_dcmpl_eq (tgt := 919) hx hb dL_law_893 dL_law_894 (by decide) (fun _ => ?_) (fun hne => ?_)
  · exact lv_goto (tgt := 2166) hx hb dL_law_919 (by decide) (kk r u v w H locs ls q1 q2 hP hD hS (lv_sub hl [2, 3, 4, 5, 6, 7] rfl))
  refine lv_aload hx hb dL_law_897 (lv_at hl 7 rfl) ?_
  refine lv_iconst (v := nI 0) hx hb dL_law_899 (by decide) ?_
  refine g_dald hx hb hE hP _ g7 (by decide) (by decide) dL_law_900 ?_
  refine lv_aload hx hb dL_law_901 (lv_at hl 7 rfl) ?_
  refine lv_iconst (v := nI 0) hx hb dL_law_903 (by decide) ?_
  refine g_dald hx hb hE hP _ g7 (by decide) (by decide) dL_law_904 ?_
  rw [ho]
  refine g_dcmpl_eq (tgt := 917) hx hb dL_law_905 dL_law_906 (by decide) (fun hq => absurd hq hne) (fun _ => ?_)
  refine lv_dload hx hb dL_law_909 (lv_at hl 0 rfl) ?_
  refine lv_dload hx hb dL_law_911 (lv_at hl 0 rfl) ?_
  refine g_dcmpl_ne (tgt := 919) hx hb dL_law_913 dL_law_914 (by decide) (fun _ => ?_) (fun hq => absurd hq hne)
  exact lv_goto (tgt := 2166) hx hb dL_law_919 (by decide) (kk r u v w H locs ls q1 q2 hP hD hS (lv_sub hl [2, 3, 4, 5, 6, 7] rfl))
set_option maxHeartbeats 4000000 in
set_option maxRecDepth 100000 in
theorem law_isMatched {p : Program} {l : Launch} {e : Env} {s : State} {m : MethodId} {below : List Frame} {meth : Method} {c : Code} {H : Heap} {locs : List Loc} {cells slots : Nat} {Q : State → Prop} {ls : Array Slot} {D : va_G} {y : Nat → Nat} {A : Nat → Prop} {ws : va_W} {b L e9 mi : Nat} {xs : Nat → Int32} {i a_off a_mod a_out a_outD : Nat} {rL rM : Room} {P1 : Int32 → va_W → Prop} {P2 : Int32 → va_W → Int32 → va_W → Prop}
    (hB : LWB p s m c meth b L xs D y e9 mi A) (hP : gvP D vwCl ws H) (hD : gvD A ws) (hS : va_S A s.heap H locs) (hl : lv_has ls 9 (l0L i b a_off a_mod a_out a_outD)) (hi : i + 5 ≤ L)
    (hL : gZi l yL_isMatched wsL_isMatched rL D y e9 mi [.ref a_off, .int (xs (i + 1)), .int (xs (i + 2)), .int (xs (i + 3)), .ref a_out] ws P1)
    (hM : ∀ r u, P1 r u → gZi l yX7_isMatched wsX7_isMatched rM D y e9 mi [.ref a_mod, .int (xs (i + 1)), .int (xs (i + 2)), .int (xs (i + 3))] u (P2 r u))
    (hm : ∀ r u, P1 r u → ∃ (q : Nat) (fs : List Value), u[q]? = some (a_mod, Sum.inr (8, fs)))
    (hm2 : ∀ r u v w, P1 r u → P2 r u v w → ∃ (q : Nat) (fs : List Value), w[q]? = some (a_mod, Sum.inr (8, fs)))
    (hT : ∀ r u v w, P1 r u → P2 r u v w → gZi l yX7_thrown wsX7_thrown rmT D y e9 mi [.ref a_mod] w (fun t w' => r = t ∧ w = w'))
    (hO : ∀ r u v w, P1 r u → P2 r u v w → r = nI 0 → ∃ (q : Nat) (o : Nat → Int64), w[q]? = some (a_out, eJ y 1 o) ∧ o 0 = cvb v)
    (hRL : rL.frames + 1 ≤ room_1.frames ∧ 8 + (6 + 11) + rL.locals ≤ room_1.locals) (hRM : rM.frames + 1 ≤ room_1.frames ∧ 8 + (4 + 11) + rM.locals ≤ room_1.locals)
    (hC : cells + rL.cells + rM.cells ≤ 601024 ∧ slots + rL.slots + rM.slots ≤ 7293034)
    (kk : ∀ (r : Int32) (u : va_W) (v : Int32) (w : va_W) (H : Heap) (locs : List Loc) (ls : Array Slot), P1 r u → P2 r u v w → gvP D vwCl w H → gvD A w → va_S A s.heap H locs → lv_has ls 9 (l0L i b a_off a_mod a_out a_outD) → W p l e room_1 s m #[.ref b] below meth c H locs (cells + rL.cells + rM.cells) (slots + rL.slots + rM.slots) Q (F0 m 2166 ls [])) : W p l e room_1 s m #[.ref b] below meth c H locs cells slots Q (F0 m 922 ls []) := by
  obtain ⟨hx, hb, hml, hts, hown, hE, hZ, hX, hbl, hbA, hA, hL9⟩ := hB
  refine lv_aload_n hx hb dL_law_922 rfl (lv_at hl 2 rfl) ?_
  refine lv_aload_n hx hb dL_law_923 rfl (lv_at hl 1 rfl) ?_
  refine lv_iload hx hb dL_law_924 (lv_at hl 0 rfl) ?_
  refine lv_iconst (v := nI 1) hx hb dL_law_926 (by decide) ?_
  refine g_iadd hx hb dL_law_927 (nI_add _ _) ?_
  refine g_scr hx hb hX hbl hbA hS (by omega) hL9 dL_law_928 ?_
  refine lv_aload_n hx hb dL_law_929 rfl (lv_at hl 1 rfl) ?_
  refine lv_iload hx hb dL_law_930 (lv_at hl 0 rfl) ?_
  refine lv_iconst (v := nI 2) hx hb dL_law_932 (by decide) ?_
  refine g_iadd hx hb dL_law_933 (nI_add _ _) ?_
  refine g_scr hx hb hX hbl hbA hS (by omega) hL9 dL_law_934 ?_
  refine lv_aload_n hx hb dL_law_935 rfl (lv_at hl 1 rfl) ?_
  refine lv_iload hx hb dL_law_936 (lv_at hl 0 rfl) ?_
  refine lv_iconst (v := nI 3) hx hb dL_law_938 (by decide) ?_
  refine g_iadd hx hb dL_law_939 (nI_add _ _) ?_
  refine g_scr hx hb hX hbl hbA hS (by omega) hL9 dL_law_940 ?_
  refine lv_aload_n hx hb dL_law_941 rfl (lv_at hl 4 rfl) ?_
  refine gcz_S_i (As := [.ref a_off, .int (xs (i + 1)), .int (xs (i + 2)), .int (xs (i + 3)), .ref a_out]) (rest := []) hL ⟨hx, hb, hml, hown, hts⟩ (vx_cwSW 5 hts gL_law_L_isMatched rfl rfl rfl (by decide +kernel) hRL) hE hZ hP hD hS hA rfl rfl hl.1 (Nat.le_of_ble_eq_true rfl) dL_law_942 ⟨by show _ ≤ 601024; omega, by show _ ≤ 7293034; omega⟩ (fun r u H locs hP hD hS q1 => ?_)
  refine lv_istore (lv' := [(6, .int r), (5, .int (nI i)), (0, .ref b), (1, .ref a_off), (2, .ref a_mod), (3, .ref a_out), (4, .ref a_outD)]) hx hb dL_law_945 hl (by decide) rfl (fun ls hl => ?_)
  refine lv_aload_n hx hb dL_law_947 rfl (lv_at hl 4 rfl) ?_
  refine lv_aload_n hx hb dL_law_948 rfl (lv_at hl 2 rfl) ?_
  refine lv_iload hx hb dL_law_949 (lv_at hl 1 rfl) ?_
  refine lv_iconst (v := nI 1) hx hb dL_law_951 (by decide) ?_
  refine g_iadd hx hb dL_law_952 (nI_add _ _) ?_
  refine g_scr hx hb hX hbl hbA hS (by omega) hL9 dL_law_953 ?_
  refine lv_aload_n hx hb dL_law_954 rfl (lv_at hl 2 rfl) ?_
  refine lv_iload hx hb dL_law_955 (lv_at hl 1 rfl) ?_
  refine lv_iconst (v := nI 2) hx hb dL_law_957 (by decide) ?_
  refine g_iadd hx hb dL_law_958 (nI_add _ _) ?_
  refine g_scr hx hb hX hbl hbA hS (by omega) hL9 dL_law_959 ?_
  refine lv_aload_n hx hb dL_law_960 rfl (lv_at hl 2 rfl) ?_
  refine lv_iload hx hb dL_law_961 (lv_at hl 1 rfl) ?_
  refine lv_iconst (v := nI 3) hx hb dL_law_963 (by decide) ?_
  refine g_iadd hx hb dL_law_964 (nI_add _ _) ?_
  refine g_scr hx hb hX hbl hbA hS (by omega) hL9 dL_law_965 ?_
  obtain ⟨q9, fs9, g9⟩ := hm r u q1
  refine gcz_V_i (As := [.int (xs (i + 1)), .int (xs (i + 2)), .int (xs (i + 3))]) (rest := []) (hM r u q1) ⟨hx, hb, hml, hown, hts⟩ (cwV 3 hts gL_law_X7_isMatched rfl rfl rfl (by decide +kernel) hRM) hE hZ hP hD hS hA _ g9 rfl rfl rfl rfl hl.1 (Nat.le_of_ble_eq_true rfl) dL_law_966 ⟨by show _ ≤ 601024; omega, by show _ ≤ 7293034; omega⟩ (fun v w H locs hP hD hS q2 => ?_)
  refine lv_istore (lv' := [(7, .int v), (6, .int r), (5, .int (nI i)), (0, .ref b), (1, .ref a_off), (2, .ref a_mod), (3, .ref a_out), (4, .ref a_outD)]) hx hb dL_law_969 hl (by decide) rfl (fun ls hl => ?_)
  refine lv_aload_n hx hb dL_law_971 rfl (lv_at hl 5 rfl) ?_
  obtain ⟨q8, fs8, g8⟩ := hm2 r u v w q1 q2
  refine gcz_V_i (As := []) (rest := []) (hT r u v w q1 q2) ⟨hx, hb, hml, hown, hts⟩ (cwV 0 hts gL_law_X7_thrown rfl rfl rfl (by decide +kernel) ⟨Nat.le_of_ble_eq_true rfl, Nat.le_of_ble_eq_true rfl⟩) hE hZ hP hD hS hA _ g8 rfl rfl rfl rfl hl.1 (Nat.le_of_ble_eq_true rfl) dL_law_972 ⟨by show _ ≤ 601024; exact hC.1, by show _ ≤ 7293034; exact hC.2⟩ (fun t w1 H locs hP hD hS q3 => ?_)
  obtain ⟨rfl, rfl⟩ := q3
  refine lv_iload hx hb dL_law_975 (lv_at hl 1 rfl) ?_
  refine g_icmpE (tgt := 982) hx hb dL_law_977 (by decide) ?_
  refine lv_iload hx hb dL_law_982 (lv_at hl 1 rfl) ?_
  refine lv_if_ne (tgt := 1006) hx hb dL_law_984 (by decide) (fun _ => ?_) (fun h0 => ?_)
  · exact lv_goto (tgt := 2166) hx hb dL_law_1006 (by decide) (kk r u v w H locs ls q1 q2 hP hD hS (lv_sub hl [2, 3, 4, 5, 6, 7] rfl))
  have h0 : r = nI 0 := by rw [show nI 0 = 0 from by decide]; exact h0
  obtain ⟨q7, o, g7, ho⟩ := hO r u v w q1 q2 h0
  refine lv_aload_n hx hb dL_law_987 rfl (lv_at hl 6 rfl) ?_
  refine lv_iconst (v := nI 0) hx hb dL_law_988 (by decide) ?_
  refine g_lald hx hb hE hP _ g7 (by decide) (by decide) dL_law_989 ?_
  refine lv_iload hx hb dL_law_990 (lv_at hl 0 rfl) ?_
  refine g_lsel (t1 := 999) (t2 := 1000) hx hb dL_law_992 (by decide) dL_law_995 dL_law_996 (by decide) dL_law_999 rfl ?_
  rw [ho]
  refine g_lcmpE (tgt := 1006) hx hb dL_law_1000 dL_law_1001 (by decide) ?_
  exact lv_goto (tgt := 2166) hx hb dL_law_1006 (by decide) (kk r u v w H locs ls q1 q2 hP hD hS (lv_sub hl [2, 3, 4, 5, 6, 7] rfl))
set_option maxHeartbeats 4000000 in
set_option maxRecDepth 100000 in
theorem law_relative {p : Program} {l : Launch} {e : Env} {s : State} {m : MethodId} {below : List Frame} {meth : Method} {c : Code} {H : Heap} {locs : List Loc} {cells slots : Nat} {Q : State → Prop} {ls : Array Slot} {D : va_G} {y : Nat → Nat} {A : Nat → Prop} {ws : va_W} {b L e9 mi : Nat} {xs : Nat → Int32} {i a_off a_mod a_out a_outD : Nat} {rL rM : Room} {P1 : Int32 → va_W → Prop} {P2 : Int32 → va_W → UInt64 → va_W → Prop}
    (hB : LWB p s m c meth b L xs D y e9 mi A) (hP : gvP D vwCl ws H) (hD : gvD A ws) (hS : va_S A s.heap H locs) (hl : lv_has ls 9 (l0L i b a_off a_mod a_out a_outD)) (hi : i + 5 ≤ L)
    (hL : gZi l yL_relative wsL_relative rL D y e9 mi [.ref a_off, .int (xs (i + 1)), .int (xs (i + 2)), .ref a_outD] ws P1)
    (hM : ∀ r u, P1 r u → gZd l yX7_relative wsX7_relative rM D y e9 mi [.ref a_mod, .int (xs (i + 1)), .int (xs (i + 2))] u (P2 r u))
    (hm : ∀ r u, P1 r u → ∃ (q : Nat) (fs : List Value), u[q]? = some (a_mod, Sum.inr (8, fs)))
    (hm2 : ∀ r u v w, P1 r u → P2 r u v w → ∃ (q : Nat) (fs : List Value), w[q]? = some (a_mod, Sum.inr (8, fs)))
    (hT : ∀ r u v w, P1 r u → P2 r u v w → gZi l yX7_thrown wsX7_thrown rmT D y e9 mi [.ref a_mod] w (fun t w' => r = t ∧ w = w'))
    (hO : ∀ r u v w, P1 r u → P2 r u v w → r = nI 0 → ∃ (q : Nat) (o : Nat → UInt64), w[q]? = some (a_outD, eD y 1 o) ∧ o 0 = v)
    (hRL : rL.frames + 1 ≤ room_1.frames ∧ 8 + (5 + 11) + rL.locals ≤ room_1.locals) (hRM : rM.frames + 1 ≤ room_1.frames ∧ 8 + (3 + 11) + rM.locals ≤ room_1.locals)
    (hC : cells + rL.cells + rM.cells ≤ 601024 ∧ slots + rL.slots + rM.slots ≤ 7293034)
    (kk : ∀ (r : Int32) (u : va_W) (v : UInt64) (w : va_W) (H : Heap) (locs : List Loc) (ls : Array Slot), P1 r u → P2 r u v w → gvP D vwCl w H → gvD A w → va_S A s.heap H locs → lv_has ls 9 (l0L i b a_off a_mod a_out a_outD) → W p l e room_1 s m #[.ref b] below meth c H locs (cells + rL.cells + rM.cells) (slots + rL.slots + rM.slots) Q (F0 m 2166 ls [])) : W p l e room_1 s m #[.ref b] below meth c H locs cells slots Q (F0 m 1009 ls []) := by
  obtain ⟨hx, hb, hml, hts, hown, hE, hZ, hX, hbl, hbA, hA, hL9⟩ := hB
  refine lv_aload_n hx hb dL_law_1009 rfl (lv_at hl 2 rfl) ?_
  refine lv_aload_n hx hb dL_law_1010 rfl (lv_at hl 1 rfl) ?_
  refine lv_iload hx hb dL_law_1011 (lv_at hl 0 rfl) ?_
  refine lv_iconst (v := nI 1) hx hb dL_law_1013 (by decide) ?_
  refine g_iadd hx hb dL_law_1014 (nI_add _ _) ?_
  refine g_scr hx hb hX hbl hbA hS (by omega) hL9 dL_law_1015 ?_
  refine lv_aload_n hx hb dL_law_1016 rfl (lv_at hl 1 rfl) ?_
  refine lv_iload hx hb dL_law_1017 (lv_at hl 0 rfl) ?_
  refine lv_iconst (v := nI 2) hx hb dL_law_1019 (by decide) ?_
  refine g_iadd hx hb dL_law_1020 (nI_add _ _) ?_
  refine g_scr hx hb hX hbl hbA hS (by omega) hL9 dL_law_1021 ?_
  refine lv_aload hx hb dL_law_1022 (lv_at hl 5 rfl) ?_
  refine gcz_S_i (As := [.ref a_off, .int (xs (i + 1)), .int (xs (i + 2)), .ref a_outD]) (rest := []) hL ⟨hx, hb, hml, hown, hts⟩ (vx_cwSW 4 hts gL_law_L_relative rfl rfl rfl (by decide +kernel) hRL) hE hZ hP hD hS hA rfl rfl hl.1 (Nat.le_of_ble_eq_true rfl) dL_law_1024 ⟨by show _ ≤ 601024; omega, by show _ ≤ 7293034; omega⟩ (fun r u H locs hP hD hS q1 => ?_)
  refine lv_istore (lv' := [(6, .int r), (5, .int (nI i)), (0, .ref b), (1, .ref a_off), (2, .ref a_mod), (3, .ref a_out), (4, .ref a_outD)]) hx hb dL_law_1027 hl (by decide) rfl (fun ls hl => ?_)
  refine lv_aload_n hx hb dL_law_1029 rfl (lv_at hl 4 rfl) ?_
  refine lv_aload_n hx hb dL_law_1030 rfl (lv_at hl 2 rfl) ?_
  refine lv_iload hx hb dL_law_1031 (lv_at hl 1 rfl) ?_
  refine lv_iconst (v := nI 1) hx hb dL_law_1033 (by decide) ?_
  refine g_iadd hx hb dL_law_1034 (nI_add _ _) ?_
  refine g_scr hx hb hX hbl hbA hS (by omega) hL9 dL_law_1035 ?_
  refine lv_aload_n hx hb dL_law_1036 rfl (lv_at hl 2 rfl) ?_
  refine lv_iload hx hb dL_law_1037 (lv_at hl 1 rfl) ?_
  refine lv_iconst (v := nI 2) hx hb dL_law_1039 (by decide) ?_
  refine g_iadd hx hb dL_law_1040 (nI_add _ _) ?_
  refine g_scr hx hb hX hbl hbA hS (by omega) hL9 dL_law_1041 ?_
  obtain ⟨q9, fs9, g9⟩ := hm r u q1
  refine gcz_V_d (As := [.int (xs (i + 1)), .int (xs (i + 2))]) (rest := []) (hM r u q1) ⟨hx, hb, hml, hown, hts⟩ (cwV 2 hts gL_law_X7_relative rfl rfl rfl (by decide +kernel) hRM) hE hZ hP hD hS hA _ g9 rfl rfl rfl rfl hl.1 (Nat.le_of_ble_eq_true rfl) dL_law_1042 ⟨by show _ ≤ 601024; omega, by show _ ≤ 7293034; omega⟩ (fun v w H locs hP hD hS q2 => ?_)
  refine lv_dstore (lv' := [(7, .double v), (6, .int r), (5, .int (nI i)), (0, .ref b), (1, .ref a_off), (2, .ref a_mod), (3, .ref a_out), (4, .ref a_outD)]) hx hb dL_law_1045 hl (by decide) rfl (fun ls hl => ?_)
  refine lv_aload_n hx hb dL_law_1047 rfl (lv_at hl 5 rfl) ?_
  obtain ⟨q8, fs8, g8⟩ := hm2 r u v w q1 q2
  refine gcz_V_i (As := []) (rest := []) (hT r u v w q1 q2) ⟨hx, hb, hml, hown, hts⟩ (cwV 0 hts gL_law_X7_thrown rfl rfl rfl (by decide +kernel) ⟨Nat.le_of_ble_eq_true rfl, Nat.le_of_ble_eq_true rfl⟩) hE hZ hP hD hS hA _ g8 rfl rfl rfl rfl hl.1 (Nat.le_of_ble_eq_true rfl) dL_law_1048 ⟨by show _ ≤ 601024; exact hC.1, by show _ ≤ 7293034; exact hC.2⟩ (fun t w1 H locs hP hD hS q3 => ?_)
  obtain ⟨rfl, rfl⟩ := q3
  refine lv_iload hx hb dL_law_1051 (lv_at hl 1 rfl) ?_
  refine g_icmpE (tgt := 1058) hx hb dL_law_1053 (by decide) ?_
  refine lv_iload hx hb dL_law_1058 (lv_at hl 1 rfl) ?_
  refine lv_if_ne (tgt := 1095) hx hb dL_law_1060 (by decide) (fun _ => ?_) (fun h0 => ?_)
  · exact lv_goto (tgt := 2166) hx hb dL_law_1095 (by decide) (kk r u v w H locs ls q1 q2 hP hD hS (lv_sub hl [2, 3, 4, 5, 6, 7] rfl))
  have h0 : r = nI 0 := by rw [show nI 0 = 0 from by decide]; exact h0
  obtain ⟨q7, o, g7, ho⟩ := hO r u v w q1 q2 h0
  refine lv_aload hx hb dL_law_1063 (lv_at hl 7 rfl) ?_
  refine lv_iconst (v := nI 0) hx hb dL_law_1065 (by decide) ?_
  refine g_dald hx hb hE hP _ g7 (by decide) (by decide) dL_law_1066 ?_
  refine lv_dload hx hb dL_law_1067 (lv_at hl 0 rfl) ?_
  rw [ho]
  refine g_dcmpl_eq (tgt := 1095) hx hb dL_law_1069 dL_law_1070 (by decide) (fun _ => ?_) (fun hne => ?_)
  · exact lv_goto (tgt := 2166) hx hb dL_law_1095 (by decide) (kk r u v w H locs ls q1 q2 hP hD hS (lv_sub hl [2, 3, 4, 5, 6, 7] rfl))
  refine lv_aload hx hb dL_law_1073 (lv_at hl 7 rfl) ?_
  refine lv_iconst (v := nI 0) hx hb dL_law_1075 (by decide) ?_
  refine g_dald hx hb hE hP _ g7 (by decide) (by decide) dL_law_1076 ?_
  refine lv_aload hx hb dL_law_1077 (lv_at hl 7 rfl) ?_
  refine lv_iconst (v := nI 0) hx hb dL_law_1079 (by decide) ?_
  refine g_dald hx hb hE hP _ g7 (by decide) (by decide) dL_law_1080 ?_
  rw [ho]
  refine g_dcmpl_eq (tgt := 1093) hx hb dL_law_1081 dL_law_1082 (by decide) (fun hq => absurd hq hne) (fun _ => ?_)
  refine lv_dload hx hb dL_law_1085 (lv_at hl 0 rfl) ?_
  refine lv_dload hx hb dL_law_1087 (lv_at hl 0 rfl) ?_
  refine g_dcmpl_ne (tgt := 1095) hx hb dL_law_1089 dL_law_1090 (by decide) (fun _ => ?_) (fun hq => absurd hq hne)
  exact lv_goto (tgt := 2166) hx hb dL_law_1095 (by decide) (kk r u v w H locs ls q1 q2 hP hD hS (lv_sub hl [2, 3, 4, 5, 6, 7] rfl))
set_option maxHeartbeats 4000000 in
set_option maxRecDepth 100000 in
theorem law_bounce {p : Program} {l : Launch} {e : Env} {s : State} {m : MethodId} {below : List Frame} {meth : Method} {c : Code} {H : Heap} {locs : List Loc} {cells slots : Nat} {Q : State → Prop} {ls : Array Slot} {D : va_G} {y : Nat → Nat} {A : Nat → Prop} {ws : va_W} {b L e9 mi : Nat} {xs : Nat → Int32} {i a_off a_mod a_out a_outD : Nat} {rL rM : Room} {P1 : Int32 → va_W → Prop} {P2 : Int32 → va_W → UInt64 → va_W → Prop}
    (hB : LWB p s m c meth b L xs D y e9 mi A) (hP : gvP D vwCl ws H) (hD : gvD A ws) (hS : va_S A s.heap H locs) (hl : lv_has ls 9 (l0L i b a_off a_mod a_out a_outD)) (hi : i + 5 ≤ L)
    (hL : gZi l yL_bounce wsL_bounce rL D y e9 mi [.ref a_off, .int (xs (i + 1)), .int (xs (i + 2)), .ref a_outD] ws P1)
    (hM : ∀ r u, P1 r u → gZd l yX7_bounce wsX7_bounce rM D y e9 mi [.ref a_mod, .int (xs (i + 1)), .int (xs (i + 2))] u (P2 r u))
    (hm : ∀ r u, P1 r u → ∃ (q : Nat) (fs : List Value), u[q]? = some (a_mod, Sum.inr (8, fs)))
    (hm2 : ∀ r u v w, P1 r u → P2 r u v w → ∃ (q : Nat) (fs : List Value), w[q]? = some (a_mod, Sum.inr (8, fs)))
    (hT : ∀ r u v w, P1 r u → P2 r u v w → gZi l yX7_thrown wsX7_thrown rmT D y e9 mi [.ref a_mod] w (fun t w' => r = t ∧ w = w'))
    (hO : ∀ r u v w, P1 r u → P2 r u v w → r = nI 0 → ∃ (q : Nat) (o : Nat → UInt64), w[q]? = some (a_outD, eD y 1 o) ∧ o 0 = v)
    (hRL : rL.frames + 1 ≤ room_1.frames ∧ 8 + (5 + 11) + rL.locals ≤ room_1.locals) (hRM : rM.frames + 1 ≤ room_1.frames ∧ 8 + (3 + 11) + rM.locals ≤ room_1.locals)
    (hC : cells + rL.cells + rM.cells ≤ 601024 ∧ slots + rL.slots + rM.slots ≤ 7293034)
    (kk : ∀ (r : Int32) (u : va_W) (v : UInt64) (w : va_W) (H : Heap) (locs : List Loc) (ls : Array Slot), P1 r u → P2 r u v w → gvP D vwCl w H → gvD A w → va_S A s.heap H locs → lv_has ls 9 (l0L i b a_off a_mod a_out a_outD) → W p l e room_1 s m #[.ref b] below meth c H locs (cells + rL.cells + rM.cells) (slots + rL.slots + rM.slots) Q (F0 m 2166 ls [])) : W p l e room_1 s m #[.ref b] below meth c H locs cells slots Q (F0 m 1098 ls []) := by
  obtain ⟨hx, hb, hml, hts, hown, hE, hZ, hX, hbl, hbA, hA, hL9⟩ := hB
  refine lv_aload_n hx hb dL_law_1098 rfl (lv_at hl 2 rfl) ?_
  refine lv_aload_n hx hb dL_law_1099 rfl (lv_at hl 1 rfl) ?_
  refine lv_iload hx hb dL_law_1100 (lv_at hl 0 rfl) ?_
  refine lv_iconst (v := nI 1) hx hb dL_law_1102 (by decide) ?_
  refine g_iadd hx hb dL_law_1103 (nI_add _ _) ?_
  refine g_scr hx hb hX hbl hbA hS (by omega) hL9 dL_law_1104 ?_
  refine lv_aload_n hx hb dL_law_1105 rfl (lv_at hl 1 rfl) ?_
  refine lv_iload hx hb dL_law_1106 (lv_at hl 0 rfl) ?_
  refine lv_iconst (v := nI 2) hx hb dL_law_1108 (by decide) ?_
  refine g_iadd hx hb dL_law_1109 (nI_add _ _) ?_
  refine g_scr hx hb hX hbl hbA hS (by omega) hL9 dL_law_1110 ?_
  refine lv_aload hx hb dL_law_1111 (lv_at hl 5 rfl) ?_
  refine gcz_S_i (As := [.ref a_off, .int (xs (i + 1)), .int (xs (i + 2)), .ref a_outD]) (rest := []) hL ⟨hx, hb, hml, hown, hts⟩ (vx_cwSW 4 hts gL_law_L_bounce rfl rfl rfl (by decide +kernel) hRL) hE hZ hP hD hS hA rfl rfl hl.1 (Nat.le_of_ble_eq_true rfl) dL_law_1113 ⟨by show _ ≤ 601024; omega, by show _ ≤ 7293034; omega⟩ (fun r u H locs hP hD hS q1 => ?_)
  refine lv_istore (lv' := [(6, .int r), (5, .int (nI i)), (0, .ref b), (1, .ref a_off), (2, .ref a_mod), (3, .ref a_out), (4, .ref a_outD)]) hx hb dL_law_1116 hl (by decide) rfl (fun ls hl => ?_)
  refine lv_aload_n hx hb dL_law_1118 rfl (lv_at hl 4 rfl) ?_
  refine lv_aload_n hx hb dL_law_1119 rfl (lv_at hl 2 rfl) ?_
  refine lv_iload hx hb dL_law_1120 (lv_at hl 1 rfl) ?_
  refine lv_iconst (v := nI 1) hx hb dL_law_1122 (by decide) ?_
  refine g_iadd hx hb dL_law_1123 (nI_add _ _) ?_
  refine g_scr hx hb hX hbl hbA hS (by omega) hL9 dL_law_1124 ?_
  refine lv_aload_n hx hb dL_law_1125 rfl (lv_at hl 2 rfl) ?_
  refine lv_iload hx hb dL_law_1126 (lv_at hl 1 rfl) ?_
  refine lv_iconst (v := nI 2) hx hb dL_law_1128 (by decide) ?_
  refine g_iadd hx hb dL_law_1129 (nI_add _ _) ?_
  refine g_scr hx hb hX hbl hbA hS (by omega) hL9 dL_law_1130 ?_
  obtain ⟨q9, fs9, g9⟩ := hm r u q1
  refine gcz_V_d (As := [.int (xs (i + 1)), .int (xs (i + 2))]) (rest := []) (hM r u q1) ⟨hx, hb, hml, hown, hts⟩ (cwV 2 hts gL_law_X7_bounce rfl rfl rfl (by decide +kernel) hRM) hE hZ hP hD hS hA _ g9 rfl rfl rfl rfl hl.1 (Nat.le_of_ble_eq_true rfl) dL_law_1131 ⟨by show _ ≤ 601024; omega, by show _ ≤ 7293034; omega⟩ (fun v w H locs hP hD hS q2 => ?_)
  refine lv_dstore (lv' := [(7, .double v), (6, .int r), (5, .int (nI i)), (0, .ref b), (1, .ref a_off), (2, .ref a_mod), (3, .ref a_out), (4, .ref a_outD)]) hx hb dL_law_1134 hl (by decide) rfl (fun ls hl => ?_)
  refine lv_aload_n hx hb dL_law_1136 rfl (lv_at hl 5 rfl) ?_
  obtain ⟨q8, fs8, g8⟩ := hm2 r u v w q1 q2
  refine gcz_V_i (As := []) (rest := []) (hT r u v w q1 q2) ⟨hx, hb, hml, hown, hts⟩ (cwV 0 hts gL_law_X7_thrown rfl rfl rfl (by decide +kernel) ⟨Nat.le_of_ble_eq_true rfl, Nat.le_of_ble_eq_true rfl⟩) hE hZ hP hD hS hA _ g8 rfl rfl rfl rfl hl.1 (Nat.le_of_ble_eq_true rfl) dL_law_1137 ⟨by show _ ≤ 601024; exact hC.1, by show _ ≤ 7293034; exact hC.2⟩ (fun t w1 H locs hP hD hS q3 => ?_)
  obtain ⟨rfl, rfl⟩ := q3
  refine lv_iload hx hb dL_law_1140 (lv_at hl 1 rfl) ?_
  refine g_icmpE (tgt := 1147) hx hb dL_law_1142 (by decide) ?_
  refine lv_iload hx hb dL_law_1147 (lv_at hl 1 rfl) ?_
  refine lv_if_ne (tgt := 1184) hx hb dL_law_1149 (by decide) (fun _ => ?_) (fun h0 => ?_)
  · exact lv_goto (tgt := 2166) hx hb dL_law_1184 (by decide) (kk r u v w H locs ls q1 q2 hP hD hS (lv_sub hl [2, 3, 4, 5, 6, 7] rfl))
  have h0 : r = nI 0 := by rw [show nI 0 = 0 from by decide]; exact h0
  obtain ⟨q7, o, g7, ho⟩ := hO r u v w q1 q2 h0
  refine lv_aload hx hb dL_law_1152 (lv_at hl 7 rfl) ?_
  refine lv_iconst (v := nI 0) hx hb dL_law_1154 (by decide) ?_
  refine g_dald hx hb hE hP _ g7 (by decide) (by decide) dL_law_1155 ?_
  refine lv_dload hx hb dL_law_1156 (lv_at hl 0 rfl) ?_
  rw [ho]
  refine g_dcmpl_eq (tgt := 1184) hx hb dL_law_1158 dL_law_1159 (by decide) (fun _ => ?_) (fun hne => ?_)
  · exact lv_goto (tgt := 2166) hx hb dL_law_1184 (by decide) (kk r u v w H locs ls q1 q2 hP hD hS (lv_sub hl [2, 3, 4, 5, 6, 7] rfl))
  refine lv_aload hx hb dL_law_1162 (lv_at hl 7 rfl) ?_
  refine lv_iconst (v := nI 0) hx hb dL_law_1164 (by decide) ?_
  refine g_dald hx hb hE hP _ g7 (by decide) (by decide) dL_law_1165 ?_
  refine lv_aload hx hb dL_law_1166 (lv_at hl 7 rfl) ?_
  refine lv_iconst (v := nI 0) hx hb dL_law_1168 (by decide) ?_
  refine g_dald hx hb hE hP _ g7 (by decide) (by decide) dL_law_1169 ?_
  rw [ho]
  refine g_dcmpl_eq (tgt := 1182) hx hb dL_law_1170 dL_law_1171 (by decide) (fun hq => absurd hq hne) (fun _ => ?_)
  refine lv_dload hx hb dL_law_1174 (lv_at hl 0 rfl) ?_
  refine lv_dload hx hb dL_law_1176 (lv_at hl 0 rfl) ?_
  refine g_dcmpl_ne (tgt := 1184) hx hb dL_law_1178 dL_law_1179 (by decide) (fun _ => ?_) (fun hq => absurd hq hne)
  exact lv_goto (tgt := 2166) hx hb dL_law_1184 (by decide) (kk r u v w H locs ls q1 q2 hP hD hS (lv_sub hl [2, 3, 4, 5, 6, 7] rfl))
set_option maxHeartbeats 4000000 in
set_option maxRecDepth 100000 in
theorem law_ofGroup {p : Program} {l : Launch} {e : Env} {s : State} {m : MethodId} {below : List Frame} {meth : Method} {c : Code} {H : Heap} {locs : List Loc} {cells slots : Nat} {Q : State → Prop} {ls : Array Slot} {D : va_G} {y : Nat → Nat} {A : Nat → Prop} {ws : va_W} {b L e9 mi : Nat} {xs : Nat → Int32} {i a_off a_mod a_out a_outD : Nat} {rL rM : Room} {P1 : Int32 → va_W → Prop} {P2 : Int32 → va_W → UInt64 → va_W → Prop}
    (hB : LWB p s m c meth b L xs D y e9 mi A) (hP : gvP D vwCl ws H) (hD : gvD A ws) (hS : va_S A s.heap H locs) (hl : lv_has ls 9 (l0L i b a_off a_mod a_out a_outD)) (hi : i + 5 ≤ L)
    (hL : gZi l yL_ofGroup wsL_ofGroup rL D y e9 mi [.ref a_off, .int (xs (i + 1)), .int (xs (i + 2)), .ref a_outD] ws P1)
    (hM : ∀ r u, P1 r u → gZd l yX7_ofGroup wsX7_ofGroup rM D y e9 mi [.ref a_mod, .int (xs (i + 1)), .int (xs (i + 2))] u (P2 r u))
    (hm : ∀ r u, P1 r u → ∃ (q : Nat) (fs : List Value), u[q]? = some (a_mod, Sum.inr (8, fs)))
    (hm2 : ∀ r u v w, P1 r u → P2 r u v w → ∃ (q : Nat) (fs : List Value), w[q]? = some (a_mod, Sum.inr (8, fs)))
    (hT : ∀ r u v w, P1 r u → P2 r u v w → gZi l yX7_thrown wsX7_thrown rmT D y e9 mi [.ref a_mod] w (fun t w' => r = t ∧ w = w'))
    (hO : ∀ r u v w, P1 r u → P2 r u v w → r = nI 0 → ∃ (q : Nat) (o : Nat → UInt64), w[q]? = some (a_outD, eD y 1 o) ∧ o 0 = v)
    (hRL : rL.frames + 1 ≤ room_1.frames ∧ 8 + (5 + 11) + rL.locals ≤ room_1.locals) (hRM : rM.frames + 1 ≤ room_1.frames ∧ 8 + (3 + 11) + rM.locals ≤ room_1.locals)
    (hC : cells + rL.cells + rM.cells ≤ 601024 ∧ slots + rL.slots + rM.slots ≤ 7293034)
    (kk : ∀ (r : Int32) (u : va_W) (v : UInt64) (w : va_W) (H : Heap) (locs : List Loc) (ls : Array Slot), P1 r u → P2 r u v w → gvP D vwCl w H → gvD A w → va_S A s.heap H locs → lv_has ls 9 (l0L i b a_off a_mod a_out a_outD) → W p l e room_1 s m #[.ref b] below meth c H locs (cells + rL.cells + rM.cells) (slots + rL.slots + rM.slots) Q (F0 m 2166 ls [])) : W p l e room_1 s m #[.ref b] below meth c H locs cells slots Q (F0 m 1187 ls []) := by
  obtain ⟨hx, hb, hml, hts, hown, hE, hZ, hX, hbl, hbA, hA, hL9⟩ := hB
  refine lv_aload_n hx hb dL_law_1187 rfl (lv_at hl 2 rfl) ?_
  refine lv_aload_n hx hb dL_law_1188 rfl (lv_at hl 1 rfl) ?_
  refine lv_iload hx hb dL_law_1189 (lv_at hl 0 rfl) ?_
  refine lv_iconst (v := nI 1) hx hb dL_law_1191 (by decide) ?_
  refine g_iadd hx hb dL_law_1192 (nI_add _ _) ?_
  refine g_scr hx hb hX hbl hbA hS (by omega) hL9 dL_law_1193 ?_
  refine lv_aload_n hx hb dL_law_1194 rfl (lv_at hl 1 rfl) ?_
  refine lv_iload hx hb dL_law_1195 (lv_at hl 0 rfl) ?_
  refine lv_iconst (v := nI 2) hx hb dL_law_1197 (by decide) ?_
  refine g_iadd hx hb dL_law_1198 (nI_add _ _) ?_
  refine g_scr hx hb hX hbl hbA hS (by omega) hL9 dL_law_1199 ?_
  refine lv_aload hx hb dL_law_1200 (lv_at hl 5 rfl) ?_
  refine gcz_S_i (As := [.ref a_off, .int (xs (i + 1)), .int (xs (i + 2)), .ref a_outD]) (rest := []) hL ⟨hx, hb, hml, hown, hts⟩ (vx_cwSW 4 hts gL_law_L_ofGroup rfl rfl rfl (by decide +kernel) hRL) hE hZ hP hD hS hA rfl rfl hl.1 (Nat.le_of_ble_eq_true rfl) dL_law_1202 ⟨by show _ ≤ 601024; omega, by show _ ≤ 7293034; omega⟩ (fun r u H locs hP hD hS q1 => ?_)
  refine lv_istore (lv' := [(6, .int r), (5, .int (nI i)), (0, .ref b), (1, .ref a_off), (2, .ref a_mod), (3, .ref a_out), (4, .ref a_outD)]) hx hb dL_law_1205 hl (by decide) rfl (fun ls hl => ?_)
  refine lv_aload_n hx hb dL_law_1207 rfl (lv_at hl 4 rfl) ?_
  refine lv_aload_n hx hb dL_law_1208 rfl (lv_at hl 2 rfl) ?_
  refine lv_iload hx hb dL_law_1209 (lv_at hl 1 rfl) ?_
  refine lv_iconst (v := nI 1) hx hb dL_law_1211 (by decide) ?_
  refine g_iadd hx hb dL_law_1212 (nI_add _ _) ?_
  refine g_scr hx hb hX hbl hbA hS (by omega) hL9 dL_law_1213 ?_
  refine lv_aload_n hx hb dL_law_1214 rfl (lv_at hl 2 rfl) ?_
  refine lv_iload hx hb dL_law_1215 (lv_at hl 1 rfl) ?_
  refine lv_iconst (v := nI 2) hx hb dL_law_1217 (by decide) ?_
  refine g_iadd hx hb dL_law_1218 (nI_add _ _) ?_
  refine g_scr hx hb hX hbl hbA hS (by omega) hL9 dL_law_1219 ?_
  obtain ⟨q9, fs9, g9⟩ := hm r u q1
  refine gcz_V_d (As := [.int (xs (i + 1)), .int (xs (i + 2))]) (rest := []) (hM r u q1) ⟨hx, hb, hml, hown, hts⟩ (cwV 2 hts gL_law_X7_ofGroup rfl rfl rfl (by decide +kernel) hRM) hE hZ hP hD hS hA _ g9 rfl rfl rfl rfl hl.1 (Nat.le_of_ble_eq_true rfl) dL_law_1220 ⟨by show _ ≤ 601024; omega, by show _ ≤ 7293034; omega⟩ (fun v w H locs hP hD hS q2 => ?_)
  refine lv_dstore (lv' := [(7, .double v), (6, .int r), (5, .int (nI i)), (0, .ref b), (1, .ref a_off), (2, .ref a_mod), (3, .ref a_out), (4, .ref a_outD)]) hx hb dL_law_1223 hl (by decide) rfl (fun ls hl => ?_)
  refine lv_aload_n hx hb dL_law_1225 rfl (lv_at hl 5 rfl) ?_
  obtain ⟨q8, fs8, g8⟩ := hm2 r u v w q1 q2
  refine gcz_V_i (As := []) (rest := []) (hT r u v w q1 q2) ⟨hx, hb, hml, hown, hts⟩ (cwV 0 hts gL_law_X7_thrown rfl rfl rfl (by decide +kernel) ⟨Nat.le_of_ble_eq_true rfl, Nat.le_of_ble_eq_true rfl⟩) hE hZ hP hD hS hA _ g8 rfl rfl rfl rfl hl.1 (Nat.le_of_ble_eq_true rfl) dL_law_1226 ⟨by show _ ≤ 601024; exact hC.1, by show _ ≤ 7293034; exact hC.2⟩ (fun t w1 H locs hP hD hS q3 => ?_)
  obtain ⟨rfl, rfl⟩ := q3
  refine lv_iload hx hb dL_law_1229 (lv_at hl 1 rfl) ?_
  refine g_icmpE (tgt := 1236) hx hb dL_law_1231 (by decide) ?_
  refine lv_iload hx hb dL_law_1236 (lv_at hl 1 rfl) ?_
  refine lv_if_ne (tgt := 1273) hx hb dL_law_1238 (by decide) (fun _ => ?_) (fun h0 => ?_)
  · exact lv_goto (tgt := 2166) hx hb dL_law_1273 (by decide) (kk r u v w H locs ls q1 q2 hP hD hS (lv_sub hl [2, 3, 4, 5, 6, 7] rfl))
  have h0 : r = nI 0 := by rw [show nI 0 = 0 from by decide]; exact h0
  obtain ⟨q7, o, g7, ho⟩ := hO r u v w q1 q2 h0
  refine lv_aload hx hb dL_law_1241 (lv_at hl 7 rfl) ?_
  refine lv_iconst (v := nI 0) hx hb dL_law_1243 (by decide) ?_
  refine g_dald hx hb hE hP _ g7 (by decide) (by decide) dL_law_1244 ?_
  refine lv_dload hx hb dL_law_1245 (lv_at hl 0 rfl) ?_
  rw [ho]
  refine g_dcmpl_eq (tgt := 1273) hx hb dL_law_1247 dL_law_1248 (by decide) (fun _ => ?_) (fun hne => ?_)
  · exact lv_goto (tgt := 2166) hx hb dL_law_1273 (by decide) (kk r u v w H locs ls q1 q2 hP hD hS (lv_sub hl [2, 3, 4, 5, 6, 7] rfl))
  refine lv_aload hx hb dL_law_1251 (lv_at hl 7 rfl) ?_
  refine lv_iconst (v := nI 0) hx hb dL_law_1253 (by decide) ?_
  refine g_dald hx hb hE hP _ g7 (by decide) (by decide) dL_law_1254 ?_
  refine lv_aload hx hb dL_law_1255 (lv_at hl 7 rfl) ?_
  refine lv_iconst (v := nI 0) hx hb dL_law_1257 (by decide) ?_
  refine g_dald hx hb hE hP _ g7 (by decide) (by decide) dL_law_1258 ?_
  rw [ho]
  refine g_dcmpl_eq (tgt := 1271) hx hb dL_law_1259 dL_law_1260 (by decide) (fun hq => absurd hq hne) (fun _ => ?_)
  refine lv_dload hx hb dL_law_1263 (lv_at hl 0 rfl) ?_
  refine lv_dload hx hb dL_law_1265 (lv_at hl 0 rfl) ?_
  refine g_dcmpl_ne (tgt := 1273) hx hb dL_law_1267 dL_law_1268 (by decide) (fun _ => ?_) (fun hq => absurd hq hne)
  exact lv_goto (tgt := 2166) hx hb dL_law_1273 (by decide) (kk r u v w H locs ls q1 q2 hP hD hS (lv_sub hl [2, 3, 4, 5, 6, 7] rfl))
set_option maxHeartbeats 4000000 in
set_option maxRecDepth 100000 in
theorem law_share {p : Program} {l : Launch} {e : Env} {s : State} {m : MethodId} {below : List Frame} {meth : Method} {c : Code} {H : Heap} {locs : List Loc} {cells slots : Nat} {Q : State → Prop} {ls : Array Slot} {D : va_G} {y : Nat → Nat} {A : Nat → Prop} {ws : va_W} {b L e9 mi : Nat} {xs : Nat → Int32} {i a_off a_mod a_out a_outD : Nat} {rL rM : Room} {P1 : Int32 → va_W → Prop} {P2 : Int32 → va_W → UInt64 → va_W → Prop}
    (hB : LWB p s m c meth b L xs D y e9 mi A) (hP : gvP D vwCl ws H) (hD : gvD A ws) (hS : va_S A s.heap H locs) (hl : lv_has ls 9 (l0L i b a_off a_mod a_out a_outD)) (hi : i + 5 ≤ L)
    (hL : gZi l yL_share wsL_share rL D y e9 mi [.ref a_off, .int (xs (i + 1)), .int (xs (i + 2)), .int (xs (i + 3)), .ref a_outD] ws P1)
    (hM : ∀ r u, P1 r u → gZd l yX7_share wsX7_share rM D y e9 mi [.ref a_mod, .int (xs (i + 1)), .int (xs (i + 2)), .int (xs (i + 3))] u (P2 r u))
    (hm : ∀ r u, P1 r u → ∃ (q : Nat) (fs : List Value), u[q]? = some (a_mod, Sum.inr (8, fs)))
    (hm2 : ∀ r u v w, P1 r u → P2 r u v w → ∃ (q : Nat) (fs : List Value), w[q]? = some (a_mod, Sum.inr (8, fs)))
    (hT : ∀ r u v w, P1 r u → P2 r u v w → gZi l yX7_thrown wsX7_thrown rmT D y e9 mi [.ref a_mod] w (fun t w' => r = t ∧ w = w'))
    (hO : ∀ r u v w, P1 r u → P2 r u v w → r = nI 0 → ∃ (q : Nat) (o : Nat → UInt64), w[q]? = some (a_outD, eD y 1 o) ∧ o 0 = v)
    (hRL : rL.frames + 1 ≤ room_1.frames ∧ 8 + (6 + 11) + rL.locals ≤ room_1.locals) (hRM : rM.frames + 1 ≤ room_1.frames ∧ 8 + (4 + 11) + rM.locals ≤ room_1.locals)
    (hC : cells + rL.cells + rM.cells ≤ 601024 ∧ slots + rL.slots + rM.slots ≤ 7293034)
    (kk : ∀ (r : Int32) (u : va_W) (v : UInt64) (w : va_W) (H : Heap) (locs : List Loc) (ls : Array Slot), P1 r u → P2 r u v w → gvP D vwCl w H → gvD A w → va_S A s.heap H locs → lv_has ls 9 (l0L i b a_off a_mod a_out a_outD) → W p l e room_1 s m #[.ref b] below meth c H locs (cells + rL.cells + rM.cells) (slots + rL.slots + rM.slots) Q (F0 m 2166 ls [])) : W p l e room_1 s m #[.ref b] below meth c H locs cells slots Q (F0 m 1276 ls []) := by
  obtain ⟨hx, hb, hml, hts, hown, hE, hZ, hX, hbl, hbA, hA, hL9⟩ := hB
  refine lv_aload_n hx hb dL_law_1276 rfl (lv_at hl 2 rfl) ?_
  refine lv_aload_n hx hb dL_law_1277 rfl (lv_at hl 1 rfl) ?_
  refine lv_iload hx hb dL_law_1278 (lv_at hl 0 rfl) ?_
  refine lv_iconst (v := nI 1) hx hb dL_law_1280 (by decide) ?_
  refine g_iadd hx hb dL_law_1281 (nI_add _ _) ?_
  refine g_scr hx hb hX hbl hbA hS (by omega) hL9 dL_law_1282 ?_
  refine lv_aload_n hx hb dL_law_1283 rfl (lv_at hl 1 rfl) ?_
  refine lv_iload hx hb dL_law_1284 (lv_at hl 0 rfl) ?_
  refine lv_iconst (v := nI 2) hx hb dL_law_1286 (by decide) ?_
  refine g_iadd hx hb dL_law_1287 (nI_add _ _) ?_
  refine g_scr hx hb hX hbl hbA hS (by omega) hL9 dL_law_1288 ?_
  refine lv_aload_n hx hb dL_law_1289 rfl (lv_at hl 1 rfl) ?_
  refine lv_iload hx hb dL_law_1290 (lv_at hl 0 rfl) ?_
  refine lv_iconst (v := nI 3) hx hb dL_law_1292 (by decide) ?_
  refine g_iadd hx hb dL_law_1293 (nI_add _ _) ?_
  refine g_scr hx hb hX hbl hbA hS (by omega) hL9 dL_law_1294 ?_
  refine lv_aload hx hb dL_law_1295 (lv_at hl 5 rfl) ?_
  refine gcz_S_i (As := [.ref a_off, .int (xs (i + 1)), .int (xs (i + 2)), .int (xs (i + 3)), .ref a_outD]) (rest := []) hL ⟨hx, hb, hml, hown, hts⟩ (vx_cwSW 5 hts gL_law_L_share rfl rfl rfl (by decide +kernel) hRL) hE hZ hP hD hS hA rfl rfl hl.1 (Nat.le_of_ble_eq_true rfl) dL_law_1297 ⟨by show _ ≤ 601024; omega, by show _ ≤ 7293034; omega⟩ (fun r u H locs hP hD hS q1 => ?_)
  refine lv_istore (lv' := [(6, .int r), (5, .int (nI i)), (0, .ref b), (1, .ref a_off), (2, .ref a_mod), (3, .ref a_out), (4, .ref a_outD)]) hx hb dL_law_1300 hl (by decide) rfl (fun ls hl => ?_)
  refine lv_aload_n hx hb dL_law_1302 rfl (lv_at hl 4 rfl) ?_
  refine lv_aload_n hx hb dL_law_1303 rfl (lv_at hl 2 rfl) ?_
  refine lv_iload hx hb dL_law_1304 (lv_at hl 1 rfl) ?_
  refine lv_iconst (v := nI 1) hx hb dL_law_1306 (by decide) ?_
  refine g_iadd hx hb dL_law_1307 (nI_add _ _) ?_
  refine g_scr hx hb hX hbl hbA hS (by omega) hL9 dL_law_1308 ?_
  refine lv_aload_n hx hb dL_law_1309 rfl (lv_at hl 2 rfl) ?_
  refine lv_iload hx hb dL_law_1310 (lv_at hl 1 rfl) ?_
  refine lv_iconst (v := nI 2) hx hb dL_law_1312 (by decide) ?_
  refine g_iadd hx hb dL_law_1313 (nI_add _ _) ?_
  refine g_scr hx hb hX hbl hbA hS (by omega) hL9 dL_law_1314 ?_
  refine lv_aload_n hx hb dL_law_1315 rfl (lv_at hl 2 rfl) ?_
  refine lv_iload hx hb dL_law_1316 (lv_at hl 1 rfl) ?_
  refine lv_iconst (v := nI 3) hx hb dL_law_1318 (by decide) ?_
  refine g_iadd hx hb dL_law_1319 (nI_add _ _) ?_
  refine g_scr hx hb hX hbl hbA hS (by omega) hL9 dL_law_1320 ?_
  obtain ⟨q9, fs9, g9⟩ := hm r u q1
  refine gcz_V_d (As := [.int (xs (i + 1)), .int (xs (i + 2)), .int (xs (i + 3))]) (rest := []) (hM r u q1) ⟨hx, hb, hml, hown, hts⟩ (cwV 3 hts gL_law_X7_share rfl rfl rfl (by decide +kernel) hRM) hE hZ hP hD hS hA _ g9 rfl rfl rfl rfl hl.1 (Nat.le_of_ble_eq_true rfl) dL_law_1321 ⟨by show _ ≤ 601024; omega, by show _ ≤ 7293034; omega⟩ (fun v w H locs hP hD hS q2 => ?_)
  refine lv_dstore (lv' := [(7, .double v), (6, .int r), (5, .int (nI i)), (0, .ref b), (1, .ref a_off), (2, .ref a_mod), (3, .ref a_out), (4, .ref a_outD)]) hx hb dL_law_1324 hl (by decide) rfl (fun ls hl => ?_)
  refine lv_aload_n hx hb dL_law_1326 rfl (lv_at hl 5 rfl) ?_
  obtain ⟨q8, fs8, g8⟩ := hm2 r u v w q1 q2
  refine gcz_V_i (As := []) (rest := []) (hT r u v w q1 q2) ⟨hx, hb, hml, hown, hts⟩ (cwV 0 hts gL_law_X7_thrown rfl rfl rfl (by decide +kernel) ⟨Nat.le_of_ble_eq_true rfl, Nat.le_of_ble_eq_true rfl⟩) hE hZ hP hD hS hA _ g8 rfl rfl rfl rfl hl.1 (Nat.le_of_ble_eq_true rfl) dL_law_1327 ⟨by show _ ≤ 601024; exact hC.1, by show _ ≤ 7293034; exact hC.2⟩ (fun t w1 H locs hP hD hS q3 => ?_)
  obtain ⟨rfl, rfl⟩ := q3
  refine lv_iload hx hb dL_law_1330 (lv_at hl 1 rfl) ?_
  refine g_icmpE (tgt := 1337) hx hb dL_law_1332 (by decide) ?_
  refine lv_iload hx hb dL_law_1337 (lv_at hl 1 rfl) ?_
  refine lv_if_ne (tgt := 1374) hx hb dL_law_1339 (by decide) (fun _ => ?_) (fun h0 => ?_)
  · exact lv_goto (tgt := 2166) hx hb dL_law_1374 (by decide) (kk r u v w H locs ls q1 q2 hP hD hS (lv_sub hl [2, 3, 4, 5, 6, 7] rfl))
  have h0 : r = nI 0 := by rw [show nI 0 = 0 from by decide]; exact h0
  obtain ⟨q7, o, g7, ho⟩ := hO r u v w q1 q2 h0
  refine lv_aload hx hb dL_law_1342 (lv_at hl 7 rfl) ?_
  refine lv_iconst (v := nI 0) hx hb dL_law_1344 (by decide) ?_
  refine g_dald hx hb hE hP _ g7 (by decide) (by decide) dL_law_1345 ?_
  refine lv_dload hx hb dL_law_1346 (lv_at hl 0 rfl) ?_
  rw [ho]
  refine g_dcmpl_eq (tgt := 1374) hx hb dL_law_1348 dL_law_1349 (by decide) (fun _ => ?_) (fun hne => ?_)
  · exact lv_goto (tgt := 2166) hx hb dL_law_1374 (by decide) (kk r u v w H locs ls q1 q2 hP hD hS (lv_sub hl [2, 3, 4, 5, 6, 7] rfl))
  refine lv_aload hx hb dL_law_1352 (lv_at hl 7 rfl) ?_
  refine lv_iconst (v := nI 0) hx hb dL_law_1354 (by decide) ?_
  refine g_dald hx hb hE hP _ g7 (by decide) (by decide) dL_law_1355 ?_
  refine lv_aload hx hb dL_law_1356 (lv_at hl 7 rfl) ?_
  refine lv_iconst (v := nI 0) hx hb dL_law_1358 (by decide) ?_
  refine g_dald hx hb hE hP _ g7 (by decide) (by decide) dL_law_1359 ?_
  rw [ho]
  refine g_dcmpl_eq (tgt := 1372) hx hb dL_law_1360 dL_law_1361 (by decide) (fun hq => absurd hq hne) (fun _ => ?_)
  refine lv_dload hx hb dL_law_1364 (lv_at hl 0 rfl) ?_
  refine lv_dload hx hb dL_law_1366 (lv_at hl 0 rfl) ?_
  refine g_dcmpl_ne (tgt := 1374) hx hb dL_law_1368 dL_law_1369 (by decide) (fun _ => ?_) (fun hq => absurd hq hne)
  exact lv_goto (tgt := 2166) hx hb dL_law_1374 (by decide) (kk r u v w H locs ls q1 q2 hP hD hS (lv_sub hl [2, 3, 4, 5, 6, 7] rfl))
set_option maxHeartbeats 4000000 in
set_option maxRecDepth 100000 in
theorem law_index {p : Program} {l : Launch} {e : Env} {s : State} {m : MethodId} {below : List Frame} {meth : Method} {c : Code} {H : Heap} {locs : List Loc} {cells slots : Nat} {Q : State → Prop} {ls : Array Slot} {D : va_G} {y : Nat → Nat} {A : Nat → Prop} {ws : va_W} {b L e9 mi : Nat} {xs : Nat → Int32} {i a_off a_mod a_out a_outD : Nat} {rL rM : Room} {P1 : Int32 → va_W → Prop} {P2 : Int32 → va_W → UInt64 → va_W → Prop}
    (hB : LWB p s m c meth b L xs D y e9 mi A) (hP : gvP D vwCl ws H) (hD : gvD A ws) (hS : va_S A s.heap H locs) (hl : lv_has ls 9 (l0L i b a_off a_mod a_out a_outD)) (hi : i + 5 ≤ L)
    (hL : gZi l yL_index wsL_index rL D y e9 mi [.ref a_off, .int (xs (i + 1)), .int (xs (i + 2)), .ref a_outD] ws P1)
    (hM : ∀ r u, P1 r u → gZd l yX7_index wsX7_index rM D y e9 mi [.ref a_mod, .int (xs (i + 1)), .int (xs (i + 2))] u (P2 r u))
    (hm : ∀ r u, P1 r u → ∃ (q : Nat) (fs : List Value), u[q]? = some (a_mod, Sum.inr (8, fs)))
    (hm2 : ∀ r u v w, P1 r u → P2 r u v w → ∃ (q : Nat) (fs : List Value), w[q]? = some (a_mod, Sum.inr (8, fs)))
    (hT : ∀ r u v w, P1 r u → P2 r u v w → gZi l yX7_thrown wsX7_thrown rmT D y e9 mi [.ref a_mod] w (fun t w' => r = t ∧ w = w'))
    (hO : ∀ r u v w, P1 r u → P2 r u v w → r = nI 0 → ∃ (q : Nat) (o : Nat → UInt64), w[q]? = some (a_outD, eD y 1 o) ∧ o 0 = v)
    (hRL : rL.frames + 1 ≤ room_1.frames ∧ 8 + (5 + 11) + rL.locals ≤ room_1.locals) (hRM : rM.frames + 1 ≤ room_1.frames ∧ 8 + (3 + 11) + rM.locals ≤ room_1.locals)
    (hC : cells + rL.cells + rM.cells ≤ 601024 ∧ slots + rL.slots + rM.slots ≤ 7293034)
    (kk : ∀ (r : Int32) (u : va_W) (v : UInt64) (w : va_W) (H : Heap) (locs : List Loc) (ls : Array Slot), P1 r u → P2 r u v w → gvP D vwCl w H → gvD A w → va_S A s.heap H locs → lv_has ls 9 (l0L i b a_off a_mod a_out a_outD) → W p l e room_1 s m #[.ref b] below meth c H locs (cells + rL.cells + rM.cells) (slots + rL.slots + rM.slots) Q (F0 m 2166 ls [])) : W p l e room_1 s m #[.ref b] below meth c H locs cells slots Q (F0 m 1377 ls []) := by
  obtain ⟨hx, hb, hml, hts, hown, hE, hZ, hX, hbl, hbA, hA, hL9⟩ := hB
  refine lv_aload_n hx hb dL_law_1377 rfl (lv_at hl 2 rfl) ?_
  refine lv_aload_n hx hb dL_law_1378 rfl (lv_at hl 1 rfl) ?_
  refine lv_iload hx hb dL_law_1379 (lv_at hl 0 rfl) ?_
  refine lv_iconst (v := nI 1) hx hb dL_law_1381 (by decide) ?_
  refine g_iadd hx hb dL_law_1382 (nI_add _ _) ?_
  refine g_scr hx hb hX hbl hbA hS (by omega) hL9 dL_law_1383 ?_
  refine lv_aload_n hx hb dL_law_1384 rfl (lv_at hl 1 rfl) ?_
  refine lv_iload hx hb dL_law_1385 (lv_at hl 0 rfl) ?_
  refine lv_iconst (v := nI 2) hx hb dL_law_1387 (by decide) ?_
  refine g_iadd hx hb dL_law_1388 (nI_add _ _) ?_
  refine g_scr hx hb hX hbl hbA hS (by omega) hL9 dL_law_1389 ?_
  refine lv_aload hx hb dL_law_1390 (lv_at hl 5 rfl) ?_
  refine gcz_S_i (As := [.ref a_off, .int (xs (i + 1)), .int (xs (i + 2)), .ref a_outD]) (rest := []) hL ⟨hx, hb, hml, hown, hts⟩ (vx_cwSW 4 hts gL_law_L_index rfl rfl rfl (by decide +kernel) hRL) hE hZ hP hD hS hA rfl rfl hl.1 (Nat.le_of_ble_eq_true rfl) dL_law_1392 ⟨by show _ ≤ 601024; omega, by show _ ≤ 7293034; omega⟩ (fun r u H locs hP hD hS q1 => ?_)
  refine lv_istore (lv' := [(6, .int r), (5, .int (nI i)), (0, .ref b), (1, .ref a_off), (2, .ref a_mod), (3, .ref a_out), (4, .ref a_outD)]) hx hb dL_law_1395 hl (by decide) rfl (fun ls hl => ?_)
  refine lv_aload_n hx hb dL_law_1397 rfl (lv_at hl 4 rfl) ?_
  refine lv_aload_n hx hb dL_law_1398 rfl (lv_at hl 2 rfl) ?_
  refine lv_iload hx hb dL_law_1399 (lv_at hl 1 rfl) ?_
  refine lv_iconst (v := nI 1) hx hb dL_law_1401 (by decide) ?_
  refine g_iadd hx hb dL_law_1402 (nI_add _ _) ?_
  refine g_scr hx hb hX hbl hbA hS (by omega) hL9 dL_law_1403 ?_
  refine lv_aload_n hx hb dL_law_1404 rfl (lv_at hl 2 rfl) ?_
  refine lv_iload hx hb dL_law_1405 (lv_at hl 1 rfl) ?_
  refine lv_iconst (v := nI 2) hx hb dL_law_1407 (by decide) ?_
  refine g_iadd hx hb dL_law_1408 (nI_add _ _) ?_
  refine g_scr hx hb hX hbl hbA hS (by omega) hL9 dL_law_1409 ?_
  obtain ⟨q9, fs9, g9⟩ := hm r u q1
  refine gcz_V_d (As := [.int (xs (i + 1)), .int (xs (i + 2))]) (rest := []) (hM r u q1) ⟨hx, hb, hml, hown, hts⟩ (cwV 2 hts gL_law_X7_index rfl rfl rfl (by decide +kernel) hRM) hE hZ hP hD hS hA _ g9 rfl rfl rfl rfl hl.1 (Nat.le_of_ble_eq_true rfl) dL_law_1410 ⟨by show _ ≤ 601024; omega, by show _ ≤ 7293034; omega⟩ (fun v w H locs hP hD hS q2 => ?_)
  refine lv_dstore (lv' := [(7, .double v), (6, .int r), (5, .int (nI i)), (0, .ref b), (1, .ref a_off), (2, .ref a_mod), (3, .ref a_out), (4, .ref a_outD)]) hx hb dL_law_1413 hl (by decide) rfl (fun ls hl => ?_)
  refine lv_aload_n hx hb dL_law_1415 rfl (lv_at hl 5 rfl) ?_
  obtain ⟨q8, fs8, g8⟩ := hm2 r u v w q1 q2
  refine gcz_V_i (As := []) (rest := []) (hT r u v w q1 q2) ⟨hx, hb, hml, hown, hts⟩ (cwV 0 hts gL_law_X7_thrown rfl rfl rfl (by decide +kernel) ⟨Nat.le_of_ble_eq_true rfl, Nat.le_of_ble_eq_true rfl⟩) hE hZ hP hD hS hA _ g8 rfl rfl rfl rfl hl.1 (Nat.le_of_ble_eq_true rfl) dL_law_1416 ⟨by show _ ≤ 601024; exact hC.1, by show _ ≤ 7293034; exact hC.2⟩ (fun t w1 H locs hP hD hS q3 => ?_)
  obtain ⟨rfl, rfl⟩ := q3
  refine lv_iload hx hb dL_law_1419 (lv_at hl 1 rfl) ?_
  refine g_icmpE (tgt := 1426) hx hb dL_law_1421 (by decide) ?_
  refine lv_iload hx hb dL_law_1426 (lv_at hl 1 rfl) ?_
  refine lv_if_ne (tgt := 1463) hx hb dL_law_1428 (by decide) (fun _ => ?_) (fun h0 => ?_)
  · exact lv_goto (tgt := 2166) hx hb dL_law_1463 (by decide) (kk r u v w H locs ls q1 q2 hP hD hS (lv_sub hl [2, 3, 4, 5, 6, 7] rfl))
  have h0 : r = nI 0 := by rw [show nI 0 = 0 from by decide]; exact h0
  obtain ⟨q7, o, g7, ho⟩ := hO r u v w q1 q2 h0
  refine lv_aload hx hb dL_law_1431 (lv_at hl 7 rfl) ?_
  refine lv_iconst (v := nI 0) hx hb dL_law_1433 (by decide) ?_
  refine g_dald hx hb hE hP _ g7 (by decide) (by decide) dL_law_1434 ?_
  refine lv_dload hx hb dL_law_1435 (lv_at hl 0 rfl) ?_
  rw [ho]
  refine g_dcmpl_eq (tgt := 1463) hx hb dL_law_1437 dL_law_1438 (by decide) (fun _ => ?_) (fun hne => ?_)
  · exact lv_goto (tgt := 2166) hx hb dL_law_1463 (by decide) (kk r u v w H locs ls q1 q2 hP hD hS (lv_sub hl [2, 3, 4, 5, 6, 7] rfl))
  refine lv_aload hx hb dL_law_1441 (lv_at hl 7 rfl) ?_
  refine lv_iconst (v := nI 0) hx hb dL_law_1443 (by decide) ?_
  refine g_dald hx hb hE hP _ g7 (by decide) (by decide) dL_law_1444 ?_
  refine lv_aload hx hb dL_law_1445 (lv_at hl 7 rfl) ?_
  refine lv_iconst (v := nI 0) hx hb dL_law_1447 (by decide) ?_
  refine g_dald hx hb hE hP _ g7 (by decide) (by decide) dL_law_1448 ?_
  rw [ho]
  refine g_dcmpl_eq (tgt := 1461) hx hb dL_law_1449 dL_law_1450 (by decide) (fun hq => absurd hq hne) (fun _ => ?_)
  refine lv_dload hx hb dL_law_1453 (lv_at hl 0 rfl) ?_
  refine lv_dload hx hb dL_law_1455 (lv_at hl 0 rfl) ?_
  refine g_dcmpl_ne (tgt := 1463) hx hb dL_law_1457 dL_law_1458 (by decide) (fun _ => ?_) (fun hq => absurd hq hne)
  exact lv_goto (tgt := 2166) hx hb dL_law_1463 (by decide) (kk r u v w H locs ls q1 q2 hP hD hS (lv_sub hl [2, 3, 4, 5, 6, 7] rfl))
set_option maxHeartbeats 4000000 in
set_option maxRecDepth 100000 in
theorem law_indexAnew {p : Program} {l : Launch} {e : Env} {s : State} {m : MethodId} {below : List Frame} {meth : Method} {c : Code} {H : Heap} {locs : List Loc} {cells slots : Nat} {Q : State → Prop} {ls : Array Slot} {D : va_G} {y : Nat → Nat} {A : Nat → Prop} {ws : va_W} {b L e9 mi : Nat} {xs : Nat → Int32} {i a_off a_mod a_out a_outD : Nat} {rL rM : Room} {P1 : Int32 → va_W → Prop} {P2 : Int32 → va_W → UInt64 → va_W → Prop}
    (hB : LWB p s m c meth b L xs D y e9 mi A) (hP : gvP D vwCl ws H) (hD : gvD A ws) (hS : va_S A s.heap H locs) (hl : lv_has ls 9 (l0L i b a_off a_mod a_out a_outD)) (hi : i + 5 ≤ L)
    (hL : gZi l yL_indexAnew wsL_indexAnew rL D y e9 mi [.ref a_off, .int (xs (i + 1)), .int (xs (i + 2)), .ref a_outD] ws P1)
    (hM : ∀ r u, P1 r u → gZd l yX7_indexAnew wsX7_indexAnew rM D y e9 mi [.ref a_mod, .int (xs (i + 1)), .int (xs (i + 2))] u (P2 r u))
    (hm : ∀ r u, P1 r u → ∃ (q : Nat) (fs : List Value), u[q]? = some (a_mod, Sum.inr (8, fs)))
    (hm2 : ∀ r u v w, P1 r u → P2 r u v w → ∃ (q : Nat) (fs : List Value), w[q]? = some (a_mod, Sum.inr (8, fs)))
    (hT : ∀ r u v w, P1 r u → P2 r u v w → gZi l yX7_thrown wsX7_thrown rmT D y e9 mi [.ref a_mod] w (fun t w' => r = t ∧ w = w'))
    (hO : ∀ r u v w, P1 r u → P2 r u v w → r = nI 0 → ∃ (q : Nat) (o : Nat → UInt64), w[q]? = some (a_outD, eD y 1 o) ∧ o 0 = v)
    (hRL : rL.frames + 1 ≤ room_1.frames ∧ 8 + (5 + 11) + rL.locals ≤ room_1.locals) (hRM : rM.frames + 1 ≤ room_1.frames ∧ 8 + (3 + 11) + rM.locals ≤ room_1.locals)
    (hC : cells + rL.cells + rM.cells ≤ 601024 ∧ slots + rL.slots + rM.slots ≤ 7293034)
    (kk : ∀ (r : Int32) (u : va_W) (v : UInt64) (w : va_W) (H : Heap) (locs : List Loc) (ls : Array Slot), P1 r u → P2 r u v w → gvP D vwCl w H → gvD A w → va_S A s.heap H locs → lv_has ls 9 (l0L i b a_off a_mod a_out a_outD) → W p l e room_1 s m #[.ref b] below meth c H locs (cells + rL.cells + rM.cells) (slots + rL.slots + rM.slots) Q (F0 m 2166 ls [])) : W p l e room_1 s m #[.ref b] below meth c H locs cells slots Q (F0 m 1466 ls []) := by
  obtain ⟨hx, hb, hml, hts, hown, hE, hZ, hX, hbl, hbA, hA, hL9⟩ := hB
  refine lv_aload_n hx hb dL_law_1466 rfl (lv_at hl 2 rfl) ?_
  refine lv_aload_n hx hb dL_law_1467 rfl (lv_at hl 1 rfl) ?_
  refine lv_iload hx hb dL_law_1468 (lv_at hl 0 rfl) ?_
  refine lv_iconst (v := nI 1) hx hb dL_law_1470 (by decide) ?_
  refine g_iadd hx hb dL_law_1471 (nI_add _ _) ?_
  refine g_scr hx hb hX hbl hbA hS (by omega) hL9 dL_law_1472 ?_
  refine lv_aload_n hx hb dL_law_1473 rfl (lv_at hl 1 rfl) ?_
  refine lv_iload hx hb dL_law_1474 (lv_at hl 0 rfl) ?_
  refine lv_iconst (v := nI 2) hx hb dL_law_1476 (by decide) ?_
  refine g_iadd hx hb dL_law_1477 (nI_add _ _) ?_
  refine g_scr hx hb hX hbl hbA hS (by omega) hL9 dL_law_1478 ?_
  refine lv_aload hx hb dL_law_1479 (lv_at hl 5 rfl) ?_
  refine gcz_S_i (As := [.ref a_off, .int (xs (i + 1)), .int (xs (i + 2)), .ref a_outD]) (rest := []) hL ⟨hx, hb, hml, hown, hts⟩ (vx_cwSW 4 hts gL_law_L_indexAnew rfl rfl rfl (by decide +kernel) hRL) hE hZ hP hD hS hA rfl rfl hl.1 (Nat.le_of_ble_eq_true rfl) dL_law_1481 ⟨by show _ ≤ 601024; omega, by show _ ≤ 7293034; omega⟩ (fun r u H locs hP hD hS q1 => ?_)
  refine lv_istore (lv' := [(6, .int r), (5, .int (nI i)), (0, .ref b), (1, .ref a_off), (2, .ref a_mod), (3, .ref a_out), (4, .ref a_outD)]) hx hb dL_law_1484 hl (by decide) rfl (fun ls hl => ?_)
  refine lv_aload_n hx hb dL_law_1486 rfl (lv_at hl 4 rfl) ?_
  refine lv_aload_n hx hb dL_law_1487 rfl (lv_at hl 2 rfl) ?_
  refine lv_iload hx hb dL_law_1488 (lv_at hl 1 rfl) ?_
  refine lv_iconst (v := nI 1) hx hb dL_law_1490 (by decide) ?_
  refine g_iadd hx hb dL_law_1491 (nI_add _ _) ?_
  refine g_scr hx hb hX hbl hbA hS (by omega) hL9 dL_law_1492 ?_
  refine lv_aload_n hx hb dL_law_1493 rfl (lv_at hl 2 rfl) ?_
  refine lv_iload hx hb dL_law_1494 (lv_at hl 1 rfl) ?_
  refine lv_iconst (v := nI 2) hx hb dL_law_1496 (by decide) ?_
  refine g_iadd hx hb dL_law_1497 (nI_add _ _) ?_
  refine g_scr hx hb hX hbl hbA hS (by omega) hL9 dL_law_1498 ?_
  obtain ⟨q9, fs9, g9⟩ := hm r u q1
  refine gcz_V_d (As := [.int (xs (i + 1)), .int (xs (i + 2))]) (rest := []) (hM r u q1) ⟨hx, hb, hml, hown, hts⟩ (cwV 2 hts gL_law_X7_indexAnew rfl rfl rfl (by decide +kernel) hRM) hE hZ hP hD hS hA _ g9 rfl rfl rfl rfl hl.1 (Nat.le_of_ble_eq_true rfl) dL_law_1499 ⟨by show _ ≤ 601024; omega, by show _ ≤ 7293034; omega⟩ (fun v w H locs hP hD hS q2 => ?_)
  refine lv_dstore (lv' := [(7, .double v), (6, .int r), (5, .int (nI i)), (0, .ref b), (1, .ref a_off), (2, .ref a_mod), (3, .ref a_out), (4, .ref a_outD)]) hx hb dL_law_1502 hl (by decide) rfl (fun ls hl => ?_)
  refine lv_aload_n hx hb dL_law_1504 rfl (lv_at hl 5 rfl) ?_
  obtain ⟨q8, fs8, g8⟩ := hm2 r u v w q1 q2
  refine gcz_V_i (As := []) (rest := []) (hT r u v w q1 q2) ⟨hx, hb, hml, hown, hts⟩ (cwV 0 hts gL_law_X7_thrown rfl rfl rfl (by decide +kernel) ⟨Nat.le_of_ble_eq_true rfl, Nat.le_of_ble_eq_true rfl⟩) hE hZ hP hD hS hA _ g8 rfl rfl rfl rfl hl.1 (Nat.le_of_ble_eq_true rfl) dL_law_1505 ⟨by show _ ≤ 601024; exact hC.1, by show _ ≤ 7293034; exact hC.2⟩ (fun t w1 H locs hP hD hS q3 => ?_)
  obtain ⟨rfl, rfl⟩ := q3
  refine lv_iload hx hb dL_law_1508 (lv_at hl 1 rfl) ?_
  refine g_icmpE (tgt := 1515) hx hb dL_law_1510 (by decide) ?_
  refine lv_iload hx hb dL_law_1515 (lv_at hl 1 rfl) ?_
  refine lv_if_ne (tgt := 1552) hx hb dL_law_1517 (by decide) (fun _ => ?_) (fun h0 => ?_)
  · exact lv_goto (tgt := 2166) hx hb dL_law_1552 (by decide) (kk r u v w H locs ls q1 q2 hP hD hS (lv_sub hl [2, 3, 4, 5, 6, 7] rfl))
  have h0 : r = nI 0 := by rw [show nI 0 = 0 from by decide]; exact h0
  obtain ⟨q7, o, g7, ho⟩ := hO r u v w q1 q2 h0
  refine lv_aload hx hb dL_law_1520 (lv_at hl 7 rfl) ?_
  refine lv_iconst (v := nI 0) hx hb dL_law_1522 (by decide) ?_
  refine g_dald hx hb hE hP _ g7 (by decide) (by decide) dL_law_1523 ?_
  refine lv_dload hx hb dL_law_1524 (lv_at hl 0 rfl) ?_
  rw [ho]
  refine g_dcmpl_eq (tgt := 1552) hx hb dL_law_1526 dL_law_1527 (by decide) (fun _ => ?_) (fun hne => ?_)
  · exact lv_goto (tgt := 2166) hx hb dL_law_1552 (by decide) (kk r u v w H locs ls q1 q2 hP hD hS (lv_sub hl [2, 3, 4, 5, 6, 7] rfl))
  refine lv_aload hx hb dL_law_1530 (lv_at hl 7 rfl) ?_
  refine lv_iconst (v := nI 0) hx hb dL_law_1532 (by decide) ?_
  refine g_dald hx hb hE hP _ g7 (by decide) (by decide) dL_law_1533 ?_
  refine lv_aload hx hb dL_law_1534 (lv_at hl 7 rfl) ?_
  refine lv_iconst (v := nI 0) hx hb dL_law_1536 (by decide) ?_
  refine g_dald hx hb hE hP _ g7 (by decide) (by decide) dL_law_1537 ?_
  rw [ho]
  refine g_dcmpl_eq (tgt := 1550) hx hb dL_law_1538 dL_law_1539 (by decide) (fun hq => absurd hq hne) (fun _ => ?_)
  refine lv_dload hx hb dL_law_1542 (lv_at hl 0 rfl) ?_
  refine lv_dload hx hb dL_law_1544 (lv_at hl 0 rfl) ?_
  refine g_dcmpl_ne (tgt := 1552) hx hb dL_law_1546 dL_law_1547 (by decide) (fun _ => ?_) (fun hq => absurd hq hne)
  exact lv_goto (tgt := 2166) hx hb dL_law_1552 (by decide) (kk r u v w H locs ls q1 q2 hP hD hS (lv_sub hl [2, 3, 4, 5, 6, 7] rfl))
set_option maxHeartbeats 4000000 in
set_option maxRecDepth 100000 in
theorem law_corrected {p : Program} {l : Launch} {e : Env} {s : State} {m : MethodId} {below : List Frame} {meth : Method} {c : Code} {H : Heap} {locs : List Loc} {cells slots : Nat} {Q : State → Prop} {ls : Array Slot} {D : va_G} {y : Nat → Nat} {A : Nat → Prop} {ws : va_W} {b L e9 mi : Nat} {xs : Nat → Int32} {i a_off a_mod a_out a_outD : Nat} {rL rM : Room} {P1 : Int32 → va_W → Prop} {P2 : Int32 → va_W → UInt64 → va_W → Prop}
    (hB : LWB p s m c meth b L xs D y e9 mi A) (hP : gvP D vwCl ws H) (hD : gvD A ws) (hS : va_S A s.heap H locs) (hl : lv_has ls 9 (l0L i b a_off a_mod a_out a_outD)) (hi : i + 5 ≤ L)
    (hL : gZi l yL_corrected wsL_corrected rL D y e9 mi [.ref a_off, .int (xs (i + 1)), .int (xs (i + 2)), .ref a_outD] ws P1)
    (hM : ∀ r u, P1 r u → gZd l yX7_corrected wsX7_corrected rM D y e9 mi [.ref a_mod, .int (xs (i + 1)), .int (xs (i + 2))] u (P2 r u))
    (hm : ∀ r u, P1 r u → ∃ (q : Nat) (fs : List Value), u[q]? = some (a_mod, Sum.inr (8, fs)))
    (hm2 : ∀ r u v w, P1 r u → P2 r u v w → ∃ (q : Nat) (fs : List Value), w[q]? = some (a_mod, Sum.inr (8, fs)))
    (hT : ∀ r u v w, P1 r u → P2 r u v w → gZi l yX7_thrown wsX7_thrown rmT D y e9 mi [.ref a_mod] w (fun t w' => r = t ∧ w = w'))
    (hO : ∀ r u v w, P1 r u → P2 r u v w → r = nI 0 → ∃ (q : Nat) (o : Nat → UInt64), w[q]? = some (a_outD, eD y 1 o) ∧ o 0 = v)
    (hRL : rL.frames + 1 ≤ room_1.frames ∧ 8 + (5 + 11) + rL.locals ≤ room_1.locals) (hRM : rM.frames + 1 ≤ room_1.frames ∧ 8 + (3 + 11) + rM.locals ≤ room_1.locals)
    (hC : cells + rL.cells + rM.cells ≤ 601024 ∧ slots + rL.slots + rM.slots ≤ 7293034)
    (kk : ∀ (r : Int32) (u : va_W) (v : UInt64) (w : va_W) (H : Heap) (locs : List Loc) (ls : Array Slot), P1 r u → P2 r u v w → gvP D vwCl w H → gvD A w → va_S A s.heap H locs → lv_has ls 9 (l0L i b a_off a_mod a_out a_outD) → W p l e room_1 s m #[.ref b] below meth c H locs (cells + rL.cells + rM.cells) (slots + rL.slots + rM.slots) Q (F0 m 2166 ls [])) : W p l e room_1 s m #[.ref b] below meth c H locs cells slots Q (F0 m 1555 ls []) := by
  obtain ⟨hx, hb, hml, hts, hown, hE, hZ, hX, hbl, hbA, hA, hL9⟩ := hB
  refine lv_aload_n hx hb dL_law_1555 rfl (lv_at hl 2 rfl) ?_
  refine lv_aload_n hx hb dL_law_1556 rfl (lv_at hl 1 rfl) ?_
  refine lv_iload hx hb dL_law_1557 (lv_at hl 0 rfl) ?_
  refine lv_iconst (v := nI 1) hx hb dL_law_1559 (by decide) ?_
  refine g_iadd hx hb dL_law_1560 (nI_add _ _) ?_
  refine g_scr hx hb hX hbl hbA hS (by omega) hL9 dL_law_1561 ?_
  refine lv_aload_n hx hb dL_law_1562 rfl (lv_at hl 1 rfl) ?_
  refine lv_iload hx hb dL_law_1563 (lv_at hl 0 rfl) ?_
  refine lv_iconst (v := nI 2) hx hb dL_law_1565 (by decide) ?_
  refine g_iadd hx hb dL_law_1566 (nI_add _ _) ?_
  refine g_scr hx hb hX hbl hbA hS (by omega) hL9 dL_law_1567 ?_
  refine lv_aload hx hb dL_law_1568 (lv_at hl 5 rfl) ?_
  refine gcz_S_i (As := [.ref a_off, .int (xs (i + 1)), .int (xs (i + 2)), .ref a_outD]) (rest := []) hL ⟨hx, hb, hml, hown, hts⟩ (vx_cwSW 4 hts gL_law_L_corrected rfl rfl rfl (by decide +kernel) hRL) hE hZ hP hD hS hA rfl rfl hl.1 (Nat.le_of_ble_eq_true rfl) dL_law_1570 ⟨by show _ ≤ 601024; omega, by show _ ≤ 7293034; omega⟩ (fun r u H locs hP hD hS q1 => ?_)
  refine lv_istore (lv' := [(6, .int r), (5, .int (nI i)), (0, .ref b), (1, .ref a_off), (2, .ref a_mod), (3, .ref a_out), (4, .ref a_outD)]) hx hb dL_law_1573 hl (by decide) rfl (fun ls hl => ?_)
  refine lv_aload_n hx hb dL_law_1575 rfl (lv_at hl 4 rfl) ?_
  refine lv_aload_n hx hb dL_law_1576 rfl (lv_at hl 2 rfl) ?_
  refine lv_iload hx hb dL_law_1577 (lv_at hl 1 rfl) ?_
  refine lv_iconst (v := nI 1) hx hb dL_law_1579 (by decide) ?_
  refine g_iadd hx hb dL_law_1580 (nI_add _ _) ?_
  refine g_scr hx hb hX hbl hbA hS (by omega) hL9 dL_law_1581 ?_
  refine lv_aload_n hx hb dL_law_1582 rfl (lv_at hl 2 rfl) ?_
  refine lv_iload hx hb dL_law_1583 (lv_at hl 1 rfl) ?_
  refine lv_iconst (v := nI 2) hx hb dL_law_1585 (by decide) ?_
  refine g_iadd hx hb dL_law_1586 (nI_add _ _) ?_
  refine g_scr hx hb hX hbl hbA hS (by omega) hL9 dL_law_1587 ?_
  obtain ⟨q9, fs9, g9⟩ := hm r u q1
  refine gcz_V_d (As := [.int (xs (i + 1)), .int (xs (i + 2))]) (rest := []) (hM r u q1) ⟨hx, hb, hml, hown, hts⟩ (cwV 2 hts gL_law_X7_corrected rfl rfl rfl (by decide +kernel) hRM) hE hZ hP hD hS hA _ g9 rfl rfl rfl rfl hl.1 (Nat.le_of_ble_eq_true rfl) dL_law_1588 ⟨by show _ ≤ 601024; omega, by show _ ≤ 7293034; omega⟩ (fun v w H locs hP hD hS q2 => ?_)
  refine lv_dstore (lv' := [(7, .double v), (6, .int r), (5, .int (nI i)), (0, .ref b), (1, .ref a_off), (2, .ref a_mod), (3, .ref a_out), (4, .ref a_outD)]) hx hb dL_law_1591 hl (by decide) rfl (fun ls hl => ?_)
  refine lv_aload_n hx hb dL_law_1593 rfl (lv_at hl 5 rfl) ?_
  obtain ⟨q8, fs8, g8⟩ := hm2 r u v w q1 q2
  refine gcz_V_i (As := []) (rest := []) (hT r u v w q1 q2) ⟨hx, hb, hml, hown, hts⟩ (cwV 0 hts gL_law_X7_thrown rfl rfl rfl (by decide +kernel) ⟨Nat.le_of_ble_eq_true rfl, Nat.le_of_ble_eq_true rfl⟩) hE hZ hP hD hS hA _ g8 rfl rfl rfl rfl hl.1 (Nat.le_of_ble_eq_true rfl) dL_law_1594 ⟨by show _ ≤ 601024; exact hC.1, by show _ ≤ 7293034; exact hC.2⟩ (fun t w1 H locs hP hD hS q3 => ?_)
  obtain ⟨rfl, rfl⟩ := q3
  refine lv_iload hx hb dL_law_1597 (lv_at hl 1 rfl) ?_
  refine g_icmpE (tgt := 1604) hx hb dL_law_1599 (by decide) ?_
  refine lv_iload hx hb dL_law_1604 (lv_at hl 1 rfl) ?_
  refine lv_if_ne (tgt := 1641) hx hb dL_law_1606 (by decide) (fun _ => ?_) (fun h0 => ?_)
  · exact lv_goto (tgt := 2166) hx hb dL_law_1641 (by decide) (kk r u v w H locs ls q1 q2 hP hD hS (lv_sub hl [2, 3, 4, 5, 6, 7] rfl))
  have h0 : r = nI 0 := by rw [show nI 0 = 0 from by decide]; exact h0
  obtain ⟨q7, o, g7, ho⟩ := hO r u v w q1 q2 h0
  refine lv_aload hx hb dL_law_1609 (lv_at hl 7 rfl) ?_
  refine lv_iconst (v := nI 0) hx hb dL_law_1611 (by decide) ?_
  refine g_dald hx hb hE hP _ g7 (by decide) (by decide) dL_law_1612 ?_
  refine lv_dload hx hb dL_law_1613 (lv_at hl 0 rfl) ?_
  rw [ho]
  refine g_dcmpl_eq (tgt := 1641) hx hb dL_law_1615 dL_law_1616 (by decide) (fun _ => ?_) (fun hne => ?_)
  · exact lv_goto (tgt := 2166) hx hb dL_law_1641 (by decide) (kk r u v w H locs ls q1 q2 hP hD hS (lv_sub hl [2, 3, 4, 5, 6, 7] rfl))
  refine lv_aload hx hb dL_law_1619 (lv_at hl 7 rfl) ?_
  refine lv_iconst (v := nI 0) hx hb dL_law_1621 (by decide) ?_
  refine g_dald hx hb hE hP _ g7 (by decide) (by decide) dL_law_1622 ?_
  refine lv_aload hx hb dL_law_1623 (lv_at hl 7 rfl) ?_
  refine lv_iconst (v := nI 0) hx hb dL_law_1625 (by decide) ?_
  refine g_dald hx hb hE hP _ g7 (by decide) (by decide) dL_law_1626 ?_
  rw [ho]
  refine g_dcmpl_eq (tgt := 1639) hx hb dL_law_1627 dL_law_1628 (by decide) (fun hq => absurd hq hne) (fun _ => ?_)
  refine lv_dload hx hb dL_law_1631 (lv_at hl 0 rfl) ?_
  refine lv_dload hx hb dL_law_1633 (lv_at hl 0 rfl) ?_
  refine g_dcmpl_ne (tgt := 1641) hx hb dL_law_1635 dL_law_1636 (by decide) (fun _ => ?_) (fun hq => absurd hq hne)
  exact lv_goto (tgt := 2166) hx hb dL_law_1641 (by decide) (kk r u v w H locs ls q1 q2 hP hD hS (lv_sub hl [2, 3, 4, 5, 6, 7] rfl))
set_option maxHeartbeats 4000000 in
set_option maxRecDepth 100000 in
theorem law_published {p : Program} {l : Launch} {e : Env} {s : State} {m : MethodId} {below : List Frame} {meth : Method} {c : Code} {H : Heap} {locs : List Loc} {cells slots : Nat} {Q : State → Prop} {ls : Array Slot} {D : va_G} {y : Nat → Nat} {A : Nat → Prop} {ws : va_W} {b L e9 mi : Nat} {xs : Nat → Int32} {i a_off a_mod a_out a_outD : Nat} {rL rM : Room} {P1 : Int32 → va_W → Prop} {P2 : Int32 → va_W → Int32 → va_W → Prop}
    (hB : LWB p s m c meth b L xs D y e9 mi A) (hP : gvP D vwCl ws H) (hD : gvD A ws) (hS : va_S A s.heap H locs) (hl : lv_has ls 9 (l0L i b a_off a_mod a_out a_outD)) (hi : i + 5 ≤ L)
    (hL : gZi l yL_published wsL_published rL D y e9 mi [.ref a_off, .int (xs (i + 1)), .ref a_out] ws P1)
    (hM : ∀ r u, P1 r u → gZi l yX7_published wsX7_published rM D y e9 mi [.ref a_mod, .int (xs (i + 1))] u (P2 r u))
    (hm : ∀ r u, P1 r u → ∃ (q : Nat) (fs : List Value), u[q]? = some (a_mod, Sum.inr (8, fs)))
    (hm2 : ∀ r u v w, P1 r u → P2 r u v w → ∃ (q : Nat) (fs : List Value), w[q]? = some (a_mod, Sum.inr (8, fs)))
    (hT : ∀ r u v w, P1 r u → P2 r u v w → gZi l yX7_thrown wsX7_thrown rmT D y e9 mi [.ref a_mod] w (fun t w' => r = t ∧ w = w'))
    (hO : ∀ r u v w, P1 r u → P2 r u v w → r = nI 0 → ∃ (q : Nat) (o : Nat → Int64), w[q]? = some (a_out, eJ y 1 o) ∧ o 0 = v.toInt64)
    (hRL : rL.frames + 1 ≤ room_1.frames ∧ 8 + (4 + 11) + rL.locals ≤ room_1.locals) (hRM : rM.frames + 1 ≤ room_1.frames ∧ 8 + (2 + 11) + rM.locals ≤ room_1.locals)
    (hC : cells + rL.cells + rM.cells ≤ 601024 ∧ slots + rL.slots + rM.slots ≤ 7293034)
    (kk : ∀ (r : Int32) (u : va_W) (v : Int32) (w : va_W) (H : Heap) (locs : List Loc) (ls : Array Slot), P1 r u → P2 r u v w → gvP D vwCl w H → gvD A w → va_S A s.heap H locs → lv_has ls 9 (l0L i b a_off a_mod a_out a_outD) → W p l e room_1 s m #[.ref b] below meth c H locs (cells + rL.cells + rM.cells) (slots + rL.slots + rM.slots) Q (F0 m 2166 ls [])) : W p l e room_1 s m #[.ref b] below meth c H locs cells slots Q (F0 m 1644 ls []) := by
  obtain ⟨hx, hb, hml, hts, hown, hE, hZ, hX, hbl, hbA, hA, hL9⟩ := hB
  refine lv_aload_n hx hb dL_law_1644 rfl (lv_at hl 2 rfl) ?_
  refine lv_aload_n hx hb dL_law_1645 rfl (lv_at hl 1 rfl) ?_
  refine lv_iload hx hb dL_law_1646 (lv_at hl 0 rfl) ?_
  refine lv_iconst (v := nI 1) hx hb dL_law_1648 (by decide) ?_
  refine g_iadd hx hb dL_law_1649 (nI_add _ _) ?_
  refine g_scr hx hb hX hbl hbA hS (by omega) hL9 dL_law_1650 ?_
  refine lv_aload_n hx hb dL_law_1651 rfl (lv_at hl 4 rfl) ?_
  refine gcz_S_i (As := [.ref a_off, .int (xs (i + 1)), .ref a_out]) (rest := []) hL ⟨hx, hb, hml, hown, hts⟩ (vx_cwSW 3 hts gL_law_L_published rfl rfl rfl (by decide +kernel) hRL) hE hZ hP hD hS hA rfl rfl hl.1 (Nat.le_of_ble_eq_true rfl) dL_law_1652 ⟨by show _ ≤ 601024; omega, by show _ ≤ 7293034; omega⟩ (fun r u H locs hP hD hS q1 => ?_)
  refine lv_istore (lv' := [(6, .int r), (5, .int (nI i)), (0, .ref b), (1, .ref a_off), (2, .ref a_mod), (3, .ref a_out), (4, .ref a_outD)]) hx hb dL_law_1655 hl (by decide) rfl (fun ls hl => ?_)
  refine lv_aload_n hx hb dL_law_1657 rfl (lv_at hl 4 rfl) ?_
  refine lv_aload_n hx hb dL_law_1658 rfl (lv_at hl 2 rfl) ?_
  refine lv_iload hx hb dL_law_1659 (lv_at hl 1 rfl) ?_
  refine lv_iconst (v := nI 1) hx hb dL_law_1661 (by decide) ?_
  refine g_iadd hx hb dL_law_1662 (nI_add _ _) ?_
  refine g_scr hx hb hX hbl hbA hS (by omega) hL9 dL_law_1663 ?_
  obtain ⟨q9, fs9, g9⟩ := hm r u q1
  refine gcz_V_i (As := [.int (xs (i + 1))]) (rest := []) (hM r u q1) ⟨hx, hb, hml, hown, hts⟩ (cwV 1 hts gL_law_X7_published rfl rfl rfl (by decide +kernel) hRM) hE hZ hP hD hS hA _ g9 rfl rfl rfl rfl hl.1 (Nat.le_of_ble_eq_true rfl) dL_law_1664 ⟨by show _ ≤ 601024; omega, by show _ ≤ 7293034; omega⟩ (fun v w H locs hP hD hS q2 => ?_)
  refine lv_istore (lv' := [(7, .int v), (6, .int r), (5, .int (nI i)), (0, .ref b), (1, .ref a_off), (2, .ref a_mod), (3, .ref a_out), (4, .ref a_outD)]) hx hb dL_law_1667 hl (by decide) rfl (fun ls hl => ?_)
  refine lv_aload_n hx hb dL_law_1669 rfl (lv_at hl 5 rfl) ?_
  obtain ⟨q8, fs8, g8⟩ := hm2 r u v w q1 q2
  refine gcz_V_i (As := []) (rest := []) (hT r u v w q1 q2) ⟨hx, hb, hml, hown, hts⟩ (cwV 0 hts gL_law_X7_thrown rfl rfl rfl (by decide +kernel) ⟨Nat.le_of_ble_eq_true rfl, Nat.le_of_ble_eq_true rfl⟩) hE hZ hP hD hS hA _ g8 rfl rfl rfl rfl hl.1 (Nat.le_of_ble_eq_true rfl) dL_law_1670 ⟨by show _ ≤ 601024; exact hC.1, by show _ ≤ 7293034; exact hC.2⟩ (fun t w1 H locs hP hD hS q3 => ?_)
  obtain ⟨rfl, rfl⟩ := q3
  refine lv_iload hx hb dL_law_1673 (lv_at hl 1 rfl) ?_
  refine g_icmpE (tgt := 1680) hx hb dL_law_1675 (by decide) ?_
  refine lv_iload hx hb dL_law_1680 (lv_at hl 1 rfl) ?_
  refine lv_if_ne (tgt := 1697) hx hb dL_law_1682 (by decide) (fun _ => ?_) (fun h0 => ?_)
  · exact lv_goto (tgt := 2166) hx hb dL_law_1697 (by decide) (kk r u v w H locs ls q1 q2 hP hD hS (lv_sub hl [2, 3, 4, 5, 6, 7] rfl))
  have h0 : r = nI 0 := by rw [show nI 0 = 0 from by decide]; exact h0
  obtain ⟨q7, o, g7, ho⟩ := hO r u v w q1 q2 h0
  refine lv_aload_n hx hb dL_law_1685 rfl (lv_at hl 6 rfl) ?_
  refine lv_iconst (v := nI 0) hx hb dL_law_1686 (by decide) ?_
  refine g_lald hx hb hE hP _ g7 (by decide) (by decide) dL_law_1687 ?_
  refine lv_iload hx hb dL_law_1688 (lv_at hl 0 rfl) ?_
  refine lv_i2l (v := Int32.toInt64 v) hx hb dL_law_1690 rfl ?_
  rw [ho]
  refine g_lcmpE (tgt := 1697) hx hb dL_law_1691 dL_law_1692 (by decide) ?_
  exact lv_goto (tgt := 2166) hx hb dL_law_1697 (by decide) (kk r u v w H locs ls q1 q2 hP hD hS (lv_sub hl [2, 3, 4, 5, 6, 7] rfl))
set_option maxHeartbeats 4000000 in
set_option maxRecDepth 100000 in
theorem law_growth {p : Program} {l : Launch} {e : Env} {s : State} {m : MethodId} {below : List Frame} {meth : Method} {c : Code} {H : Heap} {locs : List Loc} {cells slots : Nat} {Q : State → Prop} {ls : Array Slot} {D : va_G} {y : Nat → Nat} {A : Nat → Prop} {ws : va_W} {b L e9 mi : Nat} {xs : Nat → Int32} {i a_off a_mod a_out a_outD : Nat} {rL rM : Room} {P1 : Int32 → va_W → Prop} {P2 : Int32 → va_W → UInt32 → va_W → Prop}
    (hB : LWB p s m c meth b L xs D y e9 mi A) (hP : gvP D vwCl ws H) (hD : gvD A ws) (hS : va_S A s.heap H locs) (hl : lv_has ls 9 (l0L i b a_off a_mod a_out a_outD)) (hi : i + 5 ≤ L)
    (hL : gZi l yL_growth wsL_growth rL D y e9 mi [.ref a_off, .int (xs (i + 1)), .ref a_outD] ws P1)
    (hM : ∀ r u, P1 r u → gZf l yX7_growth wsX7_growth rM D y e9 mi [.ref a_mod, .int (xs (i + 1))] u (P2 r u))
    (hm : ∀ r u, P1 r u → ∃ (q : Nat) (fs : List Value), u[q]? = some (a_mod, Sum.inr (8, fs)))
    (hm2 : ∀ r u v w, P1 r u → P2 r u v w → ∃ (q : Nat) (fs : List Value), w[q]? = some (a_mod, Sum.inr (8, fs)))
    (hT : ∀ r u v w, P1 r u → P2 r u v w → gZi l yX7_thrown wsX7_thrown rmT D y e9 mi [.ref a_mod] w (fun t w' => r = t ∧ w = w'))
    (hO : ∀ r u v w, P1 r u → P2 r u v w → r = nI 0 → ∃ (q : Nat) (o : Nat → UInt64), w[q]? = some (a_outD, eD y 1 o) ∧ (o 0 = FP.f2d v ∧ vf_n64 (FP.f2d v)))
    (hRL : rL.frames + 1 ≤ room_1.frames ∧ 8 + (4 + 11) + rL.locals ≤ room_1.locals) (hRM : rM.frames + 1 ≤ room_1.frames ∧ 8 + (2 + 11) + rM.locals ≤ room_1.locals)
    (hC : cells + rL.cells + rM.cells ≤ 601024 ∧ slots + rL.slots + rM.slots ≤ 7293034)
    (kk : ∀ (r : Int32) (u : va_W) (v : UInt32) (w : va_W) (H : Heap) (locs : List Loc) (ls : Array Slot), P1 r u → P2 r u v w → gvP D vwCl w H → gvD A w → va_S A s.heap H locs → lv_has ls 9 (l0L i b a_off a_mod a_out a_outD) → W p l e room_1 s m #[.ref b] below meth c H locs (cells + rL.cells + rM.cells) (slots + rL.slots + rM.slots) Q (F0 m 2166 ls [])) : W p l e room_1 s m #[.ref b] below meth c H locs cells slots Q (F0 m 1700 ls []) := by
  obtain ⟨hx, hb, hml, hts, hown, hE, hZ, hX, hbl, hbA, hA, hL9⟩ := hB
  refine lv_aload_n hx hb dL_law_1700 rfl (lv_at hl 2 rfl) ?_
  refine lv_aload_n hx hb dL_law_1701 rfl (lv_at hl 1 rfl) ?_
  refine lv_iload hx hb dL_law_1702 (lv_at hl 0 rfl) ?_
  refine lv_iconst (v := nI 1) hx hb dL_law_1704 (by decide) ?_
  refine g_iadd hx hb dL_law_1705 (nI_add _ _) ?_
  refine g_scr hx hb hX hbl hbA hS (by omega) hL9 dL_law_1706 ?_
  refine lv_aload hx hb dL_law_1707 (lv_at hl 5 rfl) ?_
  refine gcz_S_i (As := [.ref a_off, .int (xs (i + 1)), .ref a_outD]) (rest := []) hL ⟨hx, hb, hml, hown, hts⟩ (vx_cwSW 3 hts gL_law_L_growth rfl rfl rfl (by decide +kernel) hRL) hE hZ hP hD hS hA rfl rfl hl.1 (Nat.le_of_ble_eq_true rfl) dL_law_1709 ⟨by show _ ≤ 601024; omega, by show _ ≤ 7293034; omega⟩ (fun r u H locs hP hD hS q1 => ?_)
  refine lv_istore (lv' := [(6, .int r), (5, .int (nI i)), (0, .ref b), (1, .ref a_off), (2, .ref a_mod), (3, .ref a_out), (4, .ref a_outD)]) hx hb dL_law_1712 hl (by decide) rfl (fun ls hl => ?_)
  refine lv_aload_n hx hb dL_law_1714 rfl (lv_at hl 4 rfl) ?_
  refine lv_aload_n hx hb dL_law_1715 rfl (lv_at hl 2 rfl) ?_
  refine lv_iload hx hb dL_law_1716 (lv_at hl 1 rfl) ?_
  refine lv_iconst (v := nI 1) hx hb dL_law_1718 (by decide) ?_
  refine g_iadd hx hb dL_law_1719 (nI_add _ _) ?_
  refine g_scr hx hb hX hbl hbA hS (by omega) hL9 dL_law_1720 ?_
  obtain ⟨q9, fs9, g9⟩ := hm r u q1
  refine gcz_V_f (As := [.int (xs (i + 1))]) (rest := []) (hM r u q1) ⟨hx, hb, hml, hown, hts⟩ (cwV 1 hts gL_law_X7_growth rfl rfl rfl (by decide +kernel) hRM) hE hZ hP hD hS hA _ g9 rfl rfl rfl rfl hl.1 (Nat.le_of_ble_eq_true rfl) dL_law_1721 ⟨by show _ ≤ 601024; omega, by show _ ≤ 7293034; omega⟩ (fun v w H locs hP hD hS q2 => ?_)
  refine lv_fstore (lv' := [(7, .float v), (6, .int r), (5, .int (nI i)), (0, .ref b), (1, .ref a_off), (2, .ref a_mod), (3, .ref a_out), (4, .ref a_outD)]) hx hb dL_law_1724 hl (by decide) rfl (fun ls hl => ?_)
  refine lv_aload_n hx hb dL_law_1726 rfl (lv_at hl 5 rfl) ?_
  obtain ⟨q8, fs8, g8⟩ := hm2 r u v w q1 q2
  refine gcz_V_i (As := []) (rest := []) (hT r u v w q1 q2) ⟨hx, hb, hml, hown, hts⟩ (cwV 0 hts gL_law_X7_thrown rfl rfl rfl (by decide +kernel) ⟨Nat.le_of_ble_eq_true rfl, Nat.le_of_ble_eq_true rfl⟩) hE hZ hP hD hS hA _ g8 rfl rfl rfl rfl hl.1 (Nat.le_of_ble_eq_true rfl) dL_law_1727 ⟨by show _ ≤ 601024; exact hC.1, by show _ ≤ 7293034; exact hC.2⟩ (fun t w1 H locs hP hD hS q3 => ?_)
  obtain ⟨rfl, rfl⟩ := q3
  refine lv_iload hx hb dL_law_1730 (lv_at hl 1 rfl) ?_
  refine g_icmpE (tgt := 1737) hx hb dL_law_1732 (by decide) ?_
  refine lv_iload hx hb dL_law_1737 (lv_at hl 1 rfl) ?_
  refine lv_if_ne (tgt := 1775) hx hb dL_law_1739 (by decide) (fun _ => ?_) (fun h0 => ?_)
  · exact lv_goto (tgt := 2166) hx hb dL_law_1775 (by decide) (kk r u v w H locs ls q1 q2 hP hD hS (lv_sub hl [2, 3, 4, 5, 6, 7] rfl))
  have h0 : r = nI 0 := by rw [show nI 0 = 0 from by decide]; exact h0
  obtain ⟨q7, o, g7, ho⟩ := hO r u v w q1 q2 h0
  refine lv_aload hx hb dL_law_1742 (lv_at hl 7 rfl) ?_
  refine lv_iconst (v := nI 0) hx hb dL_law_1744 (by decide) ?_
  refine g_dald hx hb hE hP _ g7 (by decide) (by decide) dL_law_1745 ?_
  refine lv_fload hx hb dL_law_1746 (lv_at hl 0 rfl) ?_
  refine lv_f2d hx hb dL_law_1748 ho.2 ?_
  rw [ho.1]
  refine g_dcmpl_eq (tgt := 1775) hx hb dL_law_1749 dL_law_1750 (by decide) (fun _ => ?_) (fun hne => ?_)
  · exact lv_goto (tgt := 2166) hx hb dL_law_1775 (by decide) (kk r u v w H locs ls q1 q2 hP hD hS (lv_sub hl [2, 3, 4, 5, 6, 7] rfl))
  exact absurd (Deq_n64 ho.2) hne
set_option maxHeartbeats 4000000 in
set_option maxRecDepth 100000 in
theorem law_core {p : Program} {l : Launch} {e : Env} {s : State} {m : MethodId} {below : List Frame} {meth : Method} {c : Code} {H : Heap} {locs : List Loc} {cells slots : Nat} {Q : State → Prop} {ls : Array Slot} {D : va_G} {y : Nat → Nat} {A : Nat → Prop} {ws : va_W} {b L e9 mi : Nat} {xs : Nat → Int32} {i a_off a_mod a_out a_outD : Nat} {rL rM : Room} {P1 : Int32 → va_W → Prop} {P2 : Int32 → va_W → UInt64 → va_W → Prop}
    (hB : LWB p s m c meth b L xs D y e9 mi A) (hP : gvP D vwCl ws H) (hD : gvD A ws) (hS : va_S A s.heap H locs) (hl : lv_has ls 9 (l0L i b a_off a_mod a_out a_outD)) (hi : i + 5 ≤ L)
    (hL : gZi l yL_core wsL_core rL D y e9 mi [.ref a_off, .int (xs (i + 1)), .ref a_outD] ws P1)
    (hM : ∀ r u, P1 r u → gZd l yX7_core wsX7_core rM D y e9 mi [.ref a_mod, .int (xs (i + 1))] u (P2 r u))
    (hm : ∀ r u, P1 r u → ∃ (q : Nat) (fs : List Value), u[q]? = some (a_mod, Sum.inr (8, fs)))
    (hm2 : ∀ r u v w, P1 r u → P2 r u v w → ∃ (q : Nat) (fs : List Value), w[q]? = some (a_mod, Sum.inr (8, fs)))
    (hT : ∀ r u v w, P1 r u → P2 r u v w → gZi l yX7_thrown wsX7_thrown rmT D y e9 mi [.ref a_mod] w (fun t w' => r = t ∧ w = w'))
    (hO : ∀ r u v w, P1 r u → P2 r u v w → r = nI 0 → ∃ (q : Nat) (o : Nat → UInt64), w[q]? = some (a_outD, eD y 1 o) ∧ o 0 = v)
    (hRL : rL.frames + 1 ≤ room_1.frames ∧ 8 + (4 + 11) + rL.locals ≤ room_1.locals) (hRM : rM.frames + 1 ≤ room_1.frames ∧ 8 + (7 + 11) + rM.locals ≤ room_1.locals)
    (hC : cells + rL.cells + rM.cells ≤ 601024 ∧ slots + rL.slots + rM.slots ≤ 7293034)
    (kk : ∀ (r : Int32) (u : va_W) (v : UInt64) (w : va_W) (H : Heap) (locs : List Loc) (ls : Array Slot), P1 r u → P2 r u v w → gvP D vwCl w H → gvD A w → va_S A s.heap H locs → lv_has ls 9 (l0L i b a_off a_mod a_out a_outD) → W p l e room_1 s m #[.ref b] below meth c H locs (cells + rL.cells + rM.cells) (slots + rL.slots + rM.slots) Q (F0 m 2166 ls [])) : W p l e room_1 s m #[.ref b] below meth c H locs cells slots Q (F0 m 1778 ls []) := by
  obtain ⟨hx, hb, hml, hts, hown, hE, hZ, hX, hbl, hbA, hA, hL9⟩ := hB
  refine lv_aload_n hx hb dL_law_1778 rfl (lv_at hl 2 rfl) ?_
  refine lv_aload_n hx hb dL_law_1779 rfl (lv_at hl 1 rfl) ?_
  refine lv_iload hx hb dL_law_1780 (lv_at hl 0 rfl) ?_
  refine lv_iconst (v := nI 1) hx hb dL_law_1782 (by decide) ?_
  refine g_iadd hx hb dL_law_1783 (nI_add _ _) ?_
  refine g_scr hx hb hX hbl hbA hS (by omega) hL9 dL_law_1784 ?_
  refine lv_aload hx hb dL_law_1785 (lv_at hl 5 rfl) ?_
  refine gcz_S_i (As := [.ref a_off, .int (xs (i + 1)), .ref a_outD]) (rest := []) hL ⟨hx, hb, hml, hown, hts⟩ (vx_cwSW 3 hts gL_law_L_core rfl rfl rfl (by decide +kernel) hRL) hE hZ hP hD hS hA rfl rfl hl.1 (Nat.le_of_ble_eq_true rfl) dL_law_1787 ⟨by show _ ≤ 601024; omega, by show _ ≤ 7293034; omega⟩ (fun r u H locs hP hD hS q1 => ?_)
  refine lv_istore (lv' := [(6, .int r), (5, .int (nI i)), (0, .ref b), (1, .ref a_off), (2, .ref a_mod), (3, .ref a_out), (4, .ref a_outD)]) hx hb dL_law_1790 hl (by decide) rfl (fun ls hl => ?_)
  refine lv_aload_n hx hb dL_law_1792 rfl (lv_at hl 4 rfl) ?_
  refine lv_aload_n hx hb dL_law_1793 rfl (lv_at hl 2 rfl) ?_
  refine lv_iload hx hb dL_law_1794 (lv_at hl 1 rfl) ?_
  refine lv_iconst (v := nI 1) hx hb dL_law_1796 (by decide) ?_
  refine g_iadd hx hb dL_law_1797 (nI_add _ _) ?_
  refine g_scr hx hb hX hbl hbA hS (by omega) hL9 dL_law_1798 ?_
  obtain ⟨q9, fs9, g9⟩ := hm r u q1
  refine gcz_V_d (As := [.int (xs (i + 1))]) (rest := []) (hM r u q1) ⟨hx, hb, hml, hown, hts⟩ (cwV 1 hts gL_law_X7_core rfl rfl rfl (by decide +kernel) hRM) hE hZ hP hD hS hA _ g9 rfl rfl rfl rfl hl.1 (Nat.le_of_ble_eq_true rfl) dL_law_1799 ⟨by show _ ≤ 601024; omega, by show _ ≤ 7293034; omega⟩ (fun v w H locs hP hD hS q2 => ?_)
  refine lv_dstore (lv' := [(7, .double v), (6, .int r), (5, .int (nI i)), (0, .ref b), (1, .ref a_off), (2, .ref a_mod), (3, .ref a_out), (4, .ref a_outD)]) hx hb dL_law_1802 hl (by decide) rfl (fun ls hl => ?_)
  refine lv_aload_n hx hb dL_law_1804 rfl (lv_at hl 5 rfl) ?_
  obtain ⟨q8, fs8, g8⟩ := hm2 r u v w q1 q2
  refine gcz_V_i (As := []) (rest := []) (hT r u v w q1 q2) ⟨hx, hb, hml, hown, hts⟩ (cwV 0 hts gL_law_X7_thrown rfl rfl rfl (by decide +kernel) ⟨Nat.le_of_ble_eq_true rfl, Nat.le_of_ble_eq_true rfl⟩) hE hZ hP hD hS hA _ g8 rfl rfl rfl rfl hl.1 (Nat.le_of_ble_eq_true rfl) dL_law_1805 ⟨by show _ ≤ 601024; exact hC.1, by show _ ≤ 7293034; exact hC.2⟩ (fun t w1 H locs hP hD hS q3 => ?_)
  obtain ⟨rfl, rfl⟩ := q3
  refine lv_iload hx hb dL_law_1808 (lv_at hl 1 rfl) ?_
  refine g_icmpE (tgt := 1815) hx hb dL_law_1810 (by decide) ?_
  refine lv_iload hx hb dL_law_1815 (lv_at hl 1 rfl) ?_
  refine lv_if_ne (tgt := 1852) hx hb dL_law_1817 (by decide) (fun _ => ?_) (fun h0 => ?_)
  · exact lv_goto (tgt := 2166) hx hb dL_law_1852 (by decide) (kk r u v w H locs ls q1 q2 hP hD hS (lv_sub hl [2, 3, 4, 5, 6, 7] rfl))
  have h0 : r = nI 0 := by rw [show nI 0 = 0 from by decide]; exact h0
  obtain ⟨q7, o, g7, ho⟩ := hO r u v w q1 q2 h0
  refine lv_aload hx hb dL_law_1820 (lv_at hl 7 rfl) ?_
  refine lv_iconst (v := nI 0) hx hb dL_law_1822 (by decide) ?_
  refine g_dald hx hb hE hP _ g7 (by decide) (by decide) dL_law_1823 ?_
  refine lv_dload hx hb dL_law_1824 (lv_at hl 0 rfl) ?_
  rw [ho]
  refine g_dcmpl_eq (tgt := 1852) hx hb dL_law_1826 dL_law_1827 (by decide) (fun _ => ?_) (fun hne => ?_)
  · exact lv_goto (tgt := 2166) hx hb dL_law_1852 (by decide) (kk r u v w H locs ls q1 q2 hP hD hS (lv_sub hl [2, 3, 4, 5, 6, 7] rfl))
  refine lv_aload hx hb dL_law_1830 (lv_at hl 7 rfl) ?_
  refine lv_iconst (v := nI 0) hx hb dL_law_1832 (by decide) ?_
  refine g_dald hx hb hE hP _ g7 (by decide) (by decide) dL_law_1833 ?_
  refine lv_aload hx hb dL_law_1834 (lv_at hl 7 rfl) ?_
  refine lv_iconst (v := nI 0) hx hb dL_law_1836 (by decide) ?_
  refine g_dald hx hb hE hP _ g7 (by decide) (by decide) dL_law_1837 ?_
  rw [ho]
  refine g_dcmpl_eq (tgt := 1850) hx hb dL_law_1838 dL_law_1839 (by decide) (fun hq => absurd hq hne) (fun _ => ?_)
  refine lv_dload hx hb dL_law_1842 (lv_at hl 0 rfl) ?_
  refine lv_dload hx hb dL_law_1844 (lv_at hl 0 rfl) ?_
  refine g_dcmpl_ne (tgt := 1852) hx hb dL_law_1846 dL_law_1847 (by decide) (fun _ => ?_) (fun hq => absurd hq hne)
  exact lv_goto (tgt := 2166) hx hb dL_law_1852 (by decide) (kk r u v w H locs ls q1 q2 hP hD hS (lv_sub hl [2, 3, 4, 5, 6, 7] rfl))
set_option maxHeartbeats 4000000 in
set_option maxRecDepth 100000 in
theorem law_direct {p : Program} {l : Launch} {e : Env} {s : State} {m : MethodId} {below : List Frame} {meth : Method} {c : Code} {H : Heap} {locs : List Loc} {cells slots : Nat} {Q : State → Prop} {ls : Array Slot} {D : va_G} {y : Nat → Nat} {A : Nat → Prop} {ws : va_W} {b L e9 mi : Nat} {xs : Nat → Int32} {i a_off a_mod a_out a_outD : Nat} {rL rM : Room} {P1 : Int32 → va_W → Prop} {P2 : Int32 → va_W → UInt64 → va_W → Prop}
    (hB : LWB p s m c meth b L xs D y e9 mi A) (hP : gvP D vwCl ws H) (hD : gvD A ws) (hS : va_S A s.heap H locs) (hl : lv_has ls 9 (l0L i b a_off a_mod a_out a_outD)) (hi : i + 5 ≤ L)
    (hL : gZi l yL_direct wsL_direct rL D y e9 mi [.ref a_off, .int (xs (i + 1)), .ref a_outD] ws P1)
    (hM : ∀ r u, P1 r u → gZd l yX7_direct wsX7_direct rM D y e9 mi [.ref a_mod, .int (xs (i + 1))] u (P2 r u))
    (hm : ∀ r u, P1 r u → ∃ (q : Nat) (fs : List Value), u[q]? = some (a_mod, Sum.inr (8, fs)))
    (hm2 : ∀ r u v w, P1 r u → P2 r u v w → ∃ (q : Nat) (fs : List Value), w[q]? = some (a_mod, Sum.inr (8, fs)))
    (hT : ∀ r u v w, P1 r u → P2 r u v w → gZi l yX7_thrown wsX7_thrown rmT D y e9 mi [.ref a_mod] w (fun t w' => r = t ∧ w = w'))
    (hO : ∀ r u v w, P1 r u → P2 r u v w → r = nI 0 → ∃ (q : Nat) (o : Nat → UInt64), w[q]? = some (a_outD, eD y 1 o) ∧ o 0 = v)
    (hRL : rL.frames + 1 ≤ room_1.frames ∧ 8 + (4 + 11) + rL.locals ≤ room_1.locals) (hRM : rM.frames + 1 ≤ room_1.frames ∧ 8 + (8 + 11) + rM.locals ≤ room_1.locals)
    (hC : cells + rL.cells + rM.cells ≤ 601024 ∧ slots + rL.slots + rM.slots ≤ 7293034)
    (kk : ∀ (r : Int32) (u : va_W) (v : UInt64) (w : va_W) (H : Heap) (locs : List Loc) (ls : Array Slot), P1 r u → P2 r u v w → gvP D vwCl w H → gvD A w → va_S A s.heap H locs → lv_has ls 9 (l0L i b a_off a_mod a_out a_outD) → W p l e room_1 s m #[.ref b] below meth c H locs (cells + rL.cells + rM.cells) (slots + rL.slots + rM.slots) Q (F0 m 2166 ls [])) : W p l e room_1 s m #[.ref b] below meth c H locs cells slots Q (F0 m 1855 ls []) := by
  obtain ⟨hx, hb, hml, hts, hown, hE, hZ, hX, hbl, hbA, hA, hL9⟩ := hB
  refine lv_aload_n hx hb dL_law_1855 rfl (lv_at hl 2 rfl) ?_
  refine lv_aload_n hx hb dL_law_1856 rfl (lv_at hl 1 rfl) ?_
  refine lv_iload hx hb dL_law_1857 (lv_at hl 0 rfl) ?_
  refine lv_iconst (v := nI 1) hx hb dL_law_1859 (by decide) ?_
  refine g_iadd hx hb dL_law_1860 (nI_add _ _) ?_
  refine g_scr hx hb hX hbl hbA hS (by omega) hL9 dL_law_1861 ?_
  refine lv_aload hx hb dL_law_1862 (lv_at hl 5 rfl) ?_
  refine gcz_S_i (As := [.ref a_off, .int (xs (i + 1)), .ref a_outD]) (rest := []) hL ⟨hx, hb, hml, hown, hts⟩ (vx_cwSW 3 hts gL_law_L_direct rfl rfl rfl (by decide +kernel) hRL) hE hZ hP hD hS hA rfl rfl hl.1 (Nat.le_of_ble_eq_true rfl) dL_law_1864 ⟨by show _ ≤ 601024; omega, by show _ ≤ 7293034; omega⟩ (fun r u H locs hP hD hS q1 => ?_)
  refine lv_istore (lv' := [(6, .int r), (5, .int (nI i)), (0, .ref b), (1, .ref a_off), (2, .ref a_mod), (3, .ref a_out), (4, .ref a_outD)]) hx hb dL_law_1867 hl (by decide) rfl (fun ls hl => ?_)
  refine lv_aload_n hx hb dL_law_1869 rfl (lv_at hl 4 rfl) ?_
  refine lv_aload_n hx hb dL_law_1870 rfl (lv_at hl 2 rfl) ?_
  refine lv_iload hx hb dL_law_1871 (lv_at hl 1 rfl) ?_
  refine lv_iconst (v := nI 1) hx hb dL_law_1873 (by decide) ?_
  refine g_iadd hx hb dL_law_1874 (nI_add _ _) ?_
  refine g_scr hx hb hX hbl hbA hS (by omega) hL9 dL_law_1875 ?_
  obtain ⟨q9, fs9, g9⟩ := hm r u q1
  refine gcz_V_d (As := [.int (xs (i + 1))]) (rest := []) (hM r u q1) ⟨hx, hb, hml, hown, hts⟩ (cwV 1 hts gL_law_X7_direct rfl rfl rfl (by decide +kernel) hRM) hE hZ hP hD hS hA _ g9 rfl rfl rfl rfl hl.1 (Nat.le_of_ble_eq_true rfl) dL_law_1876 ⟨by show _ ≤ 601024; omega, by show _ ≤ 7293034; omega⟩ (fun v w H locs hP hD hS q2 => ?_)
  refine lv_dstore (lv' := [(7, .double v), (6, .int r), (5, .int (nI i)), (0, .ref b), (1, .ref a_off), (2, .ref a_mod), (3, .ref a_out), (4, .ref a_outD)]) hx hb dL_law_1879 hl (by decide) rfl (fun ls hl => ?_)
  refine lv_aload_n hx hb dL_law_1881 rfl (lv_at hl 5 rfl) ?_
  obtain ⟨q8, fs8, g8⟩ := hm2 r u v w q1 q2
  refine gcz_V_i (As := []) (rest := []) (hT r u v w q1 q2) ⟨hx, hb, hml, hown, hts⟩ (cwV 0 hts gL_law_X7_thrown rfl rfl rfl (by decide +kernel) ⟨Nat.le_of_ble_eq_true rfl, Nat.le_of_ble_eq_true rfl⟩) hE hZ hP hD hS hA _ g8 rfl rfl rfl rfl hl.1 (Nat.le_of_ble_eq_true rfl) dL_law_1882 ⟨by show _ ≤ 601024; exact hC.1, by show _ ≤ 7293034; exact hC.2⟩ (fun t w1 H locs hP hD hS q3 => ?_)
  obtain ⟨rfl, rfl⟩ := q3
  refine lv_iload hx hb dL_law_1885 (lv_at hl 1 rfl) ?_
  refine g_icmpE (tgt := 1892) hx hb dL_law_1887 (by decide) ?_
  refine lv_iload hx hb dL_law_1892 (lv_at hl 1 rfl) ?_
  refine lv_if_ne (tgt := 1929) hx hb dL_law_1894 (by decide) (fun _ => ?_) (fun h0 => ?_)
  · exact lv_goto (tgt := 2166) hx hb dL_law_1929 (by decide) (kk r u v w H locs ls q1 q2 hP hD hS (lv_sub hl [2, 3, 4, 5, 6, 7] rfl))
  have h0 : r = nI 0 := by rw [show nI 0 = 0 from by decide]; exact h0
  obtain ⟨q7, o, g7, ho⟩ := hO r u v w q1 q2 h0
  refine lv_aload hx hb dL_law_1897 (lv_at hl 7 rfl) ?_
  refine lv_iconst (v := nI 0) hx hb dL_law_1899 (by decide) ?_
  refine g_dald hx hb hE hP _ g7 (by decide) (by decide) dL_law_1900 ?_
  refine lv_dload hx hb dL_law_1901 (lv_at hl 0 rfl) ?_
  rw [ho]
  refine g_dcmpl_eq (tgt := 1929) hx hb dL_law_1903 dL_law_1904 (by decide) (fun _ => ?_) (fun hne => ?_)
  · exact lv_goto (tgt := 2166) hx hb dL_law_1929 (by decide) (kk r u v w H locs ls q1 q2 hP hD hS (lv_sub hl [2, 3, 4, 5, 6, 7] rfl))
  refine lv_aload hx hb dL_law_1907 (lv_at hl 7 rfl) ?_
  refine lv_iconst (v := nI 0) hx hb dL_law_1909 (by decide) ?_
  refine g_dald hx hb hE hP _ g7 (by decide) (by decide) dL_law_1910 ?_
  refine lv_aload hx hb dL_law_1911 (lv_at hl 7 rfl) ?_
  refine lv_iconst (v := nI 0) hx hb dL_law_1913 (by decide) ?_
  refine g_dald hx hb hE hP _ g7 (by decide) (by decide) dL_law_1914 ?_
  rw [ho]
  refine g_dcmpl_eq (tgt := 1927) hx hb dL_law_1915 dL_law_1916 (by decide) (fun hq => absurd hq hne) (fun _ => ?_)
  refine lv_dload hx hb dL_law_1919 (lv_at hl 0 rfl) ?_
  refine lv_dload hx hb dL_law_1921 (lv_at hl 0 rfl) ?_
  refine g_dcmpl_ne (tgt := 1929) hx hb dL_law_1923 dL_law_1924 (by decide) (fun _ => ?_) (fun hq => absurd hq hne)
  exact lv_goto (tgt := 2166) hx hb dL_law_1929 (by decide) (kk r u v w H locs ls q1 q2 hP hD hS (lv_sub hl [2, 3, 4, 5, 6, 7] rfl))
set_option maxHeartbeats 4000000 in
set_option maxRecDepth 100000 in
theorem law_doubts {p : Program} {l : Launch} {e : Env} {s : State} {m : MethodId} {below : List Frame} {meth : Method} {c : Code} {H : Heap} {locs : List Loc} {cells slots : Nat} {Q : State → Prop} {ls : Array Slot} {D : va_G} {y : Nat → Nat} {A : Nat → Prop} {ws : va_W} {b L e9 mi : Nat} {xs : Nat → Int32} {i a_off a_mod a_out a_outD : Nat} {rL rM : Room} {P1 : Int32 → va_W → Prop} {P2 : Int32 → va_W → Int32 → va_W → Prop}
    (hB : LWB p s m c meth b L xs D y e9 mi A) (hP : gvP D vwCl ws H) (hD : gvD A ws) (hS : va_S A s.heap H locs) (hl : lv_has ls 9 (l0L i b a_off a_mod a_out a_outD)) (hi : i + 5 ≤ L)
    (hL : gZi l yL_doubts wsL_doubts rL D y e9 mi [.ref a_off, .int (xs (i + 1)), .ref a_out] ws P1)
    (hM : ∀ r u, P1 r u → gZi l yX7_doubts wsX7_doubts rM D y e9 mi [.ref a_mod, .int (xs (i + 1))] u (P2 r u))
    (hm : ∀ r u, P1 r u → ∃ (q : Nat) (fs : List Value), u[q]? = some (a_mod, Sum.inr (8, fs)))
    (hm2 : ∀ r u v w, P1 r u → P2 r u v w → ∃ (q : Nat) (fs : List Value), w[q]? = some (a_mod, Sum.inr (8, fs)))
    (hT : ∀ r u v w, P1 r u → P2 r u v w → gZi l yX7_thrown wsX7_thrown rmT D y e9 mi [.ref a_mod] w (fun t w' => r = t ∧ w = w'))
    (hO : ∀ r u v w, P1 r u → P2 r u v w → r = nI 0 → ∃ (q : Nat) (o : Nat → Int64), w[q]? = some (a_out, eJ y 1 o) ∧ o 0 = v.toInt64)
    (hRL : rL.frames + 1 ≤ room_1.frames ∧ 8 + (4 + 11) + rL.locals ≤ room_1.locals) (hRM : rM.frames + 1 ≤ room_1.frames ∧ 8 + (5 + 11) + rM.locals ≤ room_1.locals)
    (hC : cells + rL.cells + rM.cells ≤ 601024 ∧ slots + rL.slots + rM.slots ≤ 7293034)
    (kk : ∀ (r : Int32) (u : va_W) (v : Int32) (w : va_W) (H : Heap) (locs : List Loc) (ls : Array Slot), P1 r u → P2 r u v w → gvP D vwCl w H → gvD A w → va_S A s.heap H locs → lv_has ls 9 (l0L i b a_off a_mod a_out a_outD) → W p l e room_1 s m #[.ref b] below meth c H locs (cells + rL.cells + rM.cells) (slots + rL.slots + rM.slots) Q (F0 m 2166 ls [])) : W p l e room_1 s m #[.ref b] below meth c H locs cells slots Q (F0 m 1932 ls []) := by
  obtain ⟨hx, hb, hml, hts, hown, hE, hZ, hX, hbl, hbA, hA, hL9⟩ := hB
  refine lv_aload_n hx hb dL_law_1932 rfl (lv_at hl 2 rfl) ?_
  refine lv_aload_n hx hb dL_law_1933 rfl (lv_at hl 1 rfl) ?_
  refine lv_iload hx hb dL_law_1934 (lv_at hl 0 rfl) ?_
  refine lv_iconst (v := nI 1) hx hb dL_law_1936 (by decide) ?_
  refine g_iadd hx hb dL_law_1937 (nI_add _ _) ?_
  refine g_scr hx hb hX hbl hbA hS (by omega) hL9 dL_law_1938 ?_
  refine lv_aload_n hx hb dL_law_1939 rfl (lv_at hl 4 rfl) ?_
  refine gcz_S_i (As := [.ref a_off, .int (xs (i + 1)), .ref a_out]) (rest := []) hL ⟨hx, hb, hml, hown, hts⟩ (vx_cwSW 3 hts gL_law_L_doubts rfl rfl rfl (by decide +kernel) hRL) hE hZ hP hD hS hA rfl rfl hl.1 (Nat.le_of_ble_eq_true rfl) dL_law_1940 ⟨by show _ ≤ 601024; omega, by show _ ≤ 7293034; omega⟩ (fun r u H locs hP hD hS q1 => ?_)
  refine lv_istore (lv' := [(6, .int r), (5, .int (nI i)), (0, .ref b), (1, .ref a_off), (2, .ref a_mod), (3, .ref a_out), (4, .ref a_outD)]) hx hb dL_law_1943 hl (by decide) rfl (fun ls hl => ?_)
  refine lv_aload_n hx hb dL_law_1945 rfl (lv_at hl 4 rfl) ?_
  refine lv_aload_n hx hb dL_law_1946 rfl (lv_at hl 2 rfl) ?_
  refine lv_iload hx hb dL_law_1947 (lv_at hl 1 rfl) ?_
  refine lv_iconst (v := nI 1) hx hb dL_law_1949 (by decide) ?_
  refine g_iadd hx hb dL_law_1950 (nI_add _ _) ?_
  refine g_scr hx hb hX hbl hbA hS (by omega) hL9 dL_law_1951 ?_
  obtain ⟨q9, fs9, g9⟩ := hm r u q1
  refine gcz_V_i (As := [.int (xs (i + 1))]) (rest := []) (hM r u q1) ⟨hx, hb, hml, hown, hts⟩ (cwV 1 hts gL_law_X7_doubts rfl rfl rfl (by decide +kernel) hRM) hE hZ hP hD hS hA _ g9 rfl rfl rfl rfl hl.1 (Nat.le_of_ble_eq_true rfl) dL_law_1952 ⟨by show _ ≤ 601024; omega, by show _ ≤ 7293034; omega⟩ (fun v w H locs hP hD hS q2 => ?_)
  refine lv_istore (lv' := [(7, .int v), (6, .int r), (5, .int (nI i)), (0, .ref b), (1, .ref a_off), (2, .ref a_mod), (3, .ref a_out), (4, .ref a_outD)]) hx hb dL_law_1955 hl (by decide) rfl (fun ls hl => ?_)
  refine lv_aload_n hx hb dL_law_1957 rfl (lv_at hl 5 rfl) ?_
  obtain ⟨q8, fs8, g8⟩ := hm2 r u v w q1 q2
  refine gcz_V_i (As := []) (rest := []) (hT r u v w q1 q2) ⟨hx, hb, hml, hown, hts⟩ (cwV 0 hts gL_law_X7_thrown rfl rfl rfl (by decide +kernel) ⟨Nat.le_of_ble_eq_true rfl, Nat.le_of_ble_eq_true rfl⟩) hE hZ hP hD hS hA _ g8 rfl rfl rfl rfl hl.1 (Nat.le_of_ble_eq_true rfl) dL_law_1958 ⟨by show _ ≤ 601024; exact hC.1, by show _ ≤ 7293034; exact hC.2⟩ (fun t w1 H locs hP hD hS q3 => ?_)
  obtain ⟨rfl, rfl⟩ := q3
  refine lv_iload hx hb dL_law_1961 (lv_at hl 1 rfl) ?_
  refine g_icmpE (tgt := 1968) hx hb dL_law_1963 (by decide) ?_
  refine lv_iload hx hb dL_law_1968 (lv_at hl 1 rfl) ?_
  refine lv_if_ne (tgt := 1985) hx hb dL_law_1970 (by decide) (fun _ => ?_) (fun h0 => ?_)
  · exact lv_goto (tgt := 2166) hx hb dL_law_1985 (by decide) (kk r u v w H locs ls q1 q2 hP hD hS (lv_sub hl [2, 3, 4, 5, 6, 7] rfl))
  have h0 : r = nI 0 := by rw [show nI 0 = 0 from by decide]; exact h0
  obtain ⟨q7, o, g7, ho⟩ := hO r u v w q1 q2 h0
  refine lv_aload_n hx hb dL_law_1973 rfl (lv_at hl 6 rfl) ?_
  refine lv_iconst (v := nI 0) hx hb dL_law_1974 (by decide) ?_
  refine g_lald hx hb hE hP _ g7 (by decide) (by decide) dL_law_1975 ?_
  refine lv_iload hx hb dL_law_1976 (lv_at hl 0 rfl) ?_
  refine lv_i2l (v := Int32.toInt64 v) hx hb dL_law_1978 rfl ?_
  rw [ho]
  refine g_lcmpE (tgt := 1985) hx hb dL_law_1979 dL_law_1980 (by decide) ?_
  exact lv_goto (tgt := 2166) hx hb dL_law_1985 (by decide) (kk r u v w H locs ls q1 q2 hP hD hS (lv_sub hl [2, 3, 4, 5, 6, 7] rfl))
set_option maxHeartbeats 4000000 in
set_option maxRecDepth 100000 in
theorem law_ofContract {p : Program} {l : Launch} {e : Env} {s : State} {m : MethodId} {below : List Frame} {meth : Method} {c : Code} {H : Heap} {locs : List Loc} {cells slots : Nat} {Q : State → Prop} {ls : Array Slot} {D : va_G} {y : Nat → Nat} {A : Nat → Prop} {ws : va_W} {b L e9 mi : Nat} {xs : Nat → Int32} {i a_off a_mod a_out a_outD : Nat} {rL rM : Room} {P1 : Int32 → va_W → Prop} {P2 : Int32 → va_W → Int64 → va_W → Prop}
    (hB : LWB p s m c meth b L xs D y e9 mi A) (hP : gvP D vwCl ws H) (hD : gvD A ws) (hS : va_S A s.heap H locs) (hl : lv_has ls 9 (l0L i b a_off a_mod a_out a_outD)) (hi : i + 5 ≤ L)
    (hL : gZi l yL_ofContract wsL_ofContract rL D y e9 mi [.ref a_off, .int (xs (i + 1)), .int (xs (i + 2)), .ref a_out] ws P1)
    (hM : ∀ r u, P1 r u → gZl l yX7_ofContract wsX7_ofContract rM D y e9 mi [.ref a_mod, .int (xs (i + 1)), .int (xs (i + 2))] u (P2 r u))
    (hm : ∀ r u, P1 r u → ∃ (q : Nat) (fs : List Value), u[q]? = some (a_mod, Sum.inr (8, fs)))
    (hm2 : ∀ r u v w, P1 r u → P2 r u v w → ∃ (q : Nat) (fs : List Value), w[q]? = some (a_mod, Sum.inr (8, fs)))
    (hT : ∀ r u v w, P1 r u → P2 r u v w → gZi l yX7_thrown wsX7_thrown rmT D y e9 mi [.ref a_mod] w (fun t w' => r = t ∧ w = w'))
    (hO : ∀ r u v w, P1 r u → P2 r u v w → r = nI 0 → ∃ (q : Nat) (o : Nat → Int64), w[q]? = some (a_out, eJ y 1 o) ∧ o 0 = v)
    (hRL : rL.frames + 1 ≤ room_1.frames ∧ 8 + (5 + 11) + rL.locals ≤ room_1.locals) (hRM : rM.frames + 1 ≤ room_1.frames ∧ 8 + (3 + 11) + rM.locals ≤ room_1.locals)
    (hC : cells + rL.cells + rM.cells ≤ 601024 ∧ slots + rL.slots + rM.slots ≤ 7293034)
    (kk : ∀ (r : Int32) (u : va_W) (v : Int64) (w : va_W) (H : Heap) (locs : List Loc) (ls : Array Slot), P1 r u → P2 r u v w → gvP D vwCl w H → gvD A w → va_S A s.heap H locs → lv_has ls 9 (l0L i b a_off a_mod a_out a_outD) → W p l e room_1 s m #[.ref b] below meth c H locs (cells + rL.cells + rM.cells) (slots + rL.slots + rM.slots) Q (F0 m 2166 ls [])) : W p l e room_1 s m #[.ref b] below meth c H locs cells slots Q (F0 m 1988 ls []) := by
  obtain ⟨hx, hb, hml, hts, hown, hE, hZ, hX, hbl, hbA, hA, hL9⟩ := hB
  refine lv_aload_n hx hb dL_law_1988 rfl (lv_at hl 2 rfl) ?_
  refine lv_aload_n hx hb dL_law_1989 rfl (lv_at hl 1 rfl) ?_
  refine lv_iload hx hb dL_law_1990 (lv_at hl 0 rfl) ?_
  refine lv_iconst (v := nI 1) hx hb dL_law_1992 (by decide) ?_
  refine g_iadd hx hb dL_law_1993 (nI_add _ _) ?_
  refine g_scr hx hb hX hbl hbA hS (by omega) hL9 dL_law_1994 ?_
  refine lv_aload_n hx hb dL_law_1995 rfl (lv_at hl 1 rfl) ?_
  refine lv_iload hx hb dL_law_1996 (lv_at hl 0 rfl) ?_
  refine lv_iconst (v := nI 2) hx hb dL_law_1998 (by decide) ?_
  refine g_iadd hx hb dL_law_1999 (nI_add _ _) ?_
  refine g_scr hx hb hX hbl hbA hS (by omega) hL9 dL_law_2000 ?_
  refine lv_aload_n hx hb dL_law_2001 rfl (lv_at hl 4 rfl) ?_
  refine gcz_S_i (As := [.ref a_off, .int (xs (i + 1)), .int (xs (i + 2)), .ref a_out]) (rest := []) hL ⟨hx, hb, hml, hown, hts⟩ (vx_cwSW 4 hts gL_law_L_ofContract rfl rfl rfl (by decide +kernel) hRL) hE hZ hP hD hS hA rfl rfl hl.1 (Nat.le_of_ble_eq_true rfl) dL_law_2002 ⟨by show _ ≤ 601024; omega, by show _ ≤ 7293034; omega⟩ (fun r u H locs hP hD hS q1 => ?_)
  refine lv_istore (lv' := [(6, .int r), (5, .int (nI i)), (0, .ref b), (1, .ref a_off), (2, .ref a_mod), (3, .ref a_out), (4, .ref a_outD)]) hx hb dL_law_2005 hl (by decide) rfl (fun ls hl => ?_)
  refine lv_aload_n hx hb dL_law_2007 rfl (lv_at hl 4 rfl) ?_
  refine lv_aload_n hx hb dL_law_2008 rfl (lv_at hl 2 rfl) ?_
  refine lv_iload hx hb dL_law_2009 (lv_at hl 1 rfl) ?_
  refine lv_iconst (v := nI 1) hx hb dL_law_2011 (by decide) ?_
  refine g_iadd hx hb dL_law_2012 (nI_add _ _) ?_
  refine g_scr hx hb hX hbl hbA hS (by omega) hL9 dL_law_2013 ?_
  refine lv_aload_n hx hb dL_law_2014 rfl (lv_at hl 2 rfl) ?_
  refine lv_iload hx hb dL_law_2015 (lv_at hl 1 rfl) ?_
  refine lv_iconst (v := nI 2) hx hb dL_law_2017 (by decide) ?_
  refine g_iadd hx hb dL_law_2018 (nI_add _ _) ?_
  refine g_scr hx hb hX hbl hbA hS (by omega) hL9 dL_law_2019 ?_
  obtain ⟨q9, fs9, g9⟩ := hm r u q1
  refine gcz_V_l (As := [.int (xs (i + 1)), .int (xs (i + 2))]) (rest := []) (hM r u q1) ⟨hx, hb, hml, hown, hts⟩ (cwV 2 hts gL_law_X7_ofContract rfl rfl rfl (by decide +kernel) hRM) hE hZ hP hD hS hA _ g9 rfl rfl rfl rfl hl.1 (Nat.le_of_ble_eq_true rfl) dL_law_2020 ⟨by show _ ≤ 601024; omega, by show _ ≤ 7293034; omega⟩ (fun v w H locs hP hD hS q2 => ?_)
  refine lv_lstore (lv' := [(7, .long v), (6, .int r), (5, .int (nI i)), (0, .ref b), (1, .ref a_off), (2, .ref a_mod), (3, .ref a_out), (4, .ref a_outD)]) hx hb dL_law_2023 hl (by decide) rfl (fun ls hl => ?_)
  refine lv_aload_n hx hb dL_law_2025 rfl (lv_at hl 5 rfl) ?_
  obtain ⟨q8, fs8, g8⟩ := hm2 r u v w q1 q2
  refine gcz_V_i (As := []) (rest := []) (hT r u v w q1 q2) ⟨hx, hb, hml, hown, hts⟩ (cwV 0 hts gL_law_X7_thrown rfl rfl rfl (by decide +kernel) ⟨Nat.le_of_ble_eq_true rfl, Nat.le_of_ble_eq_true rfl⟩) hE hZ hP hD hS hA _ g8 rfl rfl rfl rfl hl.1 (Nat.le_of_ble_eq_true rfl) dL_law_2026 ⟨by show _ ≤ 601024; exact hC.1, by show _ ≤ 7293034; exact hC.2⟩ (fun t w1 H locs hP hD hS q3 => ?_)
  obtain ⟨rfl, rfl⟩ := q3
  refine lv_iload hx hb dL_law_2029 (lv_at hl 1 rfl) ?_
  refine g_icmpE (tgt := 2036) hx hb dL_law_2031 (by decide) ?_
  refine lv_iload hx hb dL_law_2036 (lv_at hl 1 rfl) ?_
  refine lv_if_ne (tgt := 2052) hx hb dL_law_2038 (by decide) (fun _ => ?_) (fun h0 => ?_)
  · exact lv_goto (tgt := 2166) hx hb dL_law_2052 (by decide) (kk r u v w H locs ls q1 q2 hP hD hS (lv_sub hl [2, 3, 4, 5, 6, 7] rfl))
  have h0 : r = nI 0 := by rw [show nI 0 = 0 from by decide]; exact h0
  obtain ⟨q7, o, g7, ho⟩ := hO r u v w q1 q2 h0
  refine lv_aload_n hx hb dL_law_2041 rfl (lv_at hl 6 rfl) ?_
  refine lv_iconst (v := nI 0) hx hb dL_law_2042 (by decide) ?_
  refine g_lald hx hb hE hP _ g7 (by decide) (by decide) dL_law_2043 ?_
  refine lv_lload hx hb dL_law_2044 (lv_at hl 0 rfl) ?_
  rw [ho]
  refine g_lcmpE (tgt := 2052) hx hb dL_law_2046 dL_law_2047 (by decide) ?_
  exact lv_goto (tgt := 2166) hx hb dL_law_2052 (by decide) (kk r u v w H locs ls q1 q2 hP hD hS (lv_sub hl [2, 3, 4, 5, 6, 7] rfl))
set_option maxHeartbeats 4000000 in
set_option maxRecDepth 100000 in
theorem law_owed {p : Program} {l : Launch} {e : Env} {s : State} {m : MethodId} {below : List Frame} {meth : Method} {c : Code} {H : Heap} {locs : List Loc} {cells slots : Nat} {Q : State → Prop} {ls : Array Slot} {D : va_G} {y : Nat → Nat} {A : Nat → Prop} {ws : va_W} {b L e9 mi : Nat} {xs : Nat → Int32} {i a_off a_mod a_out a_outD : Nat} {rL rM : Room} {P1 : Int32 → va_W → Prop} {P2 : Int32 → va_W → Int64 → va_W → Prop}
    (hB : LWB p s m c meth b L xs D y e9 mi A) (hP : gvP D vwCl ws H) (hD : gvD A ws) (hS : va_S A s.heap H locs) (hl : lv_has ls 9 (l0L i b a_off a_mod a_out a_outD)) (hi : i + 5 ≤ L)
    (hL : gZi l yL_owed wsL_owed rL D y e9 mi [.ref a_off, .int (xs (i + 1)), .ref a_out] ws P1)
    (hM : ∀ r u, P1 r u → gZl l yX7_owed wsX7_owed rM D y e9 mi [.ref a_mod, .int (xs (i + 1))] u (P2 r u))
    (hm : ∀ r u, P1 r u → ∃ (q : Nat) (fs : List Value), u[q]? = some (a_mod, Sum.inr (8, fs)))
    (hm2 : ∀ r u v w, P1 r u → P2 r u v w → ∃ (q : Nat) (fs : List Value), w[q]? = some (a_mod, Sum.inr (8, fs)))
    (hT : ∀ r u v w, P1 r u → P2 r u v w → gZi l yX7_thrown wsX7_thrown rmT D y e9 mi [.ref a_mod] w (fun t w' => r = t ∧ w = w'))
    (hO : ∀ r u v w, P1 r u → P2 r u v w → r = nI 0 → ∃ (q : Nat) (o : Nat → Int64), w[q]? = some (a_out, eJ y 1 o) ∧ o 0 = v)
    (hRL : rL.frames + 1 ≤ room_1.frames ∧ 8 + (4 + 11) + rL.locals ≤ room_1.locals) (hRM : rM.frames + 1 ≤ room_1.frames ∧ 8 + (11 + 11) + rM.locals ≤ room_1.locals)
    (hC : cells + rL.cells + rM.cells ≤ 601024 ∧ slots + rL.slots + rM.slots ≤ 7293034)
    (kk : ∀ (r : Int32) (u : va_W) (v : Int64) (w : va_W) (H : Heap) (locs : List Loc) (ls : Array Slot), P1 r u → P2 r u v w → gvP D vwCl w H → gvD A w → va_S A s.heap H locs → lv_has ls 9 (l0L i b a_off a_mod a_out a_outD) → W p l e room_1 s m #[.ref b] below meth c H locs (cells + rL.cells + rM.cells) (slots + rL.slots + rM.slots) Q (F0 m 2166 ls [])) : W p l e room_1 s m #[.ref b] below meth c H locs cells slots Q (F0 m 2055 ls []) := by
  obtain ⟨hx, hb, hml, hts, hown, hE, hZ, hX, hbl, hbA, hA, hL9⟩ := hB
  refine lv_aload_n hx hb dL_law_2055 rfl (lv_at hl 2 rfl) ?_
  refine lv_aload_n hx hb dL_law_2056 rfl (lv_at hl 1 rfl) ?_
  refine lv_iload hx hb dL_law_2057 (lv_at hl 0 rfl) ?_
  refine lv_iconst (v := nI 1) hx hb dL_law_2059 (by decide) ?_
  refine g_iadd hx hb dL_law_2060 (nI_add _ _) ?_
  refine g_scr hx hb hX hbl hbA hS (by omega) hL9 dL_law_2061 ?_
  refine lv_aload_n hx hb dL_law_2062 rfl (lv_at hl 4 rfl) ?_
  refine gcz_S_i (As := [.ref a_off, .int (xs (i + 1)), .ref a_out]) (rest := []) hL ⟨hx, hb, hml, hown, hts⟩ (vx_cwSW 3 hts gL_law_L_owed rfl rfl rfl (by decide +kernel) hRL) hE hZ hP hD hS hA rfl rfl hl.1 (Nat.le_of_ble_eq_true rfl) dL_law_2063 ⟨by show _ ≤ 601024; omega, by show _ ≤ 7293034; omega⟩ (fun r u H locs hP hD hS q1 => ?_)
  refine lv_istore (lv' := [(6, .int r), (5, .int (nI i)), (0, .ref b), (1, .ref a_off), (2, .ref a_mod), (3, .ref a_out), (4, .ref a_outD)]) hx hb dL_law_2066 hl (by decide) rfl (fun ls hl => ?_)
  refine lv_aload_n hx hb dL_law_2068 rfl (lv_at hl 4 rfl) ?_
  refine lv_aload_n hx hb dL_law_2069 rfl (lv_at hl 2 rfl) ?_
  refine lv_iload hx hb dL_law_2070 (lv_at hl 1 rfl) ?_
  refine lv_iconst (v := nI 1) hx hb dL_law_2072 (by decide) ?_
  refine g_iadd hx hb dL_law_2073 (nI_add _ _) ?_
  refine g_scr hx hb hX hbl hbA hS (by omega) hL9 dL_law_2074 ?_
  obtain ⟨q9, fs9, g9⟩ := hm r u q1
  refine gcz_V_l (As := [.int (xs (i + 1))]) (rest := []) (hM r u q1) ⟨hx, hb, hml, hown, hts⟩ (cwV 1 hts gL_law_X7_owed rfl rfl rfl (by decide +kernel) hRM) hE hZ hP hD hS hA _ g9 rfl rfl rfl rfl hl.1 (Nat.le_of_ble_eq_true rfl) dL_law_2075 ⟨by show _ ≤ 601024; omega, by show _ ≤ 7293034; omega⟩ (fun v w H locs hP hD hS q2 => ?_)
  refine lv_lstore (lv' := [(7, .long v), (6, .int r), (5, .int (nI i)), (0, .ref b), (1, .ref a_off), (2, .ref a_mod), (3, .ref a_out), (4, .ref a_outD)]) hx hb dL_law_2078 hl (by decide) rfl (fun ls hl => ?_)
  refine lv_aload_n hx hb dL_law_2080 rfl (lv_at hl 5 rfl) ?_
  obtain ⟨q8, fs8, g8⟩ := hm2 r u v w q1 q2
  refine gcz_V_i (As := []) (rest := []) (hT r u v w q1 q2) ⟨hx, hb, hml, hown, hts⟩ (cwV 0 hts gL_law_X7_thrown rfl rfl rfl (by decide +kernel) ⟨Nat.le_of_ble_eq_true rfl, Nat.le_of_ble_eq_true rfl⟩) hE hZ hP hD hS hA _ g8 rfl rfl rfl rfl hl.1 (Nat.le_of_ble_eq_true rfl) dL_law_2081 ⟨by show _ ≤ 601024; exact hC.1, by show _ ≤ 7293034; exact hC.2⟩ (fun t w1 H locs hP hD hS q3 => ?_)
  obtain ⟨rfl, rfl⟩ := q3
  refine lv_iload hx hb dL_law_2084 (lv_at hl 1 rfl) ?_
  refine g_icmpE (tgt := 2091) hx hb dL_law_2086 (by decide) ?_
  refine lv_iload hx hb dL_law_2091 (lv_at hl 1 rfl) ?_
  refine lv_if_ne (tgt := 2107) hx hb dL_law_2093 (by decide) (fun _ => ?_) (fun h0 => ?_)
  · exact lv_goto (tgt := 2166) hx hb dL_law_2107 (by decide) (kk r u v w H locs ls q1 q2 hP hD hS (lv_sub hl [2, 3, 4, 5, 6, 7] rfl))
  have h0 : r = nI 0 := by rw [show nI 0 = 0 from by decide]; exact h0
  obtain ⟨q7, o, g7, ho⟩ := hO r u v w q1 q2 h0
  refine lv_aload_n hx hb dL_law_2096 rfl (lv_at hl 6 rfl) ?_
  refine lv_iconst (v := nI 0) hx hb dL_law_2097 (by decide) ?_
  refine g_lald hx hb hE hP _ g7 (by decide) (by decide) dL_law_2098 ?_
  refine lv_lload hx hb dL_law_2099 (lv_at hl 0 rfl) ?_
  rw [ho]
  refine g_lcmpE (tgt := 2107) hx hb dL_law_2101 dL_law_2102 (by decide) ?_
  exact lv_goto (tgt := 2166) hx hb dL_law_2107 (by decide) (kk r u v w H locs ls q1 q2 hP hD hS (lv_sub hl [2, 3, 4, 5, 6, 7] rfl))
set_option maxHeartbeats 4000000 in
set_option maxRecDepth 100000 in
theorem law_count {p : Program} {l : Launch} {e : Env} {s : State} {m : MethodId} {below : List Frame} {meth : Method} {c : Code} {H : Heap} {locs : List Loc} {cells slots : Nat} {Q : State → Prop} {ls : Array Slot} {D : va_G} {y : Nat → Nat} {A : Nat → Prop} {ws : va_W} {b L e9 mi : Nat} {xs : Nat → Int32} {i a_off a_mod a_out a_outD : Nat} {rL rM : Room} {P1 : Int32 → va_W → Prop} {P2 : Int32 → va_W → Int32 → va_W → Prop}
    (hB : LWB p s m c meth b L xs D y e9 mi A) (hP : gvP D vwCl ws H) (hD : gvD A ws) (hS : va_S A s.heap H locs) (hl : lv_has ls 9 (l0L i b a_off a_mod a_out a_outD)) (hi : i + 5 ≤ L)
    (hL : gZi l yL_count wsL_count rL D y e9 mi [.ref a_off, .int (xs (i + 1)), .ref a_out] ws P1)
    (hM : ∀ r u, P1 r u → gZi l yX7_count wsX7_count rM D y e9 mi [.ref a_mod, .int (xs (i + 1))] u (P2 r u))
    (hm : ∀ r u, P1 r u → ∃ (q : Nat) (fs : List Value), u[q]? = some (a_mod, Sum.inr (8, fs)))
    (hm2 : ∀ r u v w, P1 r u → P2 r u v w → ∃ (q : Nat) (fs : List Value), w[q]? = some (a_mod, Sum.inr (8, fs)))
    (hT : ∀ r u v w, P1 r u → P2 r u v w → gZi l yX7_thrown wsX7_thrown rmT D y e9 mi [.ref a_mod] w (fun t w' => r = t ∧ w = w'))
    (hO : ∀ r u v w, P1 r u → P2 r u v w → r = nI 0 → ∃ (q : Nat) (o : Nat → Int64), w[q]? = some (a_out, eJ y 1 o) ∧ o 0 = v.toInt64)
    (hRL : rL.frames + 1 ≤ room_1.frames ∧ 8 + (4 + 11) + rL.locals ≤ room_1.locals) (hRM : rM.frames + 1 ≤ room_1.frames ∧ 8 + (2 + 11) + rM.locals ≤ room_1.locals)
    (hC : cells + rL.cells + rM.cells ≤ 601024 ∧ slots + rL.slots + rM.slots ≤ 7293034)
    (kk : ∀ (r : Int32) (u : va_W) (v : Int32) (w : va_W) (H : Heap) (locs : List Loc) (ls : Array Slot), P1 r u → P2 r u v w → gvP D vwCl w H → gvD A w → va_S A s.heap H locs → lv_has ls 9 (l0L i b a_off a_mod a_out a_outD) → W p l e room_1 s m #[.ref b] below meth c H locs (cells + rL.cells + rM.cells) (slots + rL.slots + rM.slots) Q (F0 m 2166 ls [])) : W p l e room_1 s m #[.ref b] below meth c H locs cells slots Q (F0 m 2110 ls []) := by
  obtain ⟨hx, hb, hml, hts, hown, hE, hZ, hX, hbl, hbA, hA, hL9⟩ := hB
  refine lv_aload_n hx hb dL_law_2110 rfl (lv_at hl 2 rfl) ?_
  refine lv_aload_n hx hb dL_law_2111 rfl (lv_at hl 1 rfl) ?_
  refine lv_iload hx hb dL_law_2112 (lv_at hl 0 rfl) ?_
  refine lv_iconst (v := nI 1) hx hb dL_law_2114 (by decide) ?_
  refine g_iadd hx hb dL_law_2115 (nI_add _ _) ?_
  refine g_scr hx hb hX hbl hbA hS (by omega) hL9 dL_law_2116 ?_
  refine lv_aload_n hx hb dL_law_2117 rfl (lv_at hl 4 rfl) ?_
  refine gcz_S_i (As := [.ref a_off, .int (xs (i + 1)), .ref a_out]) (rest := []) hL ⟨hx, hb, hml, hown, hts⟩ (vx_cwSW 3 hts gL_law_L_count rfl rfl rfl (by decide +kernel) hRL) hE hZ hP hD hS hA rfl rfl hl.1 (Nat.le_of_ble_eq_true rfl) dL_law_2118 ⟨by show _ ≤ 601024; omega, by show _ ≤ 7293034; omega⟩ (fun r u H locs hP hD hS q1 => ?_)
  refine lv_istore (lv' := [(6, .int r), (5, .int (nI i)), (0, .ref b), (1, .ref a_off), (2, .ref a_mod), (3, .ref a_out), (4, .ref a_outD)]) hx hb dL_law_2121 hl (by decide) rfl (fun ls hl => ?_)
  refine lv_aload_n hx hb dL_law_2123 rfl (lv_at hl 4 rfl) ?_
  refine lv_aload_n hx hb dL_law_2124 rfl (lv_at hl 2 rfl) ?_
  refine lv_iload hx hb dL_law_2125 (lv_at hl 1 rfl) ?_
  refine lv_iconst (v := nI 1) hx hb dL_law_2127 (by decide) ?_
  refine g_iadd hx hb dL_law_2128 (nI_add _ _) ?_
  refine g_scr hx hb hX hbl hbA hS (by omega) hL9 dL_law_2129 ?_
  obtain ⟨q9, fs9, g9⟩ := hm r u q1
  refine gcz_V_i (As := [.int (xs (i + 1))]) (rest := []) (hM r u q1) ⟨hx, hb, hml, hown, hts⟩ (cwV 1 hts gL_law_X7_count rfl rfl rfl (by decide +kernel) hRM) hE hZ hP hD hS hA _ g9 rfl rfl rfl rfl hl.1 (Nat.le_of_ble_eq_true rfl) dL_law_2130 ⟨by show _ ≤ 601024; omega, by show _ ≤ 7293034; omega⟩ (fun v w H locs hP hD hS q2 => ?_)
  refine lv_istore (lv' := [(7, .int v), (6, .int r), (5, .int (nI i)), (0, .ref b), (1, .ref a_off), (2, .ref a_mod), (3, .ref a_out), (4, .ref a_outD)]) hx hb dL_law_2133 hl (by decide) rfl (fun ls hl => ?_)
  refine lv_aload_n hx hb dL_law_2135 rfl (lv_at hl 5 rfl) ?_
  obtain ⟨q8, fs8, g8⟩ := hm2 r u v w q1 q2
  refine gcz_V_i (As := []) (rest := []) (hT r u v w q1 q2) ⟨hx, hb, hml, hown, hts⟩ (cwV 0 hts gL_law_X7_thrown rfl rfl rfl (by decide +kernel) ⟨Nat.le_of_ble_eq_true rfl, Nat.le_of_ble_eq_true rfl⟩) hE hZ hP hD hS hA _ g8 rfl rfl rfl rfl hl.1 (Nat.le_of_ble_eq_true rfl) dL_law_2136 ⟨by show _ ≤ 601024; exact hC.1, by show _ ≤ 7293034; exact hC.2⟩ (fun t w1 H locs hP hD hS q3 => ?_)
  obtain ⟨rfl, rfl⟩ := q3
  refine lv_iload hx hb dL_law_2139 (lv_at hl 1 rfl) ?_
  refine g_icmpE (tgt := 2146) hx hb dL_law_2141 (by decide) ?_
  refine lv_iload hx hb dL_law_2146 (lv_at hl 1 rfl) ?_
  refine lv_if_ne (tgt := 2163) hx hb dL_law_2148 (by decide) (fun _ => ?_) (fun h0 => ?_)
  · exact lv_goto (tgt := 2166) hx hb dL_law_2163 (by decide) (kk r u v w H locs ls q1 q2 hP hD hS (lv_sub hl [2, 3, 4, 5, 6, 7] rfl))
  have h0 : r = nI 0 := by rw [show nI 0 = 0 from by decide]; exact h0
  obtain ⟨q7, o, g7, ho⟩ := hO r u v w q1 q2 h0
  refine lv_aload_n hx hb dL_law_2151 rfl (lv_at hl 6 rfl) ?_
  refine lv_iconst (v := nI 0) hx hb dL_law_2152 (by decide) ?_
  refine g_lald hx hb hE hP _ g7 (by decide) (by decide) dL_law_2153 ?_
  refine lv_iload hx hb dL_law_2154 (lv_at hl 0 rfl) ?_
  refine lv_i2l (v := Int32.toInt64 v) hx hb dL_law_2156 rfl ?_
  rw [ho]
  refine g_lcmpE (tgt := 2163) hx hb dL_law_2157 dL_law_2158 (by decide) ?_
  exact lv_goto (tgt := 2166) hx hb dL_law_2163 (by decide) (kk r u v w H locs ls q1 q2 hP hD hS (lv_sub hl [2, 3, 4, 5, 6, 7] rfl))
