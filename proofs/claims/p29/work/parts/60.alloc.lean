/-! what is made new -/
theorem g_ap {w : va_W} {p : Nat} {x z : Nat × va_E} (h : w[p]? = some x) : (w ++ [z])[p]? = some x := by
  rw [List.getElem?_append_left (List.getElem?_eq_some_iff.mp h).1]; exact h
theorem g_apN {w : va_W} {z : Nat × va_E} : (w ++ [z])[w.length]? = some z := by simp
theorem g_apne {w : va_W} {p : Nat} {x : Nat × va_E} (h : w[p]? = some x) : w.length ≠ p := fun e => by
  have := (List.getElem?_eq_some_iff.mp h).1
  omega
theorem g_apset {w : va_W} {z z' : Nat × va_E} : (w ++ [z]).set w.length z' = w ++ [z'] := by simp
theorem g_setap {w : va_W} {p : Nat} {x z x' : Nat × va_E} (h : w[p]? = some x) : (w ++ [z]).set p x' = w.set p x' ++ [z] := List.set_append_left _ _ (List.getElem?_eq_some_iff.mp h).1
theorem g_toNat {k : Nat} (h : k < 2 ^ 31) : (nI k).toNatClampNeg = k := by
  unfold Int32.toNatClampNeg
  rw [nI_toInt h]; rfl
theorem g_nneg {k : Nat} (h : k < 2 ^ 31) : ¬ nI k < 0 := by
  rw [show (0 : Int32) = nI 0 from rfl, Int32.lt_iff_toInt_lt, nI_toInt h, nI_toInt (by omega)]
  omega
theorem g_yeq {D : va_G} {y : Nat → Nat} {s : State} {cA : ClassId} {ty : FieldType} {i : Nat} (hK : va_K D vwCl (gTys y ++ [(cA, ty)]) s) (hE : gE D y s) (hi : (gTys y)[i]? = some (y i, ty)) (hty : ∀ c, va_RA s c ty = (s.vm.findClass ("[" ++ ty.toString) = some c)) : cA = y i := by
  have h1 := (hK.2 5 _ rfl).2
  have h2 := (hE.1.2 i _ hi).2
  rw [hty] at h1 h2
  exact Option.some.inj (h1.symm.trans h2)
theorem g_lt {w : va_W} {p : Nat} {x : Nat × va_E} (h : w[p]? = some x) : p < w.length := (List.getElem?_eq_some_iff.mp h).1
theorem g_ltS {w : va_W} {p q : Nat} {x : Nat × va_E} (h : p < w.length) : p < (w.set q x).length := by rw [List.length_set]; exact h
theorem g_sa {w : va_W} {p : Nat} {x z : Nat × va_E} (h : p < w.length) : w.set p x ++ [z] = (w ++ [z]).set p x := (List.set_append_left _ _ h).symm
theorem gIt.app {ws : va_W} {n cap : Nat} {q : Nat → Option Nat} {ad G M Sn : Nat → Nat} {z : Nat × va_E} (h : gIt ws n cap q ad G M Sn) : gIt (ws ++ [z]) n cap q ad G M Sn := by
  refine ⟨h.1, h.2.1, h.2.2.1, fun i hi => ?_⟩
  obtain ⟨p', h'⟩ := h.2.2.2 i hi
  exact ⟨p', g_ap h'⟩
theorem gCt.app {ws : va_W} {n cap : Nat} {q : Nat → Option Nat} {ad pk fw lag trig : Nat → Nat} {fl : Nat → Bool} {fm : Nat → Nat} {cs : Nat → Nat × Nat × Nat × Nat} {z : Nat × va_E} (h : gCt ws n cap q ad pk fw lag trig fl fm cs) : gCt (ws ++ [z]) n cap q ad pk fw lag trig fl fm cs :=
  ⟨h.1, h.2.1, h.2.2.1, fun i hi => g_ap (h.2.2.2 i hi)⟩
section GLA
variable {p : Program} {l : Launch} {e : Env} {R : Room} {s : State} {m : MethodId} {args : Array Value} {below : List Frame} {meth : Method} {c : Code} {H H0 : Heap} {locs : List Loc} {cells slots : Nat} {Q : State → Prop}
variable {cc : ByteArray} {pc : Nat} {ls : Array Slot} {rest : List Value} {D : va_G} {y : Nat → Nat} {A : Nat → Prop} {ws : va_W}

theorem g_dvN : defaultValue (FieldType.int) = Value.int (nI 0) := by decide +kernel
theorem g_newaN (hexec : p.tables.exec = Jvm.exec) (hb : c.code = cc) (harr : (Cond.arrayClass .int).before args s = true) (hE : gE D y s) (hP : gvP D vwCl ws H) (hD : gvD A ws) (hS : va_S A H0 H locs) (hA : ∀ q : Nat, H0.size ≤ q → A q) {k : Nat} (hk : k < 2 ^ 26) (hcells : cells + 1 ≤ R.cells) (hslots : slots + k ≤ R.slots) (hdg : decode cc pc = .ok (.newarray .int, 2))
    (kk : ∀ (q : Nat) (H1 : Heap), gvP D vwCl (ws ++ [(q, eN y k (fun _ => 0))]) H1 → gvD A (ws ++ [(q, eN y k (fun _ => 0))]) → va_S A H0 H1 locs → W p l e R s m args below meth c H1 locs (cells + 1) (slots + k) Q (F0 m (pc + 2) ls (.ref q :: rest))) : W p l e R s m args below meth c H locs cells slots Q (F0 m pc ls (.int (nI k) :: rest)) := by
  have ha : ∀ cA : ClassId, vp_cell cA (k, .inl (fun _ => nI 0)) = arrV cA k (fun _ => defaultValue .int) := fun cA => by rw [vp_cell_i, g_dvN]
  have hn : ¬ nI k < 0 := g_nneg (by omega)
  have hN : (nI k).toNatClampNeg = k := g_toNat (by omega)
  have hby : k * componentBytes .int ≤ 536870912 := by
    show k * 4 ≤ 536870912
    omega
  have hE1 := hE.1
  generalize hn0 : nI k = n0 at hn hN
  refine va_newa (tys := gTys y) (atype := .int) hexec hb harr (ty := .int) rfl hE1 hP hD hS hA (N' := k) (a0 := (k, .inl (fun _ => nI 0))) ha hn hN hby hcells hslots hdg (fun q cA H1 hK' hP' hD' hS' => ?_)
  have h3 : cA = y 0 := g_yeq (i := 0) hK' hE rfl (fun _ => rfl)
  subst h3
  exact kk q H1 (gvP.of_app hP') (gvD.of_app hD') hS'
theorem g_dvZ : defaultValue (FieldType.boolean) = Value.int (gb false) := by decide +kernel
theorem g_newaZ (hexec : p.tables.exec = Jvm.exec) (hb : c.code = cc) (harr : (Cond.arrayClass .boolean).before args s = true) (hE : gE D y s) (hP : gvP D vwCl ws H) (hD : gvD A ws) (hS : va_S A H0 H locs) (hA : ∀ q : Nat, H0.size ≤ q → A q) {k : Nat} (hk : k < 2 ^ 26) (hcells : cells + 1 ≤ R.cells) (hslots : slots + k ≤ R.slots) (hdg : decode cc pc = .ok (.newarray .boolean, 2))
    (kk : ∀ (q : Nat) (H1 : Heap), gvP D vwCl (ws ++ [(q, eZ y k (fun _ => false))]) H1 → gvD A (ws ++ [(q, eZ y k (fun _ => false))]) → va_S A H0 H1 locs → W p l e R s m args below meth c H1 locs (cells + 1) (slots + k) Q (F0 m (pc + 2) ls (.ref q :: rest))) : W p l e R s m args below meth c H locs cells slots Q (F0 m pc ls (.int (nI k) :: rest)) := by
  have ha : ∀ cA : ClassId, vp_cell cA (k, .inl (fun _ => gb false)) = arrV cA k (fun _ => defaultValue .boolean) := fun cA => by rw [vp_cell_i, g_dvZ]
  have hn : ¬ nI k < 0 := g_nneg (by omega)
  have hN : (nI k).toNatClampNeg = k := g_toNat (by omega)
  have hby : k * componentBytes .boolean ≤ 536870912 := by
    show k * 1 ≤ 536870912
    omega
  have hE1 := hE.1
  generalize hn0 : nI k = n0 at hn hN
  refine va_newa (tys := gTys y) (atype := .boolean) hexec hb harr (ty := .boolean) rfl hE1 hP hD hS hA (N' := k) (a0 := (k, .inl (fun _ => gb false))) ha hn hN hby hcells hslots hdg (fun q cA H1 hK' hP' hD' hS' => ?_)
  have h3 : cA = y 1 := g_yeq (i := 1) hK' hE rfl (fun _ => rfl)
  subst h3
  exact kk q H1 (gvP.of_app hP') (gvD.of_app hD') hS'
theorem g_dvD : defaultValue (FieldType.double) = Value.double (0) := by decide +kernel
theorem g_newaD (hexec : p.tables.exec = Jvm.exec) (hb : c.code = cc) (harr : (Cond.arrayClass .double).before args s = true) (hE : gE D y s) (hP : gvP D vwCl ws H) (hD : gvD A ws) (hS : va_S A H0 H locs) (hA : ∀ q : Nat, H0.size ≤ q → A q) {k : Nat} (hk : k < 2 ^ 26) (hcells : cells + 1 ≤ R.cells) (hslots : slots + k ≤ R.slots) (hdg : decode cc pc = .ok (.newarray .double, 2))
    (kk : ∀ (q : Nat) (H1 : Heap), gvP D vwCl (ws ++ [(q, eD y k (fun _ => 0))]) H1 → gvD A (ws ++ [(q, eD y k (fun _ => 0))]) → va_S A H0 H1 locs → W p l e R s m args below meth c H1 locs (cells + 1) (slots + k) Q (F0 m (pc + 2) ls (.ref q :: rest))) : W p l e R s m args below meth c H locs cells slots Q (F0 m pc ls (.int (nI k) :: rest)) := by
  have ha : ∀ cA : ClassId, vp_cell cA (k, .inr (.inr (.inr (.inl (fun _ => 0))))) = arrV cA k (fun _ => defaultValue .double) := fun cA => by rw [vp_cell_d, g_dvD]
  have hn : ¬ nI k < 0 := g_nneg (by omega)
  have hN : (nI k).toNatClampNeg = k := g_toNat (by omega)
  have hby : k * componentBytes .double ≤ 536870912 := by
    show k * 8 ≤ 536870912
    omega
  have hE1 := hE.1
  generalize hn0 : nI k = n0 at hn hN
  refine va_newa (tys := gTys y) (atype := .double) hexec hb harr (ty := .double) rfl hE1 hP hD hS hA (N' := k) (a0 := (k, .inr (.inr (.inr (.inl (fun _ => 0)))))) ha hn hN hby hcells hslots hdg (fun q cA H1 hK' hP' hD' hS' => ?_)
  have h3 : cA = y 2 := g_yeq (i := 2) hK' hE rfl (fun _ => rfl)
  subst h3
  exact kk q H1 (gvP.of_app hP') (gvD.of_app hD') hS'
theorem g_dvL : defaultValue (FieldType.long) = Value.long (lN 0) := by decide +kernel
theorem g_newaL (hexec : p.tables.exec = Jvm.exec) (hb : c.code = cc) (harr : (Cond.arrayClass .long).before args s = true) (hE : gE D y s) (hP : gvP D vwCl ws H) (hD : gvD A ws) (hS : va_S A H0 H locs) (hA : ∀ q : Nat, H0.size ≤ q → A q) {k : Nat} (hk : k < 2 ^ 26) (hcells : cells + 1 ≤ R.cells) (hslots : slots + k ≤ R.slots) (hdg : decode cc pc = .ok (.newarray .long, 2))
    (kk : ∀ (q : Nat) (H1 : Heap), gvP D vwCl (ws ++ [(q, eL y k (fun _ => 0))]) H1 → gvD A (ws ++ [(q, eL y k (fun _ => 0))]) → va_S A H0 H1 locs → W p l e R s m args below meth c H1 locs (cells + 1) (slots + k) Q (F0 m (pc + 2) ls (.ref q :: rest))) : W p l e R s m args below meth c H locs cells slots Q (F0 m pc ls (.int (nI k) :: rest)) := by
  have ha : ∀ cA : ClassId, vp_cell cA (k, .inr (.inl (fun _ => lN 0))) = arrV cA k (fun _ => defaultValue .long) := fun cA => by rw [vp_cell_l, g_dvL]
  have hn : ¬ nI k < 0 := g_nneg (by omega)
  have hN : (nI k).toNatClampNeg = k := g_toNat (by omega)
  have hby : k * componentBytes .long ≤ 536870912 := by
    show k * 8 ≤ 536870912
    omega
  have hE1 := hE.1
  generalize hn0 : nI k = n0 at hn hN
  refine va_newa (tys := gTys y) (atype := .long) hexec hb harr (ty := .long) rfl hE1 hP hD hS hA (N' := k) (a0 := (k, .inr (.inl (fun _ => lN 0)))) ha hn hN hby hcells hslots hdg (fun q cA H1 hK' hP' hD' hS' => ?_)
  have h3 : cA = y 3 := g_yeq (i := 3) hK' hE rfl (fun _ => rfl)
  subst h3
  exact kk q H1 (gvP.of_app hP') (gvD.of_app hD') hS'
end GLA

