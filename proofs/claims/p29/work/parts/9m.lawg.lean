/-! the script's cells; the law's array of the script is no cell of the world -/
set_option maxRecDepth 100000 in
theorem c_L_cell (l : Launch) {b L : Nat} {xs : Nat → Int32} {k : Nat} (hk : k < 2 ^ 31) (hL : L ≤ 2560) (sz : Nat) : Met l yL_cell wsL_cell { frames := 0, cells := 0, slots := 0, locals := 0 } (va_Pc [.ref b, .int (nI k)] (fun U => U.heap.size = sz ∧ va_X b L xs U U.heap ∧ b < U.heap.size)) (va_Qi (fun r (_ : Unit) => r = cellV L xs k) (fun _ _ => True) (fun q => sz ≤ q)) 0 0 (fun q => sz ≤ q) := by
  refine Met.ofW (cc := cL_cell) (maxL := 2) (ret := some .int) (by decide) rfl ?_
  intro p e s m args below meth c s₁ B hml hv
  obtain ⟨rfl, hsz, hX, hbl⟩ := hv
  subst hsz
  have hl := lv_entry [.ref b, .int (nI k)] (n := 2) (Nat.le_of_ble_eq_true rfl)
  rw [lg_entry_eq]
  have hx := B.exec
  have hb := B.bytes
  have hts := atoms_spec (ws := wsL_cell) B.pre
  have hown : s.vm.findClass RL = some m.cls := findClass_of_methodNamed B.named
  have hS : va_S (fun q => s.heap.size ≤ q) s.heap s.heap [] := va_S.rf
  have hbA : ¬ s.heap.size ≤ b := Nat.not_le.mpr hbl
  have hl : lv_has _ 2 [(0, .ref b), (1, .int (nI k))] := hl
  have fin : ∀ {ls : Array Slot} {r : Int32}, r = cellV L xs k → W p l e { frames := 0, cells := 0, slots := 0, locals := 0 } s m #[.ref b, .int (nI k)] below meth c s.heap [] 0 0 (MQ below (va_Qi (fun r (_ : Unit) => r = cellV L xs k) (fun _ _ => True) (fun q => s.heap.size ≤ q)) #[.ref b, .int (nI k)] s 0 0 (fun q => s.heap.size ≤ q)) (F0 m 23 ls [.int r]) := fun {ls r} hr =>
    W.iret hx hb B.returns (fun t ht hW => ⟨⟨r, (), rfl, hr, trivial⟩, hS.F ht⟩) hS.2.2 dL_cell_23 B.notSynchronized
  refine lv_iload_n hx hb dL_cell_0 rfl (lv_at hl 1 rfl) ?_
  refine lv_aload_n hx hb dL_cell_1 rfl (lv_at hl 0 rfl) ?_
  refine va_slen hx hb hX hbl hbA hS dL_cell_2 ?_
  refine g_icmp_ge (a := k) (b := L) (tgt := 12) hx hb hk (by omega) dL_cell_3 (by decide) (fun h1 => ?_) (fun h1 => ?_)
  · refine lv_ldc (v := 51367) hx hb hown (hts (.constant RL 7 51367) (by decide +kernel)) dL_cell_12 ?_
    refine lv_iload_n hx hb dL_cell_14 rfl (lv_at hl 1 rfl) ?_
    refine lv_sipush (v := nI 163) hx hb dL_cell_15 (by decide) ?_
    refine g_iadd hx hb dL_cell_18 rfl ?_
    refine g_imul hx hb dL_cell_19 rfl ?_
    refine lv_ldc (v := 1911647) hx hb hown (hts (.constant RL 8 1911647) (by decide +kernel)) dL_cell_20 ?_
    refine g_iadd hx hb dL_cell_22 rfl ?_
    refine fin ?_
    unfold cellV
    rw [if_neg (by omega)]
    rfl
  · refine lv_aload_n hx hb dL_cell_6 rfl (lv_at hl 0 rfl) ?_
    refine lv_iload_n hx hb dL_cell_7 rfl (lv_at hl 1 rfl) ?_
    refine va_sld hx hb hX hbl hbA hS (vp_in_nI h1 (by omega)) dL_cell_8 ?_
    rw [nI_clamp (by omega)]
    refine lv_goto (tgt := 23) hx hb dL_cell_9 (by decide) ?_
    refine fin ?_
    unfold cellV
    rw [if_pos h1]
section GL12
variable {p : Program} {l : Launch} {e : Env} {R : Room} {s : State} {m : MethodId} {args : Array Value} {below : List Frame} {meth : Method} {c : Code} {H H0 : Heap} {locs : List Loc} {cells slots : Nat} {Q : State → Prop}
variable {cc : ByteArray} {pc : Nat} {ls : Array Slot} {rest : List Value} {D : va_G} {y : Nat → Nat} {A : Nat → Prop} {a : Nat} {ws : va_W}
theorem gc_cell {maxL nL index : Nat} {own : String} {Ts : List Cond} {b L : Nat} {xs : Nat → Int32} {k : Nat} (hk : k < 2 ^ 31) (hL : L ≤ 2560) (F : CallFix p m c cc nL s args Ts own) (cw : CallB R s args own index yL_cell cL_cell maxL (some .int) wsL_cell { frames := 0, cells := 0, slots := 0, locals := 0 } 0 0 2 ∧ (Cond.static yL_cell).before args s = true) (hX : va_X b L xs s s.heap) (hbl : b < s.heap.size) (hbA : ¬ A b) (hP : gvP D vwCl ws H) (hD : gvD A ws) (hS : va_S A s.heap H locs) (hA : ∀ q : Nat, s.heap.size ≤ q → A q) (hl : ls.size = nL) (hW : (rest.map fun v => v.category).sum ≤ 8) (hdg : decode cc pc = .ok (.invokestatic index, 3)) (hf : cells ≤ R.cells ∧ slots ≤ R.slots)
    (kk : ∀ (H1 : Heap) (locs1 : List Loc), gvP D vwCl ws H1 → va_S A s.heap H1 locs1 → W p l e R s m args below meth c H1 locs1 cells slots Q (F0 m (pc + 3) ls (.int (cellV L xs k) :: rest))) : W p l e R s m args below meth c H locs cells slots Q (F0 m pc ls (.int (nI k) :: .ref b :: rest)) := by
  have hb1 : b < H.size := Nat.lt_of_lt_of_le hbl hS.1
  refine va_calli (va_runS (As := [.ref b, .int (nI k)]) (rest := rest) (free := fun q => H.size ≤ q) F (c_L_cell l (xs := xs) (b := b) (L := L) hk hL H.size) cw ⟨fun _ _ _ _ q => ⟨q.1, q.2.1, q.2.2.1, q.2.2.2⟩, fun U hU hW => ⟨rfl, by rw [hU], by rw [hU]; exact (hX.kept (hS.2.1 b hbl hbA)).moved hW.alike, by rw [hU]; exact hb1⟩⟩ rfl rfl hl rfl (lv_room (pc := pc) (m := m) (ls := ls) (rest := .int (nI k) :: .ref b :: rest) hW) hdg hf) hS (fun q h1 h2 => absurd h2 (Nat.not_le.mpr h1)) (fun q h => hA q (Nat.le_trans hS.1 h)) ?_
  intro r u t H1 locs1 ht hvm hp hB hz hk2 hS1
  cases hp
  exact kk H1 locs1 (fun k q hq => (hP k q hq).kept (hk2 _ (hP k q hq).lt (Nat.not_le.mpr (hP k q hq).lt))) hS1
end GL12
