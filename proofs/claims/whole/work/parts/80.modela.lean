/-- the reference's rate and base -/
def rCw (side : Nat) (fx c : Nat → Nat) (k : Nat) : Nat := if side = 1 ∧ 0 < fx k then fx k else c k
def mRate (c g : Nat → Nat) (k : Nat) : UInt64 := if c k = 0 then 0 else FP.ddiv (FP.i2d (nI (c k))) (FP.i2d (nI (g k)))
def mBase (lc lg : Nat → Nat) (pr : Nat → UInt64) (t i o side : Nat) : UInt64 := if t = 0 then 0 else if 0 < lc (48 * (t - 1) + 4 * i + o) then FP.ddiv (FP.i2d (nI (lc (48 * (t - 1) + 4 * i + o)))) (FP.i2d (nI (lg (48 * (t - 1) + 4 * i + o)))) else pr (1152 * side + (48 * (t - 1) + 4 * i + o))
theorem in_c_X7_thrown_RX7 : ∀ w ∈ wsX70, w ∈ wsX7_thrown := by decide +kernel
set_option maxHeartbeats 4000000 in
set_option maxRecDepth 100000 in
theorem c_X7_thrown (l : Launch) {D : va_G} {y : Nat → Nat} {ws : va_W} {x_mod_1 : Value} {x_mod_2 : Value} {x_mod_3 : Value} {x_mod_4 : Value} {x_mod_5 : Value} {x_mod_6 : Value} {x_mod_7 : Value} {x_mod_8 : Value} {x_mod_9 : Value} {x_mod_10 : Value} {x_mod_11 : Value} {x_mod_12 : Value} {x_mod_13 : Value} {x_mod_14 : Value} {x_mod_15 : Value} {x_mod_16 : Value} {x_mod_17 : Value} {x_mod_18 : Value} {x_mod_19 : Value} {x_mod_20 : Value} {x_mod_21 : Value} {x_mod_22 : Value} {x_mod_23 : Value} {x_mod_24 : Value} {x_mod_25 : Value} {x_mod_26 : Value} {x_mod_27 : Value} {x_mod_28 : Value} {x_mod_29 : Value} {x_mod_30 : Value} {x_mod_31 : Value} {x_mod_32 : Value} {p_mod a_mod : Nat} {th : Nat} (f0_mod : ws[p_mod]? = some (a_mod, .inr (8, .int (nI (th)) :: x_mod_1 :: x_mod_2 :: x_mod_3 :: x_mod_4 :: x_mod_5 :: x_mod_6 :: x_mod_7 :: x_mod_8 :: x_mod_9 :: x_mod_10 :: x_mod_11 :: x_mod_12 :: x_mod_13 :: x_mod_14 :: x_mod_15 :: x_mod_16 :: x_mod_17 :: x_mod_18 :: x_mod_19 :: x_mod_20 :: x_mod_21 :: x_mod_22 :: x_mod_23 :: x_mod_24 :: x_mod_25 :: x_mod_26 :: x_mod_27 :: x_mod_28 :: x_mod_29 :: x_mod_30 :: x_mod_31 :: x_mod_32 :: []))) : gMi l yX7_thrown wsX7_thrown ({ frames := 0, cells := 0, slots := 0, locals := 0 }) D y [.ref a_mod] ws (fun r (_ : Unit) => r = nI th) (fun (_ : Unit) => ws) := by
  refine g_met_i (cc := cX7_thrown) (maxL := 1) (by decide) rfl (Nat.le_of_ble_eq_true rfl) ?_
  intro p e s m below meth c A hx hb hml hr hts hown hnm hlocks hE hP hD hS hA ls hl
  have hown : s.vm.findClass RX7 = some m.cls := hown
  have hl : lv_has ls 1 [(0, .ref a_mod)] := hl
  have in_RX7 := in_c_X7_thrown_RX7
  refine lv_aload_n hx hb dX7_thrown_0 rfl (lv_at hl 0 rfl) ?_
  refine va_get (D := D) (ci := 8) (v := .int (nI (th))) (C := RX7) (T := TX7) (N := 33) hx hb hts in_RX7 hown hE.1 (gv1 hP f0_mod) 0 rfl rfl 0 (by decide) (hts (.fieldLink RX7 94 "BasketryOfficeModel" "thrown" "I") (by decide +kernel)) (fun _ h9 => h9) rfl dX7_thrown_1 ?_
  refine g_iret hx hb hr hlocks () dX7_thrown_4 hS hP hD ?_
  exact rfl

set_option maxHeartbeats 4000000 in
set_option maxRecDepth 100000 in
theorem c_X7_cell (l : Launch) {D : va_G} {y : Nat → Nat} {ws : va_W}  {t i o : Nat} : gMi l yX7_cell wsX7_cell ({ frames := 0, cells := 0, slots := 0, locals := 0 }) D y [.int (nI (t)), .int (nI (i)), .int (nI (o))] ws (fun r (_ : Unit) => r = nI (48 * t + 4 * i + o)) (fun (_ : Unit) => ws) := by
  refine g_met_i (cc := cX7_cell) (maxL := 3) (by decide) rfl (Nat.le_of_ble_eq_true rfl) ?_
  intro p e s m below meth c A hx hb hml hr hts hown hnm hlocks hE hP hD hS hA ls hl
  have hown : s.vm.findClass RX7 = some m.cls := hown
  have hl : lv_has ls 3 [(0, .int (nI (t))), (1, .int (nI (i))), (2, .int (nI (o)))] := hl
  refine lv_bipush (v := nI 48) hx hb dX7_cell_0 (by decide) ?_
  refine lv_iload_n hx hb dX7_cell_2 rfl (lv_at hl 0 rfl) ?_
  refine g_imul hx hb dX7_cell_3 (pk_mul _ _) ?_
  refine lv_iconst (v := nI 4) hx hb dX7_cell_4 (by decide) ?_
  refine lv_iload_n hx hb dX7_cell_5 rfl (lv_at hl 1 rfl) ?_
  refine g_imul hx hb dX7_cell_6 (pk_mul _ _) ?_
  refine g_iadd hx hb dX7_cell_7 (nI_add _ _) ?_
  refine lv_iload_n hx hb dX7_cell_8 rfl (lv_at hl 2 rfl) ?_
  refine g_iadd hx hb dX7_cell_9 (nI_add _ _) ?_
  refine g_iret hx hb hr hlocks () dX7_cell_10 hS hP hD ?_
  exact rfl

set_option maxHeartbeats 4000000 in
set_option maxRecDepth 100000 in
theorem c_X7_in (l : Launch) {D : va_G} {y : Nat → Nat} {ws : va_W}  {v lo hi : Int32} : gMi l yX7_in wsX7_in ({ frames := 0, cells := 0, slots := 0, locals := 0 }) D y [.int (v), .int (lo), .int (hi)] ws (fun r (_ : Unit) => r = gb (decide (¬ (v < lo ∨ hi < v)))) (fun (_ : Unit) => ws) := by
  refine g_met_z (cc := cX7_in) (maxL := 3) (by decide) rfl (Nat.le_of_ble_eq_true rfl) ?_
  intro p e s m below meth c A hx hb hml hr hts hown hnm hlocks hE hP hD hS hA ls hl
  have hown : s.vm.findClass RX7 = some m.cls := hown
  have hl : lv_has ls 3 [(0, .int (v)), (1, .int (lo)), (2, .int (hi))] := hl
  refine lv_iload_n hx hb dX7_in_0 rfl (lv_at hl 0 rfl) ?_
  refine lv_iload_n hx hb dX7_in_1 rfl (lv_at hl 1 rfl) ?_
  refine lv_icmp_lt (tgt := 14) hx hb dX7_in_2 (by decide) (fun c_2 => ?_) (fun c_2 => ?_)
  · refine lv_iconst (v := nI 0) hx hb dX7_in_14 (by decide) ?_
    refine g_zret (r := (gb (false))) hx hb hr hlocks () dX7_in_15 (gb_narrow _) hS hP hD ?_
    rw [decide_eq_false (fun z => z (Or.inl c_2))]
  · refine lv_iload_n hx hb dX7_in_5 rfl (lv_at hl 0 rfl) ?_
    refine lv_iload_n hx hb dX7_in_6 rfl (lv_at hl 2 rfl) ?_
    refine lv_icmp_gt (tgt := 14) hx hb dX7_in_7 (by decide) (fun c_7 => ?_) (fun c_7 => ?_)
    · refine lv_iconst (v := nI 0) hx hb dX7_in_14 (by decide) ?_
      refine g_zret (r := (gb (false))) hx hb hr hlocks () dX7_in_15 (gb_narrow _) hS hP hD ?_
      rw [decide_eq_false (fun z => z (Or.inr c_7))]
    · refine lv_iconst (v := nI 1) hx hb dX7_in_10 (by decide) ?_
      refine lv_goto (tgt := 15) hx hb dX7_in_11 (by decide) ?_
      refine g_zret (r := (gb (true))) hx hb hr hlocks () dX7_in_15 (gb_narrow _) hS hP hD ?_
      have h9 : ¬ (v < lo ∨ hi < v) := fun z => z.elim c_2 c_7
      rw [decide_eq_true h9]

theorem in_sub {v : Int32} {n : Nat} (hn : n < 2 ^ 31) : decide (¬ (v < nI 0 ∨ nI n - nI 1 < v)) = decide (¬ (v < 0 ∨ nI n ≤ v)) := by
  have h1 : (nI n - nI 1).toInt = (n : Int) - 1 := by
    rw [Int32.toInt_sub, nI_toInt hn, nI_toInt (by omega)]
    exact Int.bmod_eq_of_le (by omega) (by omega)
  have h2 : (v < nI 0 ∨ nI n - nI 1 < v) ↔ (v < 0 ∨ nI n ≤ v) := by
    rw [show (0 : Int32) = nI 0 from rfl, Int32.lt_iff_toInt_lt, Int32.lt_iff_toInt_lt, Int32.le_iff_toInt_le, h1, nI_toInt hn, nI_toInt (by omega)]
    omega
  simp only [h2]
theorem in_cst {v : Int32} {k : Nat} (hn : k + 1 < 2 ^ 31) : decide (¬ (v < nI 0 ∨ nI k < v)) = decide (¬ (v < 0 ∨ nI (k + 1) ≤ v)) := by
  have h2 : (v < nI 0 ∨ nI k < v) ↔ (v < 0 ∨ nI (k + 1) ≤ v) := by
    rw [show (0 : Int32) = nI 0 from rfl, Int32.lt_iff_toInt_lt, Int32.lt_iff_toInt_lt, Int32.le_iff_toInt_le, nI_toInt (by omega), nI_toInt hn, nI_toInt (by omega)]
    omega
  simp only [h2]
set_option maxHeartbeats 4000000 in
set_option maxRecDepth 100000 in
theorem c_X7_isOutlet (l : Launch) {D : va_G} {y : Nat → Nat} {ws : va_W}  {v : Int32} : gMi l yX7_isOutlet wsX7_isOutlet ({ frames := 1, cells := 0, slots := 0, locals := 22 }) D y [.int (v)] ws (fun r (_ : Unit) => r = gb (decide (¬ (v < 0 ∨ nI 4 ≤ v)))) (fun (_ : Unit) => ws) := by
  refine g_met_z (cc := cX7_isOutlet) (maxL := 1) (by decide) rfl (Nat.le_of_ble_eq_true rfl) ?_
  intro p e s m below meth c A hx hb hml hr hts hown hnm hlocks hE hP hD hS hA ls hl
  have hown : s.vm.findClass RX7 = some m.cls := hown
  have hl : lv_has ls 1 [(0, .int (v))] := hl
  refine lv_iload_n hx hb dX7_isOutlet_0 rfl (lv_at hl 0 rfl) ?_
  refine lv_iconst (v := nI 0) hx hb dX7_isOutlet_1 (by decide) ?_
  refine lv_iconst (v := nI 3) hx hb dX7_isOutlet_2 (by decide) ?_
  refine gc_S_i (As := [.int (v), .int (nI (0)), .int (nI (3))]) (rest := []) (c_X7_in l) ⟨hx, hb, hml, hown, hts⟩ (va_cwS 3 hts gX7_isOutlet_X7_in rfl rfl rfl (by decide +kernel) ⟨Nat.le_of_ble_eq_true rfl, Nat.le_of_ble_eq_true rfl⟩) hE hP hD hS hA rfl rfl hl.1 (Nat.le_of_ble_eq_true rfl) dX7_isOutlet_3 ⟨Nat.le_of_ble_eq_true rfl, Nat.le_of_ble_eq_true rfl⟩ (fun r_3 u_3 H locs hP hD hS q_3 => ?_)
  subst q_3
  refine g_zret (r := (gb (decide (¬ (v < (nI (0)) ∨ (nI (3)) < v))))) hx hb hr hlocks () dX7_isOutlet_6 (gb_narrow _) hS hP hD ?_
  exact congrArg gb (in_cst (by decide))

set_option maxHeartbeats 4000000 in
set_option maxRecDepth 100000 in
theorem c_X7_isGroup (l : Launch) {D : va_G} {y : Nat → Nat} {ws : va_W}  {v : Int32} : gMi l yX7_isGroup wsX7_isGroup ({ frames := 1, cells := 0, slots := 0, locals := 22 }) D y [.int (v)] ws (fun r (_ : Unit) => r = gb (decide (¬ (v < 0 ∨ nI 4 ≤ v)))) (fun (_ : Unit) => ws) := by
  refine g_met_z (cc := cX7_isGroup) (maxL := 1) (by decide) rfl (Nat.le_of_ble_eq_true rfl) ?_
  intro p e s m below meth c A hx hb hml hr hts hown hnm hlocks hE hP hD hS hA ls hl
  have hown : s.vm.findClass RX7 = some m.cls := hown
  have hl : lv_has ls 1 [(0, .int (v))] := hl
  refine lv_iload_n hx hb dX7_isGroup_0 rfl (lv_at hl 0 rfl) ?_
  refine lv_iconst (v := nI 0) hx hb dX7_isGroup_1 (by decide) ?_
  refine lv_iconst (v := nI 3) hx hb dX7_isGroup_2 (by decide) ?_
  refine gc_S_i (As := [.int (v), .int (nI (0)), .int (nI (3))]) (rest := []) (c_X7_in l) ⟨hx, hb, hml, hown, hts⟩ (va_cwS 3 hts gX7_isGroup_X7_in rfl rfl rfl (by decide +kernel) ⟨Nat.le_of_ble_eq_true rfl, Nat.le_of_ble_eq_true rfl⟩) hE hP hD hS hA rfl rfl hl.1 (Nat.le_of_ble_eq_true rfl) dX7_isGroup_3 ⟨Nat.le_of_ble_eq_true rfl, Nat.le_of_ble_eq_true rfl⟩ (fun r_3 u_3 H locs hP hD hS q_3 => ?_)
  subst q_3
  refine g_zret (r := (gb (decide (¬ (v < (nI (0)) ∨ (nI (3)) < v))))) hx hb hr hlocks () dX7_isGroup_6 (gb_narrow _) hS hP hD ?_
  exact congrArg gb (in_cst (by decide))

set_option maxHeartbeats 4000000 in
set_option maxRecDepth 100000 in
theorem c_X7_isKind (l : Launch) {D : va_G} {y : Nat → Nat} {ws : va_W}  {v : Int32} : gMi l yX7_isKind wsX7_isKind ({ frames := 1, cells := 0, slots := 0, locals := 22 }) D y [.int (v)] ws (fun r (_ : Unit) => r = gb (decide (¬ (v < 0 ∨ nI 5 ≤ v)))) (fun (_ : Unit) => ws) := by
  refine g_met_z (cc := cX7_isKind) (maxL := 1) (by decide) rfl (Nat.le_of_ble_eq_true rfl) ?_
  intro p e s m below meth c A hx hb hml hr hts hown hnm hlocks hE hP hD hS hA ls hl
  have hown : s.vm.findClass RX7 = some m.cls := hown
  have hl : lv_has ls 1 [(0, .int (v))] := hl
  refine lv_iload_n hx hb dX7_isKind_0 rfl (lv_at hl 0 rfl) ?_
  refine lv_iconst (v := nI 0) hx hb dX7_isKind_1 (by decide) ?_
  refine lv_iconst (v := nI 4) hx hb dX7_isKind_2 (by decide) ?_
  refine gc_S_i (As := [.int (v), .int (nI (0)), .int (nI (4))]) (rest := []) (c_X7_in l) ⟨hx, hb, hml, hown, hts⟩ (va_cwS 3 hts gX7_isKind_X7_in rfl rfl rfl (by decide +kernel) ⟨Nat.le_of_ble_eq_true rfl, Nat.le_of_ble_eq_true rfl⟩) hE hP hD hS hA rfl rfl hl.1 (Nat.le_of_ble_eq_true rfl) dX7_isKind_3 ⟨Nat.le_of_ble_eq_true rfl, Nat.le_of_ble_eq_true rfl⟩ (fun r_3 u_3 H locs hP hD hS q_3 => ?_)
  subst q_3
  refine g_zret (r := (gb (decide (¬ (v < (nI (0)) ∨ (nI (4)) < v))))) hx hb hr hlocks () dX7_isKind_6 (gb_narrow _) hS hP hD ?_
  exact congrArg gb (in_cst (by decide))

theorem in_c_X7_isItem_RX7 : ∀ w ∈ wsX70, w ∈ wsX7_isItem := by decide +kernel
set_option maxHeartbeats 4000000 in
set_option maxRecDepth 100000 in
theorem c_X7_isItem (l : Launch) {D : va_G} {y : Nat → Nat} {ws : va_W} {x_mod_0 : Value} {x_mod_2 : Value} {x_mod_3 : Value} {x_mod_4 : Value} {x_mod_5 : Value} {x_mod_6 : Value} {x_mod_7 : Value} {x_mod_8 : Value} {x_mod_9 : Value} {x_mod_10 : Value} {x_mod_11 : Value} {x_mod_12 : Value} {x_mod_13 : Value} {x_mod_14 : Value} {x_mod_15 : Value} {x_mod_16 : Value} {x_mod_17 : Value} {x_mod_18 : Value} {x_mod_19 : Value} {x_mod_20 : Value} {x_mod_21 : Value} {x_mod_22 : Value} {x_mod_23 : Value} {x_mod_24 : Value} {x_mod_25 : Value} {x_mod_26 : Value} {x_mod_27 : Value} {x_mod_28 : Value} {x_mod_29 : Value} {x_mod_30 : Value} {x_mod_31 : Value} {x_mod_32 : Value} {p_mod a_mod : Nat} {v : Int32} {n : Nat} (f0_mod : ws[p_mod]? = some (a_mod, .inr (8, x_mod_0 :: .int (nI (n)) :: x_mod_2 :: x_mod_3 :: x_mod_4 :: x_mod_5 :: x_mod_6 :: x_mod_7 :: x_mod_8 :: x_mod_9 :: x_mod_10 :: x_mod_11 :: x_mod_12 :: x_mod_13 :: x_mod_14 :: x_mod_15 :: x_mod_16 :: x_mod_17 :: x_mod_18 :: x_mod_19 :: x_mod_20 :: x_mod_21 :: x_mod_22 :: x_mod_23 :: x_mod_24 :: x_mod_25 :: x_mod_26 :: x_mod_27 :: x_mod_28 :: x_mod_29 :: x_mod_30 :: x_mod_31 :: x_mod_32 :: []))) (hn : n < 2 ^ 31) : gMi l yX7_isItem wsX7_isItem ({ frames := 1, cells := 0, slots := 0, locals := 22 }) D y [.ref a_mod, .int (v)] ws (fun r (_ : Unit) => r = gb (decide (¬ (v < 0 ∨ nI n ≤ v)))) (fun (_ : Unit) => ws) := by
  refine g_met_z (cc := cX7_isItem) (maxL := 2) (by decide) rfl (Nat.le_of_ble_eq_true rfl) ?_
  intro p e s m below meth c A hx hb hml hr hts hown hnm hlocks hE hP hD hS hA ls hl
  have hown : s.vm.findClass RX7 = some m.cls := hown
  have hl : lv_has ls 2 [(0, .ref a_mod), (1, .int (v))] := hl
  have in_RX7 := in_c_X7_isItem_RX7
  refine lv_iload_n hx hb dX7_isItem_0 rfl (lv_at hl 1 rfl) ?_
  refine lv_iconst (v := nI 0) hx hb dX7_isItem_1 (by decide) ?_
  refine lv_aload_n hx hb dX7_isItem_2 rfl (lv_at hl 0 rfl) ?_
  refine va_get (D := D) (ci := 8) (v := .int (nI (n))) (C := RX7) (T := TX7) (N := 33) hx hb hts in_RX7 hown hE.1 (gv1 hP f0_mod) 0 rfl rfl 1 (by decide) (hts (.fieldLink RX7 98 "BasketryOfficeModel" "items" "I") (by decide +kernel)) (fun _ h9 => h9) rfl dX7_isItem_3 ?_
  refine lv_iconst (v := nI 1) hx hb dX7_isItem_6 (by decide) ?_
  refine g_isub hx hb dX7_isItem_7 rfl ?_
  refine gc_S_i (As := [.int (v), .int (nI (0)), .int (nI n - nI 1)]) (rest := []) (c_X7_in l) ⟨hx, hb, hml, hown, hts⟩ (va_cwS 3 hts gX7_isItem_X7_in rfl rfl rfl (by decide +kernel) ⟨Nat.le_of_ble_eq_true rfl, Nat.le_of_ble_eq_true rfl⟩) hE hP hD hS hA rfl rfl hl.1 (Nat.le_of_ble_eq_true rfl) dX7_isItem_8 ⟨Nat.le_of_ble_eq_true rfl, Nat.le_of_ble_eq_true rfl⟩ (fun r_8 u_8 H locs hP hD hS q_8 => ?_)
  subst q_8
  refine g_zret (r := (gb (decide (¬ (v < (nI (0)) ∨ nI n - nI 1 < v))))) hx hb hr hlocks () dX7_isItem_11 (gb_narrow _) hS hP hD ?_
  exact congrArg gb (in_sub hn)

theorem in_c_X7_isPublished_RX7 : ∀ w ∈ wsX70, w ∈ wsX7_isPublished := by decide +kernel
set_option maxHeartbeats 4000000 in
set_option maxRecDepth 100000 in
theorem c_X7_isPublished (l : Launch) {D : va_G} {y : Nat → Nat} {ws : va_W} {x_mod_0 : Value} {x_mod_1 : Value} {x_mod_2 : Value} {x_mod_3 : Value} {x_mod_4 : Value} {x_mod_6 : Value} {x_mod_7 : Value} {x_mod_8 : Value} {x_mod_9 : Value} {x_mod_10 : Value} {x_mod_11 : Value} {x_mod_12 : Value} {x_mod_13 : Value} {x_mod_14 : Value} {x_mod_15 : Value} {x_mod_16 : Value} {x_mod_17 : Value} {x_mod_18 : Value} {x_mod_19 : Value} {x_mod_20 : Value} {x_mod_21 : Value} {x_mod_22 : Value} {x_mod_23 : Value} {x_mod_24 : Value} {x_mod_25 : Value} {x_mod_26 : Value} {x_mod_27 : Value} {x_mod_28 : Value} {x_mod_29 : Value} {x_mod_30 : Value} {x_mod_31 : Value} {x_mod_32 : Value} {p_mod a_mod : Nat} {v : Int32} {nw : Nat} (f0_mod : ws[p_mod]? = some (a_mod, .inr (8, x_mod_0 :: x_mod_1 :: x_mod_2 :: x_mod_3 :: x_mod_4 :: .int (nI (nw)) :: x_mod_6 :: x_mod_7 :: x_mod_8 :: x_mod_9 :: x_mod_10 :: x_mod_11 :: x_mod_12 :: x_mod_13 :: x_mod_14 :: x_mod_15 :: x_mod_16 :: x_mod_17 :: x_mod_18 :: x_mod_19 :: x_mod_20 :: x_mod_21 :: x_mod_22 :: x_mod_23 :: x_mod_24 :: x_mod_25 :: x_mod_26 :: x_mod_27 :: x_mod_28 :: x_mod_29 :: x_mod_30 :: x_mod_31 :: x_mod_32 :: []))) (hn : nw < 2 ^ 31) : gMi l yX7_isPublished wsX7_isPublished ({ frames := 1, cells := 0, slots := 0, locals := 22 }) D y [.ref a_mod, .int (v)] ws (fun r (_ : Unit) => r = gb (decide (¬ (v < 0 ∨ nI nw ≤ v)))) (fun (_ : Unit) => ws) := by
  refine g_met_z (cc := cX7_isPublished) (maxL := 2) (by decide) rfl (Nat.le_of_ble_eq_true rfl) ?_
  intro p e s m below meth c A hx hb hml hr hts hown hnm hlocks hE hP hD hS hA ls hl
  have hown : s.vm.findClass RX7 = some m.cls := hown
  have hl : lv_has ls 2 [(0, .ref a_mod), (1, .int (v))] := hl
  have in_RX7 := in_c_X7_isPublished_RX7
  refine lv_iload_n hx hb dX7_isPublished_0 rfl (lv_at hl 1 rfl) ?_
  refine lv_iconst (v := nI 0) hx hb dX7_isPublished_1 (by decide) ?_
  refine lv_aload_n hx hb dX7_isPublished_2 rfl (lv_at hl 0 rfl) ?_
  refine va_get (D := D) (ci := 8) (v := .int (nI (nw))) (C := RX7) (T := TX7) (N := 33) hx hb hts in_RX7 hown hE.1 (gv1 hP f0_mod) 0 rfl rfl 5 (by decide) (hts (.fieldLink RX7 105 "BasketryOfficeModel" "now" "I") (by decide +kernel)) (fun _ h9 => h9) rfl dX7_isPublished_3 ?_
  refine lv_iconst (v := nI 1) hx hb dX7_isPublished_6 (by decide) ?_
  refine g_isub hx hb dX7_isPublished_7 rfl ?_
  refine gc_S_i (As := [.int (v), .int (nI (0)), .int (nI nw - nI 1)]) (rest := []) (c_X7_in l) ⟨hx, hb, hml, hown, hts⟩ (va_cwS 3 hts gX7_isPublished_X7_in rfl rfl rfl (by decide +kernel) ⟨Nat.le_of_ble_eq_true rfl, Nat.le_of_ble_eq_true rfl⟩) hE hP hD hS hA rfl rfl hl.1 (Nat.le_of_ble_eq_true rfl) dX7_isPublished_8 ⟨Nat.le_of_ble_eq_true rfl, Nat.le_of_ble_eq_true rfl⟩ (fun r_8 u_8 H locs hP hD hS q_8 => ?_)
  subst q_8
  refine g_zret (r := (gb (decide (¬ (v < (nI (0)) ∨ nI nw - nI 1 < v))))) hx hb hr hlocks () dX7_isPublished_11 (gb_narrow _) hS hP hD ?_
  exact congrArg gb (in_sub hn)
