/-! the law's helpers: what they answer behind a call that answers, and behind one that throws -/
def cvb (v : Int32) : Int64 := if v = 0 then 0 else 1
set_option maxRecDepth 100000 in
theorem okL_item (l : Launch) {D : va_G} {y : Nat → Nat} {e9 mi : Nat} {ws : va_W} {rm : Room} {p_off a_off : Nat} {a_out p_out : Nat} {fs : List Value} {x0 x1 x2 : Int32} {P : Int32 → va_W → Prop} (hX : gZi l yX6_item wsX6_item rm D y e9 mi [.ref a_off, .int x0, .int x1, .int x2] ws P) (hout : ∀ r u, P r u → ∃ o, u[p_out]? = some (a_out, eJ y 1 o)) (ho : ws[p_off]? = some (a_off, .inr (7, fs))) : gZi l yL_item wsL_item { frames := rm.frames + 1, cells := rm.cells, slots := rm.slots, locals := 8 + (4 + 11) + rm.locals } D y e9 mi [.ref a_off, .int x0, .int x1, .int x2, .ref a_out] ws (fun r w => r = nI 0 ∧ ∃ v u o, P v u ∧ u[p_out]? = some (a_out, eJ y 1 o) ∧ w = u.set p_out (a_out, eJ y 1 (vf_upd o 0 (Int32.toInt64 v)))) := by
  refine g_metL (cc := cL_item) (maxL := 6) (hh := [(0, 12, 15, 13), (0, 12, 19, 15), (0, 12, 23, 17)]) (by decide) rfl (Nat.le_of_ble_eq_true rfl) ?_
  intro p e s m below meth c A hx hb hml hr hts hown hlocks hE hP hD hS hA hZ htab ls hl
  have hown : s.vm.findClass RL = some m.cls := hown
  have hl : lv_has ls 6 [(0, .ref a_off), (1, .int x0), (2, .int x1), (3, .int x2), (4, .ref a_out)] := hl
  refine lv_aload hx hb dL_item_0 (lv_at hl 4 rfl) ?_
  refine lv_iconst (v := nI 0) hx hb dL_item_2 (by decide) ?_
  refine lv_aload_n hx hb dL_item_3 rfl (lv_at hl 0 rfl) ?_
  refine lv_iload_n hx hb dL_item_4 rfl (lv_at hl 1 rfl) ?_
  refine lv_iload_n hx hb dL_item_5 rfl (lv_at hl 2 rfl) ?_
  refine lv_iload_n hx hb dL_item_6 rfl (lv_at hl 3 rfl) ?_
  refine gcz_V_i (As := [.int x0, .int x1, .int x2]) (rest := [.int (nI 0), .ref a_out]) hX ⟨hx, hb, hml, hown, hts⟩ (cwV 3 hts gL_item_X6_item rfl rfl rfl (by decide +kernel) ⟨Nat.le_refl _, Nat.le_refl _⟩) hE hZ hP hD hS hA _ ho rfl rfl rfl rfl hl.1 (Nat.le_of_ble_eq_true rfl) dL_item_7 ⟨Nat.le_of_eq (Nat.zero_add _), Nat.le_of_eq (Nat.zero_add _)⟩ (fun r u H locs hP hD hS q => ?_)
  rw [Nat.zero_add, Nat.zero_add]
  obtain ⟨o, g⟩ := hout r u q
  refine lv_i2l (v := Int32.toInt64 r) hx hb dL_item_10 rfl ?_
  refine g_last hx hb hE hP hD hS _ g (by decide) (by decide) dL_item_11 (fun H locs hP hD hS => ?_)
  refine lv_goto (tgt := 27) hx hb dL_item_12 (by decide) ?_
  refine lv_iconst (v := nI 0) hx hb dL_item_27 (by decide) ?_
  exact g_iret hx hb hr hlocks _ dL_item_28 hS hP hD ⟨rfl, r, u, o, q, g, rfl⟩
set_option maxRecDepth 100000 in
theorem exL_item_1 (l : Launch) {D : va_G} {y : Nat → Nat} {e9 mi : Nat} {ws : va_W} {rm : Room} {p_off a_off : Nat} {a_out : Nat} {fs : List Value} {x0 x1 x2 : Int32} (hX : gMX l yX6_item wsX6_item rm D y [.ref a_off, .int x0, .int x1, .int x2] ws "java/lang/IndexOutOfBoundsException") (ho : ws[p_off]? = some (a_off, .inr (7, fs))) : gZi l yL_item wsL_item { frames := rm.frames + 1, cells := rm.cells, slots := rm.slots, locals := 8 + (4 + 11) + rm.locals } D y e9 mi [.ref a_off, .int x0, .int x1, .int x2, .ref a_out] ws (fun r w => r = nI 1 ∧ w = ws) := by
  refine g_metL (cc := cL_item) (maxL := 6) (hh := [(0, 12, 15, 13), (0, 12, 19, 15), (0, 12, 23, 17)]) (by decide) rfl (Nat.le_of_ble_eq_true rfl) ?_
  intro p e s m below meth c A hx hb hml hr hts hown hlocks hE hP hD hS hA hZ htab ls hl
  have hown : s.vm.findClass RL = some m.cls := hown
  have hl : lv_has ls 6 [(0, .ref a_off), (1, .int x0), (2, .int x1), (3, .int x2), (4, .ref a_out)] := hl
  refine lv_aload hx hb dL_item_0 (lv_at hl 4 rfl) ?_
  refine lv_iconst (v := nI 0) hx hb dL_item_2 (by decide) ?_
  refine lv_aload_n hx hb dL_item_3 rfl (lv_at hl 0 rfl) ?_
  refine lv_iload_n hx hb dL_item_4 rfl (lv_at hl 1 rfl) ?_
  refine lv_iload_n hx hb dL_item_5 rfl (lv_at hl 2 rfl) ?_
  refine lv_iload_n hx hb dL_item_6 rfl (lv_at hl 3 rfl) ?_
  refine gcz_VX (As := [.int x0, .int x1, .int x2]) (rest := [.int (nI 0), .ref a_out]) hX ⟨hx, hb, hml, hown, hts⟩ (cwV 3 hts gL_item_X6_item rfl rfl rfl (by decide +kernel) ⟨Nat.le_refl _, Nat.le_refl _⟩) hE hZ.1 hP hD hS hA _ ho rfl rfl rfl rfl hl.1 (Nat.le_of_ble_eq_true rfl) dL_item_7 ⟨Nat.le_of_eq (Nat.zero_add _), Nat.le_of_eq (Nat.zero_add _)⟩ [] ⟨0, 12, 15, 13⟩ [⟨0, 12, 19, 15⟩, ⟨0, 12, 23, 17⟩] (htab.trans rfl) (fun _ h => absurd h List.not_mem_nil) (by decide) (by decide) (hts (.classLink RL 13 "java/lang/IndexOutOfBoundsException") (by decide +kernel)) (va_Nw.use rfl (hE.2 _ hnest_137)) (fun q9 H locs hP hD hS => ?_)
  rw [Nat.zero_add, Nat.zero_add]
  refine lv_astore (lv' := [(5, .ref q9), (0, .ref a_off), (1, .int x0), (2, .int x1), (3, .int x2), (4, .ref a_out)]) hx hb dL_item_15 hl (by decide) rfl (fun ls hl => ?_)
  refine lv_iconst (v := nI 1) hx hb dL_item_17 (by decide) ?_
  exact g_iret hx hb hr hlocks ws dL_item_18 hS hP hD ⟨rfl, rfl⟩
set_option maxRecDepth 100000 in
theorem exL_item_2 (l : Launch) {D : va_G} {y : Nat → Nat} {e9 mi : Nat} {ws : va_W} {rm : Room} {p_off a_off : Nat} {a_out : Nat} {fs : List Value} {x0 x1 x2 : Int32} (hX : gMX l yX6_item wsX6_item rm D y [.ref a_off, .int x0, .int x1, .int x2] ws "java/lang/IllegalArgumentException") (ho : ws[p_off]? = some (a_off, .inr (7, fs))) : gZi l yL_item wsL_item { frames := rm.frames + 1, cells := rm.cells, slots := rm.slots, locals := 8 + (4 + 11) + rm.locals } D y e9 mi [.ref a_off, .int x0, .int x1, .int x2, .ref a_out] ws (fun r w => r = nI 2 ∧ w = ws) := by
  refine g_metL (cc := cL_item) (maxL := 6) (hh := [(0, 12, 15, 13), (0, 12, 19, 15), (0, 12, 23, 17)]) (by decide) rfl (Nat.le_of_ble_eq_true rfl) ?_
  intro p e s m below meth c A hx hb hml hr hts hown hlocks hE hP hD hS hA hZ htab ls hl
  have hown : s.vm.findClass RL = some m.cls := hown
  have hl : lv_has ls 6 [(0, .ref a_off), (1, .int x0), (2, .int x1), (3, .int x2), (4, .ref a_out)] := hl
  refine lv_aload hx hb dL_item_0 (lv_at hl 4 rfl) ?_
  refine lv_iconst (v := nI 0) hx hb dL_item_2 (by decide) ?_
  refine lv_aload_n hx hb dL_item_3 rfl (lv_at hl 0 rfl) ?_
  refine lv_iload_n hx hb dL_item_4 rfl (lv_at hl 1 rfl) ?_
  refine lv_iload_n hx hb dL_item_5 rfl (lv_at hl 2 rfl) ?_
  refine lv_iload_n hx hb dL_item_6 rfl (lv_at hl 3 rfl) ?_
  refine gcz_VX (As := [.int x0, .int x1, .int x2]) (rest := [.int (nI 0), .ref a_out]) hX ⟨hx, hb, hml, hown, hts⟩ (cwV 3 hts gL_item_X6_item rfl rfl rfl (by decide +kernel) ⟨Nat.le_refl _, Nat.le_refl _⟩) hE hZ.1 hP hD hS hA _ ho rfl rfl rfl rfl hl.1 (Nat.le_of_ble_eq_true rfl) dL_item_7 ⟨Nat.le_of_eq (Nat.zero_add _), Nat.le_of_eq (Nat.zero_add _)⟩ [⟨0, 12, 15, 13⟩] ⟨0, 12, 19, 15⟩ [⟨0, 12, 23, 17⟩] (htab.trans rfl) (List.forall_mem_cons.mpr ⟨Or.inr ⟨by decide, _, hts (.classLink RL 13 "java/lang/IndexOutOfBoundsException") (by decide +kernel), hZ.2.2.1⟩, (fun _ h => absurd h List.not_mem_nil)⟩) (by decide) (by decide) (hts (.classLink RL 15 "java/lang/IllegalArgumentException") (by decide +kernel)) (va_Nw.use rfl (hE.2 _ hnest_266)) (fun q9 H locs hP hD hS => ?_)
  rw [Nat.zero_add, Nat.zero_add]
  refine lv_astore (lv' := [(5, .ref q9), (0, .ref a_off), (1, .int x0), (2, .int x1), (3, .int x2), (4, .ref a_out)]) hx hb dL_item_19 hl (by decide) rfl (fun ls hl => ?_)
  refine lv_iconst (v := nI 2) hx hb dL_item_21 (by decide) ?_
  exact g_iret hx hb hr hlocks ws dL_item_22 hS hP hD ⟨rfl, rfl⟩
set_option maxRecDepth 100000 in
theorem exL_item_3 (l : Launch) {D : va_G} {y : Nat → Nat} {e9 mi : Nat} {ws : va_W} {rm : Room} {p_off a_off : Nat} {a_out : Nat} {fs : List Value} {x0 x1 x2 : Int32} (hX : gMX l yX6_item wsX6_item rm D y [.ref a_off, .int x0, .int x1, .int x2] ws "java/lang/IllegalStateException") (ho : ws[p_off]? = some (a_off, .inr (7, fs))) : gZi l yL_item wsL_item { frames := rm.frames + 1, cells := rm.cells, slots := rm.slots, locals := 8 + (4 + 11) + rm.locals } D y e9 mi [.ref a_off, .int x0, .int x1, .int x2, .ref a_out] ws (fun r w => r = nI 3 ∧ w = ws) := by
  refine g_metL (cc := cL_item) (maxL := 6) (hh := [(0, 12, 15, 13), (0, 12, 19, 15), (0, 12, 23, 17)]) (by decide) rfl (Nat.le_of_ble_eq_true rfl) ?_
  intro p e s m below meth c A hx hb hml hr hts hown hlocks hE hP hD hS hA hZ htab ls hl
  have hown : s.vm.findClass RL = some m.cls := hown
  have hl : lv_has ls 6 [(0, .ref a_off), (1, .int x0), (2, .int x1), (3, .int x2), (4, .ref a_out)] := hl
  refine lv_aload hx hb dL_item_0 (lv_at hl 4 rfl) ?_
  refine lv_iconst (v := nI 0) hx hb dL_item_2 (by decide) ?_
  refine lv_aload_n hx hb dL_item_3 rfl (lv_at hl 0 rfl) ?_
  refine lv_iload_n hx hb dL_item_4 rfl (lv_at hl 1 rfl) ?_
  refine lv_iload_n hx hb dL_item_5 rfl (lv_at hl 2 rfl) ?_
  refine lv_iload_n hx hb dL_item_6 rfl (lv_at hl 3 rfl) ?_
  refine gcz_VX (As := [.int x0, .int x1, .int x2]) (rest := [.int (nI 0), .ref a_out]) hX ⟨hx, hb, hml, hown, hts⟩ (cwV 3 hts gL_item_X6_item rfl rfl rfl (by decide +kernel) ⟨Nat.le_refl _, Nat.le_refl _⟩) hE hZ.1 hP hD hS hA _ ho rfl rfl rfl rfl hl.1 (Nat.le_of_ble_eq_true rfl) dL_item_7 ⟨Nat.le_of_eq (Nat.zero_add _), Nat.le_of_eq (Nat.zero_add _)⟩ [⟨0, 12, 15, 13⟩, ⟨0, 12, 19, 15⟩] ⟨0, 12, 23, 17⟩ [] (htab.trans rfl) (List.forall_mem_cons.mpr ⟨Or.inr ⟨by decide, _, hts (.classLink RL 13 "java/lang/IndexOutOfBoundsException") (by decide +kernel), hZ.2.2.2.1⟩, (List.forall_mem_cons.mpr ⟨Or.inr ⟨by decide, _, hts (.classLink RL 15 "java/lang/IllegalArgumentException") (by decide +kernel), hZ.2.2.2.2⟩, (fun _ h => absurd h List.not_mem_nil)⟩)⟩) (by decide) (by decide) (hts (.classLink RL 17 "java/lang/IllegalStateException") (by decide +kernel)) (va_Nw.use rfl (hE.2 _ hnest_72)) (fun q9 H locs hP hD hS => ?_)
  rw [Nat.zero_add, Nat.zero_add]
  refine lv_astore (lv' := [(5, .ref q9), (0, .ref a_off), (1, .int x0), (2, .int x1), (3, .int x2), (4, .ref a_out)]) hx hb dL_item_23 hl (by decide) rfl (fun ls hl => ?_)
  refine lv_iconst (v := nI 3) hx hb dL_item_25 (by decide) ?_
  exact g_iret hx hb hr hlocks ws dL_item_26 hS hP hD ⟨rfl, rfl⟩
set_option maxRecDepth 100000 in
theorem okL_quote (l : Launch) {D : va_G} {y : Nat → Nat} {e9 mi : Nat} {ws : va_W} {rm : Room} {p_off a_off : Nat} {a_out p_out : Nat} {fs : List Value} {x0 x1 x2 x3 : Int32} {P : Int32 → va_W → Prop} (hX : gZi l yX6_quote wsX6_quote rm D y e9 mi [.ref a_off, .int x0, .int x1, .int x2, .int x3] ws P) (hout : ∀ r u, P r u → ∃ o, u[p_out]? = some (a_out, eJ y 1 o)) (ho : ws[p_off]? = some (a_off, .inr (7, fs))) : gZi l yL_quote wsL_quote { frames := rm.frames + 1, cells := rm.cells, slots := rm.slots, locals := 8 + (6 + 11) + rm.locals } D y e9 mi [.ref a_off, .int x0, .int x1, .int x2, .int x3, .ref a_out] ws (fun r w => r = nI 0 ∧ ∃ v u o, P v u ∧ u[p_out]? = some (a_out, eJ y 1 o) ∧ w = u.set p_out (a_out, eJ y 1 (vf_upd o 0 (Int32.toInt64 v)))) := by
  refine g_metL (cc := cL_quote) (maxL := 7) (hh := [(0, 14, 17, 13), (0, 14, 21, 15), (0, 14, 25, 17)]) (by decide) rfl (Nat.le_of_ble_eq_true rfl) ?_
  intro p e s m below meth c A hx hb hml hr hts hown hlocks hE hP hD hS hA hZ htab ls hl
  have hown : s.vm.findClass RL = some m.cls := hown
  have hl : lv_has ls 7 [(0, .ref a_off), (1, .int x0), (2, .int x1), (3, .int x2), (4, .int x3), (5, .ref a_out)] := hl
  refine lv_aload hx hb dL_quote_0 (lv_at hl 5 rfl) ?_
  refine lv_iconst (v := nI 0) hx hb dL_quote_2 (by decide) ?_
  refine lv_aload_n hx hb dL_quote_3 rfl (lv_at hl 0 rfl) ?_
  refine lv_iload_n hx hb dL_quote_4 rfl (lv_at hl 1 rfl) ?_
  refine lv_iload_n hx hb dL_quote_5 rfl (lv_at hl 2 rfl) ?_
  refine lv_iload_n hx hb dL_quote_6 rfl (lv_at hl 3 rfl) ?_
  refine lv_iload hx hb dL_quote_7 (lv_at hl 4 rfl) ?_
  refine gcz_V_i (As := [.int x0, .int x1, .int x2, .int x3]) (rest := [.int (nI 0), .ref a_out]) hX ⟨hx, hb, hml, hown, hts⟩ (cwV 4 hts gL_quote_X6_quote rfl rfl rfl (by decide +kernel) ⟨Nat.le_refl _, Nat.le_refl _⟩) hE hZ hP hD hS hA _ ho rfl rfl rfl rfl hl.1 (Nat.le_of_ble_eq_true rfl) dL_quote_9 ⟨Nat.le_of_eq (Nat.zero_add _), Nat.le_of_eq (Nat.zero_add _)⟩ (fun r u H locs hP hD hS q => ?_)
  rw [Nat.zero_add, Nat.zero_add]
  obtain ⟨o, g⟩ := hout r u q
  refine lv_i2l (v := Int32.toInt64 r) hx hb dL_quote_12 rfl ?_
  refine g_last hx hb hE hP hD hS _ g (by decide) (by decide) dL_quote_13 (fun H locs hP hD hS => ?_)
  refine lv_goto (tgt := 29) hx hb dL_quote_14 (by decide) ?_
  refine lv_iconst (v := nI 0) hx hb dL_quote_29 (by decide) ?_
  exact g_iret hx hb hr hlocks _ dL_quote_30 hS hP hD ⟨rfl, r, u, o, q, g, rfl⟩
set_option maxRecDepth 100000 in
theorem exL_quote_1 (l : Launch) {D : va_G} {y : Nat → Nat} {e9 mi : Nat} {ws : va_W} {rm : Room} {p_off a_off : Nat} {a_out : Nat} {fs : List Value} {x0 x1 x2 x3 : Int32} (hX : gMX l yX6_quote wsX6_quote rm D y [.ref a_off, .int x0, .int x1, .int x2, .int x3] ws "java/lang/IndexOutOfBoundsException") (ho : ws[p_off]? = some (a_off, .inr (7, fs))) : gZi l yL_quote wsL_quote { frames := rm.frames + 1, cells := rm.cells, slots := rm.slots, locals := 8 + (6 + 11) + rm.locals } D y e9 mi [.ref a_off, .int x0, .int x1, .int x2, .int x3, .ref a_out] ws (fun r w => r = nI 1 ∧ w = ws) := by
  refine g_metL (cc := cL_quote) (maxL := 7) (hh := [(0, 14, 17, 13), (0, 14, 21, 15), (0, 14, 25, 17)]) (by decide) rfl (Nat.le_of_ble_eq_true rfl) ?_
  intro p e s m below meth c A hx hb hml hr hts hown hlocks hE hP hD hS hA hZ htab ls hl
  have hown : s.vm.findClass RL = some m.cls := hown
  have hl : lv_has ls 7 [(0, .ref a_off), (1, .int x0), (2, .int x1), (3, .int x2), (4, .int x3), (5, .ref a_out)] := hl
  refine lv_aload hx hb dL_quote_0 (lv_at hl 5 rfl) ?_
  refine lv_iconst (v := nI 0) hx hb dL_quote_2 (by decide) ?_
  refine lv_aload_n hx hb dL_quote_3 rfl (lv_at hl 0 rfl) ?_
  refine lv_iload_n hx hb dL_quote_4 rfl (lv_at hl 1 rfl) ?_
  refine lv_iload_n hx hb dL_quote_5 rfl (lv_at hl 2 rfl) ?_
  refine lv_iload_n hx hb dL_quote_6 rfl (lv_at hl 3 rfl) ?_
  refine lv_iload hx hb dL_quote_7 (lv_at hl 4 rfl) ?_
  refine gcz_VX (As := [.int x0, .int x1, .int x2, .int x3]) (rest := [.int (nI 0), .ref a_out]) hX ⟨hx, hb, hml, hown, hts⟩ (cwV 4 hts gL_quote_X6_quote rfl rfl rfl (by decide +kernel) ⟨Nat.le_refl _, Nat.le_refl _⟩) hE hZ.1 hP hD hS hA _ ho rfl rfl rfl rfl hl.1 (Nat.le_of_ble_eq_true rfl) dL_quote_9 ⟨Nat.le_of_eq (Nat.zero_add _), Nat.le_of_eq (Nat.zero_add _)⟩ [] ⟨0, 14, 17, 13⟩ [⟨0, 14, 21, 15⟩, ⟨0, 14, 25, 17⟩] (htab.trans rfl) (fun _ h => absurd h List.not_mem_nil) (by decide) (by decide) (hts (.classLink RL 13 "java/lang/IndexOutOfBoundsException") (by decide +kernel)) (va_Nw.use rfl (hE.2 _ hnest_137)) (fun q9 H locs hP hD hS => ?_)
  rw [Nat.zero_add, Nat.zero_add]
  refine lv_astore (lv' := [(6, .ref q9), (0, .ref a_off), (1, .int x0), (2, .int x1), (3, .int x2), (4, .int x3), (5, .ref a_out)]) hx hb dL_quote_17 hl (by decide) rfl (fun ls hl => ?_)
  refine lv_iconst (v := nI 1) hx hb dL_quote_19 (by decide) ?_
  exact g_iret hx hb hr hlocks ws dL_quote_20 hS hP hD ⟨rfl, rfl⟩
set_option maxRecDepth 100000 in
theorem exL_quote_2 (l : Launch) {D : va_G} {y : Nat → Nat} {e9 mi : Nat} {ws : va_W} {rm : Room} {p_off a_off : Nat} {a_out : Nat} {fs : List Value} {x0 x1 x2 x3 : Int32} (hX : gMX l yX6_quote wsX6_quote rm D y [.ref a_off, .int x0, .int x1, .int x2, .int x3] ws "java/lang/IllegalArgumentException") (ho : ws[p_off]? = some (a_off, .inr (7, fs))) : gZi l yL_quote wsL_quote { frames := rm.frames + 1, cells := rm.cells, slots := rm.slots, locals := 8 + (6 + 11) + rm.locals } D y e9 mi [.ref a_off, .int x0, .int x1, .int x2, .int x3, .ref a_out] ws (fun r w => r = nI 2 ∧ w = ws) := by
  refine g_metL (cc := cL_quote) (maxL := 7) (hh := [(0, 14, 17, 13), (0, 14, 21, 15), (0, 14, 25, 17)]) (by decide) rfl (Nat.le_of_ble_eq_true rfl) ?_
  intro p e s m below meth c A hx hb hml hr hts hown hlocks hE hP hD hS hA hZ htab ls hl
  have hown : s.vm.findClass RL = some m.cls := hown
  have hl : lv_has ls 7 [(0, .ref a_off), (1, .int x0), (2, .int x1), (3, .int x2), (4, .int x3), (5, .ref a_out)] := hl
  refine lv_aload hx hb dL_quote_0 (lv_at hl 5 rfl) ?_
  refine lv_iconst (v := nI 0) hx hb dL_quote_2 (by decide) ?_
  refine lv_aload_n hx hb dL_quote_3 rfl (lv_at hl 0 rfl) ?_
  refine lv_iload_n hx hb dL_quote_4 rfl (lv_at hl 1 rfl) ?_
  refine lv_iload_n hx hb dL_quote_5 rfl (lv_at hl 2 rfl) ?_
  refine lv_iload_n hx hb dL_quote_6 rfl (lv_at hl 3 rfl) ?_
  refine lv_iload hx hb dL_quote_7 (lv_at hl 4 rfl) ?_
  refine gcz_VX (As := [.int x0, .int x1, .int x2, .int x3]) (rest := [.int (nI 0), .ref a_out]) hX ⟨hx, hb, hml, hown, hts⟩ (cwV 4 hts gL_quote_X6_quote rfl rfl rfl (by decide +kernel) ⟨Nat.le_refl _, Nat.le_refl _⟩) hE hZ.1 hP hD hS hA _ ho rfl rfl rfl rfl hl.1 (Nat.le_of_ble_eq_true rfl) dL_quote_9 ⟨Nat.le_of_eq (Nat.zero_add _), Nat.le_of_eq (Nat.zero_add _)⟩ [⟨0, 14, 17, 13⟩] ⟨0, 14, 21, 15⟩ [⟨0, 14, 25, 17⟩] (htab.trans rfl) (List.forall_mem_cons.mpr ⟨Or.inr ⟨by decide, _, hts (.classLink RL 13 "java/lang/IndexOutOfBoundsException") (by decide +kernel), hZ.2.2.1⟩, (fun _ h => absurd h List.not_mem_nil)⟩) (by decide) (by decide) (hts (.classLink RL 15 "java/lang/IllegalArgumentException") (by decide +kernel)) (va_Nw.use rfl (hE.2 _ hnest_266)) (fun q9 H locs hP hD hS => ?_)
  rw [Nat.zero_add, Nat.zero_add]
  refine lv_astore (lv' := [(6, .ref q9), (0, .ref a_off), (1, .int x0), (2, .int x1), (3, .int x2), (4, .int x3), (5, .ref a_out)]) hx hb dL_quote_21 hl (by decide) rfl (fun ls hl => ?_)
  refine lv_iconst (v := nI 2) hx hb dL_quote_23 (by decide) ?_
  exact g_iret hx hb hr hlocks ws dL_quote_24 hS hP hD ⟨rfl, rfl⟩
set_option maxRecDepth 100000 in
theorem exL_quote_3 (l : Launch) {D : va_G} {y : Nat → Nat} {e9 mi : Nat} {ws : va_W} {rm : Room} {p_off a_off : Nat} {a_out : Nat} {fs : List Value} {x0 x1 x2 x3 : Int32} (hX : gMX l yX6_quote wsX6_quote rm D y [.ref a_off, .int x0, .int x1, .int x2, .int x3] ws "java/lang/IllegalStateException") (ho : ws[p_off]? = some (a_off, .inr (7, fs))) : gZi l yL_quote wsL_quote { frames := rm.frames + 1, cells := rm.cells, slots := rm.slots, locals := 8 + (6 + 11) + rm.locals } D y e9 mi [.ref a_off, .int x0, .int x1, .int x2, .int x3, .ref a_out] ws (fun r w => r = nI 3 ∧ w = ws) := by
  refine g_metL (cc := cL_quote) (maxL := 7) (hh := [(0, 14, 17, 13), (0, 14, 21, 15), (0, 14, 25, 17)]) (by decide) rfl (Nat.le_of_ble_eq_true rfl) ?_
  intro p e s m below meth c A hx hb hml hr hts hown hlocks hE hP hD hS hA hZ htab ls hl
  have hown : s.vm.findClass RL = some m.cls := hown
  have hl : lv_has ls 7 [(0, .ref a_off), (1, .int x0), (2, .int x1), (3, .int x2), (4, .int x3), (5, .ref a_out)] := hl
  refine lv_aload hx hb dL_quote_0 (lv_at hl 5 rfl) ?_
  refine lv_iconst (v := nI 0) hx hb dL_quote_2 (by decide) ?_
  refine lv_aload_n hx hb dL_quote_3 rfl (lv_at hl 0 rfl) ?_
  refine lv_iload_n hx hb dL_quote_4 rfl (lv_at hl 1 rfl) ?_
  refine lv_iload_n hx hb dL_quote_5 rfl (lv_at hl 2 rfl) ?_
  refine lv_iload_n hx hb dL_quote_6 rfl (lv_at hl 3 rfl) ?_
  refine lv_iload hx hb dL_quote_7 (lv_at hl 4 rfl) ?_
  refine gcz_VX (As := [.int x0, .int x1, .int x2, .int x3]) (rest := [.int (nI 0), .ref a_out]) hX ⟨hx, hb, hml, hown, hts⟩ (cwV 4 hts gL_quote_X6_quote rfl rfl rfl (by decide +kernel) ⟨Nat.le_refl _, Nat.le_refl _⟩) hE hZ.1 hP hD hS hA _ ho rfl rfl rfl rfl hl.1 (Nat.le_of_ble_eq_true rfl) dL_quote_9 ⟨Nat.le_of_eq (Nat.zero_add _), Nat.le_of_eq (Nat.zero_add _)⟩ [⟨0, 14, 17, 13⟩, ⟨0, 14, 21, 15⟩] ⟨0, 14, 25, 17⟩ [] (htab.trans rfl) (List.forall_mem_cons.mpr ⟨Or.inr ⟨by decide, _, hts (.classLink RL 13 "java/lang/IndexOutOfBoundsException") (by decide +kernel), hZ.2.2.2.1⟩, (List.forall_mem_cons.mpr ⟨Or.inr ⟨by decide, _, hts (.classLink RL 15 "java/lang/IllegalArgumentException") (by decide +kernel), hZ.2.2.2.2⟩, (fun _ h => absurd h List.not_mem_nil)⟩)⟩) (by decide) (by decide) (hts (.classLink RL 17 "java/lang/IllegalStateException") (by decide +kernel)) (va_Nw.use rfl (hE.2 _ hnest_72)) (fun q9 H locs hP hD hS => ?_)
  rw [Nat.zero_add, Nat.zero_add]
  refine lv_astore (lv' := [(6, .ref q9), (0, .ref a_off), (1, .int x0), (2, .int x1), (3, .int x2), (4, .int x3), (5, .ref a_out)]) hx hb dL_quote_25 hl (by decide) rfl (fun ls hl => ?_)
  refine lv_iconst (v := nI 3) hx hb dL_quote_27 (by decide) ?_
  exact g_iret hx hb hr hlocks ws dL_quote_28 hS hP hD ⟨rfl, rfl⟩
set_option maxRecDepth 100000 in
theorem okL_confirm (l : Launch) {D : va_G} {y : Nat → Nat} {e9 mi : Nat} {ws : va_W} {rm : Room} {p_off a_off : Nat} {a_out p_out : Nat} {fs : List Value} {x0 x1 : Int32} {P : Int32 → va_W → Prop} (hX : gZi l yX6_confirm wsX6_confirm rm D y e9 mi [.ref a_off, .int x0, .int x1] ws P) (hout : ∀ r u, P r u → ∃ o, u[p_out]? = some (a_out, eJ y 1 o)) (hbo : ∀ r u, P r u → ∃ b : Bool, r = gb b) (ho : ws[p_off]? = some (a_off, .inr (7, fs))) : gZi l yL_confirm wsL_confirm { frames := rm.frames + 1, cells := rm.cells, slots := rm.slots, locals := 8 + (5 + 11) + rm.locals } D y e9 mi [.ref a_off, .int x0, .int x1, .ref a_out] ws (fun r w => r = nI 0 ∧ ∃ v u o, P v u ∧ u[p_out]? = some (a_out, eJ y 1 o) ∧ w = u.set p_out (a_out, eJ y 1 (vf_upd o 0 (cvb v)))) := by
  refine g_metL (cc := cL_confirm) (maxL := 5) (hh := [(0, 17, 20, 13), (0, 17, 24, 17)]) (by decide) rfl (Nat.le_of_ble_eq_true rfl) ?_
  intro p e s m below meth c A hx hb hml hr hts hown hlocks hE hP hD hS hA hZ htab ls hl
  have hown : s.vm.findClass RL = some m.cls := hown
  have hl : lv_has ls 5 [(0, .ref a_off), (1, .int x0), (2, .int x1), (3, .ref a_out)] := hl
  refine lv_aload_n hx hb dL_confirm_0 rfl (lv_at hl 3 rfl) ?_
  refine lv_iconst (v := nI 0) hx hb dL_confirm_1 (by decide) ?_
  refine lv_aload_n hx hb dL_confirm_2 rfl (lv_at hl 0 rfl) ?_
  refine lv_iload_n hx hb dL_confirm_3 rfl (lv_at hl 1 rfl) ?_
  refine lv_iload_n hx hb dL_confirm_4 rfl (lv_at hl 2 rfl) ?_
  refine gcz_V_i (As := [.int x0, .int x1]) (rest := [.int (nI 0), .ref a_out]) hX ⟨hx, hb, hml, hown, hts⟩ (cwV 2 hts gL_confirm_X6_confirm rfl rfl rfl (by decide +kernel) ⟨Nat.le_refl _, Nat.le_refl _⟩) hE hZ hP hD hS hA _ ho rfl rfl rfl rfl hl.1 (Nat.le_of_ble_eq_true rfl) dL_confirm_5 ⟨Nat.le_of_eq (Nat.zero_add _), Nat.le_of_eq (Nat.zero_add _)⟩ (fun r u H locs hP hD hS q => ?_)
  rw [Nat.zero_add, Nat.zero_add]
  obtain ⟨o, g⟩ := hout r u q
  obtain ⟨b, rfl⟩ := hbo r u q
  refine g_bif_eq (tgt := 15) hx hb dL_confirm_8 (by decide) (fun hbb => ?_) (fun hbb => ?_) <;> subst hbb
  · refine lv_lconst (v := cvb (gb false)) hx hb dL_confirm_15 (by decide) ?_
    refine g_last hx hb hE hP hD hS _ g (by decide) (by decide) dL_confirm_16 (fun H locs hP hD hS => ?_)
    refine lv_goto (tgt := 28) hx hb dL_confirm_17 (by decide) ?_
    refine lv_iconst (v := nI 0) hx hb dL_confirm_28 (by decide) ?_
    exact g_iret hx hb hr hlocks _ dL_confirm_29 hS hP hD ⟨rfl, _, u, o, q, g, rfl⟩
  · refine lv_lconst (v := cvb (gb true)) hx hb dL_confirm_11 (by decide) ?_
    refine lv_goto (tgt := 16) hx hb dL_confirm_12 (by decide) ?_
    refine g_last hx hb hE hP hD hS _ g (by decide) (by decide) dL_confirm_16 (fun H locs hP hD hS => ?_)
    refine lv_goto (tgt := 28) hx hb dL_confirm_17 (by decide) ?_
    refine lv_iconst (v := nI 0) hx hb dL_confirm_28 (by decide) ?_
    exact g_iret hx hb hr hlocks _ dL_confirm_29 hS hP hD ⟨rfl, _, u, o, q, g, rfl⟩
set_option maxRecDepth 100000 in
theorem exL_confirm_1 (l : Launch) {D : va_G} {y : Nat → Nat} {e9 mi : Nat} {ws : va_W} {rm : Room} {p_off a_off : Nat} {a_out : Nat} {fs : List Value} {x0 x1 : Int32} (hX : gMX l yX6_confirm wsX6_confirm rm D y [.ref a_off, .int x0, .int x1] ws "java/lang/IndexOutOfBoundsException") (ho : ws[p_off]? = some (a_off, .inr (7, fs))) : gZi l yL_confirm wsL_confirm { frames := rm.frames + 1, cells := rm.cells, slots := rm.slots, locals := 8 + (5 + 11) + rm.locals } D y e9 mi [.ref a_off, .int x0, .int x1, .ref a_out] ws (fun r w => r = nI 1 ∧ w = ws) := by
  refine g_metL (cc := cL_confirm) (maxL := 5) (hh := [(0, 17, 20, 13), (0, 17, 24, 17)]) (by decide) rfl (Nat.le_of_ble_eq_true rfl) ?_
  intro p e s m below meth c A hx hb hml hr hts hown hlocks hE hP hD hS hA hZ htab ls hl
  have hown : s.vm.findClass RL = some m.cls := hown
  have hl : lv_has ls 5 [(0, .ref a_off), (1, .int x0), (2, .int x1), (3, .ref a_out)] := hl
  refine lv_aload_n hx hb dL_confirm_0 rfl (lv_at hl 3 rfl) ?_
  refine lv_iconst (v := nI 0) hx hb dL_confirm_1 (by decide) ?_
  refine lv_aload_n hx hb dL_confirm_2 rfl (lv_at hl 0 rfl) ?_
  refine lv_iload_n hx hb dL_confirm_3 rfl (lv_at hl 1 rfl) ?_
  refine lv_iload_n hx hb dL_confirm_4 rfl (lv_at hl 2 rfl) ?_
  refine gcz_VX (As := [.int x0, .int x1]) (rest := [.int (nI 0), .ref a_out]) hX ⟨hx, hb, hml, hown, hts⟩ (cwV 2 hts gL_confirm_X6_confirm rfl rfl rfl (by decide +kernel) ⟨Nat.le_refl _, Nat.le_refl _⟩) hE hZ.1 hP hD hS hA _ ho rfl rfl rfl rfl hl.1 (Nat.le_of_ble_eq_true rfl) dL_confirm_5 ⟨Nat.le_of_eq (Nat.zero_add _), Nat.le_of_eq (Nat.zero_add _)⟩ [] ⟨0, 17, 20, 13⟩ [⟨0, 17, 24, 17⟩] (htab.trans rfl) (fun _ h => absurd h List.not_mem_nil) (by decide) (by decide) (hts (.classLink RL 13 "java/lang/IndexOutOfBoundsException") (by decide +kernel)) (va_Nw.use rfl (hE.2 _ hnest_137)) (fun q9 H locs hP hD hS => ?_)
  rw [Nat.zero_add, Nat.zero_add]
  refine lv_astore (lv' := [(4, .ref q9), (0, .ref a_off), (1, .int x0), (2, .int x1), (3, .ref a_out)]) hx hb dL_confirm_20 hl (by decide) rfl (fun ls hl => ?_)
  refine lv_iconst (v := nI 1) hx hb dL_confirm_22 (by decide) ?_
  exact g_iret hx hb hr hlocks ws dL_confirm_23 hS hP hD ⟨rfl, rfl⟩
set_option maxRecDepth 100000 in
theorem exL_confirm_2 (l : Launch) {D : va_G} {y : Nat → Nat} {e9 mi : Nat} {ws : va_W} {rm : Room} {p_off a_off : Nat} {a_out : Nat} {fs : List Value} {x0 x1 : Int32} (hX : gMX l yX6_confirm wsX6_confirm rm D y [.ref a_off, .int x0, .int x1] ws "java/lang/IllegalStateException") (ho : ws[p_off]? = some (a_off, .inr (7, fs))) : gZi l yL_confirm wsL_confirm { frames := rm.frames + 1, cells := rm.cells, slots := rm.slots, locals := 8 + (5 + 11) + rm.locals } D y e9 mi [.ref a_off, .int x0, .int x1, .ref a_out] ws (fun r w => r = nI 2 ∧ w = ws) := by
  refine g_metL (cc := cL_confirm) (maxL := 5) (hh := [(0, 17, 20, 13), (0, 17, 24, 17)]) (by decide) rfl (Nat.le_of_ble_eq_true rfl) ?_
  intro p e s m below meth c A hx hb hml hr hts hown hlocks hE hP hD hS hA hZ htab ls hl
  have hown : s.vm.findClass RL = some m.cls := hown
  have hl : lv_has ls 5 [(0, .ref a_off), (1, .int x0), (2, .int x1), (3, .ref a_out)] := hl
  refine lv_aload_n hx hb dL_confirm_0 rfl (lv_at hl 3 rfl) ?_
  refine lv_iconst (v := nI 0) hx hb dL_confirm_1 (by decide) ?_
  refine lv_aload_n hx hb dL_confirm_2 rfl (lv_at hl 0 rfl) ?_
  refine lv_iload_n hx hb dL_confirm_3 rfl (lv_at hl 1 rfl) ?_
  refine lv_iload_n hx hb dL_confirm_4 rfl (lv_at hl 2 rfl) ?_
  refine gcz_VX (As := [.int x0, .int x1]) (rest := [.int (nI 0), .ref a_out]) hX ⟨hx, hb, hml, hown, hts⟩ (cwV 2 hts gL_confirm_X6_confirm rfl rfl rfl (by decide +kernel) ⟨Nat.le_refl _, Nat.le_refl _⟩) hE hZ.1 hP hD hS hA _ ho rfl rfl rfl rfl hl.1 (Nat.le_of_ble_eq_true rfl) dL_confirm_5 ⟨Nat.le_of_eq (Nat.zero_add _), Nat.le_of_eq (Nat.zero_add _)⟩ [⟨0, 17, 20, 13⟩] ⟨0, 17, 24, 17⟩ [] (htab.trans rfl) (List.forall_mem_cons.mpr ⟨Or.inr ⟨by decide, _, hts (.classLink RL 13 "java/lang/IndexOutOfBoundsException") (by decide +kernel), hZ.2.2.2.1⟩, (fun _ h => absurd h List.not_mem_nil)⟩) (by decide) (by decide) (hts (.classLink RL 17 "java/lang/IllegalStateException") (by decide +kernel)) (va_Nw.use rfl (hE.2 _ hnest_72)) (fun q9 H locs hP hD hS => ?_)
  rw [Nat.zero_add, Nat.zero_add]
  refine lv_astore (lv' := [(4, .ref q9), (0, .ref a_off), (1, .int x0), (2, .int x1), (3, .ref a_out)]) hx hb dL_confirm_24 hl (by decide) rfl (fun ls hl => ?_)
  refine lv_iconst (v := nI 2) hx hb dL_confirm_26 (by decide) ?_
  exact g_iret hx hb hr hlocks ws dL_confirm_27 hS hP hD ⟨rfl, rfl⟩
set_option maxRecDepth 100000 in
theorem okL_link (l : Launch) {D : va_G} {y : Nat → Nat} {e9 mi : Nat} {ws : va_W} {rm : Room} {p_off a_off : Nat} {fs : List Value} {x0 x1 x2 x3 : Int32} {P : va_W → Prop} (hX : gZv l yX6_link wsX6_link rm D y e9 mi [.ref a_off, .int x0, .int x1, .int x2, .int x3] ws P) (ho : ws[p_off]? = some (a_off, .inr (7, fs))) : gZi l yL_link wsL_link { frames := rm.frames + 1, cells := rm.cells, slots := rm.slots, locals := 8 + (6 + 11) + rm.locals } D y e9 mi [.ref a_off, .int x0, .int x1, .int x2, .int x3] ws (fun r w => r = nI 0 ∧ P w) := by
  refine g_metL (cc := cL_link) (maxL := 6) (hh := [(0, 9, 12, 13), (0, 9, 16, 15), (0, 9, 20, 17)]) (by decide) rfl (Nat.le_of_ble_eq_true rfl) ?_
  intro p e s m below meth c A hx hb hml hr hts hown hlocks hE hP hD hS hA hZ htab ls hl
  have hown : s.vm.findClass RL = some m.cls := hown
  have hl : lv_has ls 6 [(0, .ref a_off), (1, .int x0), (2, .int x1), (3, .int x2), (4, .int x3)] := hl
  refine lv_aload_n hx hb dL_link_0 rfl (lv_at hl 0 rfl) ?_
  refine lv_iload_n hx hb dL_link_1 rfl (lv_at hl 1 rfl) ?_
  refine lv_iload_n hx hb dL_link_2 rfl (lv_at hl 2 rfl) ?_
  refine lv_iload_n hx hb dL_link_3 rfl (lv_at hl 3 rfl) ?_
  refine lv_iload hx hb dL_link_4 (lv_at hl 4 rfl) ?_
  refine gcz_V_v (As := [.int x0, .int x1, .int x2, .int x3]) (rest := []) hX ⟨hx, hb, hml, hown, hts⟩ (cwV 4 hts gL_link_X6_link rfl rfl rfl (by decide +kernel) ⟨Nat.le_refl _, Nat.le_refl _⟩) hE hZ hP hD hS hA _ ho rfl rfl rfl rfl hl.1 (Nat.le_of_ble_eq_true rfl) dL_link_6 ⟨Nat.le_of_eq (Nat.zero_add _), Nat.le_of_eq (Nat.zero_add _)⟩ (fun u H locs hP hD hS q => ?_)
  rw [Nat.zero_add, Nat.zero_add]
  refine lv_goto (tgt := 24) hx hb dL_link_9 (by decide) ?_
  refine lv_iconst (v := nI 0) hx hb dL_link_24 (by decide) ?_
  exact g_iret hx hb hr hlocks _ dL_link_25 hS hP hD ⟨rfl, q⟩
set_option maxRecDepth 100000 in
theorem exL_link_1 (l : Launch) {D : va_G} {y : Nat → Nat} {e9 mi : Nat} {ws : va_W} {rm : Room} {p_off a_off : Nat} {fs : List Value} {x0 x1 x2 x3 : Int32} (hX : gMX l yX6_link wsX6_link rm D y [.ref a_off, .int x0, .int x1, .int x2, .int x3] ws "java/lang/IndexOutOfBoundsException") (ho : ws[p_off]? = some (a_off, .inr (7, fs))) : gZi l yL_link wsL_link { frames := rm.frames + 1, cells := rm.cells, slots := rm.slots, locals := 8 + (6 + 11) + rm.locals } D y e9 mi [.ref a_off, .int x0, .int x1, .int x2, .int x3] ws (fun r w => r = nI 1 ∧ w = ws) := by
  refine g_metL (cc := cL_link) (maxL := 6) (hh := [(0, 9, 12, 13), (0, 9, 16, 15), (0, 9, 20, 17)]) (by decide) rfl (Nat.le_of_ble_eq_true rfl) ?_
  intro p e s m below meth c A hx hb hml hr hts hown hlocks hE hP hD hS hA hZ htab ls hl
  have hown : s.vm.findClass RL = some m.cls := hown
  have hl : lv_has ls 6 [(0, .ref a_off), (1, .int x0), (2, .int x1), (3, .int x2), (4, .int x3)] := hl
  refine lv_aload_n hx hb dL_link_0 rfl (lv_at hl 0 rfl) ?_
  refine lv_iload_n hx hb dL_link_1 rfl (lv_at hl 1 rfl) ?_
  refine lv_iload_n hx hb dL_link_2 rfl (lv_at hl 2 rfl) ?_
  refine lv_iload_n hx hb dL_link_3 rfl (lv_at hl 3 rfl) ?_
  refine lv_iload hx hb dL_link_4 (lv_at hl 4 rfl) ?_
  refine gcz_VX (As := [.int x0, .int x1, .int x2, .int x3]) (rest := []) hX ⟨hx, hb, hml, hown, hts⟩ (cwV 4 hts gL_link_X6_link rfl rfl rfl (by decide +kernel) ⟨Nat.le_refl _, Nat.le_refl _⟩) hE hZ.1 hP hD hS hA _ ho rfl rfl rfl rfl hl.1 (Nat.le_of_ble_eq_true rfl) dL_link_6 ⟨Nat.le_of_eq (Nat.zero_add _), Nat.le_of_eq (Nat.zero_add _)⟩ [] ⟨0, 9, 12, 13⟩ [⟨0, 9, 16, 15⟩, ⟨0, 9, 20, 17⟩] (htab.trans rfl) (fun _ h => absurd h List.not_mem_nil) (by decide) (by decide) (hts (.classLink RL 13 "java/lang/IndexOutOfBoundsException") (by decide +kernel)) (va_Nw.use rfl (hE.2 _ hnest_137)) (fun q9 H locs hP hD hS => ?_)
  rw [Nat.zero_add, Nat.zero_add]
  refine lv_astore (lv' := [(5, .ref q9), (0, .ref a_off), (1, .int x0), (2, .int x1), (3, .int x2), (4, .int x3)]) hx hb dL_link_12 hl (by decide) rfl (fun ls hl => ?_)
  refine lv_iconst (v := nI 1) hx hb dL_link_14 (by decide) ?_
  exact g_iret hx hb hr hlocks ws dL_link_15 hS hP hD ⟨rfl, rfl⟩
set_option maxRecDepth 100000 in
theorem exL_link_2 (l : Launch) {D : va_G} {y : Nat → Nat} {e9 mi : Nat} {ws : va_W} {rm : Room} {p_off a_off : Nat} {fs : List Value} {x0 x1 x2 x3 : Int32} (hX : gMX l yX6_link wsX6_link rm D y [.ref a_off, .int x0, .int x1, .int x2, .int x3] ws "java/lang/IllegalArgumentException") (ho : ws[p_off]? = some (a_off, .inr (7, fs))) : gZi l yL_link wsL_link { frames := rm.frames + 1, cells := rm.cells, slots := rm.slots, locals := 8 + (6 + 11) + rm.locals } D y e9 mi [.ref a_off, .int x0, .int x1, .int x2, .int x3] ws (fun r w => r = nI 2 ∧ w = ws) := by
  refine g_metL (cc := cL_link) (maxL := 6) (hh := [(0, 9, 12, 13), (0, 9, 16, 15), (0, 9, 20, 17)]) (by decide) rfl (Nat.le_of_ble_eq_true rfl) ?_
  intro p e s m below meth c A hx hb hml hr hts hown hlocks hE hP hD hS hA hZ htab ls hl
  have hown : s.vm.findClass RL = some m.cls := hown
  have hl : lv_has ls 6 [(0, .ref a_off), (1, .int x0), (2, .int x1), (3, .int x2), (4, .int x3)] := hl
  refine lv_aload_n hx hb dL_link_0 rfl (lv_at hl 0 rfl) ?_
  refine lv_iload_n hx hb dL_link_1 rfl (lv_at hl 1 rfl) ?_
  refine lv_iload_n hx hb dL_link_2 rfl (lv_at hl 2 rfl) ?_
  refine lv_iload_n hx hb dL_link_3 rfl (lv_at hl 3 rfl) ?_
  refine lv_iload hx hb dL_link_4 (lv_at hl 4 rfl) ?_
  refine gcz_VX (As := [.int x0, .int x1, .int x2, .int x3]) (rest := []) hX ⟨hx, hb, hml, hown, hts⟩ (cwV 4 hts gL_link_X6_link rfl rfl rfl (by decide +kernel) ⟨Nat.le_refl _, Nat.le_refl _⟩) hE hZ.1 hP hD hS hA _ ho rfl rfl rfl rfl hl.1 (Nat.le_of_ble_eq_true rfl) dL_link_6 ⟨Nat.le_of_eq (Nat.zero_add _), Nat.le_of_eq (Nat.zero_add _)⟩ [⟨0, 9, 12, 13⟩] ⟨0, 9, 16, 15⟩ [⟨0, 9, 20, 17⟩] (htab.trans rfl) (List.forall_mem_cons.mpr ⟨Or.inr ⟨by decide, _, hts (.classLink RL 13 "java/lang/IndexOutOfBoundsException") (by decide +kernel), hZ.2.2.1⟩, (fun _ h => absurd h List.not_mem_nil)⟩) (by decide) (by decide) (hts (.classLink RL 15 "java/lang/IllegalArgumentException") (by decide +kernel)) (va_Nw.use rfl (hE.2 _ hnest_266)) (fun q9 H locs hP hD hS => ?_)
  rw [Nat.zero_add, Nat.zero_add]
  refine lv_astore (lv' := [(5, .ref q9), (0, .ref a_off), (1, .int x0), (2, .int x1), (3, .int x2), (4, .int x3)]) hx hb dL_link_16 hl (by decide) rfl (fun ls hl => ?_)
  refine lv_iconst (v := nI 2) hx hb dL_link_18 (by decide) ?_
  exact g_iret hx hb hr hlocks ws dL_link_19 hS hP hD ⟨rfl, rfl⟩
set_option maxRecDepth 100000 in
theorem exL_link_3 (l : Launch) {D : va_G} {y : Nat → Nat} {e9 mi : Nat} {ws : va_W} {rm : Room} {p_off a_off : Nat} {fs : List Value} {x0 x1 x2 x3 : Int32} (hX : gMX l yX6_link wsX6_link rm D y [.ref a_off, .int x0, .int x1, .int x2, .int x3] ws "java/lang/IllegalStateException") (ho : ws[p_off]? = some (a_off, .inr (7, fs))) : gZi l yL_link wsL_link { frames := rm.frames + 1, cells := rm.cells, slots := rm.slots, locals := 8 + (6 + 11) + rm.locals } D y e9 mi [.ref a_off, .int x0, .int x1, .int x2, .int x3] ws (fun r w => r = nI 3 ∧ w = ws) := by
  refine g_metL (cc := cL_link) (maxL := 6) (hh := [(0, 9, 12, 13), (0, 9, 16, 15), (0, 9, 20, 17)]) (by decide) rfl (Nat.le_of_ble_eq_true rfl) ?_
  intro p e s m below meth c A hx hb hml hr hts hown hlocks hE hP hD hS hA hZ htab ls hl
  have hown : s.vm.findClass RL = some m.cls := hown
  have hl : lv_has ls 6 [(0, .ref a_off), (1, .int x0), (2, .int x1), (3, .int x2), (4, .int x3)] := hl
  refine lv_aload_n hx hb dL_link_0 rfl (lv_at hl 0 rfl) ?_
  refine lv_iload_n hx hb dL_link_1 rfl (lv_at hl 1 rfl) ?_
  refine lv_iload_n hx hb dL_link_2 rfl (lv_at hl 2 rfl) ?_
  refine lv_iload_n hx hb dL_link_3 rfl (lv_at hl 3 rfl) ?_
  refine lv_iload hx hb dL_link_4 (lv_at hl 4 rfl) ?_
  refine gcz_VX (As := [.int x0, .int x1, .int x2, .int x3]) (rest := []) hX ⟨hx, hb, hml, hown, hts⟩ (cwV 4 hts gL_link_X6_link rfl rfl rfl (by decide +kernel) ⟨Nat.le_refl _, Nat.le_refl _⟩) hE hZ.1 hP hD hS hA _ ho rfl rfl rfl rfl hl.1 (Nat.le_of_ble_eq_true rfl) dL_link_6 ⟨Nat.le_of_eq (Nat.zero_add _), Nat.le_of_eq (Nat.zero_add _)⟩ [⟨0, 9, 12, 13⟩, ⟨0, 9, 16, 15⟩] ⟨0, 9, 20, 17⟩ [] (htab.trans rfl) (List.forall_mem_cons.mpr ⟨Or.inr ⟨by decide, _, hts (.classLink RL 13 "java/lang/IndexOutOfBoundsException") (by decide +kernel), hZ.2.2.2.1⟩, (List.forall_mem_cons.mpr ⟨Or.inr ⟨by decide, _, hts (.classLink RL 15 "java/lang/IllegalArgumentException") (by decide +kernel), hZ.2.2.2.2⟩, (fun _ h => absurd h List.not_mem_nil)⟩)⟩) (by decide) (by decide) (hts (.classLink RL 17 "java/lang/IllegalStateException") (by decide +kernel)) (va_Nw.use rfl (hE.2 _ hnest_72)) (fun q9 H locs hP hD hS => ?_)
  rw [Nat.zero_add, Nat.zero_add]
  refine lv_astore (lv' := [(5, .ref q9), (0, .ref a_off), (1, .int x0), (2, .int x1), (3, .int x2), (4, .int x3)]) hx hb dL_link_20 hl (by decide) rfl (fun ls hl => ?_)
  refine lv_iconst (v := nI 3) hx hb dL_link_22 (by decide) ?_
  exact g_iret hx hb hr hlocks ws dL_link_23 hS hP hD ⟨rfl, rfl⟩
set_option maxRecDepth 100000 in
theorem okL_spend (l : Launch) {D : va_G} {y : Nat → Nat} {e9 mi : Nat} {ws : va_W} {rm : Room} {p_off a_off : Nat} {a_out p_out : Nat} {fs : List Value} {x0 x1 x2 : Int32} {P : Int32 → va_W → Prop} (hX : gZi l yX6_spend wsX6_spend rm D y e9 mi [.ref a_off, .int x0, .int x1, .int x2] ws P) (hout : ∀ r u, P r u → ∃ o, u[p_out]? = some (a_out, eJ y 1 o)) (ho : ws[p_off]? = some (a_off, .inr (7, fs))) : gZi l yL_spend wsL_spend { frames := rm.frames + 1, cells := rm.cells, slots := rm.slots, locals := 8 + (4 + 11) + rm.locals } D y e9 mi [.ref a_off, .int x0, .int x1, .int x2, .ref a_out] ws (fun r w => r = nI 0 ∧ ∃ v u o, P v u ∧ u[p_out]? = some (a_out, eJ y 1 o) ∧ w = u.set p_out (a_out, eJ y 1 (vf_upd o 0 (Int32.toInt64 v)))) := by
  refine g_metL (cc := cL_spend) (maxL := 6) (hh := [(0, 12, 15, 13), (0, 12, 19, 15)]) (by decide) rfl (Nat.le_of_ble_eq_true rfl) ?_
  intro p e s m below meth c A hx hb hml hr hts hown hlocks hE hP hD hS hA hZ htab ls hl
  have hown : s.vm.findClass RL = some m.cls := hown
  have hl : lv_has ls 6 [(0, .ref a_off), (1, .int x0), (2, .int x1), (3, .int x2), (4, .ref a_out)] := hl
  refine lv_aload hx hb dL_spend_0 (lv_at hl 4 rfl) ?_
  refine lv_iconst (v := nI 0) hx hb dL_spend_2 (by decide) ?_
  refine lv_aload_n hx hb dL_spend_3 rfl (lv_at hl 0 rfl) ?_
  refine lv_iload_n hx hb dL_spend_4 rfl (lv_at hl 1 rfl) ?_
  refine lv_iload_n hx hb dL_spend_5 rfl (lv_at hl 2 rfl) ?_
  refine lv_iload_n hx hb dL_spend_6 rfl (lv_at hl 3 rfl) ?_
  refine gcz_V_i (As := [.int x0, .int x1, .int x2]) (rest := [.int (nI 0), .ref a_out]) hX ⟨hx, hb, hml, hown, hts⟩ (cwV 3 hts gL_spend_X6_spend rfl rfl rfl (by decide +kernel) ⟨Nat.le_refl _, Nat.le_refl _⟩) hE hZ hP hD hS hA _ ho rfl rfl rfl rfl hl.1 (Nat.le_of_ble_eq_true rfl) dL_spend_7 ⟨Nat.le_of_eq (Nat.zero_add _), Nat.le_of_eq (Nat.zero_add _)⟩ (fun r u H locs hP hD hS q => ?_)
  rw [Nat.zero_add, Nat.zero_add]
  obtain ⟨o, g⟩ := hout r u q
  refine lv_i2l (v := Int32.toInt64 r) hx hb dL_spend_10 rfl ?_
  refine g_last hx hb hE hP hD hS _ g (by decide) (by decide) dL_spend_11 (fun H locs hP hD hS => ?_)
  refine lv_goto (tgt := 23) hx hb dL_spend_12 (by decide) ?_
  refine lv_iconst (v := nI 0) hx hb dL_spend_23 (by decide) ?_
  exact g_iret hx hb hr hlocks _ dL_spend_24 hS hP hD ⟨rfl, r, u, o, q, g, rfl⟩
set_option maxRecDepth 100000 in
theorem exL_spend_1 (l : Launch) {D : va_G} {y : Nat → Nat} {e9 mi : Nat} {ws : va_W} {rm : Room} {p_off a_off : Nat} {a_out : Nat} {fs : List Value} {x0 x1 x2 : Int32} (hX : gMX l yX6_spend wsX6_spend rm D y [.ref a_off, .int x0, .int x1, .int x2] ws "java/lang/IndexOutOfBoundsException") (ho : ws[p_off]? = some (a_off, .inr (7, fs))) : gZi l yL_spend wsL_spend { frames := rm.frames + 1, cells := rm.cells, slots := rm.slots, locals := 8 + (4 + 11) + rm.locals } D y e9 mi [.ref a_off, .int x0, .int x1, .int x2, .ref a_out] ws (fun r w => r = nI 1 ∧ w = ws) := by
  refine g_metL (cc := cL_spend) (maxL := 6) (hh := [(0, 12, 15, 13), (0, 12, 19, 15)]) (by decide) rfl (Nat.le_of_ble_eq_true rfl) ?_
  intro p e s m below meth c A hx hb hml hr hts hown hlocks hE hP hD hS hA hZ htab ls hl
  have hown : s.vm.findClass RL = some m.cls := hown
  have hl : lv_has ls 6 [(0, .ref a_off), (1, .int x0), (2, .int x1), (3, .int x2), (4, .ref a_out)] := hl
  refine lv_aload hx hb dL_spend_0 (lv_at hl 4 rfl) ?_
  refine lv_iconst (v := nI 0) hx hb dL_spend_2 (by decide) ?_
  refine lv_aload_n hx hb dL_spend_3 rfl (lv_at hl 0 rfl) ?_
  refine lv_iload_n hx hb dL_spend_4 rfl (lv_at hl 1 rfl) ?_
  refine lv_iload_n hx hb dL_spend_5 rfl (lv_at hl 2 rfl) ?_
  refine lv_iload_n hx hb dL_spend_6 rfl (lv_at hl 3 rfl) ?_
  refine gcz_VX (As := [.int x0, .int x1, .int x2]) (rest := [.int (nI 0), .ref a_out]) hX ⟨hx, hb, hml, hown, hts⟩ (cwV 3 hts gL_spend_X6_spend rfl rfl rfl (by decide +kernel) ⟨Nat.le_refl _, Nat.le_refl _⟩) hE hZ.1 hP hD hS hA _ ho rfl rfl rfl rfl hl.1 (Nat.le_of_ble_eq_true rfl) dL_spend_7 ⟨Nat.le_of_eq (Nat.zero_add _), Nat.le_of_eq (Nat.zero_add _)⟩ [] ⟨0, 12, 15, 13⟩ [⟨0, 12, 19, 15⟩] (htab.trans rfl) (fun _ h => absurd h List.not_mem_nil) (by decide) (by decide) (hts (.classLink RL 13 "java/lang/IndexOutOfBoundsException") (by decide +kernel)) (va_Nw.use rfl (hE.2 _ hnest_137)) (fun q9 H locs hP hD hS => ?_)
  rw [Nat.zero_add, Nat.zero_add]
  refine lv_astore (lv' := [(5, .ref q9), (0, .ref a_off), (1, .int x0), (2, .int x1), (3, .int x2), (4, .ref a_out)]) hx hb dL_spend_15 hl (by decide) rfl (fun ls hl => ?_)
  refine lv_iconst (v := nI 1) hx hb dL_spend_17 (by decide) ?_
  exact g_iret hx hb hr hlocks ws dL_spend_18 hS hP hD ⟨rfl, rfl⟩
set_option maxRecDepth 100000 in
theorem exL_spend_2 (l : Launch) {D : va_G} {y : Nat → Nat} {e9 mi : Nat} {ws : va_W} {rm : Room} {p_off a_off : Nat} {a_out : Nat} {fs : List Value} {x0 x1 x2 : Int32} (hX : gMX l yX6_spend wsX6_spend rm D y [.ref a_off, .int x0, .int x1, .int x2] ws "java/lang/IllegalArgumentException") (ho : ws[p_off]? = some (a_off, .inr (7, fs))) : gZi l yL_spend wsL_spend { frames := rm.frames + 1, cells := rm.cells, slots := rm.slots, locals := 8 + (4 + 11) + rm.locals } D y e9 mi [.ref a_off, .int x0, .int x1, .int x2, .ref a_out] ws (fun r w => r = nI 2 ∧ w = ws) := by
  refine g_metL (cc := cL_spend) (maxL := 6) (hh := [(0, 12, 15, 13), (0, 12, 19, 15)]) (by decide) rfl (Nat.le_of_ble_eq_true rfl) ?_
  intro p e s m below meth c A hx hb hml hr hts hown hlocks hE hP hD hS hA hZ htab ls hl
  have hown : s.vm.findClass RL = some m.cls := hown
  have hl : lv_has ls 6 [(0, .ref a_off), (1, .int x0), (2, .int x1), (3, .int x2), (4, .ref a_out)] := hl
  refine lv_aload hx hb dL_spend_0 (lv_at hl 4 rfl) ?_
  refine lv_iconst (v := nI 0) hx hb dL_spend_2 (by decide) ?_
  refine lv_aload_n hx hb dL_spend_3 rfl (lv_at hl 0 rfl) ?_
  refine lv_iload_n hx hb dL_spend_4 rfl (lv_at hl 1 rfl) ?_
  refine lv_iload_n hx hb dL_spend_5 rfl (lv_at hl 2 rfl) ?_
  refine lv_iload_n hx hb dL_spend_6 rfl (lv_at hl 3 rfl) ?_
  refine gcz_VX (As := [.int x0, .int x1, .int x2]) (rest := [.int (nI 0), .ref a_out]) hX ⟨hx, hb, hml, hown, hts⟩ (cwV 3 hts gL_spend_X6_spend rfl rfl rfl (by decide +kernel) ⟨Nat.le_refl _, Nat.le_refl _⟩) hE hZ.1 hP hD hS hA _ ho rfl rfl rfl rfl hl.1 (Nat.le_of_ble_eq_true rfl) dL_spend_7 ⟨Nat.le_of_eq (Nat.zero_add _), Nat.le_of_eq (Nat.zero_add _)⟩ [⟨0, 12, 15, 13⟩] ⟨0, 12, 19, 15⟩ [] (htab.trans rfl) (List.forall_mem_cons.mpr ⟨Or.inr ⟨by decide, _, hts (.classLink RL 13 "java/lang/IndexOutOfBoundsException") (by decide +kernel), hZ.2.2.1⟩, (fun _ h => absurd h List.not_mem_nil)⟩) (by decide) (by decide) (hts (.classLink RL 15 "java/lang/IllegalArgumentException") (by decide +kernel)) (va_Nw.use rfl (hE.2 _ hnest_266)) (fun q9 H locs hP hD hS => ?_)
  rw [Nat.zero_add, Nat.zero_add]
  refine lv_astore (lv' := [(5, .ref q9), (0, .ref a_off), (1, .int x0), (2, .int x1), (3, .int x2), (4, .ref a_out)]) hx hb dL_spend_19 hl (by decide) rfl (fun ls hl => ?_)
  refine lv_iconst (v := nI 2) hx hb dL_spend_21 (by decide) ?_
  exact g_iret hx hb hr hlocks ws dL_spend_22 hS hP hD ⟨rfl, rfl⟩
set_option maxRecDepth 100000 in
theorem okL_publish (l : Launch) {D : va_G} {y : Nat → Nat} {e9 mi : Nat} {ws : va_W} {rm : Room} {p_off a_off : Nat} {a_out p_out : Nat} {fs : List Value} {P : Int32 → va_W → Prop} (hX : gZi l yX6_publish wsX6_publish rm D y e9 mi [.ref a_off] ws P) (hout : ∀ r u, P r u → ∃ o, u[p_out]? = some (a_out, eJ y 1 o)) (ho : ws[p_off]? = some (a_off, .inr (7, fs))) : gZi l yL_publish wsL_publish { frames := rm.frames + 1, cells := rm.cells, slots := rm.slots, locals := 8 + (3 + 11) + rm.locals } D y e9 mi [.ref a_off, .ref a_out] ws (fun r w => r = nI 0 ∧ ∃ v u o, P v u ∧ u[p_out]? = some (a_out, eJ y 1 o) ∧ w = u.set p_out (a_out, eJ y 1 (vf_upd o 0 (Int32.toInt64 v)))) := by
  refine g_metL (cc := cL_publish) (maxL := 3) (hh := [(0, 8, 11, 17)]) (by decide) rfl (Nat.le_of_ble_eq_true rfl) ?_
  intro p e s m below meth c A hx hb hml hr hts hown hlocks hE hP hD hS hA hZ htab ls hl
  have hown : s.vm.findClass RL = some m.cls := hown
  have hl : lv_has ls 3 [(0, .ref a_off), (1, .ref a_out)] := hl
  refine lv_aload_n hx hb dL_publish_0 rfl (lv_at hl 1 rfl) ?_
  refine lv_iconst (v := nI 0) hx hb dL_publish_1 (by decide) ?_
  refine lv_aload_n hx hb dL_publish_2 rfl (lv_at hl 0 rfl) ?_
  refine gcz_V_i (As := []) (rest := [.int (nI 0), .ref a_out]) hX ⟨hx, hb, hml, hown, hts⟩ (cwV 0 hts gL_publish_X6_publish rfl rfl rfl (by decide +kernel) ⟨Nat.le_refl _, Nat.le_refl _⟩) hE hZ hP hD hS hA _ ho rfl rfl rfl rfl hl.1 (Nat.le_of_ble_eq_true rfl) dL_publish_3 ⟨Nat.le_of_eq (Nat.zero_add _), Nat.le_of_eq (Nat.zero_add _)⟩ (fun r u H locs hP hD hS q => ?_)
  rw [Nat.zero_add, Nat.zero_add]
  obtain ⟨o, g⟩ := hout r u q
  refine lv_i2l (v := Int32.toInt64 r) hx hb dL_publish_6 rfl ?_
  refine g_last hx hb hE hP hD hS _ g (by decide) (by decide) dL_publish_7 (fun H locs hP hD hS => ?_)
  refine lv_goto (tgt := 14) hx hb dL_publish_8 (by decide) ?_
  refine lv_iconst (v := nI 0) hx hb dL_publish_14 (by decide) ?_
  exact g_iret hx hb hr hlocks _ dL_publish_15 hS hP hD ⟨rfl, r, u, o, q, g, rfl⟩
set_option maxRecDepth 100000 in
theorem exL_publish_1 (l : Launch) {D : va_G} {y : Nat → Nat} {e9 mi : Nat} {ws : va_W} {rm : Room} {p_off a_off : Nat} {a_out : Nat} {fs : List Value} (hX : gMX l yX6_publish wsX6_publish rm D y [.ref a_off] ws "java/lang/IllegalStateException") (ho : ws[p_off]? = some (a_off, .inr (7, fs))) : gZi l yL_publish wsL_publish { frames := rm.frames + 1, cells := rm.cells, slots := rm.slots, locals := 8 + (3 + 11) + rm.locals } D y e9 mi [.ref a_off, .ref a_out] ws (fun r w => r = nI 1 ∧ w = ws) := by
  refine g_metL (cc := cL_publish) (maxL := 3) (hh := [(0, 8, 11, 17)]) (by decide) rfl (Nat.le_of_ble_eq_true rfl) ?_
  intro p e s m below meth c A hx hb hml hr hts hown hlocks hE hP hD hS hA hZ htab ls hl
  have hown : s.vm.findClass RL = some m.cls := hown
  have hl : lv_has ls 3 [(0, .ref a_off), (1, .ref a_out)] := hl
  refine lv_aload_n hx hb dL_publish_0 rfl (lv_at hl 1 rfl) ?_
  refine lv_iconst (v := nI 0) hx hb dL_publish_1 (by decide) ?_
  refine lv_aload_n hx hb dL_publish_2 rfl (lv_at hl 0 rfl) ?_
  refine gcz_VX (As := []) (rest := [.int (nI 0), .ref a_out]) hX ⟨hx, hb, hml, hown, hts⟩ (cwV 0 hts gL_publish_X6_publish rfl rfl rfl (by decide +kernel) ⟨Nat.le_refl _, Nat.le_refl _⟩) hE hZ.1 hP hD hS hA _ ho rfl rfl rfl rfl hl.1 (Nat.le_of_ble_eq_true rfl) dL_publish_3 ⟨Nat.le_of_eq (Nat.zero_add _), Nat.le_of_eq (Nat.zero_add _)⟩ [] ⟨0, 8, 11, 17⟩ [] (htab.trans rfl) (fun _ h => absurd h List.not_mem_nil) (by decide) (by decide) (hts (.classLink RL 17 "java/lang/IllegalStateException") (by decide +kernel)) (va_Nw.use rfl (hE.2 _ hnest_72)) (fun q9 H locs hP hD hS => ?_)
  rw [Nat.zero_add, Nat.zero_add]
  refine lv_astore_n (lv' := [(2, .ref q9), (0, .ref a_off), (1, .ref a_out)]) hx hb dL_publish_11 rfl hl (by decide) rfl (fun ls hl => ?_)
  refine lv_iconst (v := nI 1) hx hb dL_publish_12 (by decide) ?_
  exact g_iret hx hb hr hlocks ws dL_publish_13 hS hP hD ⟨rfl, rfl⟩
set_option maxRecDepth 100000 in
theorem okL_fix (l : Launch) {D : va_G} {y : Nat → Nat} {e9 mi : Nat} {ws : va_W} {rm : Room} {p_off a_off : Nat} {a_out p_out : Nat} {fs : List Value} {x0 x1 x2 x3 : Int32} {P : Int32 → va_W → Prop} (hX : gZi l yX6_fix wsX6_fix rm D y e9 mi [.ref a_off, .int x0, .int x1, .int x2, .int x3] ws P) (hout : ∀ r u, P r u → ∃ o, u[p_out]? = some (a_out, eJ y 1 o)) (ho : ws[p_off]? = some (a_off, .inr (7, fs))) : gZi l yL_fix wsL_fix { frames := rm.frames + 1, cells := rm.cells, slots := rm.slots, locals := 8 + (6 + 11) + rm.locals } D y e9 mi [.ref a_off, .int x0, .int x1, .int x2, .int x3, .ref a_out] ws (fun r w => r = nI 0 ∧ ∃ v u o, P v u ∧ u[p_out]? = some (a_out, eJ y 1 o) ∧ w = u.set p_out (a_out, eJ y 1 (vf_upd o 0 (Int32.toInt64 v)))) := by
  refine g_metL (cc := cL_fix) (maxL := 7) (hh := [(0, 14, 17, 13), (0, 14, 21, 15), (0, 14, 25, 17)]) (by decide) rfl (Nat.le_of_ble_eq_true rfl) ?_
  intro p e s m below meth c A hx hb hml hr hts hown hlocks hE hP hD hS hA hZ htab ls hl
  have hown : s.vm.findClass RL = some m.cls := hown
  have hl : lv_has ls 7 [(0, .ref a_off), (1, .int x0), (2, .int x1), (3, .int x2), (4, .int x3), (5, .ref a_out)] := hl
  refine lv_aload hx hb dL_fix_0 (lv_at hl 5 rfl) ?_
  refine lv_iconst (v := nI 0) hx hb dL_fix_2 (by decide) ?_
  refine lv_aload_n hx hb dL_fix_3 rfl (lv_at hl 0 rfl) ?_
  refine lv_iload_n hx hb dL_fix_4 rfl (lv_at hl 1 rfl) ?_
  refine lv_iload_n hx hb dL_fix_5 rfl (lv_at hl 2 rfl) ?_
  refine lv_iload_n hx hb dL_fix_6 rfl (lv_at hl 3 rfl) ?_
  refine lv_iload hx hb dL_fix_7 (lv_at hl 4 rfl) ?_
  refine gcz_V_i (As := [.int x0, .int x1, .int x2, .int x3]) (rest := [.int (nI 0), .ref a_out]) hX ⟨hx, hb, hml, hown, hts⟩ (cwV 4 hts gL_fix_X6_fix rfl rfl rfl (by decide +kernel) ⟨Nat.le_refl _, Nat.le_refl _⟩) hE hZ hP hD hS hA _ ho rfl rfl rfl rfl hl.1 (Nat.le_of_ble_eq_true rfl) dL_fix_9 ⟨Nat.le_of_eq (Nat.zero_add _), Nat.le_of_eq (Nat.zero_add _)⟩ (fun r u H locs hP hD hS q => ?_)
  rw [Nat.zero_add, Nat.zero_add]
  obtain ⟨o, g⟩ := hout r u q
  refine lv_i2l (v := Int32.toInt64 r) hx hb dL_fix_12 rfl ?_
  refine g_last hx hb hE hP hD hS _ g (by decide) (by decide) dL_fix_13 (fun H locs hP hD hS => ?_)
  refine lv_goto (tgt := 29) hx hb dL_fix_14 (by decide) ?_
  refine lv_iconst (v := nI 0) hx hb dL_fix_29 (by decide) ?_
  exact g_iret hx hb hr hlocks _ dL_fix_30 hS hP hD ⟨rfl, r, u, o, q, g, rfl⟩
set_option maxRecDepth 100000 in
theorem exL_fix_1 (l : Launch) {D : va_G} {y : Nat → Nat} {e9 mi : Nat} {ws : va_W} {rm : Room} {p_off a_off : Nat} {a_out : Nat} {fs : List Value} {x0 x1 x2 x3 : Int32} (hX : gMX l yX6_fix wsX6_fix rm D y [.ref a_off, .int x0, .int x1, .int x2, .int x3] ws "java/lang/IndexOutOfBoundsException") (ho : ws[p_off]? = some (a_off, .inr (7, fs))) : gZi l yL_fix wsL_fix { frames := rm.frames + 1, cells := rm.cells, slots := rm.slots, locals := 8 + (6 + 11) + rm.locals } D y e9 mi [.ref a_off, .int x0, .int x1, .int x2, .int x3, .ref a_out] ws (fun r w => r = nI 1 ∧ w = ws) := by
  refine g_metL (cc := cL_fix) (maxL := 7) (hh := [(0, 14, 17, 13), (0, 14, 21, 15), (0, 14, 25, 17)]) (by decide) rfl (Nat.le_of_ble_eq_true rfl) ?_
  intro p e s m below meth c A hx hb hml hr hts hown hlocks hE hP hD hS hA hZ htab ls hl
  have hown : s.vm.findClass RL = some m.cls := hown
  have hl : lv_has ls 7 [(0, .ref a_off), (1, .int x0), (2, .int x1), (3, .int x2), (4, .int x3), (5, .ref a_out)] := hl
  refine lv_aload hx hb dL_fix_0 (lv_at hl 5 rfl) ?_
  refine lv_iconst (v := nI 0) hx hb dL_fix_2 (by decide) ?_
  refine lv_aload_n hx hb dL_fix_3 rfl (lv_at hl 0 rfl) ?_
  refine lv_iload_n hx hb dL_fix_4 rfl (lv_at hl 1 rfl) ?_
  refine lv_iload_n hx hb dL_fix_5 rfl (lv_at hl 2 rfl) ?_
  refine lv_iload_n hx hb dL_fix_6 rfl (lv_at hl 3 rfl) ?_
  refine lv_iload hx hb dL_fix_7 (lv_at hl 4 rfl) ?_
  refine gcz_VX (As := [.int x0, .int x1, .int x2, .int x3]) (rest := [.int (nI 0), .ref a_out]) hX ⟨hx, hb, hml, hown, hts⟩ (cwV 4 hts gL_fix_X6_fix rfl rfl rfl (by decide +kernel) ⟨Nat.le_refl _, Nat.le_refl _⟩) hE hZ.1 hP hD hS hA _ ho rfl rfl rfl rfl hl.1 (Nat.le_of_ble_eq_true rfl) dL_fix_9 ⟨Nat.le_of_eq (Nat.zero_add _), Nat.le_of_eq (Nat.zero_add _)⟩ [] ⟨0, 14, 17, 13⟩ [⟨0, 14, 21, 15⟩, ⟨0, 14, 25, 17⟩] (htab.trans rfl) (fun _ h => absurd h List.not_mem_nil) (by decide) (by decide) (hts (.classLink RL 13 "java/lang/IndexOutOfBoundsException") (by decide +kernel)) (va_Nw.use rfl (hE.2 _ hnest_137)) (fun q9 H locs hP hD hS => ?_)
  rw [Nat.zero_add, Nat.zero_add]
  refine lv_astore (lv' := [(6, .ref q9), (0, .ref a_off), (1, .int x0), (2, .int x1), (3, .int x2), (4, .int x3), (5, .ref a_out)]) hx hb dL_fix_17 hl (by decide) rfl (fun ls hl => ?_)
  refine lv_iconst (v := nI 1) hx hb dL_fix_19 (by decide) ?_
  exact g_iret hx hb hr hlocks ws dL_fix_20 hS hP hD ⟨rfl, rfl⟩
set_option maxRecDepth 100000 in
theorem exL_fix_2 (l : Launch) {D : va_G} {y : Nat → Nat} {e9 mi : Nat} {ws : va_W} {rm : Room} {p_off a_off : Nat} {a_out : Nat} {fs : List Value} {x0 x1 x2 x3 : Int32} (hX : gMX l yX6_fix wsX6_fix rm D y [.ref a_off, .int x0, .int x1, .int x2, .int x3] ws "java/lang/IllegalArgumentException") (ho : ws[p_off]? = some (a_off, .inr (7, fs))) : gZi l yL_fix wsL_fix { frames := rm.frames + 1, cells := rm.cells, slots := rm.slots, locals := 8 + (6 + 11) + rm.locals } D y e9 mi [.ref a_off, .int x0, .int x1, .int x2, .int x3, .ref a_out] ws (fun r w => r = nI 2 ∧ w = ws) := by
  refine g_metL (cc := cL_fix) (maxL := 7) (hh := [(0, 14, 17, 13), (0, 14, 21, 15), (0, 14, 25, 17)]) (by decide) rfl (Nat.le_of_ble_eq_true rfl) ?_
  intro p e s m below meth c A hx hb hml hr hts hown hlocks hE hP hD hS hA hZ htab ls hl
  have hown : s.vm.findClass RL = some m.cls := hown
  have hl : lv_has ls 7 [(0, .ref a_off), (1, .int x0), (2, .int x1), (3, .int x2), (4, .int x3), (5, .ref a_out)] := hl
  refine lv_aload hx hb dL_fix_0 (lv_at hl 5 rfl) ?_
  refine lv_iconst (v := nI 0) hx hb dL_fix_2 (by decide) ?_
  refine lv_aload_n hx hb dL_fix_3 rfl (lv_at hl 0 rfl) ?_
  refine lv_iload_n hx hb dL_fix_4 rfl (lv_at hl 1 rfl) ?_
  refine lv_iload_n hx hb dL_fix_5 rfl (lv_at hl 2 rfl) ?_
  refine lv_iload_n hx hb dL_fix_6 rfl (lv_at hl 3 rfl) ?_
  refine lv_iload hx hb dL_fix_7 (lv_at hl 4 rfl) ?_
  refine gcz_VX (As := [.int x0, .int x1, .int x2, .int x3]) (rest := [.int (nI 0), .ref a_out]) hX ⟨hx, hb, hml, hown, hts⟩ (cwV 4 hts gL_fix_X6_fix rfl rfl rfl (by decide +kernel) ⟨Nat.le_refl _, Nat.le_refl _⟩) hE hZ.1 hP hD hS hA _ ho rfl rfl rfl rfl hl.1 (Nat.le_of_ble_eq_true rfl) dL_fix_9 ⟨Nat.le_of_eq (Nat.zero_add _), Nat.le_of_eq (Nat.zero_add _)⟩ [⟨0, 14, 17, 13⟩] ⟨0, 14, 21, 15⟩ [⟨0, 14, 25, 17⟩] (htab.trans rfl) (List.forall_mem_cons.mpr ⟨Or.inr ⟨by decide, _, hts (.classLink RL 13 "java/lang/IndexOutOfBoundsException") (by decide +kernel), hZ.2.2.1⟩, (fun _ h => absurd h List.not_mem_nil)⟩) (by decide) (by decide) (hts (.classLink RL 15 "java/lang/IllegalArgumentException") (by decide +kernel)) (va_Nw.use rfl (hE.2 _ hnest_266)) (fun q9 H locs hP hD hS => ?_)
  rw [Nat.zero_add, Nat.zero_add]
  refine lv_astore (lv' := [(6, .ref q9), (0, .ref a_off), (1, .int x0), (2, .int x1), (3, .int x2), (4, .int x3), (5, .ref a_out)]) hx hb dL_fix_21 hl (by decide) rfl (fun ls hl => ?_)
  refine lv_iconst (v := nI 2) hx hb dL_fix_23 (by decide) ?_
  exact g_iret hx hb hr hlocks ws dL_fix_24 hS hP hD ⟨rfl, rfl⟩
set_option maxRecDepth 100000 in
theorem exL_fix_3 (l : Launch) {D : va_G} {y : Nat → Nat} {e9 mi : Nat} {ws : va_W} {rm : Room} {p_off a_off : Nat} {a_out : Nat} {fs : List Value} {x0 x1 x2 x3 : Int32} (hX : gMX l yX6_fix wsX6_fix rm D y [.ref a_off, .int x0, .int x1, .int x2, .int x3] ws "java/lang/IllegalStateException") (ho : ws[p_off]? = some (a_off, .inr (7, fs))) : gZi l yL_fix wsL_fix { frames := rm.frames + 1, cells := rm.cells, slots := rm.slots, locals := 8 + (6 + 11) + rm.locals } D y e9 mi [.ref a_off, .int x0, .int x1, .int x2, .int x3, .ref a_out] ws (fun r w => r = nI 3 ∧ w = ws) := by
  refine g_metL (cc := cL_fix) (maxL := 7) (hh := [(0, 14, 17, 13), (0, 14, 21, 15), (0, 14, 25, 17)]) (by decide) rfl (Nat.le_of_ble_eq_true rfl) ?_
  intro p e s m below meth c A hx hb hml hr hts hown hlocks hE hP hD hS hA hZ htab ls hl
  have hown : s.vm.findClass RL = some m.cls := hown
  have hl : lv_has ls 7 [(0, .ref a_off), (1, .int x0), (2, .int x1), (3, .int x2), (4, .int x3), (5, .ref a_out)] := hl
  refine lv_aload hx hb dL_fix_0 (lv_at hl 5 rfl) ?_
  refine lv_iconst (v := nI 0) hx hb dL_fix_2 (by decide) ?_
  refine lv_aload_n hx hb dL_fix_3 rfl (lv_at hl 0 rfl) ?_
  refine lv_iload_n hx hb dL_fix_4 rfl (lv_at hl 1 rfl) ?_
  refine lv_iload_n hx hb dL_fix_5 rfl (lv_at hl 2 rfl) ?_
  refine lv_iload_n hx hb dL_fix_6 rfl (lv_at hl 3 rfl) ?_
  refine lv_iload hx hb dL_fix_7 (lv_at hl 4 rfl) ?_
  refine gcz_VX (As := [.int x0, .int x1, .int x2, .int x3]) (rest := [.int (nI 0), .ref a_out]) hX ⟨hx, hb, hml, hown, hts⟩ (cwV 4 hts gL_fix_X6_fix rfl rfl rfl (by decide +kernel) ⟨Nat.le_refl _, Nat.le_refl _⟩) hE hZ.1 hP hD hS hA _ ho rfl rfl rfl rfl hl.1 (Nat.le_of_ble_eq_true rfl) dL_fix_9 ⟨Nat.le_of_eq (Nat.zero_add _), Nat.le_of_eq (Nat.zero_add _)⟩ [⟨0, 14, 17, 13⟩, ⟨0, 14, 21, 15⟩] ⟨0, 14, 25, 17⟩ [] (htab.trans rfl) (List.forall_mem_cons.mpr ⟨Or.inr ⟨by decide, _, hts (.classLink RL 13 "java/lang/IndexOutOfBoundsException") (by decide +kernel), hZ.2.2.2.1⟩, (List.forall_mem_cons.mpr ⟨Or.inr ⟨by decide, _, hts (.classLink RL 15 "java/lang/IllegalArgumentException") (by decide +kernel), hZ.2.2.2.2⟩, (fun _ h => absurd h List.not_mem_nil)⟩)⟩) (by decide) (by decide) (hts (.classLink RL 17 "java/lang/IllegalStateException") (by decide +kernel)) (va_Nw.use rfl (hE.2 _ hnest_72)) (fun q9 H locs hP hD hS => ?_)
  rw [Nat.zero_add, Nat.zero_add]
  refine lv_astore (lv' := [(6, .ref q9), (0, .ref a_off), (1, .int x0), (2, .int x1), (3, .int x2), (4, .int x3), (5, .ref a_out)]) hx hb dL_fix_25 hl (by decide) rfl (fun ls hl => ?_)
  refine lv_iconst (v := nI 3) hx hb dL_fix_27 (by decide) ?_
  exact g_iret hx hb hr hlocks ws dL_fix_28 hS hP hD ⟨rfl, rfl⟩
set_option maxRecDepth 100000 in
theorem okL_contract (l : Launch) {D : va_G} {y : Nat → Nat} {e9 mi : Nat} {ws : va_W} {rm : Room} {p_off a_off : Nat} {a_out p_out : Nat} {fs : List Value} {x0 x1 x2 x3 : Int32} {P : Int32 → va_W → Prop} (hX : gZi l yX6_contract wsX6_contract rm D y e9 mi [.ref a_off, .int x0, .int x1, .int x2, .int x3] ws P) (hout : ∀ r u, P r u → ∃ o, u[p_out]? = some (a_out, eJ y 1 o)) (ho : ws[p_off]? = some (a_off, .inr (7, fs))) : gZi l yL_contract wsL_contract { frames := rm.frames + 1, cells := rm.cells, slots := rm.slots, locals := 8 + (6 + 11) + rm.locals } D y e9 mi [.ref a_off, .int x0, .int x1, .int x2, .int x3, .ref a_out] ws (fun r w => r = nI 0 ∧ ∃ v u o, P v u ∧ u[p_out]? = some (a_out, eJ y 1 o) ∧ w = u.set p_out (a_out, eJ y 1 (vf_upd o 0 (Int32.toInt64 v)))) := by
  refine g_metL (cc := cL_contract) (maxL := 7) (hh := [(0, 14, 17, 15), (0, 14, 21, 17)]) (by decide) rfl (Nat.le_of_ble_eq_true rfl) ?_
  intro p e s m below meth c A hx hb hml hr hts hown hlocks hE hP hD hS hA hZ htab ls hl
  have hown : s.vm.findClass RL = some m.cls := hown
  have hl : lv_has ls 7 [(0, .ref a_off), (1, .int x0), (2, .int x1), (3, .int x2), (4, .int x3), (5, .ref a_out)] := hl
  refine lv_aload hx hb dL_contract_0 (lv_at hl 5 rfl) ?_
  refine lv_iconst (v := nI 0) hx hb dL_contract_2 (by decide) ?_
  refine lv_aload_n hx hb dL_contract_3 rfl (lv_at hl 0 rfl) ?_
  refine lv_iload_n hx hb dL_contract_4 rfl (lv_at hl 1 rfl) ?_
  refine lv_iload_n hx hb dL_contract_5 rfl (lv_at hl 2 rfl) ?_
  refine lv_iload_n hx hb dL_contract_6 rfl (lv_at hl 3 rfl) ?_
  refine lv_iload hx hb dL_contract_7 (lv_at hl 4 rfl) ?_
  refine gcz_V_i (As := [.int x0, .int x1, .int x2, .int x3]) (rest := [.int (nI 0), .ref a_out]) hX ⟨hx, hb, hml, hown, hts⟩ (cwV 4 hts gL_contract_X6_contract rfl rfl rfl (by decide +kernel) ⟨Nat.le_refl _, Nat.le_refl _⟩) hE hZ hP hD hS hA _ ho rfl rfl rfl rfl hl.1 (Nat.le_of_ble_eq_true rfl) dL_contract_9 ⟨Nat.le_of_eq (Nat.zero_add _), Nat.le_of_eq (Nat.zero_add _)⟩ (fun r u H locs hP hD hS q => ?_)
  rw [Nat.zero_add, Nat.zero_add]
  obtain ⟨o, g⟩ := hout r u q
  refine lv_i2l (v := Int32.toInt64 r) hx hb dL_contract_12 rfl ?_
  refine g_last hx hb hE hP hD hS _ g (by decide) (by decide) dL_contract_13 (fun H locs hP hD hS => ?_)
  refine lv_goto (tgt := 25) hx hb dL_contract_14 (by decide) ?_
  refine lv_iconst (v := nI 0) hx hb dL_contract_25 (by decide) ?_
  exact g_iret hx hb hr hlocks _ dL_contract_26 hS hP hD ⟨rfl, r, u, o, q, g, rfl⟩
set_option maxRecDepth 100000 in
theorem exL_contract_1 (l : Launch) {D : va_G} {y : Nat → Nat} {e9 mi : Nat} {ws : va_W} {rm : Room} {p_off a_off : Nat} {a_out : Nat} {fs : List Value} {x0 x1 x2 x3 : Int32} (hX : gMX l yX6_contract wsX6_contract rm D y [.ref a_off, .int x0, .int x1, .int x2, .int x3] ws "java/lang/IllegalArgumentException") (ho : ws[p_off]? = some (a_off, .inr (7, fs))) : gZi l yL_contract wsL_contract { frames := rm.frames + 1, cells := rm.cells, slots := rm.slots, locals := 8 + (6 + 11) + rm.locals } D y e9 mi [.ref a_off, .int x0, .int x1, .int x2, .int x3, .ref a_out] ws (fun r w => r = nI 1 ∧ w = ws) := by
  refine g_metL (cc := cL_contract) (maxL := 7) (hh := [(0, 14, 17, 15), (0, 14, 21, 17)]) (by decide) rfl (Nat.le_of_ble_eq_true rfl) ?_
  intro p e s m below meth c A hx hb hml hr hts hown hlocks hE hP hD hS hA hZ htab ls hl
  have hown : s.vm.findClass RL = some m.cls := hown
  have hl : lv_has ls 7 [(0, .ref a_off), (1, .int x0), (2, .int x1), (3, .int x2), (4, .int x3), (5, .ref a_out)] := hl
  refine lv_aload hx hb dL_contract_0 (lv_at hl 5 rfl) ?_
  refine lv_iconst (v := nI 0) hx hb dL_contract_2 (by decide) ?_
  refine lv_aload_n hx hb dL_contract_3 rfl (lv_at hl 0 rfl) ?_
  refine lv_iload_n hx hb dL_contract_4 rfl (lv_at hl 1 rfl) ?_
  refine lv_iload_n hx hb dL_contract_5 rfl (lv_at hl 2 rfl) ?_
  refine lv_iload_n hx hb dL_contract_6 rfl (lv_at hl 3 rfl) ?_
  refine lv_iload hx hb dL_contract_7 (lv_at hl 4 rfl) ?_
  refine gcz_VX (As := [.int x0, .int x1, .int x2, .int x3]) (rest := [.int (nI 0), .ref a_out]) hX ⟨hx, hb, hml, hown, hts⟩ (cwV 4 hts gL_contract_X6_contract rfl rfl rfl (by decide +kernel) ⟨Nat.le_refl _, Nat.le_refl _⟩) hE hZ.1 hP hD hS hA _ ho rfl rfl rfl rfl hl.1 (Nat.le_of_ble_eq_true rfl) dL_contract_9 ⟨Nat.le_of_eq (Nat.zero_add _), Nat.le_of_eq (Nat.zero_add _)⟩ [] ⟨0, 14, 17, 15⟩ [⟨0, 14, 21, 17⟩] (htab.trans rfl) (fun _ h => absurd h List.not_mem_nil) (by decide) (by decide) (hts (.classLink RL 15 "java/lang/IllegalArgumentException") (by decide +kernel)) (va_Nw.use rfl (hE.2 _ hnest_266)) (fun q9 H locs hP hD hS => ?_)
  rw [Nat.zero_add, Nat.zero_add]
  refine lv_astore (lv' := [(6, .ref q9), (0, .ref a_off), (1, .int x0), (2, .int x1), (3, .int x2), (4, .int x3), (5, .ref a_out)]) hx hb dL_contract_17 hl (by decide) rfl (fun ls hl => ?_)
  refine lv_iconst (v := nI 1) hx hb dL_contract_19 (by decide) ?_
  exact g_iret hx hb hr hlocks ws dL_contract_20 hS hP hD ⟨rfl, rfl⟩
set_option maxRecDepth 100000 in
theorem exL_contract_2 (l : Launch) {D : va_G} {y : Nat → Nat} {e9 mi : Nat} {ws : va_W} {rm : Room} {p_off a_off : Nat} {a_out : Nat} {fs : List Value} {x0 x1 x2 x3 : Int32} (hX : gMX l yX6_contract wsX6_contract rm D y [.ref a_off, .int x0, .int x1, .int x2, .int x3] ws "java/lang/IllegalStateException") (ho : ws[p_off]? = some (a_off, .inr (7, fs))) : gZi l yL_contract wsL_contract { frames := rm.frames + 1, cells := rm.cells, slots := rm.slots, locals := 8 + (6 + 11) + rm.locals } D y e9 mi [.ref a_off, .int x0, .int x1, .int x2, .int x3, .ref a_out] ws (fun r w => r = nI 2 ∧ w = ws) := by
  refine g_metL (cc := cL_contract) (maxL := 7) (hh := [(0, 14, 17, 15), (0, 14, 21, 17)]) (by decide) rfl (Nat.le_of_ble_eq_true rfl) ?_
  intro p e s m below meth c A hx hb hml hr hts hown hlocks hE hP hD hS hA hZ htab ls hl
  have hown : s.vm.findClass RL = some m.cls := hown
  have hl : lv_has ls 7 [(0, .ref a_off), (1, .int x0), (2, .int x1), (3, .int x2), (4, .int x3), (5, .ref a_out)] := hl
  refine lv_aload hx hb dL_contract_0 (lv_at hl 5 rfl) ?_
  refine lv_iconst (v := nI 0) hx hb dL_contract_2 (by decide) ?_
  refine lv_aload_n hx hb dL_contract_3 rfl (lv_at hl 0 rfl) ?_
  refine lv_iload_n hx hb dL_contract_4 rfl (lv_at hl 1 rfl) ?_
  refine lv_iload_n hx hb dL_contract_5 rfl (lv_at hl 2 rfl) ?_
  refine lv_iload_n hx hb dL_contract_6 rfl (lv_at hl 3 rfl) ?_
  refine lv_iload hx hb dL_contract_7 (lv_at hl 4 rfl) ?_
  refine gcz_VX (As := [.int x0, .int x1, .int x2, .int x3]) (rest := [.int (nI 0), .ref a_out]) hX ⟨hx, hb, hml, hown, hts⟩ (cwV 4 hts gL_contract_X6_contract rfl rfl rfl (by decide +kernel) ⟨Nat.le_refl _, Nat.le_refl _⟩) hE hZ.1 hP hD hS hA _ ho rfl rfl rfl rfl hl.1 (Nat.le_of_ble_eq_true rfl) dL_contract_9 ⟨Nat.le_of_eq (Nat.zero_add _), Nat.le_of_eq (Nat.zero_add _)⟩ [⟨0, 14, 17, 15⟩] ⟨0, 14, 21, 17⟩ [] (htab.trans rfl) (List.forall_mem_cons.mpr ⟨Or.inr ⟨by decide, _, hts (.classLink RL 15 "java/lang/IllegalArgumentException") (by decide +kernel), hZ.2.2.2.2⟩, (fun _ h => absurd h List.not_mem_nil)⟩) (by decide) (by decide) (hts (.classLink RL 17 "java/lang/IllegalStateException") (by decide +kernel)) (va_Nw.use rfl (hE.2 _ hnest_72)) (fun q9 H locs hP hD hS => ?_)
  rw [Nat.zero_add, Nat.zero_add]
  refine lv_astore (lv' := [(6, .ref q9), (0, .ref a_off), (1, .int x0), (2, .int x1), (3, .int x2), (4, .int x3), (5, .ref a_out)]) hx hb dL_contract_21 hl (by decide) rfl (fun ls hl => ?_)
  refine lv_iconst (v := nI 2) hx hb dL_contract_23 (by decide) ?_
  exact g_iret hx hb hr hlocks ws dL_contract_24 hS hP hD ⟨rfl, rfl⟩
set_option maxRecDepth 100000 in
theorem okL_price (l : Launch) {D : va_G} {y : Nat → Nat} {e9 mi : Nat} {ws : va_W} {rm : Room} {p_off a_off : Nat} {a_out p_out : Nat} {fs : List Value} {x0 x1 x2 : Int32} {P : UInt64 → va_W → Prop} (hX : gZd l yX6_price wsX6_price rm D y e9 mi [.ref a_off, .int x0, .int x1, .int x2] ws P) (hout : ∀ r u, P r u → ∃ o, u[p_out]? = some (a_out, eD y 1 o)) (ho : ws[p_off]? = some (a_off, .inr (7, fs))) : gZi l yL_price wsL_price { frames := rm.frames + 1, cells := rm.cells, slots := rm.slots, locals := 8 + (4 + 11) + rm.locals } D y e9 mi [.ref a_off, .int x0, .int x1, .int x2, .ref a_out] ws (fun r w => r = nI 0 ∧ ∃ v u o, P v u ∧ u[p_out]? = some (a_out, eD y 1 o) ∧ w = u.set p_out (a_out, eD y 1 (vf_upd o 0 v))) := by
  refine g_metL (cc := cL_price) (maxL := 6) (hh := [(0, 11, 14, 13)]) (by decide) rfl (Nat.le_of_ble_eq_true rfl) ?_
  intro p e s m below meth c A hx hb hml hr hts hown hlocks hE hP hD hS hA hZ htab ls hl
  have hown : s.vm.findClass RL = some m.cls := hown
  have hl : lv_has ls 6 [(0, .ref a_off), (1, .int x0), (2, .int x1), (3, .int x2), (4, .ref a_out)] := hl
  refine lv_aload hx hb dL_price_0 (lv_at hl 4 rfl) ?_
  refine lv_iconst (v := nI 0) hx hb dL_price_2 (by decide) ?_
  refine lv_aload_n hx hb dL_price_3 rfl (lv_at hl 0 rfl) ?_
  refine lv_iload_n hx hb dL_price_4 rfl (lv_at hl 1 rfl) ?_
  refine lv_iload_n hx hb dL_price_5 rfl (lv_at hl 2 rfl) ?_
  refine lv_iload_n hx hb dL_price_6 rfl (lv_at hl 3 rfl) ?_
  refine gcz_V_d (As := [.int x0, .int x1, .int x2]) (rest := [.int (nI 0), .ref a_out]) hX ⟨hx, hb, hml, hown, hts⟩ (cwV 3 hts gL_price_X6_price rfl rfl rfl (by decide +kernel) ⟨Nat.le_refl _, Nat.le_refl _⟩) hE hZ hP hD hS hA _ ho rfl rfl rfl rfl hl.1 (Nat.le_of_ble_eq_true rfl) dL_price_7 ⟨Nat.le_of_eq (Nat.zero_add _), Nat.le_of_eq (Nat.zero_add _)⟩ (fun r u H locs hP hD hS q => ?_)
  rw [Nat.zero_add, Nat.zero_add]
  obtain ⟨o, g⟩ := hout r u q
  refine g_dast hx hb hE hP hD hS _ g (by decide) (by decide) dL_price_10 (fun H locs hP hD hS => ?_)
  refine lv_goto (tgt := 18) hx hb dL_price_11 (by decide) ?_
  refine lv_iconst (v := nI 0) hx hb dL_price_18 (by decide) ?_
  exact g_iret hx hb hr hlocks _ dL_price_19 hS hP hD ⟨rfl, r, u, o, q, g, rfl⟩
set_option maxRecDepth 100000 in
theorem exL_price_1 (l : Launch) {D : va_G} {y : Nat → Nat} {e9 mi : Nat} {ws : va_W} {rm : Room} {p_off a_off : Nat} {a_out : Nat} {fs : List Value} {x0 x1 x2 : Int32} (hX : gMX l yX6_price wsX6_price rm D y [.ref a_off, .int x0, .int x1, .int x2] ws "java/lang/IndexOutOfBoundsException") (ho : ws[p_off]? = some (a_off, .inr (7, fs))) : gZi l yL_price wsL_price { frames := rm.frames + 1, cells := rm.cells, slots := rm.slots, locals := 8 + (4 + 11) + rm.locals } D y e9 mi [.ref a_off, .int x0, .int x1, .int x2, .ref a_out] ws (fun r w => r = nI 1 ∧ w = ws) := by
  refine g_metL (cc := cL_price) (maxL := 6) (hh := [(0, 11, 14, 13)]) (by decide) rfl (Nat.le_of_ble_eq_true rfl) ?_
  intro p e s m below meth c A hx hb hml hr hts hown hlocks hE hP hD hS hA hZ htab ls hl
  have hown : s.vm.findClass RL = some m.cls := hown
  have hl : lv_has ls 6 [(0, .ref a_off), (1, .int x0), (2, .int x1), (3, .int x2), (4, .ref a_out)] := hl
  refine lv_aload hx hb dL_price_0 (lv_at hl 4 rfl) ?_
  refine lv_iconst (v := nI 0) hx hb dL_price_2 (by decide) ?_
  refine lv_aload_n hx hb dL_price_3 rfl (lv_at hl 0 rfl) ?_
  refine lv_iload_n hx hb dL_price_4 rfl (lv_at hl 1 rfl) ?_
  refine lv_iload_n hx hb dL_price_5 rfl (lv_at hl 2 rfl) ?_
  refine lv_iload_n hx hb dL_price_6 rfl (lv_at hl 3 rfl) ?_
  refine gcz_VX (As := [.int x0, .int x1, .int x2]) (rest := [.int (nI 0), .ref a_out]) hX ⟨hx, hb, hml, hown, hts⟩ (cwV 3 hts gL_price_X6_price rfl rfl rfl (by decide +kernel) ⟨Nat.le_refl _, Nat.le_refl _⟩) hE hZ.1 hP hD hS hA _ ho rfl rfl rfl rfl hl.1 (Nat.le_of_ble_eq_true rfl) dL_price_7 ⟨Nat.le_of_eq (Nat.zero_add _), Nat.le_of_eq (Nat.zero_add _)⟩ [] ⟨0, 11, 14, 13⟩ [] (htab.trans rfl) (fun _ h => absurd h List.not_mem_nil) (by decide) (by decide) (hts (.classLink RL 13 "java/lang/IndexOutOfBoundsException") (by decide +kernel)) (va_Nw.use rfl (hE.2 _ hnest_137)) (fun q9 H locs hP hD hS => ?_)
  rw [Nat.zero_add, Nat.zero_add]
  refine lv_astore (lv' := [(5, .ref q9), (0, .ref a_off), (1, .int x0), (2, .int x1), (3, .int x2), (4, .ref a_out)]) hx hb dL_price_14 hl (by decide) rfl (fun ls hl => ?_)
  refine lv_iconst (v := nI 1) hx hb dL_price_16 (by decide) ?_
  exact g_iret hx hb hr hlocks ws dL_price_17 hS hP hD ⟨rfl, rfl⟩
set_option maxRecDepth 100000 in
theorem okL_isMatched (l : Launch) {D : va_G} {y : Nat → Nat} {e9 mi : Nat} {ws : va_W} {rm : Room} {p_off a_off : Nat} {a_out p_out : Nat} {fs : List Value} {x0 x1 x2 : Int32} {P : Int32 → va_W → Prop} (hX : gZi l yX6_isMatched wsX6_isMatched rm D y e9 mi [.ref a_off, .int x0, .int x1, .int x2] ws P) (hout : ∀ r u, P r u → ∃ o, u[p_out]? = some (a_out, eJ y 1 o)) (hbo : ∀ r u, P r u → ∃ b : Bool, r = gb b) (ho : ws[p_off]? = some (a_off, .inr (7, fs))) : gZi l yL_isMatched wsL_isMatched { frames := rm.frames + 1, cells := rm.cells, slots := rm.slots, locals := 8 + (4 + 11) + rm.locals } D y e9 mi [.ref a_off, .int x0, .int x1, .int x2, .ref a_out] ws (fun r w => r = nI 0 ∧ ∃ v u o, P v u ∧ u[p_out]? = some (a_out, eJ y 1 o) ∧ w = u.set p_out (a_out, eJ y 1 (vf_upd o 0 (cvb v)))) := by
  refine g_metL (cc := cL_isMatched) (maxL := 6) (hh := [(0, 19, 22, 13)]) (by decide) rfl (Nat.le_of_ble_eq_true rfl) ?_
  intro p e s m below meth c A hx hb hml hr hts hown hlocks hE hP hD hS hA hZ htab ls hl
  have hown : s.vm.findClass RL = some m.cls := hown
  have hl : lv_has ls 6 [(0, .ref a_off), (1, .int x0), (2, .int x1), (3, .int x2), (4, .ref a_out)] := hl
  refine lv_aload hx hb dL_isMatched_0 (lv_at hl 4 rfl) ?_
  refine lv_iconst (v := nI 0) hx hb dL_isMatched_2 (by decide) ?_
  refine lv_aload_n hx hb dL_isMatched_3 rfl (lv_at hl 0 rfl) ?_
  refine lv_iload_n hx hb dL_isMatched_4 rfl (lv_at hl 1 rfl) ?_
  refine lv_iload_n hx hb dL_isMatched_5 rfl (lv_at hl 2 rfl) ?_
  refine lv_iload_n hx hb dL_isMatched_6 rfl (lv_at hl 3 rfl) ?_
  refine gcz_V_i (As := [.int x0, .int x1, .int x2]) (rest := [.int (nI 0), .ref a_out]) hX ⟨hx, hb, hml, hown, hts⟩ (cwV 3 hts gL_isMatched_X6_isMatched rfl rfl rfl (by decide +kernel) ⟨Nat.le_refl _, Nat.le_refl _⟩) hE hZ hP hD hS hA _ ho rfl rfl rfl rfl hl.1 (Nat.le_of_ble_eq_true rfl) dL_isMatched_7 ⟨Nat.le_of_eq (Nat.zero_add _), Nat.le_of_eq (Nat.zero_add _)⟩ (fun r u H locs hP hD hS q => ?_)
  rw [Nat.zero_add, Nat.zero_add]
  obtain ⟨o, g⟩ := hout r u q
  obtain ⟨b, rfl⟩ := hbo r u q
  refine g_bif_eq (tgt := 17) hx hb dL_isMatched_10 (by decide) (fun hbb => ?_) (fun hbb => ?_) <;> subst hbb
  · refine lv_lconst (v := cvb (gb false)) hx hb dL_isMatched_17 (by decide) ?_
    refine g_last hx hb hE hP hD hS _ g (by decide) (by decide) dL_isMatched_18 (fun H locs hP hD hS => ?_)
    refine lv_goto (tgt := 26) hx hb dL_isMatched_19 (by decide) ?_
    refine lv_iconst (v := nI 0) hx hb dL_isMatched_26 (by decide) ?_
    exact g_iret hx hb hr hlocks _ dL_isMatched_27 hS hP hD ⟨rfl, _, u, o, q, g, rfl⟩
  · refine lv_lconst (v := cvb (gb true)) hx hb dL_isMatched_13 (by decide) ?_
    refine lv_goto (tgt := 18) hx hb dL_isMatched_14 (by decide) ?_
    refine g_last hx hb hE hP hD hS _ g (by decide) (by decide) dL_isMatched_18 (fun H locs hP hD hS => ?_)
    refine lv_goto (tgt := 26) hx hb dL_isMatched_19 (by decide) ?_
    refine lv_iconst (v := nI 0) hx hb dL_isMatched_26 (by decide) ?_
    exact g_iret hx hb hr hlocks _ dL_isMatched_27 hS hP hD ⟨rfl, _, u, o, q, g, rfl⟩
set_option maxRecDepth 100000 in
theorem exL_isMatched_1 (l : Launch) {D : va_G} {y : Nat → Nat} {e9 mi : Nat} {ws : va_W} {rm : Room} {p_off a_off : Nat} {a_out : Nat} {fs : List Value} {x0 x1 x2 : Int32} (hX : gMX l yX6_isMatched wsX6_isMatched rm D y [.ref a_off, .int x0, .int x1, .int x2] ws "java/lang/IndexOutOfBoundsException") (ho : ws[p_off]? = some (a_off, .inr (7, fs))) : gZi l yL_isMatched wsL_isMatched { frames := rm.frames + 1, cells := rm.cells, slots := rm.slots, locals := 8 + (4 + 11) + rm.locals } D y e9 mi [.ref a_off, .int x0, .int x1, .int x2, .ref a_out] ws (fun r w => r = nI 1 ∧ w = ws) := by
  refine g_metL (cc := cL_isMatched) (maxL := 6) (hh := [(0, 19, 22, 13)]) (by decide) rfl (Nat.le_of_ble_eq_true rfl) ?_
  intro p e s m below meth c A hx hb hml hr hts hown hlocks hE hP hD hS hA hZ htab ls hl
  have hown : s.vm.findClass RL = some m.cls := hown
  have hl : lv_has ls 6 [(0, .ref a_off), (1, .int x0), (2, .int x1), (3, .int x2), (4, .ref a_out)] := hl
  refine lv_aload hx hb dL_isMatched_0 (lv_at hl 4 rfl) ?_
  refine lv_iconst (v := nI 0) hx hb dL_isMatched_2 (by decide) ?_
  refine lv_aload_n hx hb dL_isMatched_3 rfl (lv_at hl 0 rfl) ?_
  refine lv_iload_n hx hb dL_isMatched_4 rfl (lv_at hl 1 rfl) ?_
  refine lv_iload_n hx hb dL_isMatched_5 rfl (lv_at hl 2 rfl) ?_
  refine lv_iload_n hx hb dL_isMatched_6 rfl (lv_at hl 3 rfl) ?_
  refine gcz_VX (As := [.int x0, .int x1, .int x2]) (rest := [.int (nI 0), .ref a_out]) hX ⟨hx, hb, hml, hown, hts⟩ (cwV 3 hts gL_isMatched_X6_isMatched rfl rfl rfl (by decide +kernel) ⟨Nat.le_refl _, Nat.le_refl _⟩) hE hZ.1 hP hD hS hA _ ho rfl rfl rfl rfl hl.1 (Nat.le_of_ble_eq_true rfl) dL_isMatched_7 ⟨Nat.le_of_eq (Nat.zero_add _), Nat.le_of_eq (Nat.zero_add _)⟩ [] ⟨0, 19, 22, 13⟩ [] (htab.trans rfl) (fun _ h => absurd h List.not_mem_nil) (by decide) (by decide) (hts (.classLink RL 13 "java/lang/IndexOutOfBoundsException") (by decide +kernel)) (va_Nw.use rfl (hE.2 _ hnest_137)) (fun q9 H locs hP hD hS => ?_)
  rw [Nat.zero_add, Nat.zero_add]
  refine lv_astore (lv' := [(5, .ref q9), (0, .ref a_off), (1, .int x0), (2, .int x1), (3, .int x2), (4, .ref a_out)]) hx hb dL_isMatched_22 hl (by decide) rfl (fun ls hl => ?_)
  refine lv_iconst (v := nI 1) hx hb dL_isMatched_24 (by decide) ?_
  exact g_iret hx hb hr hlocks ws dL_isMatched_25 hS hP hD ⟨rfl, rfl⟩
set_option maxRecDepth 100000 in
theorem okL_relative (l : Launch) {D : va_G} {y : Nat → Nat} {e9 mi : Nat} {ws : va_W} {rm : Room} {p_off a_off : Nat} {a_out p_out : Nat} {fs : List Value} {x0 x1 : Int32} {P : UInt64 → va_W → Prop} (hX : gZd l yX6_relative wsX6_relative rm D y e9 mi [.ref a_off, .int x0, .int x1] ws P) (hout : ∀ r u, P r u → ∃ o, u[p_out]? = some (a_out, eD y 1 o)) (ho : ws[p_off]? = some (a_off, .inr (7, fs))) : gZi l yL_relative wsL_relative { frames := rm.frames + 1, cells := rm.cells, slots := rm.slots, locals := 8 + (3 + 11) + rm.locals } D y e9 mi [.ref a_off, .int x0, .int x1, .ref a_out] ws (fun r w => r = nI 0 ∧ ∃ v u o, P v u ∧ u[p_out]? = some (a_out, eD y 1 o) ∧ w = u.set p_out (a_out, eD y 1 (vf_upd o 0 v))) := by
  refine g_metL (cc := cL_relative) (maxL := 5) (hh := [(0, 9, 12, 13)]) (by decide) rfl (Nat.le_of_ble_eq_true rfl) ?_
  intro p e s m below meth c A hx hb hml hr hts hown hlocks hE hP hD hS hA hZ htab ls hl
  have hown : s.vm.findClass RL = some m.cls := hown
  have hl : lv_has ls 5 [(0, .ref a_off), (1, .int x0), (2, .int x1), (3, .ref a_out)] := hl
  refine lv_aload_n hx hb dL_relative_0 rfl (lv_at hl 3 rfl) ?_
  refine lv_iconst (v := nI 0) hx hb dL_relative_1 (by decide) ?_
  refine lv_aload_n hx hb dL_relative_2 rfl (lv_at hl 0 rfl) ?_
  refine lv_iload_n hx hb dL_relative_3 rfl (lv_at hl 1 rfl) ?_
  refine lv_iload_n hx hb dL_relative_4 rfl (lv_at hl 2 rfl) ?_
  refine gcz_V_d (As := [.int x0, .int x1]) (rest := [.int (nI 0), .ref a_out]) hX ⟨hx, hb, hml, hown, hts⟩ (cwV 2 hts gL_relative_X6_relative rfl rfl rfl (by decide +kernel) ⟨Nat.le_refl _, Nat.le_refl _⟩) hE hZ hP hD hS hA _ ho rfl rfl rfl rfl hl.1 (Nat.le_of_ble_eq_true rfl) dL_relative_5 ⟨Nat.le_of_eq (Nat.zero_add _), Nat.le_of_eq (Nat.zero_add _)⟩ (fun r u H locs hP hD hS q => ?_)
  rw [Nat.zero_add, Nat.zero_add]
  obtain ⟨o, g⟩ := hout r u q
  refine g_dast hx hb hE hP hD hS _ g (by decide) (by decide) dL_relative_8 (fun H locs hP hD hS => ?_)
  refine lv_goto (tgt := 16) hx hb dL_relative_9 (by decide) ?_
  refine lv_iconst (v := nI 0) hx hb dL_relative_16 (by decide) ?_
  exact g_iret hx hb hr hlocks _ dL_relative_17 hS hP hD ⟨rfl, r, u, o, q, g, rfl⟩
set_option maxRecDepth 100000 in
theorem exL_relative_1 (l : Launch) {D : va_G} {y : Nat → Nat} {e9 mi : Nat} {ws : va_W} {rm : Room} {p_off a_off : Nat} {a_out : Nat} {fs : List Value} {x0 x1 : Int32} (hX : gMX l yX6_relative wsX6_relative rm D y [.ref a_off, .int x0, .int x1] ws "java/lang/IndexOutOfBoundsException") (ho : ws[p_off]? = some (a_off, .inr (7, fs))) : gZi l yL_relative wsL_relative { frames := rm.frames + 1, cells := rm.cells, slots := rm.slots, locals := 8 + (3 + 11) + rm.locals } D y e9 mi [.ref a_off, .int x0, .int x1, .ref a_out] ws (fun r w => r = nI 1 ∧ w = ws) := by
  refine g_metL (cc := cL_relative) (maxL := 5) (hh := [(0, 9, 12, 13)]) (by decide) rfl (Nat.le_of_ble_eq_true rfl) ?_
  intro p e s m below meth c A hx hb hml hr hts hown hlocks hE hP hD hS hA hZ htab ls hl
  have hown : s.vm.findClass RL = some m.cls := hown
  have hl : lv_has ls 5 [(0, .ref a_off), (1, .int x0), (2, .int x1), (3, .ref a_out)] := hl
  refine lv_aload_n hx hb dL_relative_0 rfl (lv_at hl 3 rfl) ?_
  refine lv_iconst (v := nI 0) hx hb dL_relative_1 (by decide) ?_
  refine lv_aload_n hx hb dL_relative_2 rfl (lv_at hl 0 rfl) ?_
  refine lv_iload_n hx hb dL_relative_3 rfl (lv_at hl 1 rfl) ?_
  refine lv_iload_n hx hb dL_relative_4 rfl (lv_at hl 2 rfl) ?_
  refine gcz_VX (As := [.int x0, .int x1]) (rest := [.int (nI 0), .ref a_out]) hX ⟨hx, hb, hml, hown, hts⟩ (cwV 2 hts gL_relative_X6_relative rfl rfl rfl (by decide +kernel) ⟨Nat.le_refl _, Nat.le_refl _⟩) hE hZ.1 hP hD hS hA _ ho rfl rfl rfl rfl hl.1 (Nat.le_of_ble_eq_true rfl) dL_relative_5 ⟨Nat.le_of_eq (Nat.zero_add _), Nat.le_of_eq (Nat.zero_add _)⟩ [] ⟨0, 9, 12, 13⟩ [] (htab.trans rfl) (fun _ h => absurd h List.not_mem_nil) (by decide) (by decide) (hts (.classLink RL 13 "java/lang/IndexOutOfBoundsException") (by decide +kernel)) (va_Nw.use rfl (hE.2 _ hnest_137)) (fun q9 H locs hP hD hS => ?_)
  rw [Nat.zero_add, Nat.zero_add]
  refine lv_astore (lv' := [(4, .ref q9), (0, .ref a_off), (1, .int x0), (2, .int x1), (3, .ref a_out)]) hx hb dL_relative_12 hl (by decide) rfl (fun ls hl => ?_)
  refine lv_iconst (v := nI 1) hx hb dL_relative_14 (by decide) ?_
  exact g_iret hx hb hr hlocks ws dL_relative_15 hS hP hD ⟨rfl, rfl⟩
set_option maxRecDepth 100000 in
theorem okL_bounce (l : Launch) {D : va_G} {y : Nat → Nat} {e9 mi : Nat} {ws : va_W} {rm : Room} {p_off a_off : Nat} {a_out p_out : Nat} {fs : List Value} {x0 x1 : Int32} {P : UInt64 → va_W → Prop} (hX : gZd l yX6_bounce wsX6_bounce rm D y e9 mi [.ref a_off, .int x0, .int x1] ws P) (hout : ∀ r u, P r u → ∃ o, u[p_out]? = some (a_out, eD y 1 o)) (ho : ws[p_off]? = some (a_off, .inr (7, fs))) : gZi l yL_bounce wsL_bounce { frames := rm.frames + 1, cells := rm.cells, slots := rm.slots, locals := 8 + (3 + 11) + rm.locals } D y e9 mi [.ref a_off, .int x0, .int x1, .ref a_out] ws (fun r w => r = nI 0 ∧ ∃ v u o, P v u ∧ u[p_out]? = some (a_out, eD y 1 o) ∧ w = u.set p_out (a_out, eD y 1 (vf_upd o 0 v))) := by
  refine g_metL (cc := cL_bounce) (maxL := 5) (hh := [(0, 9, 12, 13)]) (by decide) rfl (Nat.le_of_ble_eq_true rfl) ?_
  intro p e s m below meth c A hx hb hml hr hts hown hlocks hE hP hD hS hA hZ htab ls hl
  have hown : s.vm.findClass RL = some m.cls := hown
  have hl : lv_has ls 5 [(0, .ref a_off), (1, .int x0), (2, .int x1), (3, .ref a_out)] := hl
  refine lv_aload_n hx hb dL_bounce_0 rfl (lv_at hl 3 rfl) ?_
  refine lv_iconst (v := nI 0) hx hb dL_bounce_1 (by decide) ?_
  refine lv_aload_n hx hb dL_bounce_2 rfl (lv_at hl 0 rfl) ?_
  refine lv_iload_n hx hb dL_bounce_3 rfl (lv_at hl 1 rfl) ?_
  refine lv_iload_n hx hb dL_bounce_4 rfl (lv_at hl 2 rfl) ?_
  refine gcz_V_d (As := [.int x0, .int x1]) (rest := [.int (nI 0), .ref a_out]) hX ⟨hx, hb, hml, hown, hts⟩ (cwV 2 hts gL_bounce_X6_bounce rfl rfl rfl (by decide +kernel) ⟨Nat.le_refl _, Nat.le_refl _⟩) hE hZ hP hD hS hA _ ho rfl rfl rfl rfl hl.1 (Nat.le_of_ble_eq_true rfl) dL_bounce_5 ⟨Nat.le_of_eq (Nat.zero_add _), Nat.le_of_eq (Nat.zero_add _)⟩ (fun r u H locs hP hD hS q => ?_)
  rw [Nat.zero_add, Nat.zero_add]
  obtain ⟨o, g⟩ := hout r u q
  refine g_dast hx hb hE hP hD hS _ g (by decide) (by decide) dL_bounce_8 (fun H locs hP hD hS => ?_)
  refine lv_goto (tgt := 16) hx hb dL_bounce_9 (by decide) ?_
  refine lv_iconst (v := nI 0) hx hb dL_bounce_16 (by decide) ?_
  exact g_iret hx hb hr hlocks _ dL_bounce_17 hS hP hD ⟨rfl, r, u, o, q, g, rfl⟩
set_option maxRecDepth 100000 in
theorem exL_bounce_1 (l : Launch) {D : va_G} {y : Nat → Nat} {e9 mi : Nat} {ws : va_W} {rm : Room} {p_off a_off : Nat} {a_out : Nat} {fs : List Value} {x0 x1 : Int32} (hX : gMX l yX6_bounce wsX6_bounce rm D y [.ref a_off, .int x0, .int x1] ws "java/lang/IndexOutOfBoundsException") (ho : ws[p_off]? = some (a_off, .inr (7, fs))) : gZi l yL_bounce wsL_bounce { frames := rm.frames + 1, cells := rm.cells, slots := rm.slots, locals := 8 + (3 + 11) + rm.locals } D y e9 mi [.ref a_off, .int x0, .int x1, .ref a_out] ws (fun r w => r = nI 1 ∧ w = ws) := by
  refine g_metL (cc := cL_bounce) (maxL := 5) (hh := [(0, 9, 12, 13)]) (by decide) rfl (Nat.le_of_ble_eq_true rfl) ?_
  intro p e s m below meth c A hx hb hml hr hts hown hlocks hE hP hD hS hA hZ htab ls hl
  have hown : s.vm.findClass RL = some m.cls := hown
  have hl : lv_has ls 5 [(0, .ref a_off), (1, .int x0), (2, .int x1), (3, .ref a_out)] := hl
  refine lv_aload_n hx hb dL_bounce_0 rfl (lv_at hl 3 rfl) ?_
  refine lv_iconst (v := nI 0) hx hb dL_bounce_1 (by decide) ?_
  refine lv_aload_n hx hb dL_bounce_2 rfl (lv_at hl 0 rfl) ?_
  refine lv_iload_n hx hb dL_bounce_3 rfl (lv_at hl 1 rfl) ?_
  refine lv_iload_n hx hb dL_bounce_4 rfl (lv_at hl 2 rfl) ?_
  refine gcz_VX (As := [.int x0, .int x1]) (rest := [.int (nI 0), .ref a_out]) hX ⟨hx, hb, hml, hown, hts⟩ (cwV 2 hts gL_bounce_X6_bounce rfl rfl rfl (by decide +kernel) ⟨Nat.le_refl _, Nat.le_refl _⟩) hE hZ.1 hP hD hS hA _ ho rfl rfl rfl rfl hl.1 (Nat.le_of_ble_eq_true rfl) dL_bounce_5 ⟨Nat.le_of_eq (Nat.zero_add _), Nat.le_of_eq (Nat.zero_add _)⟩ [] ⟨0, 9, 12, 13⟩ [] (htab.trans rfl) (fun _ h => absurd h List.not_mem_nil) (by decide) (by decide) (hts (.classLink RL 13 "java/lang/IndexOutOfBoundsException") (by decide +kernel)) (va_Nw.use rfl (hE.2 _ hnest_137)) (fun q9 H locs hP hD hS => ?_)
  rw [Nat.zero_add, Nat.zero_add]
  refine lv_astore (lv' := [(4, .ref q9), (0, .ref a_off), (1, .int x0), (2, .int x1), (3, .ref a_out)]) hx hb dL_bounce_12 hl (by decide) rfl (fun ls hl => ?_)
  refine lv_iconst (v := nI 1) hx hb dL_bounce_14 (by decide) ?_
  exact g_iret hx hb hr hlocks ws dL_bounce_15 hS hP hD ⟨rfl, rfl⟩
set_option maxRecDepth 100000 in
theorem okL_ofGroup (l : Launch) {D : va_G} {y : Nat → Nat} {e9 mi : Nat} {ws : va_W} {rm : Room} {p_off a_off : Nat} {a_out p_out : Nat} {fs : List Value} {x0 x1 : Int32} {P : UInt64 → va_W → Prop} (hX : gZd l yX6_ofGroup wsX6_ofGroup rm D y e9 mi [.ref a_off, .int x0, .int x1] ws P) (hout : ∀ r u, P r u → ∃ o, u[p_out]? = some (a_out, eD y 1 o)) (ho : ws[p_off]? = some (a_off, .inr (7, fs))) : gZi l yL_ofGroup wsL_ofGroup { frames := rm.frames + 1, cells := rm.cells, slots := rm.slots, locals := 8 + (3 + 11) + rm.locals } D y e9 mi [.ref a_off, .int x0, .int x1, .ref a_out] ws (fun r w => r = nI 0 ∧ ∃ v u o, P v u ∧ u[p_out]? = some (a_out, eD y 1 o) ∧ w = u.set p_out (a_out, eD y 1 (vf_upd o 0 v))) := by
  refine g_metL (cc := cL_ofGroup) (maxL := 5) (hh := [(0, 9, 12, 13)]) (by decide) rfl (Nat.le_of_ble_eq_true rfl) ?_
  intro p e s m below meth c A hx hb hml hr hts hown hlocks hE hP hD hS hA hZ htab ls hl
  have hown : s.vm.findClass RL = some m.cls := hown
  have hl : lv_has ls 5 [(0, .ref a_off), (1, .int x0), (2, .int x1), (3, .ref a_out)] := hl
  refine lv_aload_n hx hb dL_ofGroup_0 rfl (lv_at hl 3 rfl) ?_
  refine lv_iconst (v := nI 0) hx hb dL_ofGroup_1 (by decide) ?_
  refine lv_aload_n hx hb dL_ofGroup_2 rfl (lv_at hl 0 rfl) ?_
  refine lv_iload_n hx hb dL_ofGroup_3 rfl (lv_at hl 1 rfl) ?_
  refine lv_iload_n hx hb dL_ofGroup_4 rfl (lv_at hl 2 rfl) ?_
  refine gcz_V_d (As := [.int x0, .int x1]) (rest := [.int (nI 0), .ref a_out]) hX ⟨hx, hb, hml, hown, hts⟩ (cwV 2 hts gL_ofGroup_X6_ofGroup rfl rfl rfl (by decide +kernel) ⟨Nat.le_refl _, Nat.le_refl _⟩) hE hZ hP hD hS hA _ ho rfl rfl rfl rfl hl.1 (Nat.le_of_ble_eq_true rfl) dL_ofGroup_5 ⟨Nat.le_of_eq (Nat.zero_add _), Nat.le_of_eq (Nat.zero_add _)⟩ (fun r u H locs hP hD hS q => ?_)
  rw [Nat.zero_add, Nat.zero_add]
  obtain ⟨o, g⟩ := hout r u q
  refine g_dast hx hb hE hP hD hS _ g (by decide) (by decide) dL_ofGroup_8 (fun H locs hP hD hS => ?_)
  refine lv_goto (tgt := 16) hx hb dL_ofGroup_9 (by decide) ?_
  refine lv_iconst (v := nI 0) hx hb dL_ofGroup_16 (by decide) ?_
  exact g_iret hx hb hr hlocks _ dL_ofGroup_17 hS hP hD ⟨rfl, r, u, o, q, g, rfl⟩
set_option maxRecDepth 100000 in
theorem exL_ofGroup_1 (l : Launch) {D : va_G} {y : Nat → Nat} {e9 mi : Nat} {ws : va_W} {rm : Room} {p_off a_off : Nat} {a_out : Nat} {fs : List Value} {x0 x1 : Int32} (hX : gMX l yX6_ofGroup wsX6_ofGroup rm D y [.ref a_off, .int x0, .int x1] ws "java/lang/IndexOutOfBoundsException") (ho : ws[p_off]? = some (a_off, .inr (7, fs))) : gZi l yL_ofGroup wsL_ofGroup { frames := rm.frames + 1, cells := rm.cells, slots := rm.slots, locals := 8 + (3 + 11) + rm.locals } D y e9 mi [.ref a_off, .int x0, .int x1, .ref a_out] ws (fun r w => r = nI 1 ∧ w = ws) := by
  refine g_metL (cc := cL_ofGroup) (maxL := 5) (hh := [(0, 9, 12, 13)]) (by decide) rfl (Nat.le_of_ble_eq_true rfl) ?_
  intro p e s m below meth c A hx hb hml hr hts hown hlocks hE hP hD hS hA hZ htab ls hl
  have hown : s.vm.findClass RL = some m.cls := hown
  have hl : lv_has ls 5 [(0, .ref a_off), (1, .int x0), (2, .int x1), (3, .ref a_out)] := hl
  refine lv_aload_n hx hb dL_ofGroup_0 rfl (lv_at hl 3 rfl) ?_
  refine lv_iconst (v := nI 0) hx hb dL_ofGroup_1 (by decide) ?_
  refine lv_aload_n hx hb dL_ofGroup_2 rfl (lv_at hl 0 rfl) ?_
  refine lv_iload_n hx hb dL_ofGroup_3 rfl (lv_at hl 1 rfl) ?_
  refine lv_iload_n hx hb dL_ofGroup_4 rfl (lv_at hl 2 rfl) ?_
  refine gcz_VX (As := [.int x0, .int x1]) (rest := [.int (nI 0), .ref a_out]) hX ⟨hx, hb, hml, hown, hts⟩ (cwV 2 hts gL_ofGroup_X6_ofGroup rfl rfl rfl (by decide +kernel) ⟨Nat.le_refl _, Nat.le_refl _⟩) hE hZ.1 hP hD hS hA _ ho rfl rfl rfl rfl hl.1 (Nat.le_of_ble_eq_true rfl) dL_ofGroup_5 ⟨Nat.le_of_eq (Nat.zero_add _), Nat.le_of_eq (Nat.zero_add _)⟩ [] ⟨0, 9, 12, 13⟩ [] (htab.trans rfl) (fun _ h => absurd h List.not_mem_nil) (by decide) (by decide) (hts (.classLink RL 13 "java/lang/IndexOutOfBoundsException") (by decide +kernel)) (va_Nw.use rfl (hE.2 _ hnest_137)) (fun q9 H locs hP hD hS => ?_)
  rw [Nat.zero_add, Nat.zero_add]
  refine lv_astore (lv' := [(4, .ref q9), (0, .ref a_off), (1, .int x0), (2, .int x1), (3, .ref a_out)]) hx hb dL_ofGroup_12 hl (by decide) rfl (fun ls hl => ?_)
  refine lv_iconst (v := nI 1) hx hb dL_ofGroup_14 (by decide) ?_
  exact g_iret hx hb hr hlocks ws dL_ofGroup_15 hS hP hD ⟨rfl, rfl⟩
set_option maxRecDepth 100000 in
theorem okL_share (l : Launch) {D : va_G} {y : Nat → Nat} {e9 mi : Nat} {ws : va_W} {rm : Room} {p_off a_off : Nat} {a_out p_out : Nat} {fs : List Value} {x0 x1 x2 : Int32} {P : UInt64 → va_W → Prop} (hX : gZd l yX6_share wsX6_share rm D y e9 mi [.ref a_off, .int x0, .int x1, .int x2] ws P) (hout : ∀ r u, P r u → ∃ o, u[p_out]? = some (a_out, eD y 1 o)) (ho : ws[p_off]? = some (a_off, .inr (7, fs))) : gZi l yL_share wsL_share { frames := rm.frames + 1, cells := rm.cells, slots := rm.slots, locals := 8 + (4 + 11) + rm.locals } D y e9 mi [.ref a_off, .int x0, .int x1, .int x2, .ref a_out] ws (fun r w => r = nI 0 ∧ ∃ v u o, P v u ∧ u[p_out]? = some (a_out, eD y 1 o) ∧ w = u.set p_out (a_out, eD y 1 (vf_upd o 0 v))) := by
  refine g_metL (cc := cL_share) (maxL := 6) (hh := [(0, 11, 14, 13)]) (by decide) rfl (Nat.le_of_ble_eq_true rfl) ?_
  intro p e s m below meth c A hx hb hml hr hts hown hlocks hE hP hD hS hA hZ htab ls hl
  have hown : s.vm.findClass RL = some m.cls := hown
  have hl : lv_has ls 6 [(0, .ref a_off), (1, .int x0), (2, .int x1), (3, .int x2), (4, .ref a_out)] := hl
  refine lv_aload hx hb dL_share_0 (lv_at hl 4 rfl) ?_
  refine lv_iconst (v := nI 0) hx hb dL_share_2 (by decide) ?_
  refine lv_aload_n hx hb dL_share_3 rfl (lv_at hl 0 rfl) ?_
  refine lv_iload_n hx hb dL_share_4 rfl (lv_at hl 1 rfl) ?_
  refine lv_iload_n hx hb dL_share_5 rfl (lv_at hl 2 rfl) ?_
  refine lv_iload_n hx hb dL_share_6 rfl (lv_at hl 3 rfl) ?_
  refine gcz_V_d (As := [.int x0, .int x1, .int x2]) (rest := [.int (nI 0), .ref a_out]) hX ⟨hx, hb, hml, hown, hts⟩ (cwV 3 hts gL_share_X6_share rfl rfl rfl (by decide +kernel) ⟨Nat.le_refl _, Nat.le_refl _⟩) hE hZ hP hD hS hA _ ho rfl rfl rfl rfl hl.1 (Nat.le_of_ble_eq_true rfl) dL_share_7 ⟨Nat.le_of_eq (Nat.zero_add _), Nat.le_of_eq (Nat.zero_add _)⟩ (fun r u H locs hP hD hS q => ?_)
  rw [Nat.zero_add, Nat.zero_add]
  obtain ⟨o, g⟩ := hout r u q
  refine g_dast hx hb hE hP hD hS _ g (by decide) (by decide) dL_share_10 (fun H locs hP hD hS => ?_)
  refine lv_goto (tgt := 18) hx hb dL_share_11 (by decide) ?_
  refine lv_iconst (v := nI 0) hx hb dL_share_18 (by decide) ?_
  exact g_iret hx hb hr hlocks _ dL_share_19 hS hP hD ⟨rfl, r, u, o, q, g, rfl⟩
set_option maxRecDepth 100000 in
theorem exL_share_1 (l : Launch) {D : va_G} {y : Nat → Nat} {e9 mi : Nat} {ws : va_W} {rm : Room} {p_off a_off : Nat} {a_out : Nat} {fs : List Value} {x0 x1 x2 : Int32} (hX : gMX l yX6_share wsX6_share rm D y [.ref a_off, .int x0, .int x1, .int x2] ws "java/lang/IndexOutOfBoundsException") (ho : ws[p_off]? = some (a_off, .inr (7, fs))) : gZi l yL_share wsL_share { frames := rm.frames + 1, cells := rm.cells, slots := rm.slots, locals := 8 + (4 + 11) + rm.locals } D y e9 mi [.ref a_off, .int x0, .int x1, .int x2, .ref a_out] ws (fun r w => r = nI 1 ∧ w = ws) := by
  refine g_metL (cc := cL_share) (maxL := 6) (hh := [(0, 11, 14, 13)]) (by decide) rfl (Nat.le_of_ble_eq_true rfl) ?_
  intro p e s m below meth c A hx hb hml hr hts hown hlocks hE hP hD hS hA hZ htab ls hl
  have hown : s.vm.findClass RL = some m.cls := hown
  have hl : lv_has ls 6 [(0, .ref a_off), (1, .int x0), (2, .int x1), (3, .int x2), (4, .ref a_out)] := hl
  refine lv_aload hx hb dL_share_0 (lv_at hl 4 rfl) ?_
  refine lv_iconst (v := nI 0) hx hb dL_share_2 (by decide) ?_
  refine lv_aload_n hx hb dL_share_3 rfl (lv_at hl 0 rfl) ?_
  refine lv_iload_n hx hb dL_share_4 rfl (lv_at hl 1 rfl) ?_
  refine lv_iload_n hx hb dL_share_5 rfl (lv_at hl 2 rfl) ?_
  refine lv_iload_n hx hb dL_share_6 rfl (lv_at hl 3 rfl) ?_
  refine gcz_VX (As := [.int x0, .int x1, .int x2]) (rest := [.int (nI 0), .ref a_out]) hX ⟨hx, hb, hml, hown, hts⟩ (cwV 3 hts gL_share_X6_share rfl rfl rfl (by decide +kernel) ⟨Nat.le_refl _, Nat.le_refl _⟩) hE hZ.1 hP hD hS hA _ ho rfl rfl rfl rfl hl.1 (Nat.le_of_ble_eq_true rfl) dL_share_7 ⟨Nat.le_of_eq (Nat.zero_add _), Nat.le_of_eq (Nat.zero_add _)⟩ [] ⟨0, 11, 14, 13⟩ [] (htab.trans rfl) (fun _ h => absurd h List.not_mem_nil) (by decide) (by decide) (hts (.classLink RL 13 "java/lang/IndexOutOfBoundsException") (by decide +kernel)) (va_Nw.use rfl (hE.2 _ hnest_137)) (fun q9 H locs hP hD hS => ?_)
  rw [Nat.zero_add, Nat.zero_add]
  refine lv_astore (lv' := [(5, .ref q9), (0, .ref a_off), (1, .int x0), (2, .int x1), (3, .int x2), (4, .ref a_out)]) hx hb dL_share_14 hl (by decide) rfl (fun ls hl => ?_)
  refine lv_iconst (v := nI 1) hx hb dL_share_16 (by decide) ?_
  exact g_iret hx hb hr hlocks ws dL_share_17 hS hP hD ⟨rfl, rfl⟩
set_option maxRecDepth 100000 in
theorem okL_index (l : Launch) {D : va_G} {y : Nat → Nat} {e9 mi : Nat} {ws : va_W} {rm : Room} {p_off a_off : Nat} {a_out p_out : Nat} {fs : List Value} {x0 x1 : Int32} {P : UInt64 → va_W → Prop} (hX : gZd l yX6_index wsX6_index rm D y e9 mi [.ref a_off, .int x0, .int x1] ws P) (hout : ∀ r u, P r u → ∃ o, u[p_out]? = some (a_out, eD y 1 o)) (ho : ws[p_off]? = some (a_off, .inr (7, fs))) : gZi l yL_index wsL_index { frames := rm.frames + 1, cells := rm.cells, slots := rm.slots, locals := 8 + (3 + 11) + rm.locals } D y e9 mi [.ref a_off, .int x0, .int x1, .ref a_out] ws (fun r w => r = nI 0 ∧ ∃ v u o, P v u ∧ u[p_out]? = some (a_out, eD y 1 o) ∧ w = u.set p_out (a_out, eD y 1 (vf_upd o 0 v))) := by
  refine g_metL (cc := cL_index) (maxL := 5) (hh := [(0, 9, 12, 13)]) (by decide) rfl (Nat.le_of_ble_eq_true rfl) ?_
  intro p e s m below meth c A hx hb hml hr hts hown hlocks hE hP hD hS hA hZ htab ls hl
  have hown : s.vm.findClass RL = some m.cls := hown
  have hl : lv_has ls 5 [(0, .ref a_off), (1, .int x0), (2, .int x1), (3, .ref a_out)] := hl
  refine lv_aload_n hx hb dL_index_0 rfl (lv_at hl 3 rfl) ?_
  refine lv_iconst (v := nI 0) hx hb dL_index_1 (by decide) ?_
  refine lv_aload_n hx hb dL_index_2 rfl (lv_at hl 0 rfl) ?_
  refine lv_iload_n hx hb dL_index_3 rfl (lv_at hl 1 rfl) ?_
  refine lv_iload_n hx hb dL_index_4 rfl (lv_at hl 2 rfl) ?_
  refine gcz_V_d (As := [.int x0, .int x1]) (rest := [.int (nI 0), .ref a_out]) hX ⟨hx, hb, hml, hown, hts⟩ (cwV 2 hts gL_index_X6_index rfl rfl rfl (by decide +kernel) ⟨Nat.le_refl _, Nat.le_refl _⟩) hE hZ hP hD hS hA _ ho rfl rfl rfl rfl hl.1 (Nat.le_of_ble_eq_true rfl) dL_index_5 ⟨Nat.le_of_eq (Nat.zero_add _), Nat.le_of_eq (Nat.zero_add _)⟩ (fun r u H locs hP hD hS q => ?_)
  rw [Nat.zero_add, Nat.zero_add]
  obtain ⟨o, g⟩ := hout r u q
  refine g_dast hx hb hE hP hD hS _ g (by decide) (by decide) dL_index_8 (fun H locs hP hD hS => ?_)
  refine lv_goto (tgt := 16) hx hb dL_index_9 (by decide) ?_
  refine lv_iconst (v := nI 0) hx hb dL_index_16 (by decide) ?_
  exact g_iret hx hb hr hlocks _ dL_index_17 hS hP hD ⟨rfl, r, u, o, q, g, rfl⟩
set_option maxRecDepth 100000 in
theorem exL_index_1 (l : Launch) {D : va_G} {y : Nat → Nat} {e9 mi : Nat} {ws : va_W} {rm : Room} {p_off a_off : Nat} {a_out : Nat} {fs : List Value} {x0 x1 : Int32} (hX : gMX l yX6_index wsX6_index rm D y [.ref a_off, .int x0, .int x1] ws "java/lang/IndexOutOfBoundsException") (ho : ws[p_off]? = some (a_off, .inr (7, fs))) : gZi l yL_index wsL_index { frames := rm.frames + 1, cells := rm.cells, slots := rm.slots, locals := 8 + (3 + 11) + rm.locals } D y e9 mi [.ref a_off, .int x0, .int x1, .ref a_out] ws (fun r w => r = nI 1 ∧ w = ws) := by
  refine g_metL (cc := cL_index) (maxL := 5) (hh := [(0, 9, 12, 13)]) (by decide) rfl (Nat.le_of_ble_eq_true rfl) ?_
  intro p e s m below meth c A hx hb hml hr hts hown hlocks hE hP hD hS hA hZ htab ls hl
  have hown : s.vm.findClass RL = some m.cls := hown
  have hl : lv_has ls 5 [(0, .ref a_off), (1, .int x0), (2, .int x1), (3, .ref a_out)] := hl
  refine lv_aload_n hx hb dL_index_0 rfl (lv_at hl 3 rfl) ?_
  refine lv_iconst (v := nI 0) hx hb dL_index_1 (by decide) ?_
  refine lv_aload_n hx hb dL_index_2 rfl (lv_at hl 0 rfl) ?_
  refine lv_iload_n hx hb dL_index_3 rfl (lv_at hl 1 rfl) ?_
  refine lv_iload_n hx hb dL_index_4 rfl (lv_at hl 2 rfl) ?_
  refine gcz_VX (As := [.int x0, .int x1]) (rest := [.int (nI 0), .ref a_out]) hX ⟨hx, hb, hml, hown, hts⟩ (cwV 2 hts gL_index_X6_index rfl rfl rfl (by decide +kernel) ⟨Nat.le_refl _, Nat.le_refl _⟩) hE hZ.1 hP hD hS hA _ ho rfl rfl rfl rfl hl.1 (Nat.le_of_ble_eq_true rfl) dL_index_5 ⟨Nat.le_of_eq (Nat.zero_add _), Nat.le_of_eq (Nat.zero_add _)⟩ [] ⟨0, 9, 12, 13⟩ [] (htab.trans rfl) (fun _ h => absurd h List.not_mem_nil) (by decide) (by decide) (hts (.classLink RL 13 "java/lang/IndexOutOfBoundsException") (by decide +kernel)) (va_Nw.use rfl (hE.2 _ hnest_137)) (fun q9 H locs hP hD hS => ?_)
  rw [Nat.zero_add, Nat.zero_add]
  refine lv_astore (lv' := [(4, .ref q9), (0, .ref a_off), (1, .int x0), (2, .int x1), (3, .ref a_out)]) hx hb dL_index_12 hl (by decide) rfl (fun ls hl => ?_)
  refine lv_iconst (v := nI 1) hx hb dL_index_14 (by decide) ?_
  exact g_iret hx hb hr hlocks ws dL_index_15 hS hP hD ⟨rfl, rfl⟩
set_option maxRecDepth 100000 in
theorem okL_indexAnew (l : Launch) {D : va_G} {y : Nat → Nat} {e9 mi : Nat} {ws : va_W} {rm : Room} {p_off a_off : Nat} {a_out p_out : Nat} {fs : List Value} {x0 x1 : Int32} {P : UInt64 → va_W → Prop} (hX : gZd l yX6_indexAnew wsX6_indexAnew rm D y e9 mi [.ref a_off, .int x0, .int x1] ws P) (hout : ∀ r u, P r u → ∃ o, u[p_out]? = some (a_out, eD y 1 o)) (ho : ws[p_off]? = some (a_off, .inr (7, fs))) : gZi l yL_indexAnew wsL_indexAnew { frames := rm.frames + 1, cells := rm.cells, slots := rm.slots, locals := 8 + (3 + 11) + rm.locals } D y e9 mi [.ref a_off, .int x0, .int x1, .ref a_out] ws (fun r w => r = nI 0 ∧ ∃ v u o, P v u ∧ u[p_out]? = some (a_out, eD y 1 o) ∧ w = u.set p_out (a_out, eD y 1 (vf_upd o 0 v))) := by
  refine g_metL (cc := cL_indexAnew) (maxL := 5) (hh := [(0, 9, 12, 13)]) (by decide) rfl (Nat.le_of_ble_eq_true rfl) ?_
  intro p e s m below meth c A hx hb hml hr hts hown hlocks hE hP hD hS hA hZ htab ls hl
  have hown : s.vm.findClass RL = some m.cls := hown
  have hl : lv_has ls 5 [(0, .ref a_off), (1, .int x0), (2, .int x1), (3, .ref a_out)] := hl
  refine lv_aload_n hx hb dL_indexAnew_0 rfl (lv_at hl 3 rfl) ?_
  refine lv_iconst (v := nI 0) hx hb dL_indexAnew_1 (by decide) ?_
  refine lv_aload_n hx hb dL_indexAnew_2 rfl (lv_at hl 0 rfl) ?_
  refine lv_iload_n hx hb dL_indexAnew_3 rfl (lv_at hl 1 rfl) ?_
  refine lv_iload_n hx hb dL_indexAnew_4 rfl (lv_at hl 2 rfl) ?_
  refine gcz_V_d (As := [.int x0, .int x1]) (rest := [.int (nI 0), .ref a_out]) hX ⟨hx, hb, hml, hown, hts⟩ (cwV 2 hts gL_indexAnew_X6_indexAnew rfl rfl rfl (by decide +kernel) ⟨Nat.le_refl _, Nat.le_refl _⟩) hE hZ hP hD hS hA _ ho rfl rfl rfl rfl hl.1 (Nat.le_of_ble_eq_true rfl) dL_indexAnew_5 ⟨Nat.le_of_eq (Nat.zero_add _), Nat.le_of_eq (Nat.zero_add _)⟩ (fun r u H locs hP hD hS q => ?_)
  rw [Nat.zero_add, Nat.zero_add]
  obtain ⟨o, g⟩ := hout r u q
  refine g_dast hx hb hE hP hD hS _ g (by decide) (by decide) dL_indexAnew_8 (fun H locs hP hD hS => ?_)
  refine lv_goto (tgt := 16) hx hb dL_indexAnew_9 (by decide) ?_
  refine lv_iconst (v := nI 0) hx hb dL_indexAnew_16 (by decide) ?_
  exact g_iret hx hb hr hlocks _ dL_indexAnew_17 hS hP hD ⟨rfl, r, u, o, q, g, rfl⟩
set_option maxRecDepth 100000 in
theorem exL_indexAnew_1 (l : Launch) {D : va_G} {y : Nat → Nat} {e9 mi : Nat} {ws : va_W} {rm : Room} {p_off a_off : Nat} {a_out : Nat} {fs : List Value} {x0 x1 : Int32} (hX : gMX l yX6_indexAnew wsX6_indexAnew rm D y [.ref a_off, .int x0, .int x1] ws "java/lang/IndexOutOfBoundsException") (ho : ws[p_off]? = some (a_off, .inr (7, fs))) : gZi l yL_indexAnew wsL_indexAnew { frames := rm.frames + 1, cells := rm.cells, slots := rm.slots, locals := 8 + (3 + 11) + rm.locals } D y e9 mi [.ref a_off, .int x0, .int x1, .ref a_out] ws (fun r w => r = nI 1 ∧ w = ws) := by
  refine g_metL (cc := cL_indexAnew) (maxL := 5) (hh := [(0, 9, 12, 13)]) (by decide) rfl (Nat.le_of_ble_eq_true rfl) ?_
  intro p e s m below meth c A hx hb hml hr hts hown hlocks hE hP hD hS hA hZ htab ls hl
  have hown : s.vm.findClass RL = some m.cls := hown
  have hl : lv_has ls 5 [(0, .ref a_off), (1, .int x0), (2, .int x1), (3, .ref a_out)] := hl
  refine lv_aload_n hx hb dL_indexAnew_0 rfl (lv_at hl 3 rfl) ?_
  refine lv_iconst (v := nI 0) hx hb dL_indexAnew_1 (by decide) ?_
  refine lv_aload_n hx hb dL_indexAnew_2 rfl (lv_at hl 0 rfl) ?_
  refine lv_iload_n hx hb dL_indexAnew_3 rfl (lv_at hl 1 rfl) ?_
  refine lv_iload_n hx hb dL_indexAnew_4 rfl (lv_at hl 2 rfl) ?_
  refine gcz_VX (As := [.int x0, .int x1]) (rest := [.int (nI 0), .ref a_out]) hX ⟨hx, hb, hml, hown, hts⟩ (cwV 2 hts gL_indexAnew_X6_indexAnew rfl rfl rfl (by decide +kernel) ⟨Nat.le_refl _, Nat.le_refl _⟩) hE hZ.1 hP hD hS hA _ ho rfl rfl rfl rfl hl.1 (Nat.le_of_ble_eq_true rfl) dL_indexAnew_5 ⟨Nat.le_of_eq (Nat.zero_add _), Nat.le_of_eq (Nat.zero_add _)⟩ [] ⟨0, 9, 12, 13⟩ [] (htab.trans rfl) (fun _ h => absurd h List.not_mem_nil) (by decide) (by decide) (hts (.classLink RL 13 "java/lang/IndexOutOfBoundsException") (by decide +kernel)) (va_Nw.use rfl (hE.2 _ hnest_137)) (fun q9 H locs hP hD hS => ?_)
  rw [Nat.zero_add, Nat.zero_add]
  refine lv_astore (lv' := [(4, .ref q9), (0, .ref a_off), (1, .int x0), (2, .int x1), (3, .ref a_out)]) hx hb dL_indexAnew_12 hl (by decide) rfl (fun ls hl => ?_)
  refine lv_iconst (v := nI 1) hx hb dL_indexAnew_14 (by decide) ?_
  exact g_iret hx hb hr hlocks ws dL_indexAnew_15 hS hP hD ⟨rfl, rfl⟩
set_option maxRecDepth 100000 in
theorem okL_corrected (l : Launch) {D : va_G} {y : Nat → Nat} {e9 mi : Nat} {ws : va_W} {rm : Room} {p_off a_off : Nat} {a_out p_out : Nat} {fs : List Value} {x0 x1 : Int32} {P : UInt64 → va_W → Prop} (hX : gZd l yX6_corrected wsX6_corrected rm D y e9 mi [.ref a_off, .int x0, .int x1] ws P) (hout : ∀ r u, P r u → ∃ o, u[p_out]? = some (a_out, eD y 1 o)) (ho : ws[p_off]? = some (a_off, .inr (7, fs))) : gZi l yL_corrected wsL_corrected { frames := rm.frames + 1, cells := rm.cells, slots := rm.slots, locals := 8 + (3 + 11) + rm.locals } D y e9 mi [.ref a_off, .int x0, .int x1, .ref a_out] ws (fun r w => r = nI 0 ∧ ∃ v u o, P v u ∧ u[p_out]? = some (a_out, eD y 1 o) ∧ w = u.set p_out (a_out, eD y 1 (vf_upd o 0 v))) := by
  refine g_metL (cc := cL_corrected) (maxL := 5) (hh := [(0, 9, 12, 13)]) (by decide) rfl (Nat.le_of_ble_eq_true rfl) ?_
  intro p e s m below meth c A hx hb hml hr hts hown hlocks hE hP hD hS hA hZ htab ls hl
  have hown : s.vm.findClass RL = some m.cls := hown
  have hl : lv_has ls 5 [(0, .ref a_off), (1, .int x0), (2, .int x1), (3, .ref a_out)] := hl
  refine lv_aload_n hx hb dL_corrected_0 rfl (lv_at hl 3 rfl) ?_
  refine lv_iconst (v := nI 0) hx hb dL_corrected_1 (by decide) ?_
  refine lv_aload_n hx hb dL_corrected_2 rfl (lv_at hl 0 rfl) ?_
  refine lv_iload_n hx hb dL_corrected_3 rfl (lv_at hl 1 rfl) ?_
  refine lv_iload_n hx hb dL_corrected_4 rfl (lv_at hl 2 rfl) ?_
  refine gcz_V_d (As := [.int x0, .int x1]) (rest := [.int (nI 0), .ref a_out]) hX ⟨hx, hb, hml, hown, hts⟩ (cwV 2 hts gL_corrected_X6_corrected rfl rfl rfl (by decide +kernel) ⟨Nat.le_refl _, Nat.le_refl _⟩) hE hZ hP hD hS hA _ ho rfl rfl rfl rfl hl.1 (Nat.le_of_ble_eq_true rfl) dL_corrected_5 ⟨Nat.le_of_eq (Nat.zero_add _), Nat.le_of_eq (Nat.zero_add _)⟩ (fun r u H locs hP hD hS q => ?_)
  rw [Nat.zero_add, Nat.zero_add]
  obtain ⟨o, g⟩ := hout r u q
  refine g_dast hx hb hE hP hD hS _ g (by decide) (by decide) dL_corrected_8 (fun H locs hP hD hS => ?_)
  refine lv_goto (tgt := 16) hx hb dL_corrected_9 (by decide) ?_
  refine lv_iconst (v := nI 0) hx hb dL_corrected_16 (by decide) ?_
  exact g_iret hx hb hr hlocks _ dL_corrected_17 hS hP hD ⟨rfl, r, u, o, q, g, rfl⟩
set_option maxRecDepth 100000 in
theorem exL_corrected_1 (l : Launch) {D : va_G} {y : Nat → Nat} {e9 mi : Nat} {ws : va_W} {rm : Room} {p_off a_off : Nat} {a_out : Nat} {fs : List Value} {x0 x1 : Int32} (hX : gMX l yX6_corrected wsX6_corrected rm D y [.ref a_off, .int x0, .int x1] ws "java/lang/IndexOutOfBoundsException") (ho : ws[p_off]? = some (a_off, .inr (7, fs))) : gZi l yL_corrected wsL_corrected { frames := rm.frames + 1, cells := rm.cells, slots := rm.slots, locals := 8 + (3 + 11) + rm.locals } D y e9 mi [.ref a_off, .int x0, .int x1, .ref a_out] ws (fun r w => r = nI 1 ∧ w = ws) := by
  refine g_metL (cc := cL_corrected) (maxL := 5) (hh := [(0, 9, 12, 13)]) (by decide) rfl (Nat.le_of_ble_eq_true rfl) ?_
  intro p e s m below meth c A hx hb hml hr hts hown hlocks hE hP hD hS hA hZ htab ls hl
  have hown : s.vm.findClass RL = some m.cls := hown
  have hl : lv_has ls 5 [(0, .ref a_off), (1, .int x0), (2, .int x1), (3, .ref a_out)] := hl
  refine lv_aload_n hx hb dL_corrected_0 rfl (lv_at hl 3 rfl) ?_
  refine lv_iconst (v := nI 0) hx hb dL_corrected_1 (by decide) ?_
  refine lv_aload_n hx hb dL_corrected_2 rfl (lv_at hl 0 rfl) ?_
  refine lv_iload_n hx hb dL_corrected_3 rfl (lv_at hl 1 rfl) ?_
  refine lv_iload_n hx hb dL_corrected_4 rfl (lv_at hl 2 rfl) ?_
  refine gcz_VX (As := [.int x0, .int x1]) (rest := [.int (nI 0), .ref a_out]) hX ⟨hx, hb, hml, hown, hts⟩ (cwV 2 hts gL_corrected_X6_corrected rfl rfl rfl (by decide +kernel) ⟨Nat.le_refl _, Nat.le_refl _⟩) hE hZ.1 hP hD hS hA _ ho rfl rfl rfl rfl hl.1 (Nat.le_of_ble_eq_true rfl) dL_corrected_5 ⟨Nat.le_of_eq (Nat.zero_add _), Nat.le_of_eq (Nat.zero_add _)⟩ [] ⟨0, 9, 12, 13⟩ [] (htab.trans rfl) (fun _ h => absurd h List.not_mem_nil) (by decide) (by decide) (hts (.classLink RL 13 "java/lang/IndexOutOfBoundsException") (by decide +kernel)) (va_Nw.use rfl (hE.2 _ hnest_137)) (fun q9 H locs hP hD hS => ?_)
  rw [Nat.zero_add, Nat.zero_add]
  refine lv_astore (lv' := [(4, .ref q9), (0, .ref a_off), (1, .int x0), (2, .int x1), (3, .ref a_out)]) hx hb dL_corrected_12 hl (by decide) rfl (fun ls hl => ?_)
  refine lv_iconst (v := nI 1) hx hb dL_corrected_14 (by decide) ?_
  exact g_iret hx hb hr hlocks ws dL_corrected_15 hS hP hD ⟨rfl, rfl⟩
set_option maxRecDepth 100000 in
theorem okL_published (l : Launch) {D : va_G} {y : Nat → Nat} {e9 mi : Nat} {ws : va_W} {rm : Room} {p_off a_off : Nat} {a_out p_out : Nat} {fs : List Value} {x0 : Int32} {P : Int32 → va_W → Prop} (hX : gZi l yX6_published wsX6_published rm D y e9 mi [.ref a_off, .int x0] ws P) (hout : ∀ r u, P r u → ∃ o, u[p_out]? = some (a_out, eJ y 1 o)) (ho : ws[p_off]? = some (a_off, .inr (7, fs))) : gZi l yL_published wsL_published { frames := rm.frames + 1, cells := rm.cells, slots := rm.slots, locals := 8 + (2 + 11) + rm.locals } D y e9 mi [.ref a_off, .int x0, .ref a_out] ws (fun r w => r = nI 0 ∧ ∃ v u o, P v u ∧ u[p_out]? = some (a_out, eJ y 1 o) ∧ w = u.set p_out (a_out, eJ y 1 (vf_upd o 0 (Int32.toInt64 v)))) := by
  refine g_metL (cc := cL_published) (maxL := 4) (hh := [(0, 9, 12, 13)]) (by decide) rfl (Nat.le_of_ble_eq_true rfl) ?_
  intro p e s m below meth c A hx hb hml hr hts hown hlocks hE hP hD hS hA hZ htab ls hl
  have hown : s.vm.findClass RL = some m.cls := hown
  have hl : lv_has ls 4 [(0, .ref a_off), (1, .int x0), (2, .ref a_out)] := hl
  refine lv_aload_n hx hb dL_published_0 rfl (lv_at hl 2 rfl) ?_
  refine lv_iconst (v := nI 0) hx hb dL_published_1 (by decide) ?_
  refine lv_aload_n hx hb dL_published_2 rfl (lv_at hl 0 rfl) ?_
  refine lv_iload_n hx hb dL_published_3 rfl (lv_at hl 1 rfl) ?_
  refine gcz_V_i (As := [.int x0]) (rest := [.int (nI 0), .ref a_out]) hX ⟨hx, hb, hml, hown, hts⟩ (cwV 1 hts gL_published_X6_published rfl rfl rfl (by decide +kernel) ⟨Nat.le_refl _, Nat.le_refl _⟩) hE hZ hP hD hS hA _ ho rfl rfl rfl rfl hl.1 (Nat.le_of_ble_eq_true rfl) dL_published_4 ⟨Nat.le_of_eq (Nat.zero_add _), Nat.le_of_eq (Nat.zero_add _)⟩ (fun r u H locs hP hD hS q => ?_)
  rw [Nat.zero_add, Nat.zero_add]
  obtain ⟨o, g⟩ := hout r u q
  refine lv_i2l (v := Int32.toInt64 r) hx hb dL_published_7 rfl ?_
  refine g_last hx hb hE hP hD hS _ g (by decide) (by decide) dL_published_8 (fun H locs hP hD hS => ?_)
  refine lv_goto (tgt := 15) hx hb dL_published_9 (by decide) ?_
  refine lv_iconst (v := nI 0) hx hb dL_published_15 (by decide) ?_
  exact g_iret hx hb hr hlocks _ dL_published_16 hS hP hD ⟨rfl, r, u, o, q, g, rfl⟩
set_option maxRecDepth 100000 in
theorem exL_published_1 (l : Launch) {D : va_G} {y : Nat → Nat} {e9 mi : Nat} {ws : va_W} {rm : Room} {p_off a_off : Nat} {a_out : Nat} {fs : List Value} {x0 : Int32} (hX : gMX l yX6_published wsX6_published rm D y [.ref a_off, .int x0] ws "java/lang/IndexOutOfBoundsException") (ho : ws[p_off]? = some (a_off, .inr (7, fs))) : gZi l yL_published wsL_published { frames := rm.frames + 1, cells := rm.cells, slots := rm.slots, locals := 8 + (2 + 11) + rm.locals } D y e9 mi [.ref a_off, .int x0, .ref a_out] ws (fun r w => r = nI 1 ∧ w = ws) := by
  refine g_metL (cc := cL_published) (maxL := 4) (hh := [(0, 9, 12, 13)]) (by decide) rfl (Nat.le_of_ble_eq_true rfl) ?_
  intro p e s m below meth c A hx hb hml hr hts hown hlocks hE hP hD hS hA hZ htab ls hl
  have hown : s.vm.findClass RL = some m.cls := hown
  have hl : lv_has ls 4 [(0, .ref a_off), (1, .int x0), (2, .ref a_out)] := hl
  refine lv_aload_n hx hb dL_published_0 rfl (lv_at hl 2 rfl) ?_
  refine lv_iconst (v := nI 0) hx hb dL_published_1 (by decide) ?_
  refine lv_aload_n hx hb dL_published_2 rfl (lv_at hl 0 rfl) ?_
  refine lv_iload_n hx hb dL_published_3 rfl (lv_at hl 1 rfl) ?_
  refine gcz_VX (As := [.int x0]) (rest := [.int (nI 0), .ref a_out]) hX ⟨hx, hb, hml, hown, hts⟩ (cwV 1 hts gL_published_X6_published rfl rfl rfl (by decide +kernel) ⟨Nat.le_refl _, Nat.le_refl _⟩) hE hZ.1 hP hD hS hA _ ho rfl rfl rfl rfl hl.1 (Nat.le_of_ble_eq_true rfl) dL_published_4 ⟨Nat.le_of_eq (Nat.zero_add _), Nat.le_of_eq (Nat.zero_add _)⟩ [] ⟨0, 9, 12, 13⟩ [] (htab.trans rfl) (fun _ h => absurd h List.not_mem_nil) (by decide) (by decide) (hts (.classLink RL 13 "java/lang/IndexOutOfBoundsException") (by decide +kernel)) (va_Nw.use rfl (hE.2 _ hnest_137)) (fun q9 H locs hP hD hS => ?_)
  rw [Nat.zero_add, Nat.zero_add]
  refine lv_astore_n (lv' := [(3, .ref q9), (0, .ref a_off), (1, .int x0), (2, .ref a_out)]) hx hb dL_published_12 rfl hl (by decide) rfl (fun ls hl => ?_)
  refine lv_iconst (v := nI 1) hx hb dL_published_13 (by decide) ?_
  exact g_iret hx hb hr hlocks ws dL_published_14 hS hP hD ⟨rfl, rfl⟩
set_option maxRecDepth 100000 in
theorem okL_growth (l : Launch) {D : va_G} {y : Nat → Nat} {e9 mi : Nat} {ws : va_W} {rm : Room} {p_off a_off : Nat} {a_out p_out : Nat} {fs : List Value} {x0 : Int32} {P : UInt32 → va_W → Prop} (hX : gZf l yX6_growth wsX6_growth rm D y e9 mi [.ref a_off, .int x0] ws P) (hout : ∀ r u, P r u → ∃ o, u[p_out]? = some (a_out, eD y 1 o)) (hnn : ∀ r u, P r u → vf_n64 (FP.f2d r)) (ho : ws[p_off]? = some (a_off, .inr (7, fs))) : gZi l yL_growth wsL_growth { frames := rm.frames + 1, cells := rm.cells, slots := rm.slots, locals := 8 + (4 + 11) + rm.locals } D y e9 mi [.ref a_off, .int x0, .ref a_out] ws (fun r w => r = nI 0 ∧ ∃ v u o, P v u ∧ u[p_out]? = some (a_out, eD y 1 o) ∧ w = u.set p_out (a_out, eD y 1 (vf_upd o 0 (FP.f2d v)))) := by
  refine g_metL (cc := cL_growth) (maxL := 4) (hh := [(0, 9, 12, 13)]) (by decide) rfl (Nat.le_of_ble_eq_true rfl) ?_
  intro p e s m below meth c A hx hb hml hr hts hown hlocks hE hP hD hS hA hZ htab ls hl
  have hown : s.vm.findClass RL = some m.cls := hown
  have hl : lv_has ls 4 [(0, .ref a_off), (1, .int x0), (2, .ref a_out)] := hl
  refine lv_aload_n hx hb dL_growth_0 rfl (lv_at hl 2 rfl) ?_
  refine lv_iconst (v := nI 0) hx hb dL_growth_1 (by decide) ?_
  refine lv_aload_n hx hb dL_growth_2 rfl (lv_at hl 0 rfl) ?_
  refine lv_iload_n hx hb dL_growth_3 rfl (lv_at hl 1 rfl) ?_
  refine gcz_V_f (As := [.int x0]) (rest := [.int (nI 0), .ref a_out]) hX ⟨hx, hb, hml, hown, hts⟩ (cwV 1 hts gL_growth_X6_growth rfl rfl rfl (by decide +kernel) ⟨Nat.le_refl _, Nat.le_refl _⟩) hE hZ hP hD hS hA _ ho rfl rfl rfl rfl hl.1 (Nat.le_of_ble_eq_true rfl) dL_growth_4 ⟨Nat.le_of_eq (Nat.zero_add _), Nat.le_of_eq (Nat.zero_add _)⟩ (fun r u H locs hP hD hS q => ?_)
  rw [Nat.zero_add, Nat.zero_add]
  obtain ⟨o, g⟩ := hout r u q
  refine lv_f2d hx hb dL_growth_7 (hnn r u q) ?_
  refine g_dast hx hb hE hP hD hS _ g (by decide) (by decide) dL_growth_8 (fun H locs hP hD hS => ?_)
  refine lv_goto (tgt := 15) hx hb dL_growth_9 (by decide) ?_
  refine lv_iconst (v := nI 0) hx hb dL_growth_15 (by decide) ?_
  exact g_iret hx hb hr hlocks _ dL_growth_16 hS hP hD ⟨rfl, r, u, o, q, g, rfl⟩
set_option maxRecDepth 100000 in
theorem exL_growth_1 (l : Launch) {D : va_G} {y : Nat → Nat} {e9 mi : Nat} {ws : va_W} {rm : Room} {p_off a_off : Nat} {a_out : Nat} {fs : List Value} {x0 : Int32} (hX : gMX l yX6_growth wsX6_growth rm D y [.ref a_off, .int x0] ws "java/lang/IndexOutOfBoundsException") (ho : ws[p_off]? = some (a_off, .inr (7, fs))) : gZi l yL_growth wsL_growth { frames := rm.frames + 1, cells := rm.cells, slots := rm.slots, locals := 8 + (4 + 11) + rm.locals } D y e9 mi [.ref a_off, .int x0, .ref a_out] ws (fun r w => r = nI 1 ∧ w = ws) := by
  refine g_metL (cc := cL_growth) (maxL := 4) (hh := [(0, 9, 12, 13)]) (by decide) rfl (Nat.le_of_ble_eq_true rfl) ?_
  intro p e s m below meth c A hx hb hml hr hts hown hlocks hE hP hD hS hA hZ htab ls hl
  have hown : s.vm.findClass RL = some m.cls := hown
  have hl : lv_has ls 4 [(0, .ref a_off), (1, .int x0), (2, .ref a_out)] := hl
  refine lv_aload_n hx hb dL_growth_0 rfl (lv_at hl 2 rfl) ?_
  refine lv_iconst (v := nI 0) hx hb dL_growth_1 (by decide) ?_
  refine lv_aload_n hx hb dL_growth_2 rfl (lv_at hl 0 rfl) ?_
  refine lv_iload_n hx hb dL_growth_3 rfl (lv_at hl 1 rfl) ?_
  refine gcz_VX (As := [.int x0]) (rest := [.int (nI 0), .ref a_out]) hX ⟨hx, hb, hml, hown, hts⟩ (cwV 1 hts gL_growth_X6_growth rfl rfl rfl (by decide +kernel) ⟨Nat.le_refl _, Nat.le_refl _⟩) hE hZ.1 hP hD hS hA _ ho rfl rfl rfl rfl hl.1 (Nat.le_of_ble_eq_true rfl) dL_growth_4 ⟨Nat.le_of_eq (Nat.zero_add _), Nat.le_of_eq (Nat.zero_add _)⟩ [] ⟨0, 9, 12, 13⟩ [] (htab.trans rfl) (fun _ h => absurd h List.not_mem_nil) (by decide) (by decide) (hts (.classLink RL 13 "java/lang/IndexOutOfBoundsException") (by decide +kernel)) (va_Nw.use rfl (hE.2 _ hnest_137)) (fun q9 H locs hP hD hS => ?_)
  rw [Nat.zero_add, Nat.zero_add]
  refine lv_astore_n (lv' := [(3, .ref q9), (0, .ref a_off), (1, .int x0), (2, .ref a_out)]) hx hb dL_growth_12 rfl hl (by decide) rfl (fun ls hl => ?_)
  refine lv_iconst (v := nI 1) hx hb dL_growth_13 (by decide) ?_
  exact g_iret hx hb hr hlocks ws dL_growth_14 hS hP hD ⟨rfl, rfl⟩
set_option maxRecDepth 100000 in
theorem okL_core (l : Launch) {D : va_G} {y : Nat → Nat} {e9 mi : Nat} {ws : va_W} {rm : Room} {p_off a_off : Nat} {a_out p_out : Nat} {fs : List Value} {x0 : Int32} {P : UInt64 → va_W → Prop} (hX : gZd l yX6_core wsX6_core rm D y e9 mi [.ref a_off, .int x0] ws P) (hout : ∀ r u, P r u → ∃ o, u[p_out]? = some (a_out, eD y 1 o)) (ho : ws[p_off]? = some (a_off, .inr (7, fs))) : gZi l yL_core wsL_core { frames := rm.frames + 1, cells := rm.cells, slots := rm.slots, locals := 8 + (2 + 11) + rm.locals } D y e9 mi [.ref a_off, .int x0, .ref a_out] ws (fun r w => r = nI 0 ∧ ∃ v u o, P v u ∧ u[p_out]? = some (a_out, eD y 1 o) ∧ w = u.set p_out (a_out, eD y 1 (vf_upd o 0 v))) := by
  refine g_metL (cc := cL_core) (maxL := 4) (hh := [(0, 8, 11, 13)]) (by decide) rfl (Nat.le_of_ble_eq_true rfl) ?_
  intro p e s m below meth c A hx hb hml hr hts hown hlocks hE hP hD hS hA hZ htab ls hl
  have hown : s.vm.findClass RL = some m.cls := hown
  have hl : lv_has ls 4 [(0, .ref a_off), (1, .int x0), (2, .ref a_out)] := hl
  refine lv_aload_n hx hb dL_core_0 rfl (lv_at hl 2 rfl) ?_
  refine lv_iconst (v := nI 0) hx hb dL_core_1 (by decide) ?_
  refine lv_aload_n hx hb dL_core_2 rfl (lv_at hl 0 rfl) ?_
  refine lv_iload_n hx hb dL_core_3 rfl (lv_at hl 1 rfl) ?_
  refine gcz_V_d (As := [.int x0]) (rest := [.int (nI 0), .ref a_out]) hX ⟨hx, hb, hml, hown, hts⟩ (cwV 1 hts gL_core_X6_core rfl rfl rfl (by decide +kernel) ⟨Nat.le_refl _, Nat.le_refl _⟩) hE hZ hP hD hS hA _ ho rfl rfl rfl rfl hl.1 (Nat.le_of_ble_eq_true rfl) dL_core_4 ⟨Nat.le_of_eq (Nat.zero_add _), Nat.le_of_eq (Nat.zero_add _)⟩ (fun r u H locs hP hD hS q => ?_)
  rw [Nat.zero_add, Nat.zero_add]
  obtain ⟨o, g⟩ := hout r u q
  refine g_dast hx hb hE hP hD hS _ g (by decide) (by decide) dL_core_7 (fun H locs hP hD hS => ?_)
  refine lv_goto (tgt := 14) hx hb dL_core_8 (by decide) ?_
  refine lv_iconst (v := nI 0) hx hb dL_core_14 (by decide) ?_
  exact g_iret hx hb hr hlocks _ dL_core_15 hS hP hD ⟨rfl, r, u, o, q, g, rfl⟩
set_option maxRecDepth 100000 in
theorem exL_core_1 (l : Launch) {D : va_G} {y : Nat → Nat} {e9 mi : Nat} {ws : va_W} {rm : Room} {p_off a_off : Nat} {a_out : Nat} {fs : List Value} {x0 : Int32} (hX : gMX l yX6_core wsX6_core rm D y [.ref a_off, .int x0] ws "java/lang/IndexOutOfBoundsException") (ho : ws[p_off]? = some (a_off, .inr (7, fs))) : gZi l yL_core wsL_core { frames := rm.frames + 1, cells := rm.cells, slots := rm.slots, locals := 8 + (2 + 11) + rm.locals } D y e9 mi [.ref a_off, .int x0, .ref a_out] ws (fun r w => r = nI 1 ∧ w = ws) := by
  refine g_metL (cc := cL_core) (maxL := 4) (hh := [(0, 8, 11, 13)]) (by decide) rfl (Nat.le_of_ble_eq_true rfl) ?_
  intro p e s m below meth c A hx hb hml hr hts hown hlocks hE hP hD hS hA hZ htab ls hl
  have hown : s.vm.findClass RL = some m.cls := hown
  have hl : lv_has ls 4 [(0, .ref a_off), (1, .int x0), (2, .ref a_out)] := hl
  refine lv_aload_n hx hb dL_core_0 rfl (lv_at hl 2 rfl) ?_
  refine lv_iconst (v := nI 0) hx hb dL_core_1 (by decide) ?_
  refine lv_aload_n hx hb dL_core_2 rfl (lv_at hl 0 rfl) ?_
  refine lv_iload_n hx hb dL_core_3 rfl (lv_at hl 1 rfl) ?_
  refine gcz_VX (As := [.int x0]) (rest := [.int (nI 0), .ref a_out]) hX ⟨hx, hb, hml, hown, hts⟩ (cwV 1 hts gL_core_X6_core rfl rfl rfl (by decide +kernel) ⟨Nat.le_refl _, Nat.le_refl _⟩) hE hZ.1 hP hD hS hA _ ho rfl rfl rfl rfl hl.1 (Nat.le_of_ble_eq_true rfl) dL_core_4 ⟨Nat.le_of_eq (Nat.zero_add _), Nat.le_of_eq (Nat.zero_add _)⟩ [] ⟨0, 8, 11, 13⟩ [] (htab.trans rfl) (fun _ h => absurd h List.not_mem_nil) (by decide) (by decide) (hts (.classLink RL 13 "java/lang/IndexOutOfBoundsException") (by decide +kernel)) (va_Nw.use rfl (hE.2 _ hnest_137)) (fun q9 H locs hP hD hS => ?_)
  rw [Nat.zero_add, Nat.zero_add]
  refine lv_astore_n (lv' := [(3, .ref q9), (0, .ref a_off), (1, .int x0), (2, .ref a_out)]) hx hb dL_core_11 rfl hl (by decide) rfl (fun ls hl => ?_)
  refine lv_iconst (v := nI 1) hx hb dL_core_12 (by decide) ?_
  exact g_iret hx hb hr hlocks ws dL_core_13 hS hP hD ⟨rfl, rfl⟩
set_option maxRecDepth 100000 in
theorem okL_direct (l : Launch) {D : va_G} {y : Nat → Nat} {e9 mi : Nat} {ws : va_W} {rm : Room} {p_off a_off : Nat} {a_out p_out : Nat} {fs : List Value} {x0 : Int32} {P : UInt64 → va_W → Prop} (hX : gZd l yX6_direct wsX6_direct rm D y e9 mi [.ref a_off, .int x0] ws P) (hout : ∀ r u, P r u → ∃ o, u[p_out]? = some (a_out, eD y 1 o)) (ho : ws[p_off]? = some (a_off, .inr (7, fs))) : gZi l yL_direct wsL_direct { frames := rm.frames + 1, cells := rm.cells, slots := rm.slots, locals := 8 + (2 + 11) + rm.locals } D y e9 mi [.ref a_off, .int x0, .ref a_out] ws (fun r w => r = nI 0 ∧ ∃ v u o, P v u ∧ u[p_out]? = some (a_out, eD y 1 o) ∧ w = u.set p_out (a_out, eD y 1 (vf_upd o 0 v))) := by
  refine g_metL (cc := cL_direct) (maxL := 4) (hh := [(0, 8, 11, 13)]) (by decide) rfl (Nat.le_of_ble_eq_true rfl) ?_
  intro p e s m below meth c A hx hb hml hr hts hown hlocks hE hP hD hS hA hZ htab ls hl
  have hown : s.vm.findClass RL = some m.cls := hown
  have hl : lv_has ls 4 [(0, .ref a_off), (1, .int x0), (2, .ref a_out)] := hl
  refine lv_aload_n hx hb dL_direct_0 rfl (lv_at hl 2 rfl) ?_
  refine lv_iconst (v := nI 0) hx hb dL_direct_1 (by decide) ?_
  refine lv_aload_n hx hb dL_direct_2 rfl (lv_at hl 0 rfl) ?_
  refine lv_iload_n hx hb dL_direct_3 rfl (lv_at hl 1 rfl) ?_
  refine gcz_V_d (As := [.int x0]) (rest := [.int (nI 0), .ref a_out]) hX ⟨hx, hb, hml, hown, hts⟩ (cwV 1 hts gL_direct_X6_direct rfl rfl rfl (by decide +kernel) ⟨Nat.le_refl _, Nat.le_refl _⟩) hE hZ hP hD hS hA _ ho rfl rfl rfl rfl hl.1 (Nat.le_of_ble_eq_true rfl) dL_direct_4 ⟨Nat.le_of_eq (Nat.zero_add _), Nat.le_of_eq (Nat.zero_add _)⟩ (fun r u H locs hP hD hS q => ?_)
  rw [Nat.zero_add, Nat.zero_add]
  obtain ⟨o, g⟩ := hout r u q
  refine g_dast hx hb hE hP hD hS _ g (by decide) (by decide) dL_direct_7 (fun H locs hP hD hS => ?_)
  refine lv_goto (tgt := 14) hx hb dL_direct_8 (by decide) ?_
  refine lv_iconst (v := nI 0) hx hb dL_direct_14 (by decide) ?_
  exact g_iret hx hb hr hlocks _ dL_direct_15 hS hP hD ⟨rfl, r, u, o, q, g, rfl⟩
set_option maxRecDepth 100000 in
theorem exL_direct_1 (l : Launch) {D : va_G} {y : Nat → Nat} {e9 mi : Nat} {ws : va_W} {rm : Room} {p_off a_off : Nat} {a_out : Nat} {fs : List Value} {x0 : Int32} (hX : gMX l yX6_direct wsX6_direct rm D y [.ref a_off, .int x0] ws "java/lang/IndexOutOfBoundsException") (ho : ws[p_off]? = some (a_off, .inr (7, fs))) : gZi l yL_direct wsL_direct { frames := rm.frames + 1, cells := rm.cells, slots := rm.slots, locals := 8 + (2 + 11) + rm.locals } D y e9 mi [.ref a_off, .int x0, .ref a_out] ws (fun r w => r = nI 1 ∧ w = ws) := by
  refine g_metL (cc := cL_direct) (maxL := 4) (hh := [(0, 8, 11, 13)]) (by decide) rfl (Nat.le_of_ble_eq_true rfl) ?_
  intro p e s m below meth c A hx hb hml hr hts hown hlocks hE hP hD hS hA hZ htab ls hl
  have hown : s.vm.findClass RL = some m.cls := hown
  have hl : lv_has ls 4 [(0, .ref a_off), (1, .int x0), (2, .ref a_out)] := hl
  refine lv_aload_n hx hb dL_direct_0 rfl (lv_at hl 2 rfl) ?_
  refine lv_iconst (v := nI 0) hx hb dL_direct_1 (by decide) ?_
  refine lv_aload_n hx hb dL_direct_2 rfl (lv_at hl 0 rfl) ?_
  refine lv_iload_n hx hb dL_direct_3 rfl (lv_at hl 1 rfl) ?_
  refine gcz_VX (As := [.int x0]) (rest := [.int (nI 0), .ref a_out]) hX ⟨hx, hb, hml, hown, hts⟩ (cwV 1 hts gL_direct_X6_direct rfl rfl rfl (by decide +kernel) ⟨Nat.le_refl _, Nat.le_refl _⟩) hE hZ.1 hP hD hS hA _ ho rfl rfl rfl rfl hl.1 (Nat.le_of_ble_eq_true rfl) dL_direct_4 ⟨Nat.le_of_eq (Nat.zero_add _), Nat.le_of_eq (Nat.zero_add _)⟩ [] ⟨0, 8, 11, 13⟩ [] (htab.trans rfl) (fun _ h => absurd h List.not_mem_nil) (by decide) (by decide) (hts (.classLink RL 13 "java/lang/IndexOutOfBoundsException") (by decide +kernel)) (va_Nw.use rfl (hE.2 _ hnest_137)) (fun q9 H locs hP hD hS => ?_)
  rw [Nat.zero_add, Nat.zero_add]
  refine lv_astore_n (lv' := [(3, .ref q9), (0, .ref a_off), (1, .int x0), (2, .ref a_out)]) hx hb dL_direct_11 rfl hl (by decide) rfl (fun ls hl => ?_)
  refine lv_iconst (v := nI 1) hx hb dL_direct_12 (by decide) ?_
  exact g_iret hx hb hr hlocks ws dL_direct_13 hS hP hD ⟨rfl, rfl⟩
set_option maxRecDepth 100000 in
theorem okL_doubts (l : Launch) {D : va_G} {y : Nat → Nat} {e9 mi : Nat} {ws : va_W} {rm : Room} {p_off a_off : Nat} {a_out p_out : Nat} {fs : List Value} {x0 : Int32} {P : Int32 → va_W → Prop} (hX : gZi l yX6_doubts wsX6_doubts rm D y e9 mi [.ref a_off, .int x0] ws P) (hout : ∀ r u, P r u → ∃ o, u[p_out]? = some (a_out, eJ y 1 o)) (ho : ws[p_off]? = some (a_off, .inr (7, fs))) : gZi l yL_doubts wsL_doubts { frames := rm.frames + 1, cells := rm.cells, slots := rm.slots, locals := 8 + (2 + 11) + rm.locals } D y e9 mi [.ref a_off, .int x0, .ref a_out] ws (fun r w => r = nI 0 ∧ ∃ v u o, P v u ∧ u[p_out]? = some (a_out, eJ y 1 o) ∧ w = u.set p_out (a_out, eJ y 1 (vf_upd o 0 (Int32.toInt64 v)))) := by
  refine g_metL (cc := cL_doubts) (maxL := 4) (hh := [(0, 9, 12, 13)]) (by decide) rfl (Nat.le_of_ble_eq_true rfl) ?_
  intro p e s m below meth c A hx hb hml hr hts hown hlocks hE hP hD hS hA hZ htab ls hl
  have hown : s.vm.findClass RL = some m.cls := hown
  have hl : lv_has ls 4 [(0, .ref a_off), (1, .int x0), (2, .ref a_out)] := hl
  refine lv_aload_n hx hb dL_doubts_0 rfl (lv_at hl 2 rfl) ?_
  refine lv_iconst (v := nI 0) hx hb dL_doubts_1 (by decide) ?_
  refine lv_aload_n hx hb dL_doubts_2 rfl (lv_at hl 0 rfl) ?_
  refine lv_iload_n hx hb dL_doubts_3 rfl (lv_at hl 1 rfl) ?_
  refine gcz_V_i (As := [.int x0]) (rest := [.int (nI 0), .ref a_out]) hX ⟨hx, hb, hml, hown, hts⟩ (cwV 1 hts gL_doubts_X6_doubts rfl rfl rfl (by decide +kernel) ⟨Nat.le_refl _, Nat.le_refl _⟩) hE hZ hP hD hS hA _ ho rfl rfl rfl rfl hl.1 (Nat.le_of_ble_eq_true rfl) dL_doubts_4 ⟨Nat.le_of_eq (Nat.zero_add _), Nat.le_of_eq (Nat.zero_add _)⟩ (fun r u H locs hP hD hS q => ?_)
  rw [Nat.zero_add, Nat.zero_add]
  obtain ⟨o, g⟩ := hout r u q
  refine lv_i2l (v := Int32.toInt64 r) hx hb dL_doubts_7 rfl ?_
  refine g_last hx hb hE hP hD hS _ g (by decide) (by decide) dL_doubts_8 (fun H locs hP hD hS => ?_)
  refine lv_goto (tgt := 15) hx hb dL_doubts_9 (by decide) ?_
  refine lv_iconst (v := nI 0) hx hb dL_doubts_15 (by decide) ?_
  exact g_iret hx hb hr hlocks _ dL_doubts_16 hS hP hD ⟨rfl, r, u, o, q, g, rfl⟩
set_option maxRecDepth 100000 in
theorem exL_doubts_1 (l : Launch) {D : va_G} {y : Nat → Nat} {e9 mi : Nat} {ws : va_W} {rm : Room} {p_off a_off : Nat} {a_out : Nat} {fs : List Value} {x0 : Int32} (hX : gMX l yX6_doubts wsX6_doubts rm D y [.ref a_off, .int x0] ws "java/lang/IndexOutOfBoundsException") (ho : ws[p_off]? = some (a_off, .inr (7, fs))) : gZi l yL_doubts wsL_doubts { frames := rm.frames + 1, cells := rm.cells, slots := rm.slots, locals := 8 + (2 + 11) + rm.locals } D y e9 mi [.ref a_off, .int x0, .ref a_out] ws (fun r w => r = nI 1 ∧ w = ws) := by
  refine g_metL (cc := cL_doubts) (maxL := 4) (hh := [(0, 9, 12, 13)]) (by decide) rfl (Nat.le_of_ble_eq_true rfl) ?_
  intro p e s m below meth c A hx hb hml hr hts hown hlocks hE hP hD hS hA hZ htab ls hl
  have hown : s.vm.findClass RL = some m.cls := hown
  have hl : lv_has ls 4 [(0, .ref a_off), (1, .int x0), (2, .ref a_out)] := hl
  refine lv_aload_n hx hb dL_doubts_0 rfl (lv_at hl 2 rfl) ?_
  refine lv_iconst (v := nI 0) hx hb dL_doubts_1 (by decide) ?_
  refine lv_aload_n hx hb dL_doubts_2 rfl (lv_at hl 0 rfl) ?_
  refine lv_iload_n hx hb dL_doubts_3 rfl (lv_at hl 1 rfl) ?_
  refine gcz_VX (As := [.int x0]) (rest := [.int (nI 0), .ref a_out]) hX ⟨hx, hb, hml, hown, hts⟩ (cwV 1 hts gL_doubts_X6_doubts rfl rfl rfl (by decide +kernel) ⟨Nat.le_refl _, Nat.le_refl _⟩) hE hZ.1 hP hD hS hA _ ho rfl rfl rfl rfl hl.1 (Nat.le_of_ble_eq_true rfl) dL_doubts_4 ⟨Nat.le_of_eq (Nat.zero_add _), Nat.le_of_eq (Nat.zero_add _)⟩ [] ⟨0, 9, 12, 13⟩ [] (htab.trans rfl) (fun _ h => absurd h List.not_mem_nil) (by decide) (by decide) (hts (.classLink RL 13 "java/lang/IndexOutOfBoundsException") (by decide +kernel)) (va_Nw.use rfl (hE.2 _ hnest_137)) (fun q9 H locs hP hD hS => ?_)
  rw [Nat.zero_add, Nat.zero_add]
  refine lv_astore_n (lv' := [(3, .ref q9), (0, .ref a_off), (1, .int x0), (2, .ref a_out)]) hx hb dL_doubts_12 rfl hl (by decide) rfl (fun ls hl => ?_)
  refine lv_iconst (v := nI 1) hx hb dL_doubts_13 (by decide) ?_
  exact g_iret hx hb hr hlocks ws dL_doubts_14 hS hP hD ⟨rfl, rfl⟩
set_option maxRecDepth 100000 in
theorem okL_ofContract (l : Launch) {D : va_G} {y : Nat → Nat} {e9 mi : Nat} {ws : va_W} {rm : Room} {p_off a_off : Nat} {a_out p_out : Nat} {fs : List Value} {x0 x1 : Int32} {P : Int64 → va_W → Prop} (hX : gZl l yX6_ofContract wsX6_ofContract rm D y e9 mi [.ref a_off, .int x0, .int x1] ws P) (hout : ∀ r u, P r u → ∃ o, u[p_out]? = some (a_out, eJ y 1 o)) (ho : ws[p_off]? = some (a_off, .inr (7, fs))) : gZi l yL_ofContract wsL_ofContract { frames := rm.frames + 1, cells := rm.cells, slots := rm.slots, locals := 8 + (4 + 11) + rm.locals } D y e9 mi [.ref a_off, .int x0, .int x1, .ref a_out] ws (fun r w => r = nI 0 ∧ ∃ v u o, P v u ∧ u[p_out]? = some (a_out, eJ y 1 o) ∧ w = u.set p_out (a_out, eJ y 1 (vf_upd o 0 v))) := by
  refine g_metL (cc := cL_ofContract) (maxL := 5) (hh := [(0, 9, 12, 13)]) (by decide) rfl (Nat.le_of_ble_eq_true rfl) ?_
  intro p e s m below meth c A hx hb hml hr hts hown hlocks hE hP hD hS hA hZ htab ls hl
  have hown : s.vm.findClass RL = some m.cls := hown
  have hl : lv_has ls 5 [(0, .ref a_off), (1, .int x0), (2, .int x1), (3, .ref a_out)] := hl
  refine lv_aload_n hx hb dL_ofContract_0 rfl (lv_at hl 3 rfl) ?_
  refine lv_iconst (v := nI 0) hx hb dL_ofContract_1 (by decide) ?_
  refine lv_aload_n hx hb dL_ofContract_2 rfl (lv_at hl 0 rfl) ?_
  refine lv_iload_n hx hb dL_ofContract_3 rfl (lv_at hl 1 rfl) ?_
  refine lv_iload_n hx hb dL_ofContract_4 rfl (lv_at hl 2 rfl) ?_
  refine gcz_V_l (As := [.int x0, .int x1]) (rest := [.int (nI 0), .ref a_out]) hX ⟨hx, hb, hml, hown, hts⟩ (cwV 2 hts gL_ofContract_X6_ofContract rfl rfl rfl (by decide +kernel) ⟨Nat.le_refl _, Nat.le_refl _⟩) hE hZ hP hD hS hA _ ho rfl rfl rfl rfl hl.1 (Nat.le_of_ble_eq_true rfl) dL_ofContract_5 ⟨Nat.le_of_eq (Nat.zero_add _), Nat.le_of_eq (Nat.zero_add _)⟩ (fun r u H locs hP hD hS q => ?_)
  rw [Nat.zero_add, Nat.zero_add]
  obtain ⟨o, g⟩ := hout r u q
  refine g_last hx hb hE hP hD hS _ g (by decide) (by decide) dL_ofContract_8 (fun H locs hP hD hS => ?_)
  refine lv_goto (tgt := 16) hx hb dL_ofContract_9 (by decide) ?_
  refine lv_iconst (v := nI 0) hx hb dL_ofContract_16 (by decide) ?_
  exact g_iret hx hb hr hlocks _ dL_ofContract_17 hS hP hD ⟨rfl, r, u, o, q, g, rfl⟩
set_option maxRecDepth 100000 in
theorem exL_ofContract_1 (l : Launch) {D : va_G} {y : Nat → Nat} {e9 mi : Nat} {ws : va_W} {rm : Room} {p_off a_off : Nat} {a_out : Nat} {fs : List Value} {x0 x1 : Int32} (hX : gMX l yX6_ofContract wsX6_ofContract rm D y [.ref a_off, .int x0, .int x1] ws "java/lang/IndexOutOfBoundsException") (ho : ws[p_off]? = some (a_off, .inr (7, fs))) : gZi l yL_ofContract wsL_ofContract { frames := rm.frames + 1, cells := rm.cells, slots := rm.slots, locals := 8 + (4 + 11) + rm.locals } D y e9 mi [.ref a_off, .int x0, .int x1, .ref a_out] ws (fun r w => r = nI 1 ∧ w = ws) := by
  refine g_metL (cc := cL_ofContract) (maxL := 5) (hh := [(0, 9, 12, 13)]) (by decide) rfl (Nat.le_of_ble_eq_true rfl) ?_
  intro p e s m below meth c A hx hb hml hr hts hown hlocks hE hP hD hS hA hZ htab ls hl
  have hown : s.vm.findClass RL = some m.cls := hown
  have hl : lv_has ls 5 [(0, .ref a_off), (1, .int x0), (2, .int x1), (3, .ref a_out)] := hl
  refine lv_aload_n hx hb dL_ofContract_0 rfl (lv_at hl 3 rfl) ?_
  refine lv_iconst (v := nI 0) hx hb dL_ofContract_1 (by decide) ?_
  refine lv_aload_n hx hb dL_ofContract_2 rfl (lv_at hl 0 rfl) ?_
  refine lv_iload_n hx hb dL_ofContract_3 rfl (lv_at hl 1 rfl) ?_
  refine lv_iload_n hx hb dL_ofContract_4 rfl (lv_at hl 2 rfl) ?_
  refine gcz_VX (As := [.int x0, .int x1]) (rest := [.int (nI 0), .ref a_out]) hX ⟨hx, hb, hml, hown, hts⟩ (cwV 2 hts gL_ofContract_X6_ofContract rfl rfl rfl (by decide +kernel) ⟨Nat.le_refl _, Nat.le_refl _⟩) hE hZ.1 hP hD hS hA _ ho rfl rfl rfl rfl hl.1 (Nat.le_of_ble_eq_true rfl) dL_ofContract_5 ⟨Nat.le_of_eq (Nat.zero_add _), Nat.le_of_eq (Nat.zero_add _)⟩ [] ⟨0, 9, 12, 13⟩ [] (htab.trans rfl) (fun _ h => absurd h List.not_mem_nil) (by decide) (by decide) (hts (.classLink RL 13 "java/lang/IndexOutOfBoundsException") (by decide +kernel)) (va_Nw.use rfl (hE.2 _ hnest_137)) (fun q9 H locs hP hD hS => ?_)
  rw [Nat.zero_add, Nat.zero_add]
  refine lv_astore (lv' := [(4, .ref q9), (0, .ref a_off), (1, .int x0), (2, .int x1), (3, .ref a_out)]) hx hb dL_ofContract_12 hl (by decide) rfl (fun ls hl => ?_)
  refine lv_iconst (v := nI 1) hx hb dL_ofContract_14 (by decide) ?_
  exact g_iret hx hb hr hlocks ws dL_ofContract_15 hS hP hD ⟨rfl, rfl⟩
set_option maxRecDepth 100000 in
theorem okL_owed (l : Launch) {D : va_G} {y : Nat → Nat} {e9 mi : Nat} {ws : va_W} {rm : Room} {p_off a_off : Nat} {a_out p_out : Nat} {fs : List Value} {x0 : Int32} {P : Int64 → va_W → Prop} (hX : gZl l yX6_owed wsX6_owed rm D y e9 mi [.ref a_off, .int x0] ws P) (hout : ∀ r u, P r u → ∃ o, u[p_out]? = some (a_out, eJ y 1 o)) (ho : ws[p_off]? = some (a_off, .inr (7, fs))) : gZi l yL_owed wsL_owed { frames := rm.frames + 1, cells := rm.cells, slots := rm.slots, locals := 8 + (3 + 11) + rm.locals } D y e9 mi [.ref a_off, .int x0, .ref a_out] ws (fun r w => r = nI 0 ∧ ∃ v u o, P v u ∧ u[p_out]? = some (a_out, eJ y 1 o) ∧ w = u.set p_out (a_out, eJ y 1 (vf_upd o 0 v))) := by
  refine g_metL (cc := cL_owed) (maxL := 4) (hh := [(0, 8, 11, 13)]) (by decide) rfl (Nat.le_of_ble_eq_true rfl) ?_
  intro p e s m below meth c A hx hb hml hr hts hown hlocks hE hP hD hS hA hZ htab ls hl
  have hown : s.vm.findClass RL = some m.cls := hown
  have hl : lv_has ls 4 [(0, .ref a_off), (1, .int x0), (2, .ref a_out)] := hl
  refine lv_aload_n hx hb dL_owed_0 rfl (lv_at hl 2 rfl) ?_
  refine lv_iconst (v := nI 0) hx hb dL_owed_1 (by decide) ?_
  refine lv_aload_n hx hb dL_owed_2 rfl (lv_at hl 0 rfl) ?_
  refine lv_iload_n hx hb dL_owed_3 rfl (lv_at hl 1 rfl) ?_
  refine gcz_V_l (As := [.int x0]) (rest := [.int (nI 0), .ref a_out]) hX ⟨hx, hb, hml, hown, hts⟩ (cwV 1 hts gL_owed_X6_owed rfl rfl rfl (by decide +kernel) ⟨Nat.le_refl _, Nat.le_refl _⟩) hE hZ hP hD hS hA _ ho rfl rfl rfl rfl hl.1 (Nat.le_of_ble_eq_true rfl) dL_owed_4 ⟨Nat.le_of_eq (Nat.zero_add _), Nat.le_of_eq (Nat.zero_add _)⟩ (fun r u H locs hP hD hS q => ?_)
  rw [Nat.zero_add, Nat.zero_add]
  obtain ⟨o, g⟩ := hout r u q
  refine g_last hx hb hE hP hD hS _ g (by decide) (by decide) dL_owed_7 (fun H locs hP hD hS => ?_)
  refine lv_goto (tgt := 14) hx hb dL_owed_8 (by decide) ?_
  refine lv_iconst (v := nI 0) hx hb dL_owed_14 (by decide) ?_
  exact g_iret hx hb hr hlocks _ dL_owed_15 hS hP hD ⟨rfl, r, u, o, q, g, rfl⟩
set_option maxRecDepth 100000 in
theorem exL_owed_1 (l : Launch) {D : va_G} {y : Nat → Nat} {e9 mi : Nat} {ws : va_W} {rm : Room} {p_off a_off : Nat} {a_out : Nat} {fs : List Value} {x0 : Int32} (hX : gMX l yX6_owed wsX6_owed rm D y [.ref a_off, .int x0] ws "java/lang/IndexOutOfBoundsException") (ho : ws[p_off]? = some (a_off, .inr (7, fs))) : gZi l yL_owed wsL_owed { frames := rm.frames + 1, cells := rm.cells, slots := rm.slots, locals := 8 + (3 + 11) + rm.locals } D y e9 mi [.ref a_off, .int x0, .ref a_out] ws (fun r w => r = nI 1 ∧ w = ws) := by
  refine g_metL (cc := cL_owed) (maxL := 4) (hh := [(0, 8, 11, 13)]) (by decide) rfl (Nat.le_of_ble_eq_true rfl) ?_
  intro p e s m below meth c A hx hb hml hr hts hown hlocks hE hP hD hS hA hZ htab ls hl
  have hown : s.vm.findClass RL = some m.cls := hown
  have hl : lv_has ls 4 [(0, .ref a_off), (1, .int x0), (2, .ref a_out)] := hl
  refine lv_aload_n hx hb dL_owed_0 rfl (lv_at hl 2 rfl) ?_
  refine lv_iconst (v := nI 0) hx hb dL_owed_1 (by decide) ?_
  refine lv_aload_n hx hb dL_owed_2 rfl (lv_at hl 0 rfl) ?_
  refine lv_iload_n hx hb dL_owed_3 rfl (lv_at hl 1 rfl) ?_
  refine gcz_VX (As := [.int x0]) (rest := [.int (nI 0), .ref a_out]) hX ⟨hx, hb, hml, hown, hts⟩ (cwV 1 hts gL_owed_X6_owed rfl rfl rfl (by decide +kernel) ⟨Nat.le_refl _, Nat.le_refl _⟩) hE hZ.1 hP hD hS hA _ ho rfl rfl rfl rfl hl.1 (Nat.le_of_ble_eq_true rfl) dL_owed_4 ⟨Nat.le_of_eq (Nat.zero_add _), Nat.le_of_eq (Nat.zero_add _)⟩ [] ⟨0, 8, 11, 13⟩ [] (htab.trans rfl) (fun _ h => absurd h List.not_mem_nil) (by decide) (by decide) (hts (.classLink RL 13 "java/lang/IndexOutOfBoundsException") (by decide +kernel)) (va_Nw.use rfl (hE.2 _ hnest_137)) (fun q9 H locs hP hD hS => ?_)
  rw [Nat.zero_add, Nat.zero_add]
  refine lv_astore_n (lv' := [(3, .ref q9), (0, .ref a_off), (1, .int x0), (2, .ref a_out)]) hx hb dL_owed_11 rfl hl (by decide) rfl (fun ls hl => ?_)
  refine lv_iconst (v := nI 1) hx hb dL_owed_12 (by decide) ?_
  exact g_iret hx hb hr hlocks ws dL_owed_13 hS hP hD ⟨rfl, rfl⟩
set_option maxRecDepth 100000 in
theorem okL_count (l : Launch) {D : va_G} {y : Nat → Nat} {e9 mi : Nat} {ws : va_W} {rm : Room} {p_off a_off : Nat} {a_out p_out : Nat} {fs : List Value} {x0 : Int32} {P : Int32 → va_W → Prop} (hX : gZi l yX6_count wsX6_count rm D y e9 mi [.ref a_off, .int x0] ws P) (hout : ∀ r u, P r u → ∃ o, u[p_out]? = some (a_out, eJ y 1 o)) (ho : ws[p_off]? = some (a_off, .inr (7, fs))) : gZi l yL_count wsL_count { frames := rm.frames + 1, cells := rm.cells, slots := rm.slots, locals := 8 + (2 + 11) + rm.locals } D y e9 mi [.ref a_off, .int x0, .ref a_out] ws (fun r w => r = nI 0 ∧ ∃ v u o, P v u ∧ u[p_out]? = some (a_out, eJ y 1 o) ∧ w = u.set p_out (a_out, eJ y 1 (vf_upd o 0 (Int32.toInt64 v)))) := by
  refine g_metL (cc := cL_count) (maxL := 4) (hh := [(0, 9, 12, 13)]) (by decide) rfl (Nat.le_of_ble_eq_true rfl) ?_
  intro p e s m below meth c A hx hb hml hr hts hown hlocks hE hP hD hS hA hZ htab ls hl
  have hown : s.vm.findClass RL = some m.cls := hown
  have hl : lv_has ls 4 [(0, .ref a_off), (1, .int x0), (2, .ref a_out)] := hl
  refine lv_aload_n hx hb dL_count_0 rfl (lv_at hl 2 rfl) ?_
  refine lv_iconst (v := nI 0) hx hb dL_count_1 (by decide) ?_
  refine lv_aload_n hx hb dL_count_2 rfl (lv_at hl 0 rfl) ?_
  refine lv_iload_n hx hb dL_count_3 rfl (lv_at hl 1 rfl) ?_
  refine gcz_V_i (As := [.int x0]) (rest := [.int (nI 0), .ref a_out]) hX ⟨hx, hb, hml, hown, hts⟩ (cwV 1 hts gL_count_X6_count rfl rfl rfl (by decide +kernel) ⟨Nat.le_refl _, Nat.le_refl _⟩) hE hZ hP hD hS hA _ ho rfl rfl rfl rfl hl.1 (Nat.le_of_ble_eq_true rfl) dL_count_4 ⟨Nat.le_of_eq (Nat.zero_add _), Nat.le_of_eq (Nat.zero_add _)⟩ (fun r u H locs hP hD hS q => ?_)
  rw [Nat.zero_add, Nat.zero_add]
  obtain ⟨o, g⟩ := hout r u q
  refine lv_i2l (v := Int32.toInt64 r) hx hb dL_count_7 rfl ?_
  refine g_last hx hb hE hP hD hS _ g (by decide) (by decide) dL_count_8 (fun H locs hP hD hS => ?_)
  refine lv_goto (tgt := 15) hx hb dL_count_9 (by decide) ?_
  refine lv_iconst (v := nI 0) hx hb dL_count_15 (by decide) ?_
  exact g_iret hx hb hr hlocks _ dL_count_16 hS hP hD ⟨rfl, r, u, o, q, g, rfl⟩
set_option maxRecDepth 100000 in
theorem exL_count_1 (l : Launch) {D : va_G} {y : Nat → Nat} {e9 mi : Nat} {ws : va_W} {rm : Room} {p_off a_off : Nat} {a_out : Nat} {fs : List Value} {x0 : Int32} (hX : gMX l yX6_count wsX6_count rm D y [.ref a_off, .int x0] ws "java/lang/IndexOutOfBoundsException") (ho : ws[p_off]? = some (a_off, .inr (7, fs))) : gZi l yL_count wsL_count { frames := rm.frames + 1, cells := rm.cells, slots := rm.slots, locals := 8 + (2 + 11) + rm.locals } D y e9 mi [.ref a_off, .int x0, .ref a_out] ws (fun r w => r = nI 1 ∧ w = ws) := by
  refine g_metL (cc := cL_count) (maxL := 4) (hh := [(0, 9, 12, 13)]) (by decide) rfl (Nat.le_of_ble_eq_true rfl) ?_
  intro p e s m below meth c A hx hb hml hr hts hown hlocks hE hP hD hS hA hZ htab ls hl
  have hown : s.vm.findClass RL = some m.cls := hown
  have hl : lv_has ls 4 [(0, .ref a_off), (1, .int x0), (2, .ref a_out)] := hl
  refine lv_aload_n hx hb dL_count_0 rfl (lv_at hl 2 rfl) ?_
  refine lv_iconst (v := nI 0) hx hb dL_count_1 (by decide) ?_
  refine lv_aload_n hx hb dL_count_2 rfl (lv_at hl 0 rfl) ?_
  refine lv_iload_n hx hb dL_count_3 rfl (lv_at hl 1 rfl) ?_
  refine gcz_VX (As := [.int x0]) (rest := [.int (nI 0), .ref a_out]) hX ⟨hx, hb, hml, hown, hts⟩ (cwV 1 hts gL_count_X6_count rfl rfl rfl (by decide +kernel) ⟨Nat.le_refl _, Nat.le_refl _⟩) hE hZ.1 hP hD hS hA _ ho rfl rfl rfl rfl hl.1 (Nat.le_of_ble_eq_true rfl) dL_count_4 ⟨Nat.le_of_eq (Nat.zero_add _), Nat.le_of_eq (Nat.zero_add _)⟩ [] ⟨0, 9, 12, 13⟩ [] (htab.trans rfl) (fun _ h => absurd h List.not_mem_nil) (by decide) (by decide) (hts (.classLink RL 13 "java/lang/IndexOutOfBoundsException") (by decide +kernel)) (va_Nw.use rfl (hE.2 _ hnest_137)) (fun q9 H locs hP hD hS => ?_)
  rw [Nat.zero_add, Nat.zero_add]
  refine lv_astore_n (lv' := [(3, .ref q9), (0, .ref a_off), (1, .int x0), (2, .ref a_out)]) hx hb dL_count_12 rfl hl (by decide) rfl (fun ls hl => ?_)
  refine lv_iconst (v := nI 1) hx hb dL_count_13 (by decide) ?_
  exact g_iret hx hb hr hlocks ws dL_count_14 hS hP hD ⟨rfl, rfl⟩
