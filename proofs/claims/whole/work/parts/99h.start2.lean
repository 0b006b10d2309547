/-! the law from its entry: the two objects, the two answers, nothing published yet -/
theorem PInv.zero : PInv 0 0 0 (fun _ => 0) (fun _ => 0) (fun _ => false) (fun _ => 0) (fun _ => false) (fun _ => 0) (fun _ => 0) (fun _ => 0) (fun _ => 0) (fun _ => 0) (fun _ => 0) (fun _ => 0) (fun _ => 0) (fun _ => 0) (fun _ => 0) (fun _ => 0) (fun _ => 0) (fun _ => 0) (fun _ => 0) (fun _ => 0) (fun _ => 0) (fun _ => 0) (fun _ => 0) (fun _ => 0) (fun _ => false) (fun _ => 0) (fun _ => 0) (fun _ => 0) (fun _ => 0) (fun _ => 0) (fun _ => 0) (fun _ => 0) (fun _ => 0) (fun _ => 0) (fun _ => 0) (fun _ => 0) (fun _ => 0) := by
  refine ⟨Nat.zero_le _, Nat.zero_le _, Nat.zero_le _, fun _ => Nat.zero_le _, fun _ => Nat.zero_le _, fun _ => Nat.zero_le _, fun _ => Nat.zero_le _, fun _ => Nat.zero_le _, fun _ => Nat.zero_le _, fun _ => Nat.zero_le _, fun _ => Nat.zero_le _, fun _ => Nat.zero_le _, fun _ => Nat.zero_le _, fun _ => Nat.zero_le _, fun _ => Nat.zero_le _, fun _ => Nat.zero_le _, fun _ => Nat.zero_le _, fun _ => Nat.zero_le _, fun _ => Nat.zero_le _, fun _ => Nat.zero_le _, fun _ => Nat.zero_le _, fun _ => Nat.zero_le _, fun _ => Nat.zero_le _, fun _ => Nat.zero_le _, fun _ => Nat.zero_le _, fun _ _ => rfl, fun _ _ => ⟨rfl, rfl⟩, fun _ _ => rfl, ?_, ?_, fun _ _ _ _ _ _ => ⟨rfl, rfl, rfl⟩, fun t ht => absurd ht (Nat.not_lt_zero _), fun _ _ _ _ _ => ⟨rfl, fun _ _ => rfl⟩, fun _ _ _ _ _ => ⟨rfl, fun _ _ => rfl⟩, fun _ _ _ _ _ => ⟨rfl, fun _ _ => rfl⟩, fun _ _ => rfl, fun _ _ => rfl, fun _ _ => rfl, fun _ _ => rfl, fun _ _ => rfl, fun k hk => absurd hk (by omega), fun _ _ _ => rfl, fun t ht => absurd ht (Nat.not_lt_zero _), fun t ht => absurd ht (Nat.not_lt_zero _), fun t ht => absurd ht (Nat.not_lt_zero _), fun _ _ => rfl⟩
  · funext k; unfold rCw; split <;> rfl
  · intro k; constructor <;> intro h <;> cases h
theorem fsX7_ok : ∀ j, j < 33 → defaultValue (tyX7 j) = vp_V [.int (nI 0), .int (nI 0), .null, .null, .null, .int (nI 0), .int (nI 0), .int (nI 0), .null, .null, .null, .null, .null, .null, .null, .null, .null, .null, .null, .null, .null, .null, .null, .int (nI 0), .null, .null, .null, .null, .null, .null, .null, .null, .null] j := by decide +kernel
theorem fsX6_ok : ∀ j, j < 8 → defaultValue (tyX6 j) = vp_V [.null, .null, .null, .null, .null, .null, .null, .int (nI 0)] j := by decide +kernel
abbrev w30 (y : Nat → Nat) (e0 a_off a_led a_itl a_cents a_grams a_cf a_cc a_fx a_lc a_lg a_spd a_told a_adp a_shr a_ser a_sums a_pr a_rel a_grp a_idx a_red a_sums2 a_pr2 a_rel2 a_grp2 a_idx2 a_num a_cnum a_ctl : Nat) : va_W := [((e0, eQ y 0 (fun _ => none)) : Nat × va_E),
  (a_off, .inr (7, [.ref a_led, .ref a_spd, .ref a_ser, .ref a_red, .ref a_num, .ref a_cnum, .ref a_ctl, .int (nI 0)])),
  (a_led, .inr (3, [.ref a_itl, .ref a_cents, .ref a_grams, .ref a_cf, .ref a_cc, .ref a_fx, .ref a_lc, .ref a_lg, .int (nI 0), .int (nI 0)])),
  (a_itl, .inr (0, [.int (nI 0), .ref e0, .int (nI 0)])),
  (a_cents, eN y 1152 (fun _ => 0)),
  (a_grams, eN y 1152 (fun _ => 0)),
  (a_cf, eZ y 1152 (fun _ => false)),
  (a_cc, eN y 1152 (fun _ => 0)),
  (a_fx, eZ y 1152 (fun _ => false)),
  (a_lc, eN y 1152 (fun _ => 0)),
  (a_lg, eN y 1152 (fun _ => 0)),
  (a_spd, .inr (5, [.ref a_told, .ref a_adp, .ref a_shr])),
  (a_told, eN y 12 (fun _ => 0)),
  (a_adp, eN y 12 (fun _ => 0)),
  (a_shr, eD y 480 (fun _ => 0)),
  (a_ser, .inr (4, [.ref a_led, .ref a_spd, .ref a_sums, .ref a_pr, .ref a_rel, .ref a_grp, .ref a_idx, .int (gb false)])),
  (a_sums, .inr (6, [.int (nI 0), .double 0, .double 0, .double 0, .double 0])),
  (a_pr, eD y 1152 (fun _ => 0)),
  (a_rel, eD y 288 (fun _ => 0)),
  (a_grp, eD y 96 (fun _ => 0)),
  (a_idx, eD y 120 (fun _ => 0)),
  (a_red, .inr (4, [.ref a_led, .ref a_spd, .ref a_sums2, .ref a_pr2, .ref a_rel2, .ref a_grp2, .ref a_idx2, .int (gb false)])),
  (a_sums2, .inr (6, [.int (nI 0), .double 0, .double 0, .double 0, .double 0])),
  (a_pr2, eD y 1152 (fun _ => 0)),
  (a_rel2, eD y 288 (fun _ => 0)),
  (a_grp2, eD y 96 (fun _ => 0)),
  (a_idx2, eD y 120 (fun _ => 0)),
  (a_num, eN y 24 (fun _ => 0)),
  (a_cnum, eN y 24 (fun _ => 0)),
  (a_ctl, .inr (0, [.int (nI 0), .ref e0, .int (nI 0)]))]
abbrev w28 (y : Nat → Nat) (a_mod b31 b32 b33 b34 b35 b36 b37 b38 b39 b40 b41 b42 b43 b44 b45 b46 b47 b48 b49 b50 b51 b52 b53 b54 b55 b56 b57 : Nat) : va_W := [(a_mod, .inr (8, .int (nI 0) :: .int (nI 0) :: .ref b31 :: .ref b32 :: .ref b33 :: .int (nI 0) :: .int (nI 0) :: .int (nI 0) :: .ref b34 :: .ref b35 :: .ref b36 :: .ref b37 :: .ref b38 :: .ref b39 :: .ref b40 :: .ref b41 :: .ref b42 :: .ref b43 :: .ref b44 :: .ref b45 :: .ref b46 :: .ref b47 :: .ref b48 :: .int (nI 0) :: .ref b49 :: .ref b50 :: .ref b51 :: .ref b52 :: .ref b53 :: .ref b54 :: .ref b55 :: .ref b56 :: .ref b57 :: [])),
  (b31, eN y 12 (fun _ => 0)),
  (b32, eN y 12 (fun _ => 0)),
  (b33, eN y 12 (fun _ => 0)),
  (b34, eN y 1152 (fun _ => 0)),
  (b35, eN y 1152 (fun _ => 0)),
  (b36, eN y 1152 (fun _ => 0)),
  (b37, eZ y 1152 (fun _ => false)),
  (b38, eN y 1152 (fun _ => 0)),
  (b39, eN y 1152 (fun _ => 0)),
  (b40, eN y 12 (fun _ => 0)),
  (b41, eN y 12 (fun _ => 0)),
  (b42, eN y 288 (fun _ => 0)),
  (b43, eD y 2304 (fun _ => 0)),
  (b44, eZ y 2304 (fun _ => false)),
  (b45, eD y 576 (fun _ => 0)),
  (b46, eD y 192 (fun _ => 0)),
  (b47, eD y 240 (fun _ => 0)),
  (b48, eN y 48 (fun _ => 0)),
  (b49, eN y 10 (fun _ => 0)),
  (b50, eN y 10 (fun _ => 0)),
  (b51, eZ y 10 (fun _ => false)),
  (b52, eL y 10 (fun _ => 0)),
  (b53, eN y 10 (fun _ => 0)),
  (b54, eL y 10 (fun _ => 0)),
  (b55, eL y 10 (fun _ => 0)),
  (b56, eN y 10 (fun _ => 0)),
  (b57, eL y 10 (fun _ => 0))]
theorem set28 {w : va_W} {m0 m1 x0 x1 x2 x3 x4 x5 x6 x7 x8 x9 x10 x11 x12 x13 x14 x15 x16 x17 x18 x19 x20 x21 x22 x23 x24 x25 x26 : Nat × va_E} : (((((((((((((((((((((((((((((w ++ [m0]) ++ [x0]) ++ [x1]) ++ [x2]) ++ [x3]) ++ [x4]) ++ [x5]) ++ [x6]) ++ [x7]) ++ [x8]) ++ [x9]) ++ [x10]) ++ [x11]) ++ [x12]) ++ [x13]) ++ [x14]) ++ [x15]) ++ [x16]) ++ [x17]) ++ [x18]) ++ [x19]) ++ [x20]) ++ [x21]) ++ [x22]) ++ [x23]) ++ [x24]) ++ [x25]) ++ [x26])).set w.length m1 = w ++ [m1, x0, x1, x2, x3, x4, x5, x6, x7, x8, x9, x10, x11, x12, x13, x14, x15, x16, x17, x18, x19, x20, x21, x22, x23, x24, x25, x26] := by
  simp only [List.append_assoc, List.cons_append, List.nil_append]
  rw [List.set_append_right _ _ (Nat.le_refl _), Nat.sub_self, List.set_cons_zero]
/-- the facts of a world make it that list -/
theorem made30 {y : Nat → Nat} {u : va_W} {e0 a_off a_led a_itl a_cents a_grams a_cf a_cc a_fx a_lc a_lg a_spd a_told a_adp a_shr a_ser a_sums a_pr a_rel a_grp a_idx a_red a_sums2 a_pr2 a_rel2 a_grp2 a_idx2 a_num a_cnum a_ctl : Nat} (hlen : u.length = 30) (g0 : u[0]? = some ((e0, eQ y 0 (fun _ => none)) : Nat × va_E)) (g1 : u[1]? = some (a_off, .inr (7, [.ref a_led, .ref a_spd, .ref a_ser, .ref a_red, .ref a_num, .ref a_cnum, .ref a_ctl, .int (nI 0)]))) (g2 : u[2]? = some (a_led, .inr (3, [.ref a_itl, .ref a_cents, .ref a_grams, .ref a_cf, .ref a_cc, .ref a_fx, .ref a_lc, .ref a_lg, .int (nI 0), .int (nI 0)]))) (g3 : u[3]? = some (a_itl, .inr (0, [.int (nI 0), .ref e0, .int (nI 0)]))) (g4 : u[4]? = some (a_cents, eN y 1152 (fun _ => 0))) (g5 : u[5]? = some (a_grams, eN y 1152 (fun _ => 0))) (g6 : u[6]? = some (a_cf, eZ y 1152 (fun _ => false))) (g7 : u[7]? = some (a_cc, eN y 1152 (fun _ => 0))) (g8 : u[8]? = some (a_fx, eZ y 1152 (fun _ => false))) (g9 : u[9]? = some (a_lc, eN y 1152 (fun _ => 0))) (g10 : u[10]? = some (a_lg, eN y 1152 (fun _ => 0))) (g11 : u[11]? = some (a_spd, .inr (5, [.ref a_told, .ref a_adp, .ref a_shr]))) (g12 : u[12]? = some (a_told, eN y 12 (fun _ => 0))) (g13 : u[13]? = some (a_adp, eN y 12 (fun _ => 0))) (g14 : u[14]? = some (a_shr, eD y 480 (fun _ => 0))) (g15 : u[15]? = some (a_ser, .inr (4, [.ref a_led, .ref a_spd, .ref a_sums, .ref a_pr, .ref a_rel, .ref a_grp, .ref a_idx, .int (gb false)]))) (g16 : u[16]? = some (a_sums, .inr (6, [.int (nI 0), .double 0, .double 0, .double 0, .double 0]))) (g17 : u[17]? = some (a_pr, eD y 1152 (fun _ => 0))) (g18 : u[18]? = some (a_rel, eD y 288 (fun _ => 0))) (g19 : u[19]? = some (a_grp, eD y 96 (fun _ => 0))) (g20 : u[20]? = some (a_idx, eD y 120 (fun _ => 0))) (g21 : u[21]? = some (a_red, .inr (4, [.ref a_led, .ref a_spd, .ref a_sums2, .ref a_pr2, .ref a_rel2, .ref a_grp2, .ref a_idx2, .int (gb false)]))) (g22 : u[22]? = some (a_sums2, .inr (6, [.int (nI 0), .double 0, .double 0, .double 0, .double 0]))) (g23 : u[23]? = some (a_pr2, eD y 1152 (fun _ => 0))) (g24 : u[24]? = some (a_rel2, eD y 288 (fun _ => 0))) (g25 : u[25]? = some (a_grp2, eD y 96 (fun _ => 0))) (g26 : u[26]? = some (a_idx2, eD y 120 (fun _ => 0))) (g27 : u[27]? = some (a_num, eN y 24 (fun _ => 0))) (g28 : u[28]? = some (a_cnum, eN y 24 (fun _ => 0))) (g29 : u[29]? = some (a_ctl, .inr (0, [.int (nI 0), .ref e0, .int (nI 0)]))) : u = w30 y e0 a_off a_led a_itl a_cents a_grams a_cf a_cc a_fx a_lc a_lg a_spd a_told a_adp a_shr a_ser a_sums a_pr a_rel a_grp a_idx a_red a_sums2 a_pr2 a_rel2 a_grp2 a_idx2 a_num a_cnum a_ctl := by
  obtain ⟨rest, hr9⟩ := pre_of (L := w30 y e0 a_off a_led a_itl a_cents a_grams a_cf a_cc a_fx a_lc a_lg a_spd a_told a_adp a_shr a_ser a_sums a_pr a_rel a_grp a_idx a_red a_sums2 a_pr2 a_rel2 a_grp2 a_idx2 a_num a_cnum a_ctl) (u := u) (fun k hk => by
    have hk : k < 30 := hk
    match k, hk with
    | 0, _ => exact g0
    | 1, _ => exact g1
    | 2, _ => exact g2
    | 3, _ => exact g3
    | 4, _ => exact g4
    | 5, _ => exact g5
    | 6, _ => exact g6
    | 7, _ => exact g7
    | 8, _ => exact g8
    | 9, _ => exact g9
    | 10, _ => exact g10
    | 11, _ => exact g11
    | 12, _ => exact g12
    | 13, _ => exact g13
    | 14, _ => exact g14
    | 15, _ => exact g15
    | 16, _ => exact g16
    | 17, _ => exact g17
    | 18, _ => exact g18
    | 19, _ => exact g19
    | 20, _ => exact g20
    | 21, _ => exact g21
    | 22, _ => exact g22
    | 23, _ => exact g23
    | 24, _ => exact g24
    | 25, _ => exact g25
    | 26, _ => exact g26
    | 27, _ => exact g27
    | 28, _ => exact g28
    | 29, _ => exact g29
    | k + 30, hk => exact absurd hk (by omega))
  have e30 : (w30 y e0 a_off a_led a_itl a_cents a_grams a_cf a_cc a_fx a_lc a_lg a_spd a_told a_adp a_shr a_ser a_sums a_pr a_rel a_grp a_idx a_red a_sums2 a_pr2 a_rel2 a_grp2 a_idx2 a_num a_cnum a_ctl).length = 30 := rfl
  rw [hr9, List.length_append, e30] at hlen
  have e9 : rest = [] := List.eq_nil_of_length_eq_zero (by omega)
  rw [hr9, e9, List.append_nil]
theorem law_htl {args : Array Value} {s : State} (hts : ∀ w ∈ lw_tbl, w.before args s = true) : ∀ w ∈ wsL_law, w.before args s = true := fun w h => hts w (wsL_law_in w h)
set_option maxHeartbeats 1000000 in
set_option maxRecDepth 100000 in
theorem start_X6 {p : Program} {l : Launch} {e : Env} {s : State} {m : MethodId} {below : List Frame} {meth : Method} {c : Code} {b : Nat} {D : va_G} {y : Nat → Nat} {A : Nat → Prop} {H : Heap} {locs : List Loc} {cells slots : Nat} {Q : State → Prop} {ls : Array Slot} {e0 mi : Nat} (hx : p.tables.exec = Jvm.exec) (hb : c.code = cL_law) (hml : c.maxLocals = 9) (hown : s.vm.findClass RL = some m.cls) (hts : ∀ w ∈ lw_tbl, w.before #[Value.ref b] s = true) (hE : gE D y s) (hA : ∀ q : Nat, s.heap.size ≤ q → A q) (hY : gY e0 mi A s s.heap) (hP : gvP D vwCl [((e0, eQ y 0 (fun _ => none)) : Nat × va_E)] H) (hD : gvD A [((e0, eQ y 0 (fun _ => none)) : Nat × va_E)]) (hS : va_S A s.heap H locs) (hl : lv_has ls 9 [(0, .ref b)]) (hC : cells ≤ 100 ∧ slots ≤ 1000)
    (kk : ∀ (a_off a_led a_itl a_cents a_grams a_cf a_cc a_fx a_lc a_lg a_spd a_told a_adp a_shr a_ser a_sums a_pr a_rel a_grp a_idx a_red a_sums2 a_pr2 a_rel2 a_grp2 a_idx2 a_num a_cnum a_ctl : Nat) (H : Heap) (locs : List Loc) (ls : Array Slot), gvP D vwCl (w30 y e0 a_off a_led a_itl a_cents a_grams a_cf a_cc a_fx a_lc a_lg a_spd a_told a_adp a_shr a_ser a_sums a_pr a_rel a_grp a_idx a_red a_sums2 a_pr2 a_rel2 a_grp2 a_idx2 a_num a_cnum a_ctl) H → gvD A (w30 y e0 a_off a_led a_itl a_cents a_grams a_cf a_cc a_fx a_lc a_lg a_spd a_told a_adp a_shr a_ser a_sums a_pr a_rel a_grp a_idx a_red a_sums2 a_pr2 a_rel2 a_grp2 a_idx2 a_num a_cnum a_ctl) → va_S A s.heap H locs → lv_has ls 9 [(1, .ref a_off), (0, .ref b)] → W p l e room_1 s m #[.ref b] below meth c H locs (cells + 1 + 28) (slots + 8 + 11973) Q (F0 m 8 ls [])) : W p l e room_1 s m #[.ref b] below meth c H locs cells slots Q (F0 m 0 ls []) := by
  have htl := law_htl hts
  have hr1 : room_1.cells = 601024 := rfl
  have hr2 : room_1.slots = 7293034 := rfl
  refine gv_add (by intro _; rfl) (fun kk9 => va_new (ci := 7) (fs := [.null, .null, .null, .null, .null, .null, .null, .int (nI 0)]) (C := RX6) (T := TX6) (N := 8) hx hb hts inX6 tyX6 tyX6_ok hown (hts (.classLink RL 8 RX6) (by decide +kernel)) (hts (.instantiable RX6 8) (by decide +kernel)) (hts (.initialized RX6) (by decide +kernel)) hE.1 hP hD hS hA rfl fsX6_ok (by omega) (by omega) dL_law_0 kk9) (fun a_off H hP hD hS => ?_)
  have hP : gvP D vwCl [((e0, eQ y 0 (fun _ => none)) : Nat × va_E), (a_off, .inr (7, [.null, .null, .null, .null, .null, .null, .null, .int (nI 0)]))] H := hP
  have hD : gvD A [((e0, eQ y 0 (fun _ => none)) : Nat × va_E), (a_off, .inr (7, [.null, .null, .null, .null, .null, .null, .null, .int (nI 0)]))] := hD
  have f_off : ([((e0, eQ y 0 (fun _ => none)) : Nat × va_E), (a_off, .inr (7, [.null, .null, .null, .null, .null, .null, .null, .int (nI 0)]))] : va_W)[1]? = some (a_off, .inr (7, [.null, .null, .null, .null, .null, .null, .null, .int (nI 0)])) := rfl
  refine lv_dup hx hb dL_law_3 rfl ?_
  refine gcy_I_v (As := []) (rest := [.ref a_off]) (c_X6_init l f_off) ⟨hx, hb, hml, hown, htl⟩ (cwI 0 htl gL_law_X6_init rfl rfl rfl (htl (.initialized RX6) (by decide +kernel)) (htl (.methodLink RL 104 yX6_init) (by decide +kernel)) (htl (.instanceMethod yX6_init) (by decide +kernel)) rfl (by decide +kernel) ⟨(Nat.le_of_ble_eq_true rfl), (Nat.le_of_ble_eq_true rfl)⟩) hE hY hP hD hS hA rfl rfl hl.1 (Nat.le_of_ble_eq_true rfl) dL_law_4 ⟨show cells + 1 + 28 ≤ 601024 by omega, show slots + 8 + 11973 ≤ 7293034 by omega⟩ (fun u H locs hP hD hS q4 => ?_)
  obtain ⟨hk4, hlen, a_led, a_itl, a_cents, a_grams, a_cf, a_cc, a_fx, a_lc, a_lg, a_spd, a_told, a_adp, a_shr, a_ser, a_sums, a_pr, a_rel, a_grp, a_idx, a_red, a_sums2, a_pr2, a_rel2, a_grp2, a_idx2, a_num, a_cnum, a_ctl, g1, g2, g3, g4, g5, g6, g7, g8, g9, g10, g11, g12, g13, g14, g15, g16, g17, g18, g19, g20, g21, g22, g23, g24, g25, g26, g27, g28, g29⟩ := q4
  have h0 := hk4 0 _ (by decide) (show ([((e0, eQ y 0 (fun _ => none)) : Nat × va_E), (a_off, .inr (7, [.null, .null, .null, .null, .null, .null, .null, .int (nI 0)]))] : va_W)[0]? = some ((e0, eQ y 0 (fun _ => none)) : Nat × va_E) from rfl)
  have hu : u = w30 y e0 a_off a_led a_itl a_cents a_grams a_cf a_cc a_fx a_lc a_lg a_spd a_told a_adp a_shr a_ser a_sums a_pr a_rel a_grp a_idx a_red a_sums2 a_pr2 a_rel2 a_grp2 a_idx2 a_num a_cnum a_ctl := made30 hlen h0 g1 g2 g3 g4 g5 g6 g7 g8 g9 g10 g11 g12 g13 g14 g15 g16 g17 g18 g19 g20 g21 g22 g23 g24 g25 g26 g27 g28 g29
  subst hu
  refine lv_astore_n (lv' := [(1, .ref a_off), (0, .ref b)]) hx hb dL_law_7 rfl hl (by decide) rfl (fun ls hl => ?_)
  exact kk a_off a_led a_itl a_cents a_grams a_cf a_cc a_fx a_lc a_lg a_spd a_told a_adp a_shr a_ser a_sums a_pr a_rel a_grp a_idx a_red a_sums2 a_pr2 a_rel2 a_grp2 a_idx2 a_num a_cnum a_ctl H locs ls hP hD hS hl
set_option maxHeartbeats 1000000 in
set_option maxRecDepth 100000 in
theorem start_X7 {p : Program} {l : Launch} {e : Env} {s : State} {m : MethodId} {below : List Frame} {meth : Method} {c : Code} {b : Nat} {D : va_G} {y : Nat → Nat} {A : Nat → Prop} {H : Heap} {locs : List Loc} {cells slots : Nat} {Q : State → Prop} {ls : Array Slot} {w : va_W} {a_off : Nat} (hx : p.tables.exec = Jvm.exec) (hb : c.code = cL_law) (hml : c.maxLocals = 9) (hown : s.vm.findClass RL = some m.cls) (hts : ∀ w ∈ lw_tbl, w.before #[Value.ref b] s = true) (hE : gE D y s) (hA : ∀ q : Nat, s.heap.size ≤ q → A q) (hP : gvP D vwCl w H) (hD : gvD A w) (hS : va_S A s.heap H locs) (hl : lv_has ls 9 [(1, .ref a_off), (0, .ref b)]) (hC : cells ≤ 100 ∧ slots ≤ 20000)
    (kk : ∀ (a_mod b31 b32 b33 b34 b35 b36 b37 b38 b39 b40 b41 b42 b43 b44 b45 b46 b47 b48 b49 b50 b51 b52 b53 b54 b55 b56 b57 : Nat) (H : Heap) (locs : List Loc) (ls : Array Slot), gvP D vwCl (w ++ w28 y a_mod b31 b32 b33 b34 b35 b36 b37 b38 b39 b40 b41 b42 b43 b44 b45 b46 b47 b48 b49 b50 b51 b52 b53 b54 b55 b56 b57) H → gvD A (w ++ w28 y a_mod b31 b32 b33 b34 b35 b36 b37 b38 b39 b40 b41 b42 b43 b44 b45 b46 b47 b48 b49 b50 b51 b52 b53 b54 b55 b56 b57) → va_S A s.heap H locs → lv_has ls 9 [(2, .ref a_mod), (1, .ref a_off), (0, .ref b)] → W p l e room_1 s m #[.ref b] below meth c H locs (cells + 1 + 27) (slots + 33 + 13014) Q (F0 m 16 ls [])) : W p l e room_1 s m #[.ref b] below meth c H locs cells slots Q (F0 m 8 ls []) := by
  have htl := law_htl hts
  have hr1 : room_1.cells = 601024 := rfl
  have hr2 : room_1.slots = 7293034 := rfl
  refine gv_add (by intro _; rfl) (fun kk9 => va_new (ci := 8) (fs := [.int (nI 0), .int (nI 0), .null, .null, .null, .int (nI 0), .int (nI 0), .int (nI 0), .null, .null, .null, .null, .null, .null, .null, .null, .null, .null, .null, .null, .null, .null, .null, .int (nI 0), .null, .null, .null, .null, .null, .null, .null, .null, .null]) (C := RX7) (T := TX7) (N := 33) hx hb hts inX7 tyX7 tyX7_ok hown (hts (.classLink RL 105 RX7) (by decide +kernel)) (hts (.instantiable RX7 33) (by decide +kernel)) (hts (.initialized RX7) (by decide +kernel)) hE.1 hP hD hS hA rfl fsX7_ok (by omega) (by omega) dL_law_8 kk9) (fun a_mod H hP hD hS => ?_)
  have f_mod : (w ++ [((a_mod, .inr (8, .int (nI 0) :: .int (nI 0) :: .null :: .null :: .null :: .int (nI 0) :: .int (nI 0) :: .int (nI 0) :: .null :: .null :: .null :: .null :: .null :: .null :: .null :: .null :: .null :: .null :: .null :: .null :: .null :: .null :: .null :: .int (nI 0) :: .null :: .null :: .null :: .null :: .null :: .null :: .null :: .null :: .null :: [])) : Nat × va_E)])[w.length]? = some (a_mod, .inr (8, .int (nI 0) :: .int (nI 0) :: .null :: .null :: .null :: .int (nI 0) :: .int (nI 0) :: .int (nI 0) :: .null :: .null :: .null :: .null :: .null :: .null :: .null :: .null :: .null :: .null :: .null :: .null :: .null :: .null :: .null :: .int (nI 0) :: .null :: .null :: .null :: .null :: .null :: .null :: .null :: .null :: .null :: [])) := g_apN
  refine lv_dup hx hb dL_law_11 rfl ?_
  refine gc_I_v (As := []) (rest := [.ref a_mod]) (c_X7_init l f_mod) ⟨hx, hb, hml, hown, htl⟩ (cwI 0 htl gL_law_X7_init rfl rfl rfl (htl (.initialized RX7) (by decide +kernel)) (htl (.methodLink RL 107 yX7_init) (by decide +kernel)) (htl (.instanceMethod yX7_init) (by decide +kernel)) rfl (by decide +kernel) ⟨(Nat.le_of_ble_eq_true rfl), (Nat.le_of_ble_eq_true rfl)⟩) hE hP hD hS hA rfl rfl hl.1 (Nat.le_of_ble_eq_true rfl) dL_law_12 ⟨show cells + 1 + 27 ≤ 601024 by omega, show slots + 33 + 13014 ≤ 7293034 by omega⟩ (fun u H locs hP hD hS q12 => ?_)
  have hP := g_trP set28 hP
  have hD := g_trD set28 hD
  refine lv_astore_n (lv' := [(2, .ref a_mod), (1, .ref a_off), (0, .ref b)]) hx hb dL_law_15 rfl hl (by decide) rfl (fun ls hl => ?_)
  exact kk a_mod u.1 u.2.1 u.2.2.1 u.2.2.2.1 u.2.2.2.2.1 u.2.2.2.2.2.1 u.2.2.2.2.2.2.1 u.2.2.2.2.2.2.2.1 u.2.2.2.2.2.2.2.2.1 u.2.2.2.2.2.2.2.2.2.1 u.2.2.2.2.2.2.2.2.2.2.1 u.2.2.2.2.2.2.2.2.2.2.2.1 u.2.2.2.2.2.2.2.2.2.2.2.2.1 u.2.2.2.2.2.2.2.2.2.2.2.2.2.1 u.2.2.2.2.2.2.2.2.2.2.2.2.2.2.1 u.2.2.2.2.2.2.2.2.2.2.2.2.2.2.2.1 u.2.2.2.2.2.2.2.2.2.2.2.2.2.2.2.2.1 u.2.2.2.2.2.2.2.2.2.2.2.2.2.2.2.2.2.1 u.2.2.2.2.2.2.2.2.2.2.2.2.2.2.2.2.2.2.1 u.2.2.2.2.2.2.2.2.2.2.2.2.2.2.2.2.2.2.2.1 u.2.2.2.2.2.2.2.2.2.2.2.2.2.2.2.2.2.2.2.2.1 u.2.2.2.2.2.2.2.2.2.2.2.2.2.2.2.2.2.2.2.2.2.1 u.2.2.2.2.2.2.2.2.2.2.2.2.2.2.2.2.2.2.2.2.2.2.1 u.2.2.2.2.2.2.2.2.2.2.2.2.2.2.2.2.2.2.2.2.2.2.2.1 u.2.2.2.2.2.2.2.2.2.2.2.2.2.2.2.2.2.2.2.2.2.2.2.2.1 u.2.2.2.2.2.2.2.2.2.2.2.2.2.2.2.2.2.2.2.2.2.2.2.2.2.1 u.2.2.2.2.2.2.2.2.2.2.2.2.2.2.2.2.2.2.2.2.2.2.2.2.2.2 H locs ls hP hD hS hl
set_option maxHeartbeats 1000000 in
set_option maxRecDepth 100000 in
theorem start_out {p : Program} {l : Launch} {e : Env} {s : State} {m : MethodId} {below : List Frame} {meth : Method} {c : Code} {b : Nat} {D : va_G} {y : Nat → Nat} {A : Nat → Prop} {H : Heap} {locs : List Loc} {cells slots : Nat} {Q : State → Prop} {ls : Array Slot} {w : va_W} {a_off a_mod : Nat} (hx : p.tables.exec = Jvm.exec) (hb : c.code = cL_law) (hml : c.maxLocals = 9) (hown : s.vm.findClass RL = some m.cls) (hts : ∀ w ∈ lw_tbl, w.before #[Value.ref b] s = true) (hE : gE D y s) (hA : ∀ q : Nat, s.heap.size ≤ q → A q) (hP : gvP D vwCl w H) (hD : gvD A w) (hS : va_S A s.heap H locs) (hl : lv_has ls 9 [(2, .ref a_mod), (1, .ref a_off), (0, .ref b)]) (hC : cells ≤ 100 ∧ slots ≤ 40000)
    (kk : ∀ (a_out a_outD : Nat) (H : Heap) (ls : Array Slot), gvP D vwCl (w ++ [((a_out, eJ y 1 (fun _ => lN 0)) : Nat × va_E), (a_outD, eD y 1 (fun _ => 0))]) H → gvD A (w ++ [((a_out, eJ y 1 (fun _ => lN 0)) : Nat × va_E), (a_outD, eD y 1 (fun _ => 0))]) → va_S A s.heap H locs → lv_has ls 9 (l0L 0 b a_off a_mod a_out a_outD) → W p l e room_1 s m #[.ref b] below meth c H locs (cells + 1 + 1) (slots + 1 + 1) Q (F0 m 28 ls [])) : W p l e room_1 s m #[.ref b] below meth c H locs cells slots Q (F0 m 16 ls []) := by
  have hr1 : room_1.cells = 601024 := rfl
  have hr2 : room_1.slots = 7293034 := rfl
  refine lv_iconst (v := nI 1) hx hb dL_law_16 (by decide) ?_
  refine g_newaL hx hb (hts (.arrayClass .long) (by decide +kernel)) hE hP hD hS hA (k := 1) (by omega) (by omega) (by omega) dL_law_17 (fun a_out H hP hD hS => ?_)
  refine lv_astore_n (lv' := [(3, .ref a_out), (2, .ref a_mod), (1, .ref a_off), (0, .ref b)]) hx hb dL_law_19 rfl hl (by decide) rfl (fun ls hl => ?_)
  refine lv_iconst (v := nI 1) hx hb dL_law_20 (by decide) ?_
  refine g_newaD hx hb (hts (.arrayClass .double) (by decide +kernel)) hE hP hD hS hA (k := 1) (by omega) (by omega) (by omega) dL_law_21 (fun a_outD H hP hD hS => ?_)
  refine lv_astore (lv' := [(4, .ref a_outD), (3, .ref a_out), (2, .ref a_mod), (1, .ref a_off), (0, .ref b)]) hx hb dL_law_23 hl (by decide) rfl (fun ls hl => ?_)
  refine lv_iconst (v := nI 0) hx hb dL_law_25 (by decide) ?_
  refine lv_istore (lv' := [(5, .int (nI 0)), (4, .ref a_outD), (3, .ref a_out), (2, .ref a_mod), (1, .ref a_off), (0, .ref b)]) hx hb dL_law_26 hl (by decide) rfl (fun ls hl => ?_)
  have hP := g_trP (List.append_assoc _ _ _) hP
  have hD := g_trD (List.append_assoc _ _ _) hD
  exact kk a_out a_outD H ls hP hD hS (lv_sub hl [0, 5, 4, 3, 2, 1] rfl)
theorem zero_c {ad y : Nat → Nat} : w30 y (ad 0) (ad 1) (ad 2) (ad 3) (ad 4) (ad 5) (ad 6) (ad 7) (ad 8) (ad 9) (ad 10) (ad 11) (ad 12) (ad 13) (ad 14) (ad 15) (ad 16) (ad 17) (ad 18) (ad 19) (ad 20) (ad 21) (ad 22) (ad 23) (ad 24) (ad 25) (ad 26) (ad 27) (ad 28) (ad 29) = LWc ad y 0 0 0 0 0 (nI 0) (nI 0) (ad 0) (ad 0) (fun _ => none) (fun _ => 0) (fun _ => 0) (fun _ => false) (fun _ => 0) (fun _ => false) (fun _ => 0) (fun _ => 0) (fun _ => 0) (fun _ => 0) (fun _ => 0) (0, 0, 0, 0, 0) (fun _ => 0) (fun _ => 0) (fun _ => 0) (fun _ => 0) false (0, 0, 0, 0, 0) (fun _ => 0) (fun _ => 0) (fun _ => 0) (fun _ => 0) (fun _ => 0) (fun _ => 0) := rfl
theorem zero_m {ad y : Nat → Nat} : w28 y (ad 30) (ad 31) (ad 32) (ad 33) (ad 34) (ad 35) (ad 36) (ad 37) (ad 38) (ad 39) (ad 40) (ad 41) (ad 42) (ad 43) (ad 44) (ad 45) (ad 46) (ad 47) (ad 48) (ad 49) (ad 50) (ad 51) (ad 52) (ad 53) (ad 54) (ad 55) (ad 56) (ad 57) = LWm ad y 0 0 (fun _ => 0) (fun _ => 0) (fun _ => 0) 0 0 0 (fun _ => 0) (fun _ => 0) (fun _ => 0) (fun _ => false) (fun _ => 0) (fun _ => 0) (fun _ => 0) (fun _ => 0) (fun _ => 0) (fun _ => 0) (fun _ => false) (fun _ => 0) (fun _ => 0) (fun _ => 0) (fun _ => 0) 0 (fun _ => 0) (fun _ => 0) (fun _ => false) (fun _ => 0) (fun _ => 0) (fun _ => 0) (fun _ => 0) (fun _ => 0) (fun _ => 0) := rfl
theorem zero_inv {ad y : Nat → Nat} : LInv ad y (LWc ad y 0 0 0 0 0 (nI 0) (nI 0) (ad 0) (ad 0) (fun _ => none) (fun _ => 0) (fun _ => 0) (fun _ => false) (fun _ => 0) (fun _ => false) (fun _ => 0) (fun _ => 0) (fun _ => 0) (fun _ => 0) (fun _ => 0) (0, 0, 0, 0, 0) (fun _ => 0) (fun _ => 0) (fun _ => 0) (fun _ => 0) false (0, 0, 0, 0, 0) (fun _ => 0) (fun _ => 0) (fun _ => 0) (fun _ => 0) (fun _ => 0) (fun _ => 0) ++ (LWm ad y 0 0 (fun _ => 0) (fun _ => 0) (fun _ => 0) 0 0 0 (fun _ => 0) (fun _ => 0) (fun _ => 0) (fun _ => false) (fun _ => 0) (fun _ => 0) (fun _ => 0) (fun _ => 0) (fun _ => 0) (fun _ => 0) (fun _ => false) (fun _ => 0) (fun _ => 0) (fun _ => 0) (fun _ => 0) 0 (fun _ => 0) (fun _ => 0) (fun _ => false) (fun _ => 0) (fun _ => 0) (fun _ => 0) (fun _ => 0) (fun _ => 0) (fun _ => 0) ++ (LWo ad y (fun _ => lN 0) (fun _ => 0) ++ []))) := LInv.mk (pi := 0) (pc := 0) (Or.inl ⟨rfl, rfl⟩) (Or.inl ⟨rfl, rfl⟩) (Or.inl rfl) PInv.zero
theorem zero_w {ad y : Nat → Nat} : (w30 y (ad 0) (ad 1) (ad 2) (ad 3) (ad 4) (ad 5) (ad 6) (ad 7) (ad 8) (ad 9) (ad 10) (ad 11) (ad 12) (ad 13) (ad 14) (ad 15) (ad 16) (ad 17) (ad 18) (ad 19) (ad 20) (ad 21) (ad 22) (ad 23) (ad 24) (ad 25) (ad 26) (ad 27) (ad 28) (ad 29) ++ w28 y (ad 30) (ad 31) (ad 32) (ad 33) (ad 34) (ad 35) (ad 36) (ad 37) (ad 38) (ad 39) (ad 40) (ad 41) (ad 42) (ad 43) (ad 44) (ad 45) (ad 46) (ad 47) (ad 48) (ad 49) (ad 50) (ad 51) (ad 52) (ad 53) (ad 54) (ad 55) (ad 56) (ad 57)) ++ [((ad 58, eJ y 1 (fun _ => lN 0)) : Nat × va_E), (ad 59, eD y 1 (fun _ => 0))] = (LWc ad y 0 0 0 0 0 (nI 0) (nI 0) (ad 0) (ad 0) (fun _ => none) (fun _ => 0) (fun _ => 0) (fun _ => false) (fun _ => 0) (fun _ => false) (fun _ => 0) (fun _ => 0) (fun _ => 0) (fun _ => 0) (fun _ => 0) (0, 0, 0, 0, 0) (fun _ => 0) (fun _ => 0) (fun _ => 0) (fun _ => 0) false (0, 0, 0, 0, 0) (fun _ => 0) (fun _ => 0) (fun _ => 0) (fun _ => 0) (fun _ => 0) (fun _ => 0) ++ (LWm ad y 0 0 (fun _ => 0) (fun _ => 0) (fun _ => 0) 0 0 0 (fun _ => 0) (fun _ => 0) (fun _ => 0) (fun _ => false) (fun _ => 0) (fun _ => 0) (fun _ => 0) (fun _ => 0) (fun _ => 0) (fun _ => 0) (fun _ => false) (fun _ => 0) (fun _ => 0) (fun _ => 0) (fun _ => 0) 0 (fun _ => 0) (fun _ => 0) (fun _ => false) (fun _ => 0) (fun _ => 0) (fun _ => 0) (fun _ => 0) (fun _ => 0) (fun _ => 0) ++ (LWo ad y (fun _ => lN 0) (fun _ => 0) ++ []))) := by rw [zero_c, zero_m, List.append_assoc, List.append_nil]
set_option maxHeartbeats 1000000 in
set_option maxRecDepth 100000 in
theorem whole_start {p : Program} {e : Env} {s : State} {m : MethodId} {below : List Frame} {meth : Method} {c : Code} (l : Launch) (hflags : l.flags = flags0) {b L : Nat} {xs : Nat → Int32} (hL : L ≤ 2560) (C0 : lw_At p s m meth c b L xs) : W p l e room_1 s m #[Value.ref b] below meth c s.heap [] 0 0 (lw_Z below #[Value.ref b] s) (entryFrame m ([Value.ref b] : List Value).toArray 9) := by
  obtain ⟨hx, hb, hr, hml, hown, hts, hX, hbl, hlocks, hgv⟩ := C0
  have hown : s.vm.findClass RL = some m.cls := hown
  have hfl : l.stackTraces = false := by
    show (!l.flags.contains noTraceFlag) = false
    rw [hflags]
    decide +kernel
  have hA : ∀ q : Nat, s.heap.size ≤ q → (fun q : Nat => s.heap.size ≤ q) q := fun _ h => h
  have hA0 : ∀ a : Nat, a < s.heap.size → ¬ (fun q : Nat => s.heap.size ≤ q) a := fun a h h2 => absurd h (Nat.not_lt.mpr h2)
  obtain ⟨D, y, hE⟩ := start_E hts
  obtain ⟨e0, mi, hZ⟩ := start_Z hts hgv hA0
  have hS : va_S (fun q : Nat => s.heap.size ≤ q) s.heap s.heap [] := va_S.rf
  have hl := lv_entry ([.ref b]) (n := 9) (Nat.le_of_ble_eq_true rfl)
  rw [lg_entry_eq]
  generalize (lg_sl ([.ref b]) ++ List.replicate (9 - (lg_sl ([.ref b])).length) Slot.unset).toArray = ls at hl ⊢
  have hl : lv_has ls 9 [(0, .ref b)] := hl
  refine start_X6 (A := (fun q : Nat => s.heap.size ≤ q)) (y := y) (e0 := e0) (mi := mi) hx hb hml hown hts hE hA hZ.2.1 (gvP.weak rfl) (gvD.weak rfl) hS hl ⟨by decide, by decide⟩ (fun a_off a_led a_itl a_cents a_grams a_cf a_cc a_fx a_lc a_lg a_spd a_told a_adp a_shr a_ser a_sums a_pr a_rel a_grp a_idx a_red a_sums2 a_pr2 a_rel2 a_grp2 a_idx2 a_num a_cnum a_ctl H locs ls hP hD hS hl => ?_)
  refine start_X7 hx hb hml hown hts hE hA hP hD hS hl ⟨by decide, by decide⟩ (fun a_mod b31 b32 b33 b34 b35 b36 b37 b38 b39 b40 b41 b42 b43 b44 b45 b46 b47 b48 b49 b50 b51 b52 b53 b54 b55 b56 b57 H locs ls hP hD hS hl => ?_)
  refine start_out hx hb hml hown hts hE hA hP hD hS hl ⟨by decide, by decide⟩ (fun a_out a_outD H ls hP hD hS hl => ?_)
  obtain ⟨ad, ead⟩ : ∃ ad : Nat → Nat, ad = fun k => [e0, a_off, a_led, a_itl, a_cents, a_grams, a_cf, a_cc, a_fx, a_lc, a_lg, a_spd, a_told, a_adp, a_shr, a_ser, a_sums, a_pr, a_rel, a_grp, a_idx, a_red, a_sums2, a_pr2, a_rel2, a_grp2, a_idx2, a_num, a_cnum, a_ctl, a_mod, b31, b32, b33, b34, b35, b36, b37, b38, b39, b40, b41, b42, b43, b44, b45, b46, b47, b48, b49, b50, b51, b52, b53, b54, b55, b56, b57, a_out, a_outD].getD k 0 := ⟨_, rfl⟩
  have z0 : e0 = ad 0 := by rw [ead]; rfl
  have z1 : a_off = ad 1 := by rw [ead]; rfl
  have z2 : a_led = ad 2 := by rw [ead]; rfl
  have z3 : a_itl = ad 3 := by rw [ead]; rfl
  have z4 : a_cents = ad 4 := by rw [ead]; rfl
  have z5 : a_grams = ad 5 := by rw [ead]; rfl
  have z6 : a_cf = ad 6 := by rw [ead]; rfl
  have z7 : a_cc = ad 7 := by rw [ead]; rfl
  have z8 : a_fx = ad 8 := by rw [ead]; rfl
  have z9 : a_lc = ad 9 := by rw [ead]; rfl
  have z10 : a_lg = ad 10 := by rw [ead]; rfl
  have z11 : a_spd = ad 11 := by rw [ead]; rfl
  have z12 : a_told = ad 12 := by rw [ead]; rfl
  have z13 : a_adp = ad 13 := by rw [ead]; rfl
  have z14 : a_shr = ad 14 := by rw [ead]; rfl
  have z15 : a_ser = ad 15 := by rw [ead]; rfl
  have z16 : a_sums = ad 16 := by rw [ead]; rfl
  have z17 : a_pr = ad 17 := by rw [ead]; rfl
  have z18 : a_rel = ad 18 := by rw [ead]; rfl
  have z19 : a_grp = ad 19 := by rw [ead]; rfl
  have z20 : a_idx = ad 20 := by rw [ead]; rfl
  have z21 : a_red = ad 21 := by rw [ead]; rfl
  have z22 : a_sums2 = ad 22 := by rw [ead]; rfl
  have z23 : a_pr2 = ad 23 := by rw [ead]; rfl
  have z24 : a_rel2 = ad 24 := by rw [ead]; rfl
  have z25 : a_grp2 = ad 25 := by rw [ead]; rfl
  have z26 : a_idx2 = ad 26 := by rw [ead]; rfl
  have z27 : a_num = ad 27 := by rw [ead]; rfl
  have z28 : a_cnum = ad 28 := by rw [ead]; rfl
  have z29 : a_ctl = ad 29 := by rw [ead]; rfl
  have z30 : a_mod = ad 30 := by rw [ead]; rfl
  have z31 : b31 = ad 31 := by rw [ead]; rfl
  have z32 : b32 = ad 32 := by rw [ead]; rfl
  have z33 : b33 = ad 33 := by rw [ead]; rfl
  have z34 : b34 = ad 34 := by rw [ead]; rfl
  have z35 : b35 = ad 35 := by rw [ead]; rfl
  have z36 : b36 = ad 36 := by rw [ead]; rfl
  have z37 : b37 = ad 37 := by rw [ead]; rfl
  have z38 : b38 = ad 38 := by rw [ead]; rfl
  have z39 : b39 = ad 39 := by rw [ead]; rfl
  have z40 : b40 = ad 40 := by rw [ead]; rfl
  have z41 : b41 = ad 41 := by rw [ead]; rfl
  have z42 : b42 = ad 42 := by rw [ead]; rfl
  have z43 : b43 = ad 43 := by rw [ead]; rfl
  have z44 : b44 = ad 44 := by rw [ead]; rfl
  have z45 : b45 = ad 45 := by rw [ead]; rfl
  have z46 : b46 = ad 46 := by rw [ead]; rfl
  have z47 : b47 = ad 47 := by rw [ead]; rfl
  have z48 : b48 = ad 48 := by rw [ead]; rfl
  have z49 : b49 = ad 49 := by rw [ead]; rfl
  have z50 : b50 = ad 50 := by rw [ead]; rfl
  have z51 : b51 = ad 51 := by rw [ead]; rfl
  have z52 : b52 = ad 52 := by rw [ead]; rfl
  have z53 : b53 = ad 53 := by rw [ead]; rfl
  have z54 : b54 = ad 54 := by rw [ead]; rfl
  have z55 : b55 = ad 55 := by rw [ead]; rfl
  have z56 : b56 = ad 56 := by rw [ead]; rfl
  have z57 : b57 = ad 57 := by rw [ead]; rfl
  have z58 : a_out = ad 58 := by rw [ead]; rfl
  have z59 : a_outD = ad 59 := by rw [ead]; rfl
  clear ead
  subst z0 z1 z2 z3 z4 z5 z6 z7 z8 z9 z10 z11 z12 z13 z14 z15 z16 z17 z18 z19 z20 z21 z22 z23 z24 z25 z26 z27 z28 z29 z30 z31 z32 z33 z34 z35 z36 z37 z38 z39 z40 z41 z42 z43 z44 z45 z46 z47 z48 z49 z50 z51 z52 z53 z54 z55 z56 z57 z58 z59
  have hB : LWB p s m c meth b L xs D y (ad 0) mi (fun q : Nat => s.heap.size ≤ q) := ⟨hx, hb, hml, law_htl hts, hown, hE, hZ, hX, hbl, hA0 b hbl, hA, hL⟩
  refine W.widen (k := 70 + 5 * 0) (n := 30000 + 100 * 0) (by decide) (by decide) ?_
  exact law_loop hfl hr hlocks hB (L + 1) 0 (by omega) (Nat.zero_le _) _ H _ ls zero_inv (g_trP zero_w hP) (g_trD zero_w hD) hS hl
