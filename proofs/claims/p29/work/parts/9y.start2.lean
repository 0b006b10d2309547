/-! the law from its entry: the office, the law's own rows, nothing published yet -/
theorem LInv.zero : LInv 0 0 0 0 0 (fun _ => 0) (fun _ => 0) (fun _ => false) (fun _ => 0) (fun _ => false) (fun _ => 0) (fun _ => 0) (fun _ => 0) (fun _ => 0) (fun _ => 0) (fun _ => 0) (fun _ => 0) (fun _ => 0) (fun _ => 0) (fun _ => 0) (fun _ => 0) (fun _ => 0) (fun _ => 0) (fun _ => 0) (fun _ => 0) (fun _ => 0) (fun _ => 0) (fun _ => 0) (fun _ => 0) (fun _ => 0) (fun _ => 0) (fun _ => 0) (fun _ => 0) (fun _ => 0) (fun _ => 0) (fun _ => 0) (fun _ => 0) (fun _ => 0) (fun _ => false) (fun _ => 0) (fun _ => (0, 0, 0, 0)) := by
  refine ⟨⟨rfl, rfl, rfl, rfl, rfl⟩, ⟨Nat.zero_le _, Nat.zero_le _, Nat.zero_le _⟩, ⟨fun _ => Nat.zero_le _, fun _ => Nat.zero_le _, fun _ => Nat.zero_le _, fun _ => Nat.zero_le _⟩, fun _ => Nat.zero_le _, ⟨fun _ => Nat.zero_le _, fun _ => Nat.zero_le _, fun _ => Nat.zero_le _⟩,
    ⟨fun _ => Nat.zero_le _, fun _ => Nat.zero_le _, fun _ => Nat.zero_le _, fun _ => Nat.zero_le _, fun _ => Nat.zero_le _, fun _ => Nat.zero_le _, fun _ => Nat.zero_le _, fun _ => Nat.zero_le _, fun _ => Nat.zero_le _, fun _ => Nat.zero_le _, fun _ => Nat.zero_le _, fun _ => Nat.zero_le _⟩,
    ⟨fun _ => Nat.zero_le _, fun _ => Nat.zero_le _, fun _ => Nat.zero_le _⟩, fun k hk => absurd hk (Nat.not_lt_zero _), fun a _ => ⟨rfl, rfl, rfl, rfl, rfl, lIts_0 rfl, rfl⟩, fun _ => Iff.rfl, fun _ => Iff.rfl, fun _ _ => rfl, fun _ _ _ _ _ _ => ⟨rfl, rfl, rfl⟩, fun _ _ _ => ⟨rfl, rfl⟩,
    fun t ht => absurd ht (Nat.not_lt_zero _), fun _ _ _ _ _ => ⟨rfl, fun _ _ => rfl⟩, fun t ht => absurd ht (Nat.not_lt_zero _), fun _ _ => ⟨rfl, rfl⟩, fun t ht => absurd ht (Nat.not_lt_zero _), fun k hk => absurd hk (Nat.not_lt_zero _), fun k hk => absurd hk (Nat.not_lt_zero _)⟩
theorem fsX6_ok : ∀ j, j < 8 → defaultValue (tyX6 j) = vp_V [.null, .null, .null, .null, .null, .null, .null, .int (nI 0)] j := by decide +kernel
abbrev w30 (y : Nat → Nat) (e0 a_off a_led a_itl a_cents a_grams a_cf a_cc a_fx a_lc a_lg a_spd a_told a_adp a_shr a_ser a_sums a_pr a_rel a_grp a_idx a_red a_sums2 a_pr2 a_rel2 a_grp2 a_idx2 a_num a_cnum a_ctl : Nat) : va_W := [((e0, eQ y 0 (fun _ => none)) : Nat × va_E),
  (a_off, .inr (7, [.ref a_led, .ref a_spd, .ref a_ser, .ref a_red, .ref a_num, .ref a_cnum, .ref a_ctl, .int (nI 0)])),
  (a_led, .inr (3, [.ref a_itl, .ref a_cents, .ref a_grams, .ref a_cf, .ref a_cc, .ref a_fx, .ref a_lc, .ref a_lg, .int (nI 0), .int (nI 0)])),
  (a_itl, .inr (0, [.int (nI 0), .ref e0, .int (nI 0)])),
  (a_cents, eN y 1152 (fun _ => 0)),
  (a_grams, eN y 1152 (fun _ => 0)),
  (a_cf, eZ y 1152 (fun _ => false)),
  (a_cc, eN y 1152 (fun _ => 0)),
  (a_fx, eZ y 1152 (fun _ => false)),
  (a_lc, eN y 1152 (fun _ => 0)),
  (a_lg, eN y 1152 (fun _ => 0)),
  (a_spd, .inr (5, [.ref a_told, .ref a_adp, .ref a_shr])),
  (a_told, eN y 12 (fun _ => 0)),
  (a_adp, eN y 12 (fun _ => 0)),
  (a_shr, eD y 480 (fun _ => 0)),
  (a_ser, .inr (4, [.ref a_led, .ref a_spd, .ref a_sums, .ref a_pr, .ref a_rel, .ref a_grp, .ref a_idx, .int (gb false)])),
  (a_sums, .inr (6, [.int (nI 0), .double 0, .double 0, .double 0, .double 0])),
  (a_pr, eD y 1152 (fun _ => 0)),
  (a_rel, eD y 288 (fun _ => 0)),
  (a_grp, eD y 96 (fun _ => 0)),
  (a_idx, eD y 120 (fun _ => 0)),
  (a_red, .inr (4, [.ref a_led, .ref a_spd, .ref a_sums2, .ref a_pr2, .ref a_rel2, .ref a_grp2, .ref a_idx2, .int (gb false)])),
  (a_sums2, .inr (6, [.int (nI 0), .double 0, .double 0, .double 0, .double 0])),
  (a_pr2, eD y 1152 (fun _ => 0)),
  (a_rel2, eD y 288 (fun _ => 0)),
  (a_grp2, eD y 96 (fun _ => 0)),
  (a_idx2, eD y 120 (fun _ => 0)),
  (a_num, eN y 24 (fun _ => 0)),
  (a_cnum, eN y 24 (fun _ => 0)),
  (a_ctl, .inr (0, [.int (nI 0), .ref e0, .int (nI 0)]))]
/-- the facts of a world make it that list -/
theorem made30 {y : Nat → Nat} {u : va_W} {e0 a_off a_led a_itl a_cents a_grams a_cf a_cc a_fx a_lc a_lg a_spd a_told a_adp a_shr a_ser a_sums a_pr a_rel a_grp a_idx a_red a_sums2 a_pr2 a_rel2 a_grp2 a_idx2 a_num a_cnum a_ctl : Nat} (hlen : u.length = 30) (g0 : u[0]? = some ((e0, eQ y 0 (fun _ => none)) : Nat × va_E)) (g1 : u[1]? = some (a_off, .inr (7, [.ref a_led, .ref a_spd, .ref a_ser, .ref a_red, .ref a_num, .ref a_cnum, .ref a_ctl, .int (nI 0)]))) (g2 : u[2]? = some (a_led, .inr (3, [.ref a_itl, .ref a_cents, .ref a_grams, .ref a_cf, .ref a_cc, .ref a_fx, .ref a_lc, .ref a_lg, .int (nI 0), .int (nI 0)]))) (g3 : u[3]? = some (a_itl, .inr (0, [.int (nI 0), .ref e0, .int (nI 0)]))) (g4 : u[4]? = some (a_cents, eN y 1152 (fun _ => 0))) (g5 : u[5]? = some (a_grams, eN y 1152 (fun _ => 0))) (g6 : u[6]? = some (a_cf, eZ y 1152 (fun _ => false))) (g7 : u[7]? = some (a_cc, eN y 1152 (fun _ => 0))) (g8 : u[8]? = some (a_fx, eZ y 1152 (fun _ => false))) (g9 : u[9]? = some (a_lc, eN y 1152 (fun _ => 0))) (g10 : u[10]? = some (a_lg, eN y 1152 (fun _ => 0))) (g11 : u[11]? = some (a_spd, .inr (5, [.ref a_told, .ref a_adp, .ref a_shr]))) (g12 : u[12]? = some (a_told, eN y 12 (fun _ => 0))) (g13 : u[13]? = some (a_adp, eN y 12 (fun _ => 0))) (g14 : u[14]? = some (a_shr, eD y 480 (fun _ => 0))) (g15 : u[15]? = some (a_ser, .inr (4, [.ref a_led, .ref a_spd, .ref a_sums, .ref a_pr, .ref a_rel, .ref a_grp, .ref a_idx, .int (gb false)]))) (g16 : u[16]? = some (a_sums, .inr (6, [.int (nI 0), .double 0, .double 0, .double 0, .double 0]))) (g17 : u[17]? = some (a_pr, eD y 1152 (fun _ => 0))) (g18 : u[18]? = some (a_rel, eD y 288 (fun _ => 0))) (g19 : u[19]? = some (a_grp, eD y 96 (fun _ => 0))) (g20 : u[20]? = some (a_idx, eD y 120 (fun _ => 0))) (g21 : u[21]? = some (a_red, .inr (4, [.ref a_led, .ref a_spd, .ref a_sums2, .ref a_pr2, .ref a_rel2, .ref a_grp2, .ref a_idx2, .int (gb false)]))) (g22 : u[22]? = some (a_sums2, .inr (6, [.int (nI 0), .double 0, .double 0, .double 0, .double 0]))) (g23 : u[23]? = some (a_pr2, eD y 1152 (fun _ => 0))) (g24 : u[24]? = some (a_rel2, eD y 288 (fun _ => 0))) (g25 : u[25]? = some (a_grp2, eD y 96 (fun _ => 0))) (g26 : u[26]? = some (a_idx2, eD y 120 (fun _ => 0))) (g27 : u[27]? = some (a_num, eN y 24 (fun _ => 0))) (g28 : u[28]? = some (a_cnum, eN y 24 (fun _ => 0))) (g29 : u[29]? = some (a_ctl, .inr (0, [.int (nI 0), .ref e0, .int (nI 0)]))) : u = w30 y e0 a_off a_led a_itl a_cents a_grams a_cf a_cc a_fx a_lc a_lg a_spd a_told a_adp a_shr a_ser a_sums a_pr a_rel a_grp a_idx a_red a_sums2 a_pr2 a_rel2 a_grp2 a_idx2 a_num a_cnum a_ctl := by
  obtain ⟨rest, hr9⟩ := pre_of (L := w30 y e0 a_off a_led a_itl a_cents a_grams a_cf a_cc a_fx a_lc a_lg a_spd a_told a_adp a_shr a_ser a_sums a_pr a_rel a_grp a_idx a_red a_sums2 a_pr2 a_rel2 a_grp2 a_idx2 a_num a_cnum a_ctl) (u := u) (fun k hk => by
    have hk : k < 30 := hk
    match k, hk with
    | 0, _ => exact g0
    | 1, _ => exact g1
    | 2, _ => exact g2
    | 3, _ => exact g3
    | 4, _ => exact g4
    | 5, _ => exact g5
    | 6, _ => exact g6
    | 7, _ => exact g7
    | 8, _ => exact g8
    | 9, _ => exact g9
    | 10, _ => exact g10
    | 11, _ => exact g11
    | 12, _ => exact g12
    | 13, _ => exact g13
    | 14, _ => exact g14
    | 15, _ => exact g15
    | 16, _ => exact g16
    | 17, _ => exact g17
    | 18, _ => exact g18
    | 19, _ => exact g19
    | 20, _ => exact g20
    | 21, _ => exact g21
    | 22, _ => exact g22
    | 23, _ => exact g23
    | 24, _ => exact g24
    | 25, _ => exact g25
    | 26, _ => exact g26
    | 27, _ => exact g27
    | 28, _ => exact g28
    | 29, _ => exact g29
    | k + 30, hk => exact absurd hk (by omega))
  have e30 : (w30 y e0 a_off a_led a_itl a_cents a_grams a_cf a_cc a_fx a_lc a_lg a_spd a_told a_adp a_shr a_ser a_sums a_pr a_rel a_grp a_idx a_red a_sums2 a_pr2 a_rel2 a_grp2 a_idx2 a_num a_cnum a_ctl).length = 30 := rfl
  rw [hr9, List.length_append, e30] at hlen
  have e9 : rest = [] := List.eq_nil_of_length_eq_zero (by omega)
  rw [hr9, e9, List.append_nil]
theorem law_htl {args : Array Value} {s : State} (hts : ∀ w ∈ lw_tbl, w.before args s = true) : ∀ w ∈ wsL_law, w.before args s = true := fun w h => hts w (wsL_law_in w h)
set_option maxHeartbeats 1000000 in
set_option maxRecDepth 100000 in
theorem start_X6 {p : Program} {l : Launch} {e : Env} {s : State} {m : MethodId} {below : List Frame} {meth : Method} {c : Code} {b : Nat} {D : va_G} {y : Nat → Nat} {A : Nat → Prop} {H : Heap} {locs : List Loc} {cells slots : Nat} {Q : State → Prop} {ls : Array Slot} {e0 mi : Nat} (hx : p.tables.exec = Jvm.exec) (hb : c.code = cL_law) (hml : c.maxLocals = 26) (hown : s.vm.findClass RL = some m.cls) (hts : ∀ w ∈ lw_tbl, w.before #[Value.ref b] s = true) (hE : gE D y s) (hA : ∀ q : Nat, s.heap.size ≤ q → A q) (hY : gY e0 mi A s s.heap) (hP : gvP D vwCl [((e0, eQ y 0 (fun _ => none)) : Nat × va_E)] H) (hD : gvD A [((e0, eQ y 0 (fun _ => none)) : Nat × va_E)]) (hS : va_S A s.heap H locs) (hl : lv_has ls 26 [(0, .ref b)]) (hC : cells ≤ 100 ∧ slots ≤ 1000)
    (kk : ∀ (a_off a_led a_itl a_cents a_grams a_cf a_cc a_fx a_lc a_lg a_spd a_told a_adp a_shr a_ser a_sums a_pr a_rel a_grp a_idx a_red a_sums2 a_pr2 a_rel2 a_grp2 a_idx2 a_num a_cnum a_ctl : Nat) (H : Heap) (locs : List Loc) (ls : Array Slot), gvP D vwCl (w30 y e0 a_off a_led a_itl a_cents a_grams a_cf a_cc a_fx a_lc a_lg a_spd a_told a_adp a_shr a_ser a_sums a_pr a_rel a_grp a_idx a_red a_sums2 a_pr2 a_rel2 a_grp2 a_idx2 a_num a_cnum a_ctl) H → gvD A (w30 y e0 a_off a_led a_itl a_cents a_grams a_cf a_cc a_fx a_lc a_lg a_spd a_told a_adp a_shr a_ser a_sums a_pr a_rel a_grp a_idx a_red a_sums2 a_pr2 a_rel2 a_grp2 a_idx2 a_num a_cnum a_ctl) → va_S A s.heap H locs → lv_has ls 26 [(1, .ref a_off), (0, .ref b)] → W p l e room_1 s m #[.ref b] below meth c H locs (cells + 1 + 28) (slots + 8 + 11973) Q (F0 m 8 ls [])) : W p l e room_1 s m #[.ref b] below meth c H locs cells slots Q (F0 m 0 ls []) := by
  have htl := law_htl hts
  have hr1 : room_1.cells = 600104 := rfl
  have hr2 : room_1.slots = 7301314 := rfl
  refine gv_add (by intro _; rfl) (fun kk9 => va_new (ci := 7) (fs := [.null, .null, .null, .null, .null, .null, .null, .int (nI 0)]) (C := RX6) (T := TX6) (N := 8) hx hb hts inX6 tyX6 tyX6_ok hown (hts (.classLink RL 11 RX6) (by decide +kernel)) (hts (.instantiable RX6 8) (by decide +kernel)) (hts (.initialized RX6) (by decide +kernel)) hE.1 hP hD hS hA rfl fsX6_ok (by omega) (by omega) dL_law_0 kk9) (fun a_off H hP hD hS => ?_)
  have hP : gvP D vwCl [((e0, eQ y 0 (fun _ => none)) : Nat × va_E), (a_off, .inr (7, [.null, .null, .null, .null, .null, .null, .null, .int (nI 0)]))] H := hP
  have hD : gvD A [((e0, eQ y 0 (fun _ => none)) : Nat × va_E), (a_off, .inr (7, [.null, .null, .null, .null, .null, .null, .null, .int (nI 0)]))] := hD
  have f_off : ([((e0, eQ y 0 (fun _ => none)) : Nat × va_E), (a_off, .inr (7, [.null, .null, .null, .null, .null, .null, .null, .int (nI 0)]))] : va_W)[1]? = some (a_off, .inr (7, [.null, .null, .null, .null, .null, .null, .null, .int (nI 0)])) := rfl
  refine lv_dup hx hb dL_law_3 rfl ?_
  refine gcy_I_v (As := []) (rest := [.ref a_off]) (c_X6_init l f_off) ⟨hx, hb, hml, hown, htl⟩ (cwI 0 htl gL_law_X6_init rfl rfl rfl (htl (.initialized RX6) (by decide +kernel)) (htl (.methodLink RL 176 yX6_init) (by decide +kernel)) (htl (.instanceMethod yX6_init) (by decide +kernel)) rfl (by decide +kernel) ⟨(Nat.le_of_ble_eq_true rfl), (Nat.le_of_ble_eq_true rfl)⟩) hE hY hP hD hS hA rfl rfl hl.1 (Nat.le_of_ble_eq_true rfl) dL_law_4 ⟨show cells + 1 + 28 ≤ 600104 by omega, show slots + 8 + 11973 ≤ 7301314 by omega⟩ (fun u H locs hP hD hS q4 => ?_)
  obtain ⟨hk4, hlen, a_led, a_itl, a_cents, a_grams, a_cf, a_cc, a_fx, a_lc, a_lg, a_spd, a_told, a_adp, a_shr, a_ser, a_sums, a_pr, a_rel, a_grp, a_idx, a_red, a_sums2, a_pr2, a_rel2, a_grp2, a_idx2, a_num, a_cnum, a_ctl, g1, g2, g3, g4, g5, g6, g7, g8, g9, g10, g11, g12, g13, g14, g15, g16, g17, g18, g19, g20, g21, g22, g23, g24, g25, g26, g27, g28, g29⟩ := q4
  have h0 := hk4 0 _ (by decide) (show ([((e0, eQ y 0 (fun _ => none)) : Nat × va_E), (a_off, .inr (7, [.null, .null, .null, .null, .null, .null, .null, .int (nI 0)]))] : va_W)[0]? = some ((e0, eQ y 0 (fun _ => none)) : Nat × va_E) from rfl)
  have hu : u = w30 y e0 a_off a_led a_itl a_cents a_grams a_cf a_cc a_fx a_lc a_lg a_spd a_told a_adp a_shr a_ser a_sums a_pr a_rel a_grp a_idx a_red a_sums2 a_pr2 a_rel2 a_grp2 a_idx2 a_num a_cnum a_ctl := made30 hlen h0 g1 g2 g3 g4 g5 g6 g7 g8 g9 g10 g11 g12 g13 g14 g15 g16 g17 g18 g19 g20 g21 g22 g23 g24 g25 g26 g27 g28 g29
  subst hu
  refine lv_astore_n (lv' := [(1, .ref a_off), (0, .ref b)]) hx hb dL_law_7 rfl hl (by decide) rfl (fun ls hl => ?_)
  exact kk a_off a_led a_itl a_cents a_grams a_cf a_cc a_fx a_lc a_lg a_spd a_told a_adp a_shr a_ser a_sums a_pr a_rel a_grp a_idx a_red a_sums2 a_pr2 a_rel2 a_grp2 a_idx2 a_num a_cnum a_ctl H locs ls hP hD hS hl
set_option maxHeartbeats 4000000 in
set_option maxRecDepth 100000 in
theorem start_rows {p : Program} {l : Launch} {e : Env} {s : State} {m : MethodId} {below : List Frame} {meth : Method} {c : Code} {b : Nat} {D : va_G} {y : Nat → Nat} {A : Nat → Prop} {H : Heap} {locs : List Loc} {cells slots : Nat} {Q : State → Prop} {ls : Array Slot} {w : va_W} {a_off : Nat} (hx : p.tables.exec = Jvm.exec) (hb : c.code = cL_law) (hml : c.maxLocals = 26) (hown : s.vm.findClass RL = some m.cls) (hts : ∀ w ∈ lw_tbl, w.before #[Value.ref b] s = true) (hE : gE D y s) (hA : ∀ q : Nat, s.heap.size ≤ q → A q) (hP : gvP D vwCl w H) (hD : gvD A w) (hS : va_S A s.heap H locs) (hl : lv_has ls 26 [(1, .ref a_off), (0, .ref b)]) (hC : cells ≤ 100 ∧ slots ≤ 20000)
    (kk : ∀ (a_zi a_zc a_zg a_zf a_zn a_zl a_zr a_ze a_zt a_za a_zw a_zq : Nat) (H : Heap) (ls : Array Slot), gvP D vwCl (w ++ [((a_zi, eN y 12 (fun _ => 0)) : Nat × va_E), ((a_zc, eN y 60 (fun _ => 0)) : Nat × va_E), ((a_zg, eN y 60 (fun _ => 0)) : Nat × va_E), ((a_zf, eN y 60 (fun _ => 0)) : Nat × va_E), ((a_zn, eN y 60 (fun _ => 0)) : Nat × va_E), ((a_zl, eN y 60 (fun _ => 0)) : Nat × va_E), ((a_zr, eN y 60 (fun _ => 0)) : Nat × va_E), ((a_ze, eN y 60 (fun _ => 0)) : Nat × va_E), ((a_zt, eN y 12 (fun _ => 0)) : Nat × va_E), ((a_za, eN y 12 (fun _ => 0)) : Nat × va_E), ((a_zw, eJ y 30 (fun _ => lN 0)) : Nat × va_E), ((a_zq, eN y 5 (fun _ => 0)) : Nat × va_E)]) H → gvD A (w ++ [((a_zi, eN y 12 (fun _ => 0)) : Nat × va_E), ((a_zc, eN y 60 (fun _ => 0)) : Nat × va_E), ((a_zg, eN y 60 (fun _ => 0)) : Nat × va_E), ((a_zf, eN y 60 (fun _ => 0)) : Nat × va_E), ((a_zn, eN y 60 (fun _ => 0)) : Nat × va_E), ((a_zl, eN y 60 (fun _ => 0)) : Nat × va_E), ((a_zr, eN y 60 (fun _ => 0)) : Nat × va_E), ((a_ze, eN y 60 (fun _ => 0)) : Nat × va_E), ((a_zt, eN y 12 (fun _ => 0)) : Nat × va_E), ((a_za, eN y 12 (fun _ => 0)) : Nat × va_E), ((a_zw, eJ y 30 (fun _ => lN 0)) : Nat × va_E), ((a_zq, eN y 5 (fun _ => 0)) : Nat × va_E)]) → va_S A s.heap H locs → lv_has ls 26 [(14, .int (nI 1)), (15, .int (nI (0))), (0, .ref b), (1, .ref a_off), (2, .ref a_zi), (3, .ref a_zc), (4, .ref a_zg), (5, .ref a_zf), (6, .ref a_zn), (7, .ref a_zl), (8, .ref a_zr), (9, .ref a_ze), (10, .ref a_zt), (11, .ref a_za), (12, .ref a_zw), (13, .ref a_zq)] → W p l e room_1 s m #[.ref b] below meth c H locs (cells + 1 + 1 + 1 + 1 + 1 + 1 + 1 + 1 + 1 + 1 + 1 + 1) (slots + 12 + 60 + 60 + 60 + 60 + 60 + 60 + 60 + 12 + 12 + 30 + 5) Q (F0 m 83 ls [])) : W p l e room_1 s m #[.ref b] below meth c H locs cells slots Q (F0 m 8 ls []) := by
  have hr1 : room_1.cells = 600104 := rfl
  have hr2 : room_1.slots = 7301314 := rfl
  refine lv_bipush (v := nI 12) hx hb dL_law_8 (by decide) ?_
  refine g_newaN hx hb (hts (.arrayClass .int) (by decide +kernel)) hE hP hD hS hA (k := 12) (by omega) (by omega) (by omega) dL_law_10 (fun a_zi H hP hD hS => ?_)
  refine lv_astore_n (lv' := [(2, .ref a_zi), (1, .ref a_off), (0, .ref b)]) hx hb dL_law_12 rfl hl (by decide) rfl (fun ls hl => ?_)
  refine lv_bipush (v := nI 60) hx hb dL_law_13 (by decide) ?_
  refine g_newaN hx hb (hts (.arrayClass .int) (by decide +kernel)) hE hP hD hS hA (k := 60) (by omega) (by omega) (by omega) dL_law_15 (fun a_zc H hP hD hS => ?_)
  refine lv_astore_n (lv' := [(3, .ref a_zc), (2, .ref a_zi), (1, .ref a_off), (0, .ref b)]) hx hb dL_law_17 rfl hl (by decide) rfl (fun ls hl => ?_)
  refine lv_bipush (v := nI 60) hx hb dL_law_18 (by decide) ?_
  refine g_newaN hx hb (hts (.arrayClass .int) (by decide +kernel)) hE hP hD hS hA (k := 60) (by omega) (by omega) (by omega) dL_law_20 (fun a_zg H hP hD hS => ?_)
  refine lv_astore (lv' := [(4, .ref a_zg), (3, .ref a_zc), (2, .ref a_zi), (1, .ref a_off), (0, .ref b)]) hx hb dL_law_22 hl (by decide) rfl (fun ls hl => ?_)
  refine lv_bipush (v := nI 60) hx hb dL_law_24 (by decide) ?_
  refine g_newaN hx hb (hts (.arrayClass .int) (by decide +kernel)) hE hP hD hS hA (k := 60) (by omega) (by omega) (by omega) dL_law_26 (fun a_zf H hP hD hS => ?_)
  refine lv_astore (lv' := [(5, .ref a_zf), (4, .ref a_zg), (3, .ref a_zc), (2, .ref a_zi), (1, .ref a_off), (0, .ref b)]) hx hb dL_law_28 hl (by decide) rfl (fun ls hl => ?_)
  refine lv_bipush (v := nI 60) hx hb dL_law_30 (by decide) ?_
  refine g_newaN hx hb (hts (.arrayClass .int) (by decide +kernel)) hE hP hD hS hA (k := 60) (by omega) (by omega) (by omega) dL_law_32 (fun a_zn H hP hD hS => ?_)
  refine lv_astore (lv' := [(6, .ref a_zn), (5, .ref a_zf), (4, .ref a_zg), (3, .ref a_zc), (2, .ref a_zi), (1, .ref a_off), (0, .ref b)]) hx hb dL_law_34 hl (by decide) rfl (fun ls hl => ?_)
  refine lv_bipush (v := nI 60) hx hb dL_law_36 (by decide) ?_
  refine g_newaN hx hb (hts (.arrayClass .int) (by decide +kernel)) hE hP hD hS hA (k := 60) (by omega) (by omega) (by omega) dL_law_38 (fun a_zl H hP hD hS => ?_)
  refine lv_astore (lv' := [(7, .ref a_zl), (6, .ref a_zn), (5, .ref a_zf), (4, .ref a_zg), (3, .ref a_zc), (2, .ref a_zi), (1, .ref a_off), (0, .ref b)]) hx hb dL_law_40 hl (by decide) rfl (fun ls hl => ?_)
  refine lv_bipush (v := nI 60) hx hb dL_law_42 (by decide) ?_
  refine g_newaN hx hb (hts (.arrayClass .int) (by decide +kernel)) hE hP hD hS hA (k := 60) (by omega) (by omega) (by omega) dL_law_44 (fun a_zr H hP hD hS => ?_)
  refine lv_astore (lv' := [(8, .ref a_zr), (7, .ref a_zl), (6, .ref a_zn), (5, .ref a_zf), (4, .ref a_zg), (3, .ref a_zc), (2, .ref a_zi), (1, .ref a_off), (0, .ref b)]) hx hb dL_law_46 hl (by decide) rfl (fun ls hl => ?_)
  refine lv_bipush (v := nI 60) hx hb dL_law_48 (by decide) ?_
  refine g_newaN hx hb (hts (.arrayClass .int) (by decide +kernel)) hE hP hD hS hA (k := 60) (by omega) (by omega) (by omega) dL_law_50 (fun a_ze H hP hD hS => ?_)
  refine lv_astore (lv' := [(9, .ref a_ze), (8, .ref a_zr), (7, .ref a_zl), (6, .ref a_zn), (5, .ref a_zf), (4, .ref a_zg), (3, .ref a_zc), (2, .ref a_zi), (1, .ref a_off), (0, .ref b)]) hx hb dL_law_52 hl (by decide) rfl (fun ls hl => ?_)
  refine lv_bipush (v := nI 12) hx hb dL_law_54 (by decide) ?_
  refine g_newaN hx hb (hts (.arrayClass .int) (by decide +kernel)) hE hP hD hS hA (k := 12) (by omega) (by omega) (by omega) dL_law_56 (fun a_zt H hP hD hS => ?_)
  refine lv_astore (lv' := [(10, .ref a_zt), (9, .ref a_ze), (8, .ref a_zr), (7, .ref a_zl), (6, .ref a_zn), (5, .ref a_zf), (4, .ref a_zg), (3, .ref a_zc), (2, .ref a_zi), (1, .ref a_off), (0, .ref b)]) hx hb dL_law_58 hl (by decide) rfl (fun ls hl => ?_)
  refine lv_bipush (v := nI 12) hx hb dL_law_60 (by decide) ?_
  refine g_newaN hx hb (hts (.arrayClass .int) (by decide +kernel)) hE hP hD hS hA (k := 12) (by omega) (by omega) (by omega) dL_law_62 (fun a_za H hP hD hS => ?_)
  refine lv_astore (lv' := [(11, .ref a_za), (10, .ref a_zt), (9, .ref a_ze), (8, .ref a_zr), (7, .ref a_zl), (6, .ref a_zn), (5, .ref a_zf), (4, .ref a_zg), (3, .ref a_zc), (2, .ref a_zi), (1, .ref a_off), (0, .ref b)]) hx hb dL_law_64 hl (by decide) rfl (fun ls hl => ?_)
  refine lv_bipush (v := nI 30) hx hb dL_law_66 (by decide) ?_
  refine g_newaL hx hb (hts (.arrayClass .long) (by decide +kernel)) hE hP hD hS hA (k := 30) (by omega) (by omega) (by omega) dL_law_68 (fun a_zw H hP hD hS => ?_)
  refine lv_astore (lv' := [(12, .ref a_zw), (11, .ref a_za), (10, .ref a_zt), (9, .ref a_ze), (8, .ref a_zr), (7, .ref a_zl), (6, .ref a_zn), (5, .ref a_zf), (4, .ref a_zg), (3, .ref a_zc), (2, .ref a_zi), (1, .ref a_off), (0, .ref b)]) hx hb dL_law_70 hl (by decide) rfl (fun ls hl => ?_)
  refine lv_iconst (v := nI 5) hx hb dL_law_72 (by decide) ?_
  refine g_newaN hx hb (hts (.arrayClass .int) (by decide +kernel)) hE hP hD hS hA (k := 5) (by omega) (by omega) (by omega) dL_law_73 (fun a_zq H hP hD hS => ?_)
  refine lv_astore (lv' := [(13, .ref a_zq), (12, .ref a_zw), (11, .ref a_za), (10, .ref a_zt), (9, .ref a_ze), (8, .ref a_zr), (7, .ref a_zl), (6, .ref a_zn), (5, .ref a_zf), (4, .ref a_zg), (3, .ref a_zc), (2, .ref a_zi), (1, .ref a_off), (0, .ref b)]) hx hb dL_law_75 hl (by decide) rfl (fun ls hl => ?_)
  refine lv_iconst (v := nI 1) hx hb dL_law_77 (by decide) ?_
  refine lv_istore (lv' := [(14, .int (nI 1)), (13, .ref a_zq), (12, .ref a_zw), (11, .ref a_za), (10, .ref a_zt), (9, .ref a_ze), (8, .ref a_zr), (7, .ref a_zl), (6, .ref a_zn), (5, .ref a_zf), (4, .ref a_zg), (3, .ref a_zc), (2, .ref a_zi), (1, .ref a_off), (0, .ref b)]) hx hb dL_law_78 hl (by decide) rfl (fun ls hl => ?_)
  refine lv_iconst (v := nI 0) hx hb dL_law_80 (by decide) ?_
  refine lv_istore (lv' := [(15, .int (nI 0)), (14, .int (nI 1)), (13, .ref a_zq), (12, .ref a_zw), (11, .ref a_za), (10, .ref a_zt), (9, .ref a_ze), (8, .ref a_zr), (7, .ref a_zl), (6, .ref a_zn), (5, .ref a_zf), (4, .ref a_zg), (3, .ref a_zc), (2, .ref a_zi), (1, .ref a_off), (0, .ref b)]) hx hb dL_law_81 hl (by decide) rfl (fun ls hl => ?_)
  have hw : ((((((((((((w ++ [((a_zi, eN y 12 (fun _ => 0)) : Nat × va_E)]) ++ [((a_zc, eN y 60 (fun _ => 0)) : Nat × va_E)]) ++ [((a_zg, eN y 60 (fun _ => 0)) : Nat × va_E)]) ++ [((a_zf, eN y 60 (fun _ => 0)) : Nat × va_E)]) ++ [((a_zn, eN y 60 (fun _ => 0)) : Nat × va_E)]) ++ [((a_zl, eN y 60 (fun _ => 0)) : Nat × va_E)]) ++ [((a_zr, eN y 60 (fun _ => 0)) : Nat × va_E)]) ++ [((a_ze, eN y 60 (fun _ => 0)) : Nat × va_E)]) ++ [((a_zt, eN y 12 (fun _ => 0)) : Nat × va_E)]) ++ [((a_za, eN y 12 (fun _ => 0)) : Nat × va_E)]) ++ [((a_zw, eJ y 30 (fun _ => lN 0)) : Nat × va_E)]) ++ [((a_zq, eN y 5 (fun _ => 0)) : Nat × va_E)]) = w ++ [((a_zi, eN y 12 (fun _ => 0)) : Nat × va_E), ((a_zc, eN y 60 (fun _ => 0)) : Nat × va_E), ((a_zg, eN y 60 (fun _ => 0)) : Nat × va_E), ((a_zf, eN y 60 (fun _ => 0)) : Nat × va_E), ((a_zn, eN y 60 (fun _ => 0)) : Nat × va_E), ((a_zl, eN y 60 (fun _ => 0)) : Nat × va_E), ((a_zr, eN y 60 (fun _ => 0)) : Nat × va_E), ((a_ze, eN y 60 (fun _ => 0)) : Nat × va_E), ((a_zt, eN y 12 (fun _ => 0)) : Nat × va_E), ((a_za, eN y 12 (fun _ => 0)) : Nat × va_E), ((a_zw, eJ y 30 (fun _ => lN 0)) : Nat × va_E), ((a_zq, eN y 5 (fun _ => 0)) : Nat × va_E)] := by simp only [List.append_assoc, List.cons_append, List.nil_append]
  have hP := g_trP hw hP
  have hD := g_trD hw hD
  exact kk a_zi a_zc a_zg a_zf a_zn a_zl a_zr a_ze a_zt a_za a_zw a_zq H ls hP hD hS (lv_sub hl [1, 0, 15, 14, 13, 12, 11, 10, 9, 8, 7, 6, 5, 4, 3, 2] rfl)
theorem zero_c {ad y : Nat → Nat} : w30 y (ad 0) (ad 1) (ad 2) (ad 3) (ad 4) (ad 5) (ad 6) (ad 7) (ad 8) (ad 9) (ad 10) (ad 11) (ad 12) (ad 13) (ad 14) (ad 15) (ad 16) (ad 17) (ad 18) (ad 19) (ad 20) (ad 21) (ad 22) (ad 23) (ad 24) (ad 25) (ad 26) (ad 27) (ad 28) (ad 29) = LWc ad y 0 0 0 0 0 (nI 0) (nI 0) (ad 0) (ad 0) (fun _ => none) (fun _ => 0) (fun _ => 0) (fun _ => false) (fun _ => 0) (fun _ => false) (fun _ => 0) (fun _ => 0) (fun _ => 0) (fun _ => 0) (fun _ => 0) (0, 0, 0, 0, 0) (fun _ => 0) (fun _ => 0) (fun _ => 0) (fun _ => 0) false (0, 0, 0, 0, 0) (fun _ => 0) (fun _ => 0) (fun _ => 0) (fun _ => 0) (fun _ => 0) (fun _ => 0) := rfl
theorem zero_w {ad y : Nat → Nat} : w30 y (ad 0) (ad 1) (ad 2) (ad 3) (ad 4) (ad 5) (ad 6) (ad 7) (ad 8) (ad 9) (ad 10) (ad 11) (ad 12) (ad 13) (ad 14) (ad 15) (ad 16) (ad 17) (ad 18) (ad 19) (ad 20) (ad 21) (ad 22) (ad 23) (ad 24) (ad 25) (ad 26) (ad 27) (ad 28) (ad 29) ++ [((ad 30, eN y 12 (fun _ => 0)) : Nat × va_E), ((ad 31, eN y 60 (fun _ => 0)) : Nat × va_E), ((ad 32, eN y 60 (fun _ => 0)) : Nat × va_E), ((ad 33, eN y 60 (fun _ => 0)) : Nat × va_E), ((ad 34, eN y 60 (fun _ => 0)) : Nat × va_E), ((ad 35, eN y 60 (fun _ => 0)) : Nat × va_E), ((ad 36, eN y 60 (fun _ => 0)) : Nat × va_E), ((ad 37, eN y 60 (fun _ => 0)) : Nat × va_E), ((ad 38, eN y 12 (fun _ => 0)) : Nat × va_E), ((ad 39, eN y 12 (fun _ => 0)) : Nat × va_E), ((ad 40, eJ y 30 (fun _ => lN 0)) : Nat × va_E), ((ad 41, eN y 5 (fun _ => 0)) : Nat × va_E)] = (LWc ad y 0 0 0 0 0 (nI 0) (nI 0) (ad 0) (ad 0) (fun _ => none) (fun _ => 0) (fun _ => 0) (fun _ => false) (fun _ => 0) (fun _ => false) (fun _ => 0) (fun _ => 0) (fun _ => 0) (fun _ => 0) (fun _ => 0) (0, 0, 0, 0, 0) (fun _ => 0) (fun _ => 0) (fun _ => 0) (fun _ => 0) false (0, 0, 0, 0, 0) (fun _ => 0) (fun _ => 0) (fun _ => 0) (fun _ => 0) (fun _ => 0) (fun _ => 0) ++ (LWl ad y (fun _ => 0) (fun _ => 0) (fun _ => 0) (fun _ => 0) (fun _ => 0) (fun _ => 0) (fun _ => 0) (fun _ => 0) (fun _ => 0) (fun _ => 0) ++ (LWo ad y (fun _ => 0) (fun _ => 0) ++ []))) := by rw [zero_c]; rfl
theorem zero_inv {ad y : Nat → Nat} : Inv ad y 0 (LWc ad y 0 0 0 0 0 (nI 0) (nI 0) (ad 0) (ad 0) (fun _ => none) (fun _ => 0) (fun _ => 0) (fun _ => false) (fun _ => 0) (fun _ => false) (fun _ => 0) (fun _ => 0) (fun _ => 0) (fun _ => 0) (fun _ => 0) (0, 0, 0, 0, 0) (fun _ => 0) (fun _ => 0) (fun _ => 0) (fun _ => 0) false (0, 0, 0, 0, 0) (fun _ => 0) (fun _ => 0) (fun _ => 0) (fun _ => 0) (fun _ => 0) (fun _ => 0) ++ (LWl ad y (fun _ => 0) (fun _ => 0) (fun _ => 0) (fun _ => 0) (fun _ => 0) (fun _ => 0) (fun _ => 0) (fun _ => 0) (fun _ => 0) (fun _ => 0) ++ (LWo ad y (fun _ => 0) (fun _ => 0) ++ []))) := Inv.mk (pi := 0) (pc := 0) ⟨(0, 0, 0, 0, 0), false, (0, 0, 0, 0, 0), fun _ => 0, fun _ => 0, fun _ => 0, fun _ => 0, fun _ => 0, [], rfl, fun _ _ _ _ _ => ⟨rfl, fun _ _ => rfl⟩, fun _ => Nat.zero_le _, Or.inl ⟨rfl, rfl⟩, Or.inl ⟨rfl, rfl⟩, Or.inl rfl⟩ LInv.zero ⟨Nat.le_refl _, Nat.le_refl _, fun _ _ _ => rfl, fun _ _ => rfl⟩
set_option maxHeartbeats 4000000 in
set_option maxRecDepth 100000 in
theorem whole_start {p : Program} {e : Env} {s : State} {m : MethodId} {below : List Frame} {meth : Method} {c : Code} (l : Launch) (hflags : l.flags = flags0) {b L : Nat} {xs : Nat → Int32} (hL : L ≤ 260) (C0 : lw_At p s m meth c b L xs) : W p l e room_1 s m #[Value.ref b] below meth c s.heap [] 0 0 (lw_Z below #[Value.ref b] s) (entryFrame m ([Value.ref b] : List Value).toArray 26) := by
  obtain ⟨hx, hb, hr, hml, hown, hts, hX, hbl, hlocks, hgv⟩ := C0
  have hown : s.vm.findClass RL = some m.cls := hown
  have hfl : l.stackTraces = false := by
    show (!l.flags.contains noTraceFlag) = false
    rw [hflags]
    decide +kernel
  have hA : ∀ q : Nat, s.heap.size ≤ q → (fun q : Nat => s.heap.size ≤ q) q := fun _ h => h
  have hA0 : ∀ a : Nat, a < s.heap.size → ¬ (fun q : Nat => s.heap.size ≤ q) a := fun a h h2 => absurd h (Nat.not_lt.mpr h2)
  obtain ⟨D, y, hE⟩ := start_E hts
  obtain ⟨e0, mi, hZ⟩ := start_Z hts hgv hA0
  have hS : va_S (fun q : Nat => s.heap.size ≤ q) s.heap s.heap [] := va_S.rf
  have hl := lv_entry ([.ref b]) (n := 26) (Nat.le_of_ble_eq_true rfl)
  rw [lg_entry_eq]
  generalize (lg_sl ([.ref b]) ++ List.replicate (26 - (lg_sl ([.ref b])).length) Slot.unset).toArray = ls at hl ⊢
  have hl : lv_has ls 26 [(0, .ref b)] := hl
  refine start_X6 (A := (fun q : Nat => s.heap.size ≤ q)) (y := y) (e0 := e0) (mi := mi) hx hb hml hown hts hE hA hZ.2.1 (gvP.weak rfl) (gvD.weak rfl) hS hl ⟨by decide, by decide⟩ (fun a_off a_led a_itl a_cents a_grams a_cf a_cc a_fx a_lc a_lg a_spd a_told a_adp a_shr a_ser a_sums a_pr a_rel a_grp a_idx a_red a_sums2 a_pr2 a_rel2 a_grp2 a_idx2 a_num a_cnum a_ctl H locs ls hP hD hS hl => ?_)
  refine start_rows hx hb hml hown hts hE hA hP hD hS hl ⟨by decide, by decide⟩ (fun a_zi a_zc a_zg a_zf a_zn a_zl a_zr a_ze a_zt a_za a_zw a_zq H ls hP hD hS hl => ?_)
  obtain ⟨ad, ead⟩ : ∃ ad : Nat → Nat, ad = fun k => [e0, a_off, a_led, a_itl, a_cents, a_grams, a_cf, a_cc, a_fx, a_lc, a_lg, a_spd, a_told, a_adp, a_shr, a_ser, a_sums, a_pr, a_rel, a_grp, a_idx, a_red, a_sums2, a_pr2, a_rel2, a_grp2, a_idx2, a_num, a_cnum, a_ctl, a_zi, a_zc, a_zg, a_zf, a_zn, a_zl, a_zr, a_ze, a_zt, a_za, a_zw, a_zq].getD k 0 := ⟨_, rfl⟩
  have z0 : e0 = ad 0 := by rw [ead]; rfl
  have z1 : a_off = ad 1 := by rw [ead]; rfl
  have z2 : a_led = ad 2 := by rw [ead]; rfl
  have z3 : a_itl = ad 3 := by rw [ead]; rfl
  have z4 : a_cents = ad 4 := by rw [ead]; rfl
  have z5 : a_grams = ad 5 := by rw [ead]; rfl
  have z6 : a_cf = ad 6 := by rw [ead]; rfl
  have z7 : a_cc = ad 7 := by rw [ead]; rfl
  have z8 : a_fx = ad 8 := by rw [ead]; rfl
  have z9 : a_lc = ad 9 := by rw [ead]; rfl
  have z10 : a_lg = ad 10 := by rw [ead]; rfl
  have z11 : a_spd = ad 11 := by rw [ead]; rfl
  have z12 : a_told = ad 12 := by rw [ead]; rfl
  have z13 : a_adp = ad 13 := by rw [ead]; rfl
  have z14 : a_shr = ad 14 := by rw [ead]; rfl
  have z15 : a_ser = ad 15 := by rw [ead]; rfl
  have z16 : a_sums = ad 16 := by rw [ead]; rfl
  have z17 : a_pr = ad 17 := by rw [ead]; rfl
  have z18 : a_rel = ad 18 := by rw [ead]; rfl
  have z19 : a_grp = ad 19 := by rw [ead]; rfl
  have z20 : a_idx = ad 20 := by rw [ead]; rfl
  have z21 : a_red = ad 21 := by rw [ead]; rfl
  have z22 : a_sums2 = ad 22 := by rw [ead]; rfl
  have z23 : a_pr2 = ad 23 := by rw [ead]; rfl
  have z24 : a_rel2 = ad 24 := by rw [ead]; rfl
  have z25 : a_grp2 = ad 25 := by rw [ead]; rfl
  have z26 : a_idx2 = ad 26 := by rw [ead]; rfl
  have z27 : a_num = ad 27 := by rw [ead]; rfl
  have z28 : a_cnum = ad 28 := by rw [ead]; rfl
  have z29 : a_ctl = ad 29 := by rw [ead]; rfl
  have z30 : a_zi = ad 30 := by rw [ead]; rfl
  have z31 : a_zc = ad 31 := by rw [ead]; rfl
  have z32 : a_zg = ad 32 := by rw [ead]; rfl
  have z33 : a_zf = ad 33 := by rw [ead]; rfl
  have z34 : a_zn = ad 34 := by rw [ead]; rfl
  have z35 : a_zl = ad 35 := by rw [ead]; rfl
  have z36 : a_zr = ad 36 := by rw [ead]; rfl
  have z37 : a_ze = ad 37 := by rw [ead]; rfl
  have z38 : a_zt = ad 38 := by rw [ead]; rfl
  have z39 : a_za = ad 39 := by rw [ead]; rfl
  have z40 : a_zw = ad 40 := by rw [ead]; rfl
  have z41 : a_zq = ad 41 := by rw [ead]; rfl
  clear ead
  subst z0 z1 z2 z3 z4 z5 z6 z7 z8 z9 z10 z11 z12 z13 z14 z15 z16 z17 z18 z19 z20 z21 z22 z23 z24 z25 z26 z27 z28 z29 z30 z31 z32 z33 z34 z35 z36 z37 z38 z39 z40 z41
  have hB : LWB p s m c meth b L xs D y (ad 0) mi (fun q : Nat => s.heap.size ≤ q) := ⟨hx, hb, hml, law_htl hts, hown, hE, hZ, hX, hbl, hA0 b hbl, hA, by omega⟩
  refine law_loop (C0 := 100) (S0 := 20000) hfl hB zero_inv (g_trP zero_w hP) (g_trD zero_w hD) hS hl ⟨by decide, by decide⟩ (by decide) (by decide) (fun w H locs ls cells1 slots1 h1 h2 hI hP hD hS hl => ?_)
  refine lv_iload hx hb dL_law_83 (lv_at hl 1 rfl) ?_
  refine lv_bipush (v := nI 70) hx hb dL_law_85 (by decide) ?_
  refine g_icmp_ge (tgt := 1071) hx hb (by decide) (by decide) dL_law_87 (by decide) (fun _ => ?_) (fun h => absurd h (by decide))
  refine lv_iload hx hb dL_law_1071 (lv_at hl 0 rfl) ?_
  refine va_forget (fun q hq => hS.2.2 q hq) ?_
  refine W.widen (k := 600104) (n := 7301314) h1 h2 ?_
  exact lw_ret (d0 := s.drawn) (Drawn.sameBut.refl s.drawn lw_cs) hx hb hr hlocks dL_law_1073
