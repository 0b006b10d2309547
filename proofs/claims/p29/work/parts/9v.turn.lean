/-! the law's turn and its loop -/
abbrev lH (ad : Nat → Nat) (b tn : Nat) : List (Nat × Value) := [(14, .int (nI 1)), (15, .int (nI (tn))), (0, .ref b), (1, .ref (ad 1)), (2, .ref (ad 30)), (3, .ref (ad 31)), (4, .ref (ad 32)), (5, .ref (ad 33)), (6, .ref (ad 34)), (7, .ref (ad 35)), (8, .ref (ad 36)), (9, .ref (ad 37)), (10, .ref (ad 38)), (11, .ref (ad 39)), (12, .ref (ad 40)), (13, .ref (ad 41))]
set_option maxHeartbeats 4000000 in
set_option maxRecDepth 100000 in
theorem law_same {p : Program} {l : Launch} {e : Env} {s : State} {m : MethodId} {below : List Frame} {meth : Method} {c : Code} {H : Heap} {locs : List Loc} {cells slots : Nat} {Q : State → Prop} {ls : Array Slot} {D : va_G} {A : Nat → Prop} {b L mi tn : Nat} {xs : Nat → Int32} {ad y : Nat → Nat} {ws : va_W} {zv : Int32} (hfl : l.stackTraces = false) (hB : LWB p s m c meth b L xs D y (ad 0) mi A) (hI : Inv ad y (tn + 1) ws) (htn : tn < 70) (hP : gvP D vwCl ws H) (hD : gvD A ws) (hS : va_S A s.heap H locs) (hl : lv_has ls 26 (lJ ad b tn zv)) (hC : cells + 5 ≤ 600104 ∧ slots + 100 ≤ 7301314)
    (kk : ∀ (w : va_W) (H : Heap) (locs : List Loc) (ls : Array Slot) (cells1 slots1 : Nat), cells1 ≤ cells + 3 → slots1 ≤ slots + 27 → Inv ad y (tn + 1) w → gvP D vwCl w H → gvD A w → va_S A s.heap H locs → lv_has ls 26 (lH ad b (tn + 1)) → W p l e room_1 s m #[.ref b] below meth c H locs cells1 slots1 Q (F0 m 83 ls [])) : W p l e room_1 s m #[.ref b] below meth c H locs cells slots Q (F0 m 1021 ls []) := by
  obtain ⟨nw, n, nc, qn, fq, mc1, mc2, aita, acta, qe, cents, grams, cf, cc, fx, lc, lg, told, adp, shr, pr, rel, grp, idx, num, zi, zc, zg, zf, zn, zl, zr, ze, zt, za, zw, zq, G, M, Sn, fw, lag, trig, fl, fm, cs, pi, pc, hW, hp, he⟩ := hI
  have hB0 := hB
  obtain ⟨hx, hb, hml, hts, hown, hE, hZ, hX, hbl, hbA, hA, hL9⟩ := hB0
  have hp0 := hp
  obtain ⟨hq, hs3, hdb, bcc, bta, bz, hgm, hit, hem, hcg, hccg, hlg, hdz, hz2, hser, hrz, hsh, hta, hnum, hcw, hcb⟩ := hp0
  obtain ⟨b_zi, b_zc, b_zg, b_zf, b_zn, b_zl, b_zr, b_ze, b_zt, b_za, b_zw, b_zq⟩ := bz
  obtain ⟨fs9, f0_off⟩ := sw_off hW
  have f0_zi := sw_zi hW
  have f0_zc := sw_zc hW
  have f0_zg := sw_zg hW
  have f0_zf := sw_zf hW
  have f0_zn := sw_zn hW
  have f0_zl := sw_zl hW
  have f0_zr := sw_zr hW
  have f0_ze := sw_ze hW
  have f0_zt := sw_zt hW
  have f0_za := sw_za hW
  have f0_zw := sw_zw hW
  have f0_zq := sw_zq hW
  refine lv_iload hx hb dL_law_1021 (lv_at hl 0 rfl) ?_
  refine g_if_eq (tgt := 1062) hx hb (by omega) dL_law_1023 (by decide) (fun c_1023 => absurd c_1023 (by decide)) (fun c_1023 => ?_)
  refine lv_aload_n hx hb dL_law_1026 rfl (lv_at hl 4 rfl) ?_
  refine lv_iload hx hb dL_law_1027 (lv_at hl 2 rfl) ?_
  refine lv_iconst (v := nI 1) hx hb dL_law_1029 (by decide) ?_
  refine g_ishr hx hb dL_law_1030 rfl ?_
  refine lv_ldc (v := 8388607) hx hb hown (hts (.constant RL 200 (8388607)) (by decide +kernel)) dL_law_1031 ?_
  rw [show (8388607 : Int32) = nI 8388607 from by decide]
  refine g_iand hx hb dL_law_1033 rfl ?_
  refine lv_aload_n hx hb dL_law_1034 rfl (lv_at hl 5 rfl) ?_
  refine lv_aload_n hx hb dL_law_1035 rfl (lv_at hl 6 rfl) ?_
  refine lv_aload hx hb dL_law_1036 (lv_at hl 7 rfl) ?_
  refine lv_aload hx hb dL_law_1038 (lv_at hl 8 rfl) ?_
  refine lv_aload hx hb dL_law_1040 (lv_at hl 9 rfl) ?_
  refine lv_aload hx hb dL_law_1042 (lv_at hl 10 rfl) ?_
  refine lv_aload hx hb dL_law_1044 (lv_at hl 11 rfl) ?_
  refine lv_aload hx hb dL_law_1046 (lv_at hl 12 rfl) ?_
  refine lv_aload hx hb dL_law_1048 (lv_at hl 15 rfl) ?_
  refine lv_aload hx hb dL_law_1050 (lv_at hl 16 rfl) ?_
  refine gc_S_i (As := [.ref (ad 1), .int ((zv >>> (nI 1 &&& 31)) &&& nI 8388607), .ref (ad 30), .ref (ad 31), .ref (ad 32), .ref (ad 33), .ref (ad 34), .ref (ad 35), .ref (ad 36), .ref (ad 37), .ref (ad 40), .ref (ad 41)]) (rest := []) (c_L_same l hW hp) ⟨hx, hb, hml, hown, hts⟩ (va_cwS 12 hts gL_law_L_same rfl rfl rfl (by decide +kernel) ⟨Nat.le_of_ble_eq_true rfl, Nat.le_of_ble_eq_true rfl⟩) hE hP hD hS hA rfl rfl hl.1 (Nat.le_of_ble_eq_true rfl) dL_law_1052 ⟨by show _ ≤ 600104; (first | omega | (dsimp only; omega)), by show _ ≤ 7301314; (first | omega | (dsimp only; omega))⟩ (fun r_1052 u_1052 H locs hP hD hS q_1052 => ?_)
  obtain ⟨q9, hW⟩ := q_1052
  subst q9
  refine g_bif_eq (tgt := 1062) hx hb dL_law_1055 (by decide) (fun c_1055 => absurd c_1055 (by decide)) (fun c_1055 => ?_)
  refine lv_iconst (v := nI 1) hx hb dL_law_1058 (by decide) ?_
  refine lv_goto (tgt := 1063) hx hb dL_law_1059 (by decide) ?_
  refine lv_istore (lv' := [(14, .int (nI (1))), (15, .int (nI (tn))), (19, .int (zv)), (0, .ref b), (1, .ref (ad 1)), (2, .ref (ad 30)), (3, .ref (ad 31)), (4, .ref (ad 32)), (5, .ref (ad 33)), (6, .ref (ad 34)), (7, .ref (ad 35)), (8, .ref (ad 36)), (9, .ref (ad 37)), (10, .ref (ad 38)), (11, .ref (ad 39)), (12, .ref (ad 40)), (13, .ref (ad 41))]) hx hb dL_law_1063 hl (by decide) rfl (fun ls hl => ?_)
  refine lv_iinc (v := nI (tn + 1)) (lv' := [(15, .int (nI (tn + 1))), (14, .int (nI (1))), (19, .int (zv)), (0, .ref b), (1, .ref (ad 1)), (2, .ref (ad 30)), (3, .ref (ad 31)), (4, .ref (ad 32)), (5, .ref (ad 33)), (6, .ref (ad 34)), (7, .ref (ad 35)), (8, .ref (ad 36)), (9, .ref (ad 37)), (10, .ref (ad 38)), (11, .ref (ad 39)), (12, .ref (ad 40)), (13, .ref (ad 41))]) hx hb dL_law_1065 hl (k := 1) rfl (nI_add _ 1) (by decide) rfl (fun ls hl => ?_)
  refine lv_goto (tgt := 83) hx hb dL_law_1068 (by decide) ?_
  exact kk _ H locs ls _ _ (by first | omega | (dsimp only; omega)) (by first | omega | (dsimp only; omega)) (Inv.mk hW hp he) hP hD hS (lv_sub hl [1, 0, 3, 4, 5, 6, 7, 8, 9, 10, 11, 12, 13, 14, 15, 16] rfl)

set_option maxHeartbeats 4000000 in
set_option maxRecDepth 100000 in
theorem law_turn {p : Program} {l : Launch} {e : Env} {s : State} {m : MethodId} {below : List Frame} {meth : Method} {c : Code} {H : Heap} {locs : List Loc} {cells slots : Nat} {Q : State → Prop} {ls : Array Slot} {D : va_G} {A : Nat → Prop} {b L mi tn : Nat} {xs : Nat → Int32} {ad y : Nat → Nat} {ws : va_W} (hfl : l.stackTraces = false) (hB : LWB p s m c meth b L xs D y (ad 0) mi A) (hI : Inv ad y tn ws) (htn : tn < 70) (hP : gvP D vwCl ws H) (hD : gvD A ws) (hS : va_S A s.heap H locs) (hl : lv_has ls 26 (lH ad b tn)) (hC9 : cells + 10 ≤ 600104 ∧ slots + 200 ≤ 7301314)
    (kk : ∀ (w : va_W) (H : Heap) (locs : List Loc) (ls : Array Slot) (cells1 slots1 : Nat), cells1 ≤ cells + 5 → slots1 ≤ slots + 46 → Inv ad y (tn + 1) w → gvP D vwCl w H → gvD A w → va_S A s.heap H locs → lv_has ls 26 (lH ad b (tn + 1)) → W p l e room_1 s m #[.ref b] below meth c H locs cells1 slots1 Q (F0 m 83 ls [])) : W p l e room_1 s m #[.ref b] below meth c H locs cells slots Q (F0 m 83 ls []) := by
  have K : ∀ (zv : Int32) (w : va_W) (H : Heap) (locs : List Loc) (ls : Array Slot) (cells1 slots1 : Nat), cells1 ≤ cells + 2 → slots1 ≤ slots + 19 → Inv ad y (tn + 1) w → gvP D vwCl w H → gvD A w → va_S A s.heap H locs → lv_has ls 26 (lJ ad b tn zv) → W p l e room_1 s m #[.ref b] below meth c H locs cells1 slots1 Q (F0 m 1021 ls []) := fun zv w H locs ls c1 s1 h1 h2 hI hP hD hS hl =>
    law_same hfl hB hI htn hP hD hS hl ⟨by omega, by omega⟩ (fun w H locs ls c2 s2 h3 h4 => kk w H locs ls c2 s2 (by omega) (by omega))
  have hC : cells + 5 ≤ 600104 ∧ slots + 100 ≤ 7301314 := ⟨by omega, by omega⟩
  obtain ⟨nw, n, nc, qn, fq, mc1, mc2, aita, acta, qe, cents, grams, cf, cc, fx, lc, lg, told, adp, shr, pr, rel, grp, idx, num, zi, zc, zg, zf, zn, zl, zr, ze, zt, za, zw, zq, G, M, Sn, fw, lag, trig, fl, fm, cs, pi, pc, hW, hp, he⟩ := hI
  have hB0 := hB
  obtain ⟨hx, hb, hml, hts, hown, hE, hZ, hX, hbl, hbA, hA, hL9⟩ := hB0
  have hp0 := hp
  obtain ⟨hq, hs3, hdb, bcc, bta, bz, hgm, hit, hem, hcg, hccg, hlg, hdz, hz2, hser, hrz, hsh, hta, hnum, hcw, hcb⟩ := hp0
  obtain ⟨b_zi, b_zc, b_zg, b_zf, b_zn, b_zl, b_zr, b_ze, b_zt, b_za, b_zw, b_zq⟩ := bz
  obtain ⟨fs9, f0_off⟩ := sw_off hW
  have f0_zi := sw_zi hW
  have f0_zc := sw_zc hW
  have f0_zg := sw_zg hW
  have f0_zf := sw_zf hW
  have f0_zn := sw_zn hW
  have f0_zl := sw_zl hW
  have f0_zr := sw_zr hW
  have f0_ze := sw_ze hW
  have f0_zt := sw_zt hW
  have f0_za := sw_za hW
  have f0_zw := sw_zw hW
  have f0_zq := sw_zq hW
  refine lv_iload hx hb dL_law_83 (lv_at hl 1 rfl) ?_
  refine lv_bipush (v := nI 70) hx hb dL_law_85 (by decide) ?_
  refine g_icmp_ge (tgt := 1071) hx hb (by omega) (by omega) dL_law_87 (by decide) (fun c_87 => absurd c_87 (by omega)) (fun c_87 => ?_)
  refine lv_iload hx hb dL_law_90 (lv_at hl 0 rfl) ?_
  refine g_if_eq (tgt := 1071) hx hb (by omega) dL_law_92 (by decide) (fun c_92 => absurd c_92 (by decide)) (fun c_92 => ?_)
  refine lv_aload_n hx hb dL_law_95 rfl (lv_at hl 2 rfl) ?_
  refine lv_iload hx hb dL_law_96 (lv_at hl 1 rfl) ?_
  refine gc_cell (rest := []) (k := tn) (by omega) hL9 ⟨hx, hb, hml, hown, hts⟩ (va_cwS 2 hts gL_law_L_cell rfl rfl rfl (by decide +kernel) ⟨Nat.le_of_ble_eq_true rfl, Nat.le_of_ble_eq_true rfl⟩) hX hbl hbA hP hD hS hA hl.1 (Nat.le_of_ble_eq_true rfl) dL_law_98 ⟨by show _ ≤ 600104; omega, by show _ ≤ 7301314; omega⟩ (fun H locs hP hS => ?_)
  generalize cellV L xs (tn) = vv
  refine lv_istore (lv' := [(16, .int (vv)), (14, .int (nI (1))), (15, .int (nI (tn))), (0, .ref b), (1, .ref (ad 1)), (2, .ref (ad 30)), (3, .ref (ad 31)), (4, .ref (ad 32)), (5, .ref (ad 33)), (6, .ref (ad 34)), (7, .ref (ad 35)), (8, .ref (ad 36)), (9, .ref (ad 37)), (10, .ref (ad 38)), (11, .ref (ad 39)), (12, .ref (ad 40)), (13, .ref (ad 41))]) hx hb dL_law_101 hl (by decide) rfl (fun ls hl => ?_)
  refine lv_aload_n hx hb dL_law_103 rfl (lv_at hl 3 rfl) ?_
  refine lv_iload hx hb dL_law_104 (lv_at hl 2 rfl) ?_
  refine lv_sipush (v := nI 200) hx hb dL_law_106 (by decide) ?_
  refine g_iadd hx hb dL_law_109 (nI_add _ _) ?_
  refine gc_cell (rest := []) (k := tn + 200) (by omega) hL9 ⟨hx, hb, hml, hown, hts⟩ (va_cwS 2 hts gL_law_L_cell rfl rfl rfl (by decide +kernel) ⟨Nat.le_of_ble_eq_true rfl, Nat.le_of_ble_eq_true rfl⟩) hX hbl hbA hP hD hS hA hl.1 (Nat.le_of_ble_eq_true rfl) dL_law_110 ⟨by show _ ≤ 600104; omega, by show _ ≤ 7301314; omega⟩ (fun H locs hP hS => ?_)
  generalize cellV L xs (tn + 200) = yv
  refine lv_istore (lv' := [(17, .int (yv)), (16, .int (vv)), (14, .int (nI (1))), (15, .int (nI (tn))), (0, .ref b), (1, .ref (ad 1)), (2, .ref (ad 30)), (3, .ref (ad 31)), (4, .ref (ad 32)), (5, .ref (ad 33)), (6, .ref (ad 34)), (7, .ref (ad 35)), (8, .ref (ad 36)), (9, .ref (ad 37)), (10, .ref (ad 38)), (11, .ref (ad 39)), (12, .ref (ad 40)), (13, .ref (ad 41))]) hx hb dL_law_113 hl (by decide) rfl (fun ls hl => ?_)
  refine lv_iload hx hb dL_law_115 (lv_at hl 1 rfl) ?_
  refine lv_bipush (v := nI 32) hx hb dL_law_117 (by decide) ?_
  refine gc_S_i (As := [.int (vv), .int (nI (32))]) (rest := []) (c_L_low l (by decide) (by decide)) ⟨hx, hb, hml, hown, hts⟩ (va_cwS 2 hts gL_law_L_low rfl rfl rfl (by decide +kernel) ⟨Nat.le_of_ble_eq_true rfl, Nat.le_of_ble_eq_true rfl⟩) hE hP hD hS hA rfl rfl hl.1 (Nat.le_of_ble_eq_true rfl) dL_law_119 ⟨by show _ ≤ 600104; (first | omega | (dsimp only; omega)), by show _ ≤ 7301314; (first | omega | (dsimp only; omega))⟩ (fun r_119 u_119 H locs hP hD hS q_119 => ?_)
  obtain ⟨act, hac, e_act⟩ : ∃ z, z < 32 ∧ lowN vv % 32 = z := ⟨_, Nat.mod_lt _ (by omega), rfl⟩
  have q9 := q_119.trans (congrArg nI e_act)
  subst q9
  refine W.widen (k := cells) (n := slots) (by first | omega | (dsimp only; omega)) (by first | omega | (dsimp only; omega)) ?_
  refine lv_istore (lv' := [(18, .int (nI (act))), (17, .int (yv)), (16, .int (vv)), (14, .int (nI (1))), (15, .int (nI (tn))), (0, .ref b), (1, .ref (ad 1)), (2, .ref (ad 30)), (3, .ref (ad 31)), (4, .ref (ad 32)), (5, .ref (ad 33)), (6, .ref (ad 34)), (7, .ref (ad 35)), (8, .ref (ad 36)), (9, .ref (ad 37)), (10, .ref (ad 38)), (11, .ref (ad 39)), (12, .ref (ad 40)), (13, .ref (ad 41))]) hx hb dL_law_122 hl (by decide) rfl (fun ls hl => ?_)
  refine lv_iload hx hb dL_law_124 (lv_at hl 2 rfl) ?_
  refine lv_iconst (v := nI 5) hx hb dL_law_126 (by decide) ?_
  refine g_ishr hx hb dL_law_127 rfl ?_
  generalize vv >>> (nI 5 &&& 31) = zv
  refine lv_istore (lv' := [(19, .int (zv)), (18, .int (nI (act))), (17, .int (yv)), (16, .int (vv)), (14, .int (nI (1))), (15, .int (nI (tn))), (0, .ref b), (1, .ref (ad 1)), (2, .ref (ad 30)), (3, .ref (ad 31)), (4, .ref (ad 32)), (5, .ref (ad 33)), (6, .ref (ad 34)), (7, .ref (ad 35)), (8, .ref (ad 36)), (9, .ref (ad 37)), (10, .ref (ad 38)), (11, .ref (ad 39)), (12, .ref (ad 40)), (13, .ref (ad 41))]) hx hb dL_law_128 hl (by decide) rfl (fun ls hl => ?_)
  refine lv_aload hx hb dL_law_130 (lv_at hl 19 rfl) ?_
  refine lv_iconst (v := nI 0) hx hb dL_law_132 (by decide) ?_
  refine g_nald hx hb hE hP _ f0_zq (by omega) (by decide) dL_law_133 ?_
  have bd_133_1 := b_zq (0)
  refine g_iv (v' := nI (n)) (congrArg nI (hq.1)) ?_
  refine g_if_eq (tgt := 143) hx hb (by omega) dL_law_134 (by decide) (fun c_134 => ?_) (fun c_134 => ?_)
  · exact case_item hfl hB hW hp he htn hP hD hS (lv_sub hl [4, 5, 3, 2, 1, 0, 6, 7, 8, 9, 10, 11, 12, 13, 14, 15, 16, 17, 18, 19] rfl) hC (K zv)
  · refine lv_iload hx hb dL_law_137 (lv_at hl 1 rfl) ?_
    refine lv_iconst (v := nI 4) hx hb dL_law_139 (by decide) ?_
    refine g_icmp_ge (tgt := 284) hx hb (by omega) (by omega) dL_law_140 (by decide) (fun c_140 => ?_) (fun c_140 => ?_)
    · refine lv_iload hx hb dL_law_284 (lv_at hl 1 rfl) ?_
      refine lv_bipush (v := nI 21) hx hb dL_law_286 (by decide) ?_
      refine g_icmp_ge (tgt := 332) hx hb (by omega) (by omega) dL_law_288 (by decide) (fun c_288 => ?_) (fun c_288 => ?_)
      · refine lv_iload hx hb dL_law_332 (lv_at hl 1 rfl) ?_
        refine lv_bipush (v := nI 24) hx hb dL_law_334 (by decide) ?_
        refine g_icmp_ge (tgt := 415) hx hb (by omega) (by omega) dL_law_336 (by decide) (fun c_336 => ?_) (fun c_336 => ?_)
        · refine lv_iload hx hb dL_law_415 (lv_at hl 1 rfl) ?_
          refine lv_bipush (v := nI 24) hx hb dL_law_417 (by decide) ?_
          refine g_icmp_ne (tgt := 482) hx hb (by omega) (by omega) dL_law_419 (by decide) (fun c_419 => ?_) (fun c_419 => ?_)
          · refine lv_iload hx hb dL_law_482 (lv_at hl 1 rfl) ?_
            refine lv_bipush (v := nI 28) hx hb dL_law_484 (by decide) ?_
            refine g_icmp_ge (tgt := 534) hx hb (by omega) (by omega) dL_law_486 (by decide) (fun c_486 => ?_) (fun c_486 => ?_)
            · refine lv_iload hx hb dL_law_534 (lv_at hl 1 rfl) ?_
              refine lv_bipush (v := nI 30) hx hb dL_law_536 (by decide) ?_
              refine g_icmp_ge (tgt := 745) hx hb (by omega) (by omega) dL_law_538 (by decide) (fun c_538 => ?_) (fun c_538 => ?_)
              · refine lv_iload hx hb dL_law_745 (lv_at hl 1 rfl) ?_
                refine lv_bipush (v := nI 29) hx hb dL_law_747 (by decide) ?_
                refine g_icmp_le (tgt := 1021) hx hb (by omega) (by omega) dL_law_749 (by decide) (fun c_749 => absurd c_749 (by omega)) (fun c_749 => ?_)
                exact case_con hfl hB hW hp he htn hP hD hS (lv_sub hl [4, 5, 3, 2, 1, 0, 6, 7, 8, 9, 10, 11, 12, 13, 14, 15, 16, 17, 18, 19] rfl) hC (K zv)
              · exact case_fix hfl hB hW hp he htn (by omega) (by omega) hP hD hS (lv_sub hl [4, 5, 3, 2, 1, 0, 6, 7, 8, 9, 10, 11, 12, 13, 14, 15, 16, 17, 18, 19] rfl) hC (K zv)
            · exact case_pub hfl hB hW hp he htn hP hD hS (lv_sub hl [4, 5, 3, 2, 1, 0, 6, 7, 8, 9, 10, 11, 12, 13, 14, 15, 16, 17, 18, 19] rfl) hC (K zv)
          · exact case_adopt hfl hB hW hp he htn hP hD hS (lv_sub hl [4, 5, 3, 2, 1, 0, 6, 7, 8, 9, 10, 11, 12, 13, 14, 15, 16, 17, 18, 19] rfl) hC (K zv)
        · exact case_spend hfl hB hW hp he htn hP hD hS (lv_sub hl [4, 5, 3, 2, 1, 0, 6, 7, 8, 9, 10, 11, 12, 13, 14, 15, 16, 17, 18, 19] rfl) hC (K zv)
      · exact case_quotes hfl hB hW hp he htn (by omega) hP hD hS (lv_sub hl [4, 5, 3, 2, 1, 0, 6, 7, 8, 9, 10, 11, 12, 13, 14, 15, 16, 17, 18, 19] rfl) hC (K zv)
    · exact case_item hfl hB hW hp he htn hP hD hS (lv_sub hl [4, 5, 3, 2, 1, 0, 6, 7, 8, 9, 10, 11, 12, 13, 14, 15, 16, 17, 18, 19] rfl) hC (K zv)

theorem law_loop {p : Program} {l : Launch} {e : Env} {s : State} {m : MethodId} {below : List Frame} {meth : Method} {c : Code} {H : Heap} {locs : List Loc} {cells slots : Nat} {Q : State → Prop} {ls : Array Slot} {D : va_G} {A : Nat → Prop} {b L mi C0 S0 : Nat} {xs : Nat → Int32} {ad y : Nat → Nat} {ws : va_W} (hfl : l.stackTraces = false) (hB : LWB p s m c meth b L xs D y (ad 0) mi A) (hI : Inv ad y 0 ws) (hP : gvP D vwCl ws H) (hD : gvD A ws) (hS : va_S A s.heap H locs) (hl : lv_has ls 26 (lH ad b 0)) (hC : C0 + 400 ≤ 600104 ∧ S0 + 4000 ≤ 7301314) (hc : cells ≤ C0) (hs : slots ≤ S0)
    (kk : ∀ (w : va_W) (H : Heap) (locs : List Loc) (ls : Array Slot) (cells1 slots1 : Nat), cells1 ≤ 600104 → slots1 ≤ 7301314 → Inv ad y 70 w → gvP D vwCl w H → gvD A w → va_S A s.heap H locs → lv_has ls 26 (lH ad b 70) → W p l e room_1 s m #[.ref b] below meth c H locs cells1 slots1 Q (F0 m 83 ls [])) : W p l e room_1 s m #[.ref b] below meth c H locs cells slots Q (F0 m 83 ls []) :=
  g_down (P := fun j => ∀ (w : va_W) (H : Heap) (locs : List Loc) (ls : Array Slot) (cells1 slots1 : Nat), cells1 ≤ C0 + j * 5 → slots1 ≤ S0 + j * 46 → Inv ad y j w → gvP D vwCl w H → gvD A w → va_S A s.heap H locs → lv_has ls 26 (lH ad b j) → W p l e room_1 s m #[.ref b] below meth c H locs cells1 slots1 Q (F0 m 83 ls [])) 70 (fun w H locs ls c1 s1 h1 h2 => kk w H locs ls c1 s1 (by omega) (by omega))
    (fun j hj ih w H locs ls c1 s1 h1 h2 hI hP hD hS hl => law_turn hfl hB hI hj hP hD hS hl ⟨by omega, by omega⟩ (fun w H locs ls c2 s2 h3 h4 => ih w H locs ls c2 s2 (by omega) (by omega))) 0 (by omega) ws H locs ls cells slots (by omega) (by omega) hI hP hD hS hl

