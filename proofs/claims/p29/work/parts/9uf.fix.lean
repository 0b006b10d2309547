/-! the law's case: fix -/
set_option maxHeartbeats 4000000 in
set_option maxRecDepth 100000 in
theorem case_fix {p : Program} {l : Launch} {e : Env} {s : State} {m : MethodId} {below : List Frame} {meth : Method} {c : Code} {H : Heap} {locs : List Loc} {cells slots : Nat} {Q : State → Prop} {ls : Array Slot} {D : va_G} {A : Nat → Prop} {b L mi tn act : Nat} {xs : Nat → Int32} {vv yv zv : Int32} {ws : va_W} {ad y : Nat → Nat} {nw : Nat} {n : Nat} {nc : Nat} {qn : Nat} {fq : Nat} {mc1 : Int32} {mc2 : Int32} {aita : Nat} {acta : Nat} {qe : Nat → Option Nat} {cents : Nat → Nat} {grams : Nat → Nat} {cf : Nat → Bool} {cc : Nat → Nat} {fx : Nat → Bool} {lc : Nat → Nat} {lg : Nat → Nat} {told : Nat → Nat} {adp : Nat → Nat} {shr : Nat → UInt64} {pr : Nat → UInt64} {rel : Nat → UInt64} {grp : Nat → UInt64} {idx : Nat → UInt64} {num : Nat → Nat} {zi : Nat → Nat} {zc : Nat → Nat} {zg : Nat → Nat} {zf : Nat → Nat} {zn : Nat → Nat} {zl : Nat → Nat} {zr : Nat → Nat} {ze : Nat → Nat} {zt : Nat → Nat} {za : Nat → Nat} {zw : Nat → Nat} {zq : Nat → Nat} {G : Nat → Nat} {M : Nat → Nat} {Sn : Nat → Nat} {fw : Nat → Nat} {lag : Nat → Nat} {trig : Nat → Nat} {fl : Nat → Bool} {fm : Nat → Nat} {cs : Nat → Nat × Nat × Nat × Nat} {pi : Nat} {pc : Nat} (hfl : l.stackTraces = false) (hB : LWB p s m c meth b L xs D y (ad 0) mi A) (hW : SW ad y nw n nc qn fq mc1 mc2 aita acta qe cents grams cf cc fx lc lg told adp shr pr rel grp idx num zi zc zg zf zn zl zr ze zt za zw zq G M Sn fw lag trig fl fm cs pi pc ws) (hp : LInv nw n nc qn fq cents grams cf cc fx lc lg told adp shr pr rel grp idx num zi zc zg zf zn zl zr ze zt za zw zq G M Sn fw lag trig fl fm cs) (he : EInv nc qn fq zc zn zw tn) (htn : tn < 70) (hn1 : 0 < n) (hac : act < 30) (hP : gvP D vwCl ws H) (hD : gvD A ws) (hS : va_S A s.heap H locs) (hl : lv_has ls 26 (lC ad b tn vv yv act zv)) (hC : cells + 5 ≤ 600104 ∧ slots + 100 ≤ 7301314)
    (kk : ∀ (w : va_W) (H : Heap) (locs : List Loc) (ls : Array Slot) (cells1 slots1 : Nat), cells1 ≤ cells + 2 → slots1 ≤ slots + 19 → Inv ad y (tn + 1) w → gvP D vwCl w H → gvD A w → va_S A s.heap H locs → lv_has ls 26 (lJ ad b tn zv) → W p l e room_1 s m #[.ref b] below meth c H locs cells1 slots1 Q (F0 m 1021 ls [])) : W p l e room_1 s m #[.ref b] below meth c H locs cells slots Q (F0 m 541 ls []) := by
  obtain ⟨hx, hb, hml, hts, hown, hE, hZ, hX, hbl, hbA, hA, hL9⟩ := hB
  have hp0 := hp
  obtain ⟨hq, hs3, hdb, bcc, bta, bz, hgm, hit, hem, hcg, hccg, hlg, hdz, hz2, hser, hrz, hsh, hta, hnum, hcw, hcb⟩ := hp0
  obtain ⟨b_zi, b_zc, b_zg, b_zf, b_zn, b_zl, b_zr, b_ze, b_zt, b_za, b_zw, b_zq⟩ := bz
  have he1 := he.1
  have he2 := he.2.1
  obtain ⟨fs9, f0_off⟩ := sw_off hW
  have f0_zi := sw_zi hW
  have f0_zc := sw_zc hW
  have f0_zg := sw_zg hW
  have f0_zf := sw_zf hW
  have f0_zn := sw_zn hW
  have f0_zl := sw_zl hW
  have f0_zr := sw_zr hW
  have f0_ze := sw_ze hW
  have f0_zt := sw_zt hW
  have f0_za := sw_za hW
  have f0_zw := sw_zw hW
  have f0_zq := sw_zq hW
  refine lv_aload hx hb dL_law_541 (lv_at hl 19 rfl) ?_
  refine lv_iconst (v := nI 1) hx hb dL_law_543 (by decide) ?_
  refine g_nald hx hb hE hP _ f0_zq (by omega) (by decide) dL_law_544 ?_
  have bd_544_1 := b_zq (1)
  refine g_iv (v' := nI (nw)) (congrArg nI (hq.2.1)) ?_
  refine g_if_le (tgt := 745) hx hb (by omega) dL_law_545 (by decide) (fun c_545 => ?_) (fun c_545 => ?_)
  · refine lv_iload hx hb dL_law_745 (lv_at hl 4 rfl) ?_
    refine lv_bipush (v := nI 29) hx hb dL_law_747 (by decide) ?_
    refine g_icmp_le (tgt := 1021) hx hb (by omega) (by omega) dL_law_749 (by decide) (fun c_749 => ?_) (fun c_749 => absurd c_749 (by omega))
    exact kk _ H locs ls _ _ (by first | omega | (dsimp only; omega)) (by first | omega | (dsimp only; omega)) (Inv.mk hW hp he.up) hP hD hS (lv_sub hl [0, 1, 5, 6, 7, 8, 9, 10, 11, 12, 13, 14, 15, 16, 17, 18, 19] rfl)
  · refine lv_iload hx hb dL_law_548 (lv_at hl 5 rfl) ?_
    refine lv_aload hx hb dL_law_550 (lv_at hl 19 rfl) ?_
    refine lv_iconst (v := nI 1) hx hb dL_law_552 (by decide) ?_
    refine g_nald hx hb hE hP _ f0_zq (by omega) (by decide) dL_law_553 ?_
    have bd_553_2 := b_zq (1)
    refine g_iv (v' := nI (nw)) (congrArg nI (hq.2.1)) ?_
    refine gc_S_i (As := [.int (zv), .int (nI (nw))]) (rest := []) (c_L_low l (by omega) (by omega)) ⟨hx, hb, hml, hown, hts⟩ (va_cwS 2 hts gL_law_L_low rfl rfl rfl (by decide +kernel) ⟨Nat.le_of_ble_eq_true rfl, Nat.le_of_ble_eq_true rfl⟩) hE hP hD hS hA rfl rfl hl.1 (Nat.le_of_ble_eq_true rfl) dL_law_554 ⟨by show _ ≤ 600104; (first | omega | (dsimp only; omega)), by show _ ≤ 7301314; (first | omega | (dsimp only; omega))⟩ (fun r_554 u_554 H locs hP hD hS q_554 => ?_)
    obtain ⟨t, ht, e_t⟩ : ∃ z, z < nw ∧ lowN zv % nw = z := ⟨_, Nat.mod_lt _ (by omega), rfl⟩
    have q9 := q_554.trans (congrArg nI e_t)
    subst q9
    refine lv_istore (lv' := [(20, .int (nI (t))), (14, .int (nI (1))), (15, .int (nI (tn))), (16, .int (vv)), (17, .int (yv)), (18, .int (nI (act))), (19, .int (zv)), (0, .ref b), (1, .ref (ad 1)), (2, .ref (ad 30)), (3, .ref (ad 31)), (4, .ref (ad 32)), (5, .ref (ad 33)), (6, .ref (ad 34)), (7, .ref (ad 35)), (8, .ref (ad 36)), (9, .ref (ad 37)), (10, .ref (ad 38)), (11, .ref (ad 39)), (12, .ref (ad 40)), (13, .ref (ad 41))]) hx hb dL_law_557 hl (by decide) rfl (fun ls hl => ?_)
    refine lv_iload hx hb dL_law_559 (lv_at hl 6 rfl) ?_
    refine lv_iconst (v := nI 3) hx hb dL_law_561 (by decide) ?_
    refine g_ishr hx hb dL_law_562 rfl ?_
    refine lv_aload hx hb dL_law_563 (lv_at hl 20 rfl) ?_
    refine lv_iconst (v := nI 0) hx hb dL_law_565 (by decide) ?_
    refine g_nald hx hb hE hP _ f0_zq (by omega) (by decide) dL_law_566 ?_
    have bd_566_3 := b_zq (0)
    refine g_iv (v' := nI (n)) (congrArg nI (hq.1)) ?_
    refine gc_S_i (As := [.int ((zv >>> (nI 3 &&& 31))), .int (nI (n))]) (rest := []) (c_L_low l (by omega) (by omega)) ⟨hx, hb, hml, hown, hts⟩ (va_cwS 2 hts gL_law_L_low rfl rfl rfl (by decide +kernel) ⟨Nat.le_of_ble_eq_true rfl, Nat.le_of_ble_eq_true rfl⟩) hE hP hD hS hA rfl rfl hl.1 (Nat.le_of_ble_eq_true rfl) dL_law_567 ⟨by show _ ≤ 600104; (first | omega | (dsimp only; omega)), by show _ ≤ 7301314; (first | omega | (dsimp only; omega))⟩ (fun r_567 u_567 H locs hP hD hS q_567 => ?_)
    obtain ⟨it, hit9, e_it⟩ : ∃ z, z < n ∧ lowN (zv >>> (nI 3 &&& 31)) % n = z := ⟨_, Nat.mod_lt _ (by omega), rfl⟩
    have q9 := q_567.trans (congrArg nI e_it)
    subst q9
    refine lv_istore (lv' := [(21, .int (nI (it))), (20, .int (nI (t))), (14, .int (nI (1))), (15, .int (nI (tn))), (16, .int (vv)), (17, .int (yv)), (18, .int (nI (act))), (19, .int (zv)), (0, .ref b), (1, .ref (ad 1)), (2, .ref (ad 30)), (3, .ref (ad 31)), (4, .ref (ad 32)), (5, .ref (ad 33)), (6, .ref (ad 34)), (7, .ref (ad 35)), (8, .ref (ad 36)), (9, .ref (ad 37)), (10, .ref (ad 38)), (11, .ref (ad 39)), (12, .ref (ad 40)), (13, .ref (ad 41))]) hx hb dL_law_570 hl (by decide) rfl (fun ls hl => ?_)
    refine lv_iload hx hb dL_law_572 (lv_at hl 7 rfl) ?_
    refine lv_iconst (v := nI 5) hx hb dL_law_574 (by decide) ?_
    refine g_ishr hx hb dL_law_575 rfl ?_
    refine lv_iconst (v := nI 3) hx hb dL_law_576 (by decide) ?_
    refine gc_S_i (As := [.int ((zv >>> (nI 5 &&& 31))), .int (nI (3))]) (rest := []) (c_L_low l (by decide) (by decide)) ⟨hx, hb, hml, hown, hts⟩ (va_cwS 2 hts gL_law_L_low rfl rfl rfl (by decide +kernel) ⟨Nat.le_of_ble_eq_true rfl, Nat.le_of_ble_eq_true rfl⟩) hE hP hD hS hA rfl rfl hl.1 (Nat.le_of_ble_eq_true rfl) dL_law_577 ⟨by show _ ≤ 600104; (first | omega | (dsimp only; omega)), by show _ ≤ 7301314; (first | omega | (dsimp only; omega))⟩ (fun r_577 u_577 H locs hP hD hS q_577 => ?_)
    obtain ⟨o, ho9, e_o⟩ : ∃ z, z < 3 ∧ lowN (zv >>> (nI 5 &&& 31)) % 3 = z := ⟨_, Nat.mod_lt _ (by omega), rfl⟩
    have q9 := q_577.trans (congrArg nI e_o)
    subst q9
    refine lv_istore (lv' := [(22, .int (nI (o))), (21, .int (nI (it))), (20, .int (nI (t))), (14, .int (nI (1))), (15, .int (nI (tn))), (16, .int (vv)), (17, .int (yv)), (18, .int (nI (act))), (19, .int (zv)), (0, .ref b), (1, .ref (ad 1)), (2, .ref (ad 30)), (3, .ref (ad 31)), (4, .ref (ad 32)), (5, .ref (ad 33)), (6, .ref (ad 34)), (7, .ref (ad 35)), (8, .ref (ad 36)), (9, .ref (ad 37)), (10, .ref (ad 38)), (11, .ref (ad 39)), (12, .ref (ad 40)), (13, .ref (ad 41))]) hx hb dL_law_580 hl (by decide) rfl (fun ls hl => ?_)
    refine lv_bipush (v := nI 12) hx hb dL_law_582 (by decide) ?_
    refine lv_iload hx hb dL_law_584 (lv_at hl 2 rfl) ?_
    refine g_imul hx hb dL_law_586 (pk_mul _ _) ?_
    refine lv_iconst (v := nI 3) hx hb dL_law_587 (by decide) ?_
    refine lv_iload hx hb dL_law_588 (lv_at hl 1 rfl) ?_
    refine g_imul hx hb dL_law_590 (pk_mul _ _) ?_
    refine g_iadd hx hb dL_law_591 (nI_add _ _) ?_
    refine lv_iload hx hb dL_law_592 (lv_at hl 0 rfl) ?_
    refine g_iadd hx hb dL_law_594 (nI_add _ _) ?_
    have e_sl : sl (12 * t + 3 * it + o) = (t * 48 + it * 4 + oo o) := sl_at (by omega) ho9
    have hat := hem (12 * t + 3 * it + o) (by omega)
    rw [e_sl] at hat
    obtain ⟨a1, a2, a3, a4, a5, a6, a7⟩ := hat
    have ho4 := oo_lt ho9
    refine lv_istore (lv' := [(23, .int (nI (12 * t + 3 * it + o))), (22, .int (nI (o))), (21, .int (nI (it))), (20, .int (nI (t))), (14, .int (nI (1))), (15, .int (nI (tn))), (16, .int (vv)), (17, .int (yv)), (18, .int (nI (act))), (19, .int (zv)), (0, .ref b), (1, .ref (ad 1)), (2, .ref (ad 30)), (3, .ref (ad 31)), (4, .ref (ad 32)), (5, .ref (ad 33)), (6, .ref (ad 34)), (7, .ref (ad 35)), (8, .ref (ad 36)), (9, .ref (ad 37)), (10, .ref (ad 38)), (11, .ref (ad 39)), (12, .ref (ad 40)), (13, .ref (ad 41))]) hx hb dL_law_595 hl (by decide) rfl (fun ls hl => ?_)
    refine lv_iload hx hb dL_law_597 (lv_at hl 7 rfl) ?_
    refine lv_iconst (v := nI 4) hx hb dL_law_599 (by decide) ?_
    refine gc_S_i (As := [.int (yv), .int (nI (4))]) (rest := []) (c_L_low l (by decide) (by decide)) ⟨hx, hb, hml, hown, hts⟩ (va_cwS 2 hts gL_law_L_low rfl rfl rfl (by decide +kernel) ⟨Nat.le_of_ble_eq_true rfl, Nat.le_of_ble_eq_true rfl⟩) hE hP hD hS hA rfl rfl hl.1 (Nat.le_of_ble_eq_true rfl) dL_law_600 ⟨by show _ ≤ 600104; (first | omega | (dsimp only; omega)), by show _ ≤ 7301314; (first | omega | (dsimp only; omega))⟩ (fun r_600 u_600 H locs hP hD hS q_600 => ?_)
    subst q_600
    refine g_reg (J := 632) (st1 := [.int (nI (lFx yv))]) hP hD hS (fun K_632 => ?_) (fun H locs hP hD hS => ?_)
    · refine g_if_ne (tgt := 620) hx hb (by omega) dL_law_603 (by decide) (fun c_603 => ?_) (fun c_603 => ?_)
      · refine lv_bipush (v := nI 70) hx hb dL_law_620 (by decide) ?_
        refine lv_iload hx hb dL_law_622 (lv_at hl 7 rfl) ?_
        refine lv_iconst (v := nI 3) hx hb dL_law_624 (by decide) ?_
        refine g_ishr hx hb dL_law_625 rfl ?_
        refine lv_bipush (v := nI 80) hx hb dL_law_626 (by decide) ?_
        refine gc_S_i (As := [.int ((yv >>> (nI 3 &&& 31))), .int (nI (80))]) (rest := [.int (nI (70))]) (c_L_low l (by decide) (by decide)) ⟨hx, hb, hml, hown, hts⟩ (va_cwS 2 hts gL_law_L_low rfl rfl rfl (by decide +kernel) ⟨Nat.le_of_ble_eq_true rfl, Nat.le_of_ble_eq_true rfl⟩) hE hP hD hS hA rfl rfl hl.1 (Nat.le_of_ble_eq_true rfl) dL_law_628 ⟨by show _ ≤ 600104; (first | omega | (dsimp only; omega)), by show _ ≤ 7301314; (first | omega | (dsimp only; omega))⟩ (fun r_628 u_628 H locs hP hD hS q_628 => ?_)
        subst q_628
        refine g_iadd hx hb dL_law_631 (nI_add _ _) ?_
        refine g_iv (v' := (nI (lFx yv))) ((congrArg nI (if_neg (by omega)).symm)) ?_
        exact K_632 _ _ hP hD hS
      · refine lv_iconst (v := nI 1) hx hb dL_law_606 (by decide) ?_
        refine lv_iload hx hb dL_law_607 (lv_at hl 7 rfl) ?_
        refine lv_iconst (v := nI 3) hx hb dL_law_609 (by decide) ?_
        refine g_ishr hx hb dL_law_610 rfl ?_
        refine lv_ldc (v := 100000) hx hb hown (hts (.constant RL 171 (100000)) (by decide +kernel)) dL_law_611 ?_
        rw [show (100000 : Int32) = nI 100000 from by decide]
        refine gc_S_i (As := [.int ((yv >>> (nI 3 &&& 31))), .int (nI (100000))]) (rest := [.int (nI (1))]) (c_L_low l (by decide) (by decide)) ⟨hx, hb, hml, hown, hts⟩ (va_cwS 2 hts gL_law_L_low rfl rfl rfl (by decide +kernel) ⟨Nat.le_of_ble_eq_true rfl, Nat.le_of_ble_eq_true rfl⟩) hE hP hD hS hA rfl rfl hl.1 (Nat.le_of_ble_eq_true rfl) dL_law_613 ⟨by show _ ≤ 600104; (first | omega | (dsimp only; omega)), by show _ ≤ 7301314; (first | omega | (dsimp only; omega))⟩ (fun r_613 u_613 H locs hP hD hS q_613 => ?_)
        subst q_613
        refine g_iadd hx hb dL_law_616 (nI_add _ _) ?_
        refine lv_goto (tgt := 632) hx hb dL_law_617 (by decide) ?_
        refine g_iv (v' := (nI (lFx yv))) ((congrArg nI (if_pos c_603).symm)) ?_
        exact K_632 _ _ hP hD hS
    obtain ⟨ce, e_ce, hce, kce⟩ : ∃ z, lFx yv = z ∧ 1 ≤ z ∧ z ≤ 100000 := ⟨_, rfl, lFx_b yv⟩
    refine g_iv (v' := nI (ce)) (congrArg nI e_ce) ?_
    refine lv_istore (lv' := [(24, .int (nI (ce))), (23, .int (nI (12 * t + 3 * it + o))), (22, .int (nI (o))), (21, .int (nI (it))), (20, .int (nI (t))), (14, .int (nI (1))), (15, .int (nI (tn))), (16, .int (vv)), (17, .int (yv)), (18, .int (nI (act))), (19, .int (zv)), (0, .ref b), (1, .ref (ad 1)), (2, .ref (ad 30)), (3, .ref (ad 31)), (4, .ref (ad 32)), (5, .ref (ad 33)), (6, .ref (ad 34)), (7, .ref (ad 35)), (8, .ref (ad 36)), (9, .ref (ad 37)), (10, .ref (ad 38)), (11, .ref (ad 39)), (12, .ref (ad 40)), (13, .ref (ad 41))]) hx hb dL_law_632 hl (by decide) rfl (fun ls hl => ?_)
    refine lv_aload_n hx hb dL_law_634 rfl (lv_at hl 14 rfl) ?_
    refine lv_iload hx hb dL_law_635 (lv_at hl 1 rfl) ?_
    refine g_nald hx hb hE hP _ f0_zc (by omega) (by decide) dL_law_637 ?_
    have bd_637_4 := b_zc (12 * t + 3 * it + o)
    refine g_if_ne (tgt := 647) hx hb (by omega) dL_law_638 (by decide) (fun c_638 => ?_) (fun c_638 => ?_)
    · refine lv_aload hx hb dL_law_647 (lv_at hl 16 rfl) ?_
      refine lv_iload hx hb dL_law_649 (lv_at hl 1 rfl) ?_
      refine g_nald hx hb hE hP _ f0_zf (by omega) (by decide) dL_law_651 ?_
      have bd_651_5 := b_zf (12 * t + 3 * it + o)
      refine g_if_le (tgt := 663) hx hb (by omega) dL_law_652 (by decide) (fun c_652 => ?_) (fun c_652 => ?_)
      · refine lv_aload_n hx hb dL_law_663 rfl (lv_at hl 14 rfl) ?_
        refine lv_iload hx hb dL_law_664 (lv_at hl 1 rfl) ?_
        refine g_nald hx hb hE hP _ f0_zc (by omega) (by decide) dL_law_666 ?_
        have bd_666_6 := b_zc (12 * t + 3 * it + o)
        refine lv_istore (lv' := [(25, .int (nI (zc (12 * t + 3 * it + o)))), (24, .int (nI (ce))), (23, .int (nI (12 * t + 3 * it + o))), (22, .int (nI (o))), (21, .int (nI (it))), (20, .int (nI (t))), (14, .int (nI (1))), (15, .int (nI (tn))), (16, .int (vv)), (17, .int (yv)), (18, .int (nI (act))), (19, .int (zv)), (0, .ref b), (1, .ref (ad 1)), (2, .ref (ad 30)), (3, .ref (ad 31)), (4, .ref (ad 32)), (5, .ref (ad 33)), (6, .ref (ad 34)), (7, .ref (ad 35)), (8, .ref (ad 36)), (9, .ref (ad 37)), (10, .ref (ad 38)), (11, .ref (ad 39)), (12, .ref (ad 40)), (13, .ref (ad 41))]) hx hb dL_law_667 hl (by decide) rfl (fun ls hl => ?_)
        refine lv_aload hx hb dL_law_669 (lv_at hl 25 rfl) ?_
        refine lv_iconst (v := nI 4) hx hb dL_law_671 (by decide) ?_
        refine lv_dup2_11 hx hb dL_law_672 rfl rfl ?_
        refine g_nald hx hb hE hP _ f0_zq (by omega) (by decide) dL_law_673 ?_
        have bd_673_7 := b_zq (4)
        refine g_iv (v' := nI (fq)) (congrArg nI (hq.2.2.2.2)) ?_
        refine lv_aload_n hx hb dL_law_674 rfl (lv_at hl 15 rfl) ?_
        refine lv_iload hx hb dL_law_675 (lv_at hl 2 rfl) ?_
        refine g_nald hx hb hE hP _ f0_zc (by omega) (by decide) dL_law_677 ?_
        have bd_677_8 := b_zc (12 * t + 3 * it + o)
        refine g_if_le (tgt := 693) hx hb (by omega) dL_law_678 (by decide) (fun c_678 => absurd c_678 (by omega)) (fun c_678 => ?_)
        refine lv_aload hx hb dL_law_681 (lv_at hl 17 rfl) ?_
        refine lv_iload hx hb dL_law_683 (lv_at hl 2 rfl) ?_
        refine g_nald hx hb hE hP _ f0_zf (by omega) (by decide) dL_law_685 ?_
        have bd_685_9 := b_zf (12 * t + 3 * it + o)
        refine g_if_ne (tgt := 693) hx hb (by omega) dL_law_686 (by decide) (fun c_686 => absurd c_686 (by omega)) (fun c_686 => ?_)
        refine lv_iconst (v := nI 1) hx hb dL_law_689 (by decide) ?_
        refine lv_goto (tgt := 694) hx hb dL_law_690 (by decide) ?_
        refine g_iadd hx hb dL_law_694 (nI_add _ _) ?_
        refine g_nast hx hb hE hP hD hS _ f0_zq (by omega) (by decide) dL_law_695 (fun H locs hP hD hS => ?_)
        refine g_fw (sw_set_zq (z9 := vf_upd zq (4) (fq + 1)) hW) hP hD (fun w695_10 hW hP hD => ?_)
        have b_zq := upd_bd (k := 4) (x := fq + 1) b_zq (by omega)
        obtain ⟨fs9, f_off⟩ := sw_off hW
        have f_zi := sw_zi hW
        have f_zc := sw_zc hW
        have f_zg := sw_zg hW
        have f_zf := sw_zf hW
        have f_zn := sw_zn hW
        have f_zl := sw_zl hW
        have f_zr := sw_zr hW
        have f_ze := sw_ze hW
        have f_zt := sw_zt hW
        have f_za := sw_za hW
        have f_zw := sw_zw hW
        have f_zq := sw_zq hW
        refine lv_aload hx hb dL_law_696 (lv_at hl 17 rfl) ?_
        refine lv_iload hx hb dL_law_698 (lv_at hl 2 rfl) ?_
        refine lv_aload_n hx hb dL_law_700 rfl (lv_at hl 15 rfl) ?_
        refine lv_iload hx hb dL_law_701 (lv_at hl 2 rfl) ?_
        refine g_nald hx hb hE hP _ f_zc (by omega) (by decide) dL_law_703 ?_
        have bd_703_11 := b_zc (12 * t + 3 * it + o)
        refine g_if_le (tgt := 712) hx hb (by omega) dL_law_704 (by decide) (fun c_704 => absurd c_704 (by omega)) (fun c_704 => ?_)
        refine lv_iload hx hb dL_law_707 (lv_at hl 1 rfl) ?_
        refine lv_goto (tgt := 713) hx hb dL_law_709 (by decide) ?_
        refine g_nast hx hb hE hP hD hS _ f_zf (by omega) (by decide) dL_law_713 (fun H locs hP hD hS => ?_)
        refine g_fw (sw_set_zf (z9 := vf_upd zf (12 * t + 3 * it + o) (ce)) hW) hP hD (fun w713_12 hW hP hD => ?_)
        have b_zf := upd_bd (k := 12 * t + 3 * it + o) (x := ce) b_zf (by omega)
        obtain ⟨fs9, f_off⟩ := sw_off hW
        have f_zi := sw_zi hW
        have f_zc := sw_zc hW
        have f_zg := sw_zg hW
        have f_zf := sw_zf hW
        have f_zn := sw_zn hW
        have f_zl := sw_zl hW
        have f_zr := sw_zr hW
        have f_ze := sw_ze hW
        have f_zt := sw_zt hW
        have f_za := sw_za hW
        have f_zw := sw_zw hW
        have f_zq := sw_zq hW
        refine lv_aload_n hx hb dL_law_714 rfl (lv_at hl 13 rfl) ?_
        refine lv_iconst (v := nI 3) hx hb dL_law_715 (by decide) ?_
        refine lv_iload hx hb dL_law_716 (lv_at hl 5 rfl) ?_
        refine lv_iload hx hb dL_law_718 (lv_at hl 4 rfl) ?_
        refine lv_iload hx hb dL_law_720 (lv_at hl 3 rfl) ?_
        refine gc_S_i (As := [.int (nI (o))]) (rest := [.int (nI (it)), .int (nI (t)), .int (nI (3)), .ref (ad 1)]) (c_L_outlet l ho9) ⟨hx, hb, hml, hown, hts⟩ (va_cwS 1 hts gL_law_L_outlet rfl rfl rfl (by decide +kernel) ⟨Nat.le_of_ble_eq_true rfl, Nat.le_of_ble_eq_true rfl⟩) hE hP hD hS hA rfl rfl hl.1 (Nat.le_of_ble_eq_true rfl) dL_law_722 ⟨by show _ ≤ 600104; (first | omega | (dsimp only; omega)), by show _ ≤ 7301314; (first | omega | (dsimp only; omega))⟩ (fun r_722 u_722 H locs hP hD hS q_722 => ?_)
        subst q_722
        refine lv_iload hx hb dL_law_725 (lv_at hl 1 rfl) ?_
        have hq9 : 0 < cents (t * 48 + it * 4 + oo o) := by rw [← a1]; exact c_638
        have hp2 := hp.fix ht hit9 ho9 hce kce hq9 (by omega)
        have e_f : (if fx (t * 48 + it * 4 + oo o) = true then fq else fq + 1) = fq + 1 := if_neg (fun z => by rw [← a7] at z; have := of_decide_eq_true z; omega)
        refine gcz_S_i (As := [.ref (ad 1), .int (nI (3)), .int (nI (t)), .int (nI (it)), .int (nI (oo (o))), .int (nI (ce))]) (rest := []) (k_fix l hW hp hfl ht hit9 ho4 hce kce hq9) ⟨hx, hb, hml, hown, hts⟩ (vx_cwSW 6 hts gL_law_L_calls rfl rfl rfl (by decide +kernel) ⟨Nat.le_of_ble_eq_true rfl, Nat.le_of_ble_eq_true rfl⟩) hE hZ hP hD hS hA rfl rfl hl.1 (Nat.le_of_ble_eq_true rfl) dL_law_727 ⟨by show _ ≤ 600104; (first | omega | (dsimp only; omega)), by show _ ≤ 7301314; (first | omega | (dsimp only; omega))⟩ (fun r_727_13 u_727_13 H locs hP hD hS q_727_13 => ?_)
        obtain ⟨q9, hW⟩ := q_727_13
        have q9 := q9.trans (congrArg nI (a6.symm.trans (lIts_0 c_652)))
        rw [e_f] at hW hp2
        subst q9
        obtain ⟨fs9, f_off⟩ := sw_off hW
        have f_zi := sw_zi hW
        have f_zc := sw_zc hW
        have f_zg := sw_zg hW
        have f_zf := sw_zf hW
        have f_zn := sw_zn hW
        have f_zl := sw_zl hW
        have f_zr := sw_zr hW
        have f_ze := sw_ze hW
        have f_zt := sw_zt hW
        have f_za := sw_za hW
        have f_zw := sw_zw hW
        have f_zq := sw_zq hW
        refine lv_iload hx hb dL_law_730 (lv_at hl 0 rfl) ?_
        refine g_icmp_ne (tgt := 739) hx hb (by omega) (by omega) dL_law_732 (by decide) (fun c_732 => absurd c_732 (fun z => z rfl)) (fun c_732 => ?_)
        refine lv_iconst (v := nI 1) hx hb dL_law_735 (by decide) ?_
        refine lv_goto (tgt := 740) hx hb dL_law_736 (by decide) ?_
        refine lv_istore (lv' := [(14, .int (nI (1))), (25, .int (nI (zc (12 * t + 3 * it + o)))), (24, .int (nI (ce))), (23, .int (nI (12 * t + 3 * it + o))), (22, .int (nI (o))), (21, .int (nI (it))), (20, .int (nI (t))), (15, .int (nI (tn))), (16, .int (vv)), (17, .int (yv)), (18, .int (nI (act))), (19, .int (zv)), (0, .ref b), (1, .ref (ad 1)), (2, .ref (ad 30)), (3, .ref (ad 31)), (4, .ref (ad 32)), (5, .ref (ad 33)), (6, .ref (ad 34)), (7, .ref (ad 35)), (8, .ref (ad 36)), (9, .ref (ad 37)), (10, .ref (ad 38)), (11, .ref (ad 39)), (12, .ref (ad 40)), (13, .ref (ad 41))]) hx hb dL_law_740 hl (by decide) rfl (fun ls hl => ?_)
        refine lv_goto (tgt := 1021) hx hb dL_law_742 (by decide) ?_
        exact kk _ H locs ls _ _ (by first | omega | (dsimp only; omega)) (by first | omega | (dsimp only; omega)) (Inv.mk hW hp2 ⟨by omega, by omega, he.2.2⟩) hP hD hS (lv_sub hl [0, 7, 11, 12, 13, 14, 15, 16, 17, 18, 19, 20, 21, 22, 23, 24, 25] rfl)
      · refine lv_aload hx hb dL_law_655 (lv_at hl 16 rfl) ?_
        refine lv_iload hx hb dL_law_657 (lv_at hl 1 rfl) ?_
        refine g_nald hx hb hE hP _ f0_zf (by omega) (by decide) dL_law_659 ?_
        have bd_659_14 := b_zf (12 * t + 3 * it + o)
        refine lv_goto (tgt := 667) hx hb dL_law_660 (by decide) ?_
        refine lv_istore (lv' := [(25, .int (nI (zf (12 * t + 3 * it + o)))), (24, .int (nI (ce))), (23, .int (nI (12 * t + 3 * it + o))), (22, .int (nI (o))), (21, .int (nI (it))), (20, .int (nI (t))), (14, .int (nI (1))), (15, .int (nI (tn))), (16, .int (vv)), (17, .int (yv)), (18, .int (nI (act))), (19, .int (zv)), (0, .ref b), (1, .ref (ad 1)), (2, .ref (ad 30)), (3, .ref (ad 31)), (4, .ref (ad 32)), (5, .ref (ad 33)), (6, .ref (ad 34)), (7, .ref (ad 35)), (8, .ref (ad 36)), (9, .ref (ad 37)), (10, .ref (ad 38)), (11, .ref (ad 39)), (12, .ref (ad 40)), (13, .ref (ad 41))]) hx hb dL_law_667 hl (by decide) rfl (fun ls hl => ?_)
        refine lv_aload hx hb dL_law_669 (lv_at hl 25 rfl) ?_
        refine lv_iconst (v := nI 4) hx hb dL_law_671 (by decide) ?_
        refine lv_dup2_11 hx hb dL_law_672 rfl rfl ?_
        refine g_nald hx hb hE hP _ f0_zq (by omega) (by decide) dL_law_673 ?_
        have bd_673_15 := b_zq (4)
        refine g_iv (v' := nI (fq)) (congrArg nI (hq.2.2.2.2)) ?_
        refine lv_aload_n hx hb dL_law_674 rfl (lv_at hl 15 rfl) ?_
        refine lv_iload hx hb dL_law_675 (lv_at hl 2 rfl) ?_
        refine g_nald hx hb hE hP _ f0_zc (by omega) (by decide) dL_law_677 ?_
        have bd_677_16 := b_zc (12 * t + 3 * it + o)
        refine g_if_le (tgt := 693) hx hb (by omega) dL_law_678 (by decide) (fun c_678 => absurd c_678 (by omega)) (fun c_678 => ?_)
        refine lv_aload hx hb dL_law_681 (lv_at hl 17 rfl) ?_
        refine lv_iload hx hb dL_law_683 (lv_at hl 2 rfl) ?_
        refine g_nald hx hb hE hP _ f0_zf (by omega) (by decide) dL_law_685 ?_
        have bd_685_17 := b_zf (12 * t + 3 * it + o)
        refine g_if_ne (tgt := 693) hx hb (by omega) dL_law_686 (by decide) (fun c_686 => ?_) (fun c_686 => absurd c_686 (by omega))
        refine lv_iconst (v := nI 0) hx hb dL_law_693 (by decide) ?_
        refine g_iadd hx hb dL_law_694 (nI_add _ _) ?_
        refine g_nast hx hb hE hP hD hS _ f0_zq (by omega) (by decide) dL_law_695 (fun H locs hP hD hS => ?_)
        refine g_fw (sw_set_zq (z9 := vf_upd zq (4) (fq + 0)) hW) hP hD (fun w695_18 hW hP hD => ?_)
        have b_zq := upd_bd (k := 4) (x := fq + 0) b_zq (by omega)
        obtain ⟨fs9, f_off⟩ := sw_off hW
        have f_zi := sw_zi hW
        have f_zc := sw_zc hW
        have f_zg := sw_zg hW
        have f_zf := sw_zf hW
        have f_zn := sw_zn hW
        have f_zl := sw_zl hW
        have f_zr := sw_zr hW
        have f_ze := sw_ze hW
        have f_zt := sw_zt hW
        have f_za := sw_za hW
        have f_zw := sw_zw hW
        have f_zq := sw_zq hW
        refine lv_aload hx hb dL_law_696 (lv_at hl 17 rfl) ?_
        refine lv_iload hx hb dL_law_698 (lv_at hl 2 rfl) ?_
        refine lv_aload_n hx hb dL_law_700 rfl (lv_at hl 15 rfl) ?_
        refine lv_iload hx hb dL_law_701 (lv_at hl 2 rfl) ?_
        refine g_nald hx hb hE hP _ f_zc (by omega) (by decide) dL_law_703 ?_
        have bd_703_19 := b_zc (12 * t + 3 * it + o)
        refine g_if_le (tgt := 712) hx hb (by omega) dL_law_704 (by decide) (fun c_704 => absurd c_704 (by omega)) (fun c_704 => ?_)
        refine lv_iload hx hb dL_law_707 (lv_at hl 1 rfl) ?_
        refine lv_goto (tgt := 713) hx hb dL_law_709 (by decide) ?_
        refine g_nast hx hb hE hP hD hS _ f_zf (by omega) (by decide) dL_law_713 (fun H locs hP hD hS => ?_)
        refine g_fw (sw_set_zf (z9 := vf_upd zf (12 * t + 3 * it + o) (ce)) hW) hP hD (fun w713_20 hW hP hD => ?_)
        have b_zf := upd_bd (k := 12 * t + 3 * it + o) (x := ce) b_zf (by omega)
        obtain ⟨fs9, f_off⟩ := sw_off hW
        have f_zi := sw_zi hW
        have f_zc := sw_zc hW
        have f_zg := sw_zg hW
        have f_zf := sw_zf hW
        have f_zn := sw_zn hW
        have f_zl := sw_zl hW
        have f_zr := sw_zr hW
        have f_ze := sw_ze hW
        have f_zt := sw_zt hW
        have f_za := sw_za hW
        have f_zw := sw_zw hW
        have f_zq := sw_zq hW
        refine lv_aload_n hx hb dL_law_714 rfl (lv_at hl 13 rfl) ?_
        refine lv_iconst (v := nI 3) hx hb dL_law_715 (by decide) ?_
        refine lv_iload hx hb dL_law_716 (lv_at hl 5 rfl) ?_
        refine lv_iload hx hb dL_law_718 (lv_at hl 4 rfl) ?_
        refine lv_iload hx hb dL_law_720 (lv_at hl 3 rfl) ?_
        refine gc_S_i (As := [.int (nI (o))]) (rest := [.int (nI (it)), .int (nI (t)), .int (nI (3)), .ref (ad 1)]) (c_L_outlet l ho9) ⟨hx, hb, hml, hown, hts⟩ (va_cwS 1 hts gL_law_L_outlet rfl rfl rfl (by decide +kernel) ⟨Nat.le_of_ble_eq_true rfl, Nat.le_of_ble_eq_true rfl⟩) hE hP hD hS hA rfl rfl hl.1 (Nat.le_of_ble_eq_true rfl) dL_law_722 ⟨by show _ ≤ 600104; (first | omega | (dsimp only; omega)), by show _ ≤ 7301314; (first | omega | (dsimp only; omega))⟩ (fun r_722 u_722 H locs hP hD hS q_722 => ?_)
        subst q_722
        refine lv_iload hx hb dL_law_725 (lv_at hl 1 rfl) ?_
        have hq9 : 0 < cents (t * 48 + it * 4 + oo o) := by rw [← a1]; exact c_638
        have hp2 := hp.fix ht hit9 ho9 hce kce hq9 (by omega)
        have e_f : (if fx (t * 48 + it * 4 + oo o) = true then fq else fq + 1) = fq + 0 := if_pos (a7.symm.trans (decide_eq_true c_652))
        refine gcz_S_i (As := [.ref (ad 1), .int (nI (3)), .int (nI (t)), .int (nI (it)), .int (nI (oo (o))), .int (nI (ce))]) (rest := []) (k_fix l hW hp hfl ht hit9 ho4 hce kce hq9) ⟨hx, hb, hml, hown, hts⟩ (vx_cwSW 6 hts gL_law_L_calls rfl rfl rfl (by decide +kernel) ⟨Nat.le_of_ble_eq_true rfl, Nat.le_of_ble_eq_true rfl⟩) hE hZ hP hD hS hA rfl rfl hl.1 (Nat.le_of_ble_eq_true rfl) dL_law_727 ⟨by show _ ≤ 600104; (first | omega | (dsimp only; omega)), by show _ ≤ 7301314; (first | omega | (dsimp only; omega))⟩ (fun r_727_21 u_727_21 H locs hP hD hS q_727_21 => ?_)
        obtain ⟨q9, hW⟩ := q_727_21
        have q9 := q9.trans (congrArg nI (a6.symm.trans (lIts_p c_652)))
        rw [e_f] at hW hp2
        subst q9
        obtain ⟨fs9, f_off⟩ := sw_off hW
        have f_zi := sw_zi hW
        have f_zc := sw_zc hW
        have f_zg := sw_zg hW
        have f_zf := sw_zf hW
        have f_zn := sw_zn hW
        have f_zl := sw_zl hW
        have f_zr := sw_zr hW
        have f_ze := sw_ze hW
        have f_zt := sw_zt hW
        have f_za := sw_za hW
        have f_zw := sw_zw hW
        have f_zq := sw_zq hW
        refine lv_iload hx hb dL_law_730 (lv_at hl 0 rfl) ?_
        refine g_icmp_ne (tgt := 739) hx hb (by omega) (by omega) dL_law_732 (by decide) (fun c_732 => absurd c_732 (fun z => z rfl)) (fun c_732 => ?_)
        refine lv_iconst (v := nI 1) hx hb dL_law_735 (by decide) ?_
        refine lv_goto (tgt := 740) hx hb dL_law_736 (by decide) ?_
        refine lv_istore (lv' := [(14, .int (nI (1))), (25, .int (nI (zf (12 * t + 3 * it + o)))), (24, .int (nI (ce))), (23, .int (nI (12 * t + 3 * it + o))), (22, .int (nI (o))), (21, .int (nI (it))), (20, .int (nI (t))), (15, .int (nI (tn))), (16, .int (vv)), (17, .int (yv)), (18, .int (nI (act))), (19, .int (zv)), (0, .ref b), (1, .ref (ad 1)), (2, .ref (ad 30)), (3, .ref (ad 31)), (4, .ref (ad 32)), (5, .ref (ad 33)), (6, .ref (ad 34)), (7, .ref (ad 35)), (8, .ref (ad 36)), (9, .ref (ad 37)), (10, .ref (ad 38)), (11, .ref (ad 39)), (12, .ref (ad 40)), (13, .ref (ad 41))]) hx hb dL_law_740 hl (by decide) rfl (fun ls hl => ?_)
        refine lv_goto (tgt := 1021) hx hb dL_law_742 (by decide) ?_
        exact kk _ H locs ls _ _ (by first | omega | (dsimp only; omega)) (by first | omega | (dsimp only; omega)) (Inv.mk hW hp2 ⟨by omega, by omega, he.2.2⟩) hP hD hS (lv_sub hl [0, 7, 11, 12, 13, 14, 15, 16, 17, 18, 19, 20, 21, 22, 23, 24, 25] rfl)
    · refine lv_sipush (v := (-1003)) hx hb dL_law_641 (by decide) ?_
      refine lv_goto (tgt := 667) hx hb dL_law_644 (by decide) ?_
      refine lv_istore (lv' := [(25, .int (-1003)), (24, .int (nI (ce))), (23, .int (nI (12 * t + 3 * it + o))), (22, .int (nI (o))), (21, .int (nI (it))), (20, .int (nI (t))), (14, .int (nI (1))), (15, .int (nI (tn))), (16, .int (vv)), (17, .int (yv)), (18, .int (nI (act))), (19, .int (zv)), (0, .ref b), (1, .ref (ad 1)), (2, .ref (ad 30)), (3, .ref (ad 31)), (4, .ref (ad 32)), (5, .ref (ad 33)), (6, .ref (ad 34)), (7, .ref (ad 35)), (8, .ref (ad 36)), (9, .ref (ad 37)), (10, .ref (ad 38)), (11, .ref (ad 39)), (12, .ref (ad 40)), (13, .ref (ad 41))]) hx hb dL_law_667 hl (by decide) rfl (fun ls hl => ?_)
      refine lv_aload hx hb dL_law_669 (lv_at hl 25 rfl) ?_
      refine lv_iconst (v := nI 4) hx hb dL_law_671 (by decide) ?_
      refine lv_dup2_11 hx hb dL_law_672 rfl rfl ?_
      refine g_nald hx hb hE hP _ f0_zq (by omega) (by decide) dL_law_673 ?_
      have bd_673_22 := b_zq (4)
      refine g_iv (v' := nI (fq)) (congrArg nI (hq.2.2.2.2)) ?_
      refine lv_aload_n hx hb dL_law_674 rfl (lv_at hl 15 rfl) ?_
      refine lv_iload hx hb dL_law_675 (lv_at hl 2 rfl) ?_
      refine g_nald hx hb hE hP _ f0_zc (by omega) (by decide) dL_law_677 ?_
      have bd_677_23 := b_zc (12 * t + 3 * it + o)
      refine g_if_le (tgt := 693) hx hb (by omega) dL_law_678 (by decide) (fun c_678 => ?_) (fun c_678 => absurd c_678 (by omega))
      refine lv_iconst (v := nI 0) hx hb dL_law_693 (by decide) ?_
      refine g_iadd hx hb dL_law_694 (nI_add _ _) ?_
      refine g_nast hx hb hE hP hD hS _ f0_zq (by omega) (by decide) dL_law_695 (fun H locs hP hD hS => ?_)
      refine g_fw (sw_set_zq (z9 := vf_upd zq (4) (fq + 0)) hW) hP hD (fun w695_24 hW hP hD => ?_)
      have b_zq := upd_bd (k := 4) (x := fq + 0) b_zq (by omega)
      obtain ⟨fs9, f_off⟩ := sw_off hW
      have f_zi := sw_zi hW
      have f_zc := sw_zc hW
      have f_zg := sw_zg hW
      have f_zf := sw_zf hW
      have f_zn := sw_zn hW
      have f_zl := sw_zl hW
      have f_zr := sw_zr hW
      have f_ze := sw_ze hW
      have f_zt := sw_zt hW
      have f_za := sw_za hW
      have f_zw := sw_zw hW
      have f_zq := sw_zq hW
      refine lv_aload hx hb dL_law_696 (lv_at hl 17 rfl) ?_
      refine lv_iload hx hb dL_law_698 (lv_at hl 2 rfl) ?_
      refine lv_aload_n hx hb dL_law_700 rfl (lv_at hl 15 rfl) ?_
      refine lv_iload hx hb dL_law_701 (lv_at hl 2 rfl) ?_
      refine g_nald hx hb hE hP _ f_zc (by omega) (by decide) dL_law_703 ?_
      have bd_703_25 := b_zc (12 * t + 3 * it + o)
      refine g_if_le (tgt := 712) hx hb (by omega) dL_law_704 (by decide) (fun c_704 => ?_) (fun c_704 => absurd c_704 (by omega))
      refine lv_iconst (v := nI 0) hx hb dL_law_712 (by decide) ?_
      refine g_nast hx hb hE hP hD hS _ f_zf (by omega) (by decide) dL_law_713 (fun H locs hP hD hS => ?_)
      refine g_fw (sw_set_zf (z9 := vf_upd zf (12 * t + 3 * it + o) (0)) hW) hP hD (fun w713_26 hW hP hD => ?_)
      have b_zf := upd_bd (k := 12 * t + 3 * it + o) (x := 0) b_zf (by omega)
      obtain ⟨fs9, f_off⟩ := sw_off hW
      have f_zi := sw_zi hW
      have f_zc := sw_zc hW
      have f_zg := sw_zg hW
      have f_zf := sw_zf hW
      have f_zn := sw_zn hW
      have f_zl := sw_zl hW
      have f_zr := sw_zr hW
      have f_ze := sw_ze hW
      have f_zt := sw_zt hW
      have f_za := sw_za hW
      have f_zw := sw_zw hW
      have f_zq := sw_zq hW
      refine lv_aload_n hx hb dL_law_714 rfl (lv_at hl 13 rfl) ?_
      refine lv_iconst (v := nI 3) hx hb dL_law_715 (by decide) ?_
      refine lv_iload hx hb dL_law_716 (lv_at hl 5 rfl) ?_
      refine lv_iload hx hb dL_law_718 (lv_at hl 4 rfl) ?_
      refine lv_iload hx hb dL_law_720 (lv_at hl 3 rfl) ?_
      refine gc_S_i (As := [.int (nI (o))]) (rest := [.int (nI (it)), .int (nI (t)), .int (nI (3)), .ref (ad 1)]) (c_L_outlet l ho9) ⟨hx, hb, hml, hown, hts⟩ (va_cwS 1 hts gL_law_L_outlet rfl rfl rfl (by decide +kernel) ⟨Nat.le_of_ble_eq_true rfl, Nat.le_of_ble_eq_true rfl⟩) hE hP hD hS hA rfl rfl hl.1 (Nat.le_of_ble_eq_true rfl) dL_law_722 ⟨by show _ ≤ 600104; (first | omega | (dsimp only; omega)), by show _ ≤ 7301314; (first | omega | (dsimp only; omega))⟩ (fun r_722 u_722 H locs hP hD hS q_722 => ?_)
      subst q_722
      refine lv_iload hx hb dL_law_725 (lv_at hl 1 rfl) ?_
      have hq9 : cents (t * 48 + it * 4 + oo o) = 0 := a1.symm.trans c_638
      refine gcz_S_i (As := [.ref (ad 1), .int (nI (3)), .int (nI (t)), .int (nI (it)), .int (nI (oo (o))), .int (nI (ce))]) (rest := []) (kx_fix l hW hp hfl ht hit9 ho4 hce kce hq9) ⟨hx, hb, hml, hown, hts⟩ (vx_cwSW 6 hts gL_law_L_calls rfl rfl rfl (by decide +kernel) ⟨Nat.le_of_ble_eq_true rfl, Nat.le_of_ble_eq_true rfl⟩) hE hZ hP hD hS hA rfl rfl hl.1 (Nat.le_of_ble_eq_true rfl) dL_law_727 ⟨by show _ ≤ 600104; (first | omega | (dsimp only; omega)), by show _ ≤ 7301314; (first | omega | (dsimp only; omega))⟩ (fun r_727_27 u_727_27 H locs hP hD hS q_727_27 => ?_)
      obtain ⟨q9, hW⟩ := q_727_27
      subst q9
      obtain ⟨fs9, f_off⟩ := sw_off hW
      have f_zi := sw_zi hW
      have f_zc := sw_zc hW
      have f_zg := sw_zg hW
      have f_zf := sw_zf hW
      have f_zn := sw_zn hW
      have f_zl := sw_zl hW
      have f_zr := sw_zr hW
      have f_ze := sw_ze hW
      have f_zt := sw_zt hW
      have f_za := sw_za hW
      have f_zw := sw_zw hW
      have f_zq := sw_zq hW
      refine lv_iload hx hb dL_law_730 (lv_at hl 0 rfl) ?_
      refine lv_icmp_ne (tgt := 739) hx hb dL_law_732 (by decide) (fun c_732 => absurd c_732 (fun z => z (by decide))) (fun c_732 => ?_)
      refine lv_iconst (v := nI 1) hx hb dL_law_735 (by decide) ?_
      refine lv_goto (tgt := 740) hx hb dL_law_736 (by decide) ?_
      refine lv_istore (lv' := [(14, .int (nI (1))), (25, .int (-1003)), (24, .int (nI (ce))), (23, .int (nI (12 * t + 3 * it + o))), (22, .int (nI (o))), (21, .int (nI (it))), (20, .int (nI (t))), (15, .int (nI (tn))), (16, .int (vv)), (17, .int (yv)), (18, .int (nI (act))), (19, .int (zv)), (0, .ref b), (1, .ref (ad 1)), (2, .ref (ad 30)), (3, .ref (ad 31)), (4, .ref (ad 32)), (5, .ref (ad 33)), (6, .ref (ad 34)), (7, .ref (ad 35)), (8, .ref (ad 36)), (9, .ref (ad 37)), (10, .ref (ad 38)), (11, .ref (ad 39)), (12, .ref (ad 40)), (13, .ref (ad 41))]) hx hb dL_law_740 hl (by decide) rfl (fun ls hl => ?_)
      refine lv_goto (tgt := 1021) hx hb dL_law_742 (by decide) ?_
      exact kk _ H locs ls _ _ (by first | omega | (dsimp only; omega)) (by first | omega | (dsimp only; omega)) (Inv.mk hW (hp.nofix ht hit9 ho9 hq9) he.up) hP hD hS (lv_sub hl [0, 7, 11, 12, 13, 14, 15, 16, 17, 18, 19, 20, 21, 22, 23, 24, 25] rfl)
