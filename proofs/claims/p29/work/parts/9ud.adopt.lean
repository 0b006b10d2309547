/-! the law's case: adopt -/
set_option maxHeartbeats 4000000 in
set_option maxRecDepth 100000 in
theorem case_adopt {p : Program} {l : Launch} {e : Env} {s : State} {m : MethodId} {below : List Frame} {meth : Method} {c : Code} {H : Heap} {locs : List Loc} {cells slots : Nat} {Q : State → Prop} {ls : Array Slot} {D : va_G} {A : Nat → Prop} {b L mi tn act : Nat} {xs : Nat → Int32} {vv yv zv : Int32} {ws : va_W} {ad y : Nat → Nat} {nw : Nat} {n : Nat} {nc : Nat} {qn : Nat} {fq : Nat} {mc1 : Int32} {mc2 : Int32} {aita : Nat} {acta : Nat} {qe : Nat → Option Nat} {cents : Nat → Nat} {grams : Nat → Nat} {cf : Nat → Bool} {cc : Nat → Nat} {fx : Nat → Bool} {lc : Nat → Nat} {lg : Nat → Nat} {told : Nat → Nat} {adp : Nat → Nat} {shr : Nat → UInt64} {pr : Nat → UInt64} {rel : Nat → UInt64} {grp : Nat → UInt64} {idx : Nat → UInt64} {num : Nat → Nat} {zi : Nat → Nat} {zc : Nat → Nat} {zg : Nat → Nat} {zf : Nat → Nat} {zn : Nat → Nat} {zl : Nat → Nat} {zr : Nat → Nat} {ze : Nat → Nat} {zt : Nat → Nat} {za : Nat → Nat} {zw : Nat → Nat} {zq : Nat → Nat} {G : Nat → Nat} {M : Nat → Nat} {Sn : Nat → Nat} {fw : Nat → Nat} {lag : Nat → Nat} {trig : Nat → Nat} {fl : Nat → Bool} {fm : Nat → Nat} {cs : Nat → Nat × Nat × Nat × Nat} {pi : Nat} {pc : Nat} (hfl : l.stackTraces = false) (hB : LWB p s m c meth b L xs D y (ad 0) mi A) (hW : SW ad y nw n nc qn fq mc1 mc2 aita acta qe cents grams cf cc fx lc lg told adp shr pr rel grp idx num zi zc zg zf zn zl zr ze zt za zw zq G M Sn fw lag trig fl fm cs pi pc ws) (hp : LInv nw n nc qn fq cents grams cf cc fx lc lg told adp shr pr rel grp idx num zi zc zg zf zn zl zr ze zt za zw zq G M Sn fw lag trig fl fm cs) (he : EInv nc qn fq zc zn zw tn) (htn : tn < 70)  (hP : gvP D vwCl ws H) (hD : gvD A ws) (hS : va_S A s.heap H locs) (hl : lv_has ls 26 (lC ad b tn vv yv act zv)) (hC : cells + 5 ≤ 600104 ∧ slots + 100 ≤ 7301314)
    (kk : ∀ (w : va_W) (H : Heap) (locs : List Loc) (ls : Array Slot) (cells1 slots1 : Nat), cells1 ≤ cells + 2 → slots1 ≤ slots + 19 → Inv ad y (tn + 1) w → gvP D vwCl w H → gvD A w → va_S A s.heap H locs → lv_has ls 26 (lJ ad b tn zv) → W p l e room_1 s m #[.ref b] below meth c H locs cells1 slots1 Q (F0 m 1021 ls [])) : W p l e room_1 s m #[.ref b] below meth c H locs cells slots Q (F0 m 422 ls []) := by
  obtain ⟨hx, hb, hml, hts, hown, hE, hZ, hX, hbl, hbA, hA, hL9⟩ := hB
  have hp0 := hp
  obtain ⟨hq, hs3, hdb, bcc, bta, bz, hgm, hit, hem, hcg, hccg, hlg, hdz, hz2, hser, hrz, hsh, hta, hnum, hcw, hcb⟩ := hp0
  obtain ⟨b_zi, b_zc, b_zg, b_zf, b_zn, b_zl, b_zr, b_ze, b_zt, b_za, b_zw, b_zq⟩ := bz
  have he1 := he.1
  have he2 := he.2.1
  obtain ⟨fs9, f0_off⟩ := sw_off hW
  have f0_zi := sw_zi hW
  have f0_zc := sw_zc hW
  have f0_zg := sw_zg hW
  have f0_zf := sw_zf hW
  have f0_zn := sw_zn hW
  have f0_zl := sw_zl hW
  have f0_zr := sw_zr hW
  have f0_ze := sw_ze hW
  have f0_zt := sw_zt hW
  have f0_za := sw_za hW
  have f0_zw := sw_zw hW
  have f0_zq := sw_zq hW
  refine lv_lconst (v := lN 0) hx hb dL_law_422 (by decide) ?_
  refine lv_lstore (lv' := [(20, .long (lN (0))), (14, .int (nI (1))), (15, .int (nI (tn))), (16, .int (vv)), (17, .int (yv)), (18, .int (nI (act))), (19, .int (zv)), (0, .ref b), (1, .ref (ad 1)), (2, .ref (ad 30)), (3, .ref (ad 31)), (4, .ref (ad 32)), (5, .ref (ad 33)), (6, .ref (ad 34)), (7, .ref (ad 35)), (8, .ref (ad 36)), (9, .ref (ad 37)), (10, .ref (ad 38)), (11, .ref (ad 39)), (12, .ref (ad 40)), (13, .ref (ad 41))]) hx hb dL_law_423 hl (by decide) rfl (fun ls hl => ?_)
  refine lv_iconst (v := nI 0) hx hb dL_law_425 (by decide) ?_
  refine lv_istore (lv' := [(22, .int (nI (0))), (20, .long (lN (0))), (14, .int (nI (1))), (15, .int (nI (tn))), (16, .int (vv)), (17, .int (yv)), (18, .int (nI (act))), (19, .int (zv)), (0, .ref b), (1, .ref (ad 1)), (2, .ref (ad 30)), (3, .ref (ad 31)), (4, .ref (ad 32)), (5, .ref (ad 33)), (6, .ref (ad 34)), (7, .ref (ad 35)), (8, .ref (ad 36)), (9, .ref (ad 37)), (10, .ref (ad 38)), (11, .ref (ad 39)), (12, .ref (ad 40)), (13, .ref (ad 41))]) hx hb dL_law_426 hl (by decide) rfl (fun ls hl => ?_)
  refine g_forWk (fun k w9 => SW ad y nw n nc qn fq mc1 mc2 aita acta qe cents grams cf cc fx lc lg told adp shr pr rel grp idx num zi zc zg zf zn zl zr ze zt (adF zt za (k)) zw zq G M Sn fw lag trig fl fm cs pi pc w9) (fun k => [(0, .ref b), (1, .ref (ad 1)), (2, .ref (ad 30)), (3, .ref (ad 31)), (4, .ref (ad 32)), (5, .ref (ad 33)), (6, .ref (ad 34)), (7, .ref (ad 35)), (8, .ref (ad 36)), (9, .ref (ad 37)), (10, .ref (ad 38)), (11, .ref (ad 39)), (12, .ref (ad 40)), (13, .ref (ad 41)), (14, .int (nI (1))), (15, .int (nI (tn))), (16, .int (vv)), (17, .int (yv)), (18, .int (nI (act))), (19, .int (zv)), (20, .long (lN (tS zt (k)))), (22, .int (nI (k)))]) (12) (0) (by omega) ?_ ?_ hW hP hD hS (lv_sub hl [8, 9, 10, 11, 12, 13, 14, 15, 16, 17, 18, 19, 20, 21, 2, 3, 4, 5, 6, 7, 1, 0] rfl)
  · intro w428 hW H locs ls hP hD hS hl
    have hl : lv_has ls 26 [(0, .ref b), (1, .ref (ad 1)), (2, .ref (ad 30)), (3, .ref (ad 31)), (4, .ref (ad 32)), (5, .ref (ad 33)), (6, .ref (ad 34)), (7, .ref (ad 35)), (8, .ref (ad 36)), (9, .ref (ad 37)), (10, .ref (ad 38)), (11, .ref (ad 39)), (12, .ref (ad 40)), (13, .ref (ad 41)), (14, .int (nI (1))), (15, .int (nI (tn))), (16, .int (vv)), (17, .int (yv)), (18, .int (nI (act))), (19, .int (zv)), (20, .long (lN (tS zt (12)))), (22, .int (nI (12)))] := hl
    have hW : SW ad y nw n nc qn fq mc1 mc2 aita acta qe cents grams cf cc fx lc lg told adp shr pr rel grp idx num zi zc zg zf zn zl zr ze zt (adF zt za (12)) zw zq G M Sn fw lag trig fl fm cs pi pc w428 := hW
    obtain ⟨fs9, f_off⟩ := sw_off hW
    have f_zi := sw_zi hW
    have f_zc := sw_zc hW
    have f_zg := sw_zg hW
    have f_zf := sw_zf hW
    have f_zn := sw_zn hW
    have f_zl := sw_zl hW
    have f_zr := sw_zr hW
    have f_ze := sw_ze hW
    have f_zt := sw_zt hW
    have f_za := sw_za hW
    have f_zw := sw_zw hW
    have f_zq := sw_zq hW
    have b_za := adF_le b_zt b_za 12
    refine lv_iload hx hb dL_law_428 (lv_at hl 21 rfl) ?_
    refine lv_bipush (v := nI 12) hx hb dL_law_430 (by decide) ?_
    refine g_icmp_ge (tgt := 462) hx hb (by omega) (by omega) dL_law_432 (by decide) (fun c_432 => ?_) (fun c_432 => absurd c_432 (by omega))
    refine lv_aload_n hx hb dL_law_462 rfl (lv_at hl 1 rfl) ?_
    refine gc_V_l (As := []) (rest := []) (q_adopt (mi := mi) l hW hp) ⟨hx, hb, hml, hown, hts⟩ (cwV 0 hts gL_law_X6_adopt rfl rfl rfl (by decide +kernel) ⟨Nat.le_of_ble_eq_true rfl, Nat.le_of_ble_eq_true rfl⟩) hE hP hD hS hA _ f_off rfl rfl rfl rfl hl.1 (Nat.le_of_ble_eq_true rfl) dL_law_463 ⟨by show _ ≤ 600104; (first | omega | (dsimp only; omega)), by show _ ≤ 7301314; (first | omega | (dsimp only; omega))⟩ (fun r_463 u_463 H locs hP hD hS q_463 => ?_)
    obtain ⟨q9, hW⟩ := q_463
    have q9 := q9.trans (congrArg lN (tS_congr 12 (fun k9 hk9 => (hta k9 hk9).1)))
    subst q9
    obtain ⟨fs9, f_off⟩ := sw_off hW
    have f_zi := sw_zi hW
    have f_zc := sw_zc hW
    have f_zg := sw_zg hW
    have f_zf := sw_zf hW
    have f_zn := sw_zn hW
    have f_zl := sw_zl hW
    have f_zr := sw_zr hW
    have f_ze := sw_ze hW
    have f_zt := sw_zt hW
    have f_za := sw_za hW
    have f_zw := sw_zw hW
    have f_zq := sw_zq hW
    refine lv_lload hx hb dL_law_466 (lv_at hl 20 rfl) ?_
    skip
    refine g_lcmpE_ne (tgt := 476) hx hb dL_law_468 dL_law_469 (by decide) ?_
    refine lv_iconst (v := nI 1) hx hb dL_law_472 (by decide) ?_
    refine lv_goto (tgt := 477) hx hb dL_law_473 (by decide) ?_
    refine lv_istore (lv' := [(14, .int (nI (1))), (0, .ref b), (1, .ref (ad 1)), (2, .ref (ad 30)), (3, .ref (ad 31)), (4, .ref (ad 32)), (5, .ref (ad 33)), (6, .ref (ad 34)), (7, .ref (ad 35)), (8, .ref (ad 36)), (9, .ref (ad 37)), (10, .ref (ad 38)), (11, .ref (ad 39)), (12, .ref (ad 40)), (13, .ref (ad 41)), (15, .int (nI (tn))), (16, .int (vv)), (17, .int (yv)), (18, .int (nI (act))), (19, .int (zv)), (20, .long (lN (tS zt (12)))), (22, .int (nI (12)))]) hx hb dL_law_477 hl (by decide) rfl (fun ls hl => ?_)
    refine lv_goto (tgt := 1021) hx hb dL_law_479 (by decide) ?_
    exact kk _ H locs ls _ _ (by first | omega | (dsimp only; omega)) (by first | omega | (dsimp only; omega)) (Inv.mk hW hp.adopt he.up) hP hD hS (lv_sub hl [0, 15, 19, 1, 2, 3, 4, 5, 6, 7, 8, 9, 10, 11, 12, 13, 14] rfl)
  · intro k hj_k ih_k w428 hW H locs ls hP hD hS hl
    have hl : lv_has ls 26 [(0, .ref b), (1, .ref (ad 1)), (2, .ref (ad 30)), (3, .ref (ad 31)), (4, .ref (ad 32)), (5, .ref (ad 33)), (6, .ref (ad 34)), (7, .ref (ad 35)), (8, .ref (ad 36)), (9, .ref (ad 37)), (10, .ref (ad 38)), (11, .ref (ad 39)), (12, .ref (ad 40)), (13, .ref (ad 41)), (14, .int (nI (1))), (15, .int (nI (tn))), (16, .int (vv)), (17, .int (yv)), (18, .int (nI (act))), (19, .int (zv)), (20, .long (lN (tS zt (k)))), (22, .int (nI (k)))] := hl
    have hW : SW ad y nw n nc qn fq mc1 mc2 aita acta qe cents grams cf cc fx lc lg told adp shr pr rel grp idx num zi zc zg zf zn zl zr ze zt (adF zt za (k)) zw zq G M Sn fw lag trig fl fm cs pi pc w428 := hW
    obtain ⟨fs9, f_off⟩ := sw_off hW
    have f_zi := sw_zi hW
    have f_zc := sw_zc hW
    have f_zg := sw_zg hW
    have f_zf := sw_zf hW
    have f_zn := sw_zn hW
    have f_zl := sw_zl hW
    have f_zr := sw_zr hW
    have f_ze := sw_ze hW
    have f_zt := sw_zt hW
    have f_za := sw_za hW
    have f_zw := sw_zw hW
    have f_zq := sw_zq hW
    have b_za := adF_le b_zt b_za k
    refine lv_iload hx hb dL_law_428 (lv_at hl 21 rfl) ?_
    refine lv_bipush (v := nI 12) hx hb dL_law_430 (by decide) ?_
    refine g_icmp_ge (tgt := 462) hx hb (by omega) (by omega) dL_law_432 (by decide) (fun c_432 => absurd c_432 (by omega)) (fun c_432 => ?_)
    refine lv_aload hx hb dL_law_435 (lv_at hl 11 rfl) ?_
    refine lv_iload hx hb dL_law_437 (lv_at hl 21 rfl) ?_
    refine lv_aload hx hb dL_law_439 (lv_at hl 10 rfl) ?_
    refine lv_iload hx hb dL_law_441 (lv_at hl 21 rfl) ?_
    refine g_nald hx hb hE hP _ f_zt (by omega) (by decide) dL_law_443 ?_
    have bd_443_1 := b_zt (k)
    refine g_nast hx hb hE hP hD hS _ f_za (by omega) (by decide) dL_law_444 (fun H locs hP hD hS => ?_)
    refine g_fw (sw_set_za (z9 := vf_upd (adF zt za (k)) (k) (zt k)) hW) hP hD (fun w444_2 hW hP hD => ?_)
    have b_za := upd_bd (k := k) (x := zt k) b_za (by have := b_zt k; omega)
    obtain ⟨fs9, f_off⟩ := sw_off hW
    have f_zi := sw_zi hW
    have f_zc := sw_zc hW
    have f_zg := sw_zg hW
    have f_zf := sw_zf hW
    have f_zn := sw_zn hW
    have f_zl := sw_zl hW
    have f_zr := sw_zr hW
    have f_ze := sw_ze hW
    have f_zt := sw_zt hW
    have f_za := sw_za hW
    have f_zw := sw_zw hW
    have f_zq := sw_zq hW
    refine lv_lload hx hb dL_law_445 (lv_at hl 20 rfl) ?_
    refine lv_aload hx hb dL_law_447 (lv_at hl 10 rfl) ?_
    refine lv_iload hx hb dL_law_449 (lv_at hl 21 rfl) ?_
    refine g_nald hx hb hE hP _ f_zt (by omega) (by decide) dL_law_451 ?_
    have bd_451_3 := b_zt (k)
    refine lv_i2l (v := lN (zt k)) hx hb dL_law_452 (nI_l (by omega)) ?_
    refine g_ladd hx hb dL_law_453 (lN_add _ _) ?_
    refine lv_lstore (lv' := [(20, .long (lN ((tS zt (k)) + (zt k)))), (0, .ref b), (1, .ref (ad 1)), (2, .ref (ad 30)), (3, .ref (ad 31)), (4, .ref (ad 32)), (5, .ref (ad 33)), (6, .ref (ad 34)), (7, .ref (ad 35)), (8, .ref (ad 36)), (9, .ref (ad 37)), (10, .ref (ad 38)), (11, .ref (ad 39)), (12, .ref (ad 40)), (13, .ref (ad 41)), (14, .int (nI (1))), (15, .int (nI (tn))), (16, .int (vv)), (17, .int (yv)), (18, .int (nI (act))), (19, .int (zv)), (22, .int (nI (k)))]) hx hb dL_law_454 hl (by decide) rfl (fun ls hl => ?_)
    refine lv_iinc (v := nI (k + 1)) (lv' := [(22, .int (nI (k + 1))), (20, .long (lN ((tS zt (k)) + (zt k)))), (0, .ref b), (1, .ref (ad 1)), (2, .ref (ad 30)), (3, .ref (ad 31)), (4, .ref (ad 32)), (5, .ref (ad 33)), (6, .ref (ad 34)), (7, .ref (ad 35)), (8, .ref (ad 36)), (9, .ref (ad 37)), (10, .ref (ad 38)), (11, .ref (ad 39)), (12, .ref (ad 40)), (13, .ref (ad 41)), (14, .int (nI (1))), (15, .int (nI (tn))), (16, .int (vv)), (17, .int (yv)), (18, .int (nI (act))), (19, .int (zv))]) hx hb dL_law_456 hl (k := 21) rfl (nI_add _ 1) (by decide) rfl (fun ls hl => ?_)
    refine lv_goto (tgt := 428) hx hb dL_law_459 (by decide) ?_
    exact ih_k _ hW H locs ls hP hD hS (lv_sub hl [2, 3, 4, 5, 6, 7, 8, 9, 10, 11, 12, 13, 14, 15, 16, 17, 18, 19, 20, 21, 1, 0] rfl)
