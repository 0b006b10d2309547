/-! the law's case: pub -/
set_option maxHeartbeats 4000000 in
set_option maxRecDepth 100000 in
theorem case_pub {p : Program} {l : Launch} {e : Env} {s : State} {m : MethodId} {below : List Frame} {meth : Method} {c : Code} {H : Heap} {locs : List Loc} {cells slots : Nat} {Q : State → Prop} {ls : Array Slot} {D : va_G} {A : Nat → Prop} {b L mi tn act : Nat} {xs : Nat → Int32} {vv yv zv : Int32} {ws : va_W} {ad y : Nat → Nat} {nw : Nat} {n : Nat} {nc : Nat} {qn : Nat} {fq : Nat} {mc1 : Int32} {mc2 : Int32} {aita : Nat} {acta : Nat} {qe : Nat → Option Nat} {cents : Nat → Nat} {grams : Nat → Nat} {cf : Nat → Bool} {cc : Nat → Nat} {fx : Nat → Bool} {lc : Nat → Nat} {lg : Nat → Nat} {told : Nat → Nat} {adp : Nat → Nat} {shr : Nat → UInt64} {pr : Nat → UInt64} {rel : Nat → UInt64} {grp : Nat → UInt64} {idx : Nat → UInt64} {num : Nat → Nat} {zi : Nat → Nat} {zc : Nat → Nat} {zg : Nat → Nat} {zf : Nat → Nat} {zn : Nat → Nat} {zl : Nat → Nat} {zr : Nat → Nat} {ze : Nat → Nat} {zt : Nat → Nat} {za : Nat → Nat} {zw : Nat → Nat} {zq : Nat → Nat} {G : Nat → Nat} {M : Nat → Nat} {Sn : Nat → Nat} {fw : Nat → Nat} {lag : Nat → Nat} {trig : Nat → Nat} {fl : Nat → Bool} {fm : Nat → Nat} {cs : Nat → Nat × Nat × Nat × Nat} {pi : Nat} {pc : Nat} (hfl : l.stackTraces = false) (hB : LWB p s m c meth b L xs D y (ad 0) mi A) (hW : SW ad y nw n nc qn fq mc1 mc2 aita acta qe cents grams cf cc fx lc lg told adp shr pr rel grp idx num zi zc zg zf zn zl zr ze zt za zw zq G M Sn fw lag trig fl fm cs pi pc ws) (hp : LInv nw n nc qn fq cents grams cf cc fx lc lg told adp shr pr rel grp idx num zi zc zg zf zn zl zr ze zt za zw zq G M Sn fw lag trig fl fm cs) (he : EInv nc qn fq zc zn zw tn) (htn : tn < 70)  (hP : gvP D vwCl ws H) (hD : gvD A ws) (hS : va_S A s.heap H locs) (hl : lv_has ls 26 (lC ad b tn vv yv act zv)) (hC : cells + 5 ≤ 600104 ∧ slots + 100 ≤ 7301314)
    (kk : ∀ (w : va_W) (H : Heap) (locs : List Loc) (ls : Array Slot) (cells1 slots1 : Nat), cells1 ≤ cells + 2 → slots1 ≤ slots + 19 → Inv ad y (tn + 1) w → gvP D vwCl w H → gvD A w → va_S A s.heap H locs → lv_has ls 26 (lJ ad b tn zv) → W p l e room_1 s m #[.ref b] below meth c H locs cells1 slots1 Q (F0 m 1021 ls [])) : W p l e room_1 s m #[.ref b] below meth c H locs cells slots Q (F0 m 489 ls []) := by
  obtain ⟨hx, hb, hml, hts, hown, hE, hZ, hX, hbl, hbA, hA, hL9⟩ := hB
  have hp0 := hp
  obtain ⟨hq, hs3, hdb, bcc, bta, bz, hgm, hit, hem, hcg, hccg, hlg, hdz, hz2, hser, hrz, hsh, hta, hnum, hcw, hcb⟩ := hp0
  obtain ⟨b_zi, b_zc, b_zg, b_zf, b_zn, b_zl, b_zr, b_ze, b_zt, b_za, b_zw, b_zq⟩ := bz
  have he1 := he.1
  have he2 := he.2.1
  obtain ⟨fs9, f0_off⟩ := sw_off hW
  have f0_zi := sw_zi hW
  have f0_zc := sw_zc hW
  have f0_zg := sw_zg hW
  have f0_zf := sw_zf hW
  have f0_zn := sw_zn hW
  have f0_zl := sw_zl hW
  have f0_zr := sw_zr hW
  have f0_ze := sw_ze hW
  have f0_zt := sw_zt hW
  have f0_za := sw_za hW
  have f0_zw := sw_zw hW
  have f0_zq := sw_zq hW
  refine lv_aload hx hb dL_law_489 (lv_at hl 19 rfl) ?_
  refine lv_iconst (v := nI 1) hx hb dL_law_491 (by decide) ?_
  refine g_nald hx hb hE hP _ f0_zq (by omega) (by decide) dL_law_492 ?_
  have bd_492_1 := b_zq (1)
  refine g_iv (v' := nI (nw)) (congrArg nI (hq.2.1)) ?_
  refine lv_iconst (v := nI 5) hx hb dL_law_493 (by decide) ?_
  refine g_icmp_eq (tgt := 524) hx hb (by omega) (by omega) dL_law_494 (by decide) (fun c_494 => ?_) (fun c_494 => ?_)
  · refine lv_iconst (v := nI 1) hx hb dL_law_524 (by decide) ?_
    refine lv_goto (tgt := 529) hx hb dL_law_525 (by decide) ?_
    refine lv_istore (lv' := [(14, .int (nI (1))), (15, .int (nI (tn))), (16, .int (vv)), (17, .int (yv)), (18, .int (nI (act))), (19, .int (zv)), (0, .ref b), (1, .ref (ad 1)), (2, .ref (ad 30)), (3, .ref (ad 31)), (4, .ref (ad 32)), (5, .ref (ad 33)), (6, .ref (ad 34)), (7, .ref (ad 35)), (8, .ref (ad 36)), (9, .ref (ad 37)), (10, .ref (ad 38)), (11, .ref (ad 39)), (12, .ref (ad 40)), (13, .ref (ad 41))]) hx hb dL_law_529 hl (by decide) rfl (fun ls hl => ?_)
    refine lv_goto (tgt := 1021) hx hb dL_law_531 (by decide) ?_
    exact kk _ H locs ls _ _ (by first | omega | (dsimp only; omega)) (by first | omega | (dsimp only; omega)) (Inv.mk hW hp he.up) hP hD hS (lv_sub hl [0, 1, 5, 6, 7, 8, 9, 10, 11, 12, 13, 14, 15, 16, 17, 18, 19] rfl)
  · refine lv_aload_n hx hb dL_law_497 rfl (lv_at hl 7 rfl) ?_
    refine lv_aload_n hx hb dL_law_498 rfl (lv_at hl 8 rfl) ?_
    refine lv_aload_n hx hb dL_law_499 rfl (lv_at hl 9 rfl) ?_
    refine lv_aload hx hb dL_law_500 (lv_at hl 10 rfl) ?_
    refine lv_aload hx hb dL_law_502 (lv_at hl 11 rfl) ?_
    refine lv_aload hx hb dL_law_504 (lv_at hl 12 rfl) ?_
    refine lv_aload hx hb dL_law_506 (lv_at hl 13 rfl) ?_
    refine lv_aload hx hb dL_law_508 (lv_at hl 14 rfl) ?_
    refine lv_aload hx hb dL_law_510 (lv_at hl 15 rfl) ?_
    refine lv_aload hx hb dL_law_512 (lv_at hl 17 rfl) ?_
    refine lv_aload hx hb dL_law_514 (lv_at hl 18 rfl) ?_
    refine lv_aload hx hb dL_law_516 (lv_at hl 19 rfl) ?_
    refine gcz_Sn_i (As := [.ref (ad 1), .ref (ad 30), .ref (ad 31), .ref (ad 32), .ref (ad 33), .ref (ad 34), .ref (ad 35), .ref (ad 36), .ref (ad 37), .ref (ad 39), .ref (ad 40), .ref (ad 41)]) (rest := []) (c_L_published l hfl hW hp (by omega) he) ⟨hx, hb, hml, hown, hts⟩ (va_cwS 12 hts gL_law_L_published rfl rfl rfl (by decide +kernel) ⟨Nat.le_of_ble_eq_true rfl, Nat.le_of_ble_eq_true rfl⟩) hE hZ hP hD hS hA rfl rfl hl.1 (Nat.le_of_ble_eq_true rfl) dL_law_518 ⟨by show _ ≤ 600104; (first | omega | (dsimp only; omega)), by show _ ≤ 7301314; (first | omega | (dsimp only; omega))⟩ (fun r_518 u_518 H locs hP hD hS q_518 => ?_)
    obtain ⟨q9, hI9⟩ := q_518
    subst q9
    refine g_bif_eq (tgt := 528) hx hb dL_law_521 (by decide) (fun c_521 => absurd c_521 (by decide)) (fun c_521 => ?_)
    refine lv_iconst (v := nI 1) hx hb dL_law_524 (by decide) ?_
    refine lv_goto (tgt := 529) hx hb dL_law_525 (by decide) ?_
    refine lv_istore (lv' := [(14, .int (nI (1))), (15, .int (nI (tn))), (16, .int (vv)), (17, .int (yv)), (18, .int (nI (act))), (19, .int (zv)), (0, .ref b), (1, .ref (ad 1)), (2, .ref (ad 30)), (3, .ref (ad 31)), (4, .ref (ad 32)), (5, .ref (ad 33)), (6, .ref (ad 34)), (7, .ref (ad 35)), (8, .ref (ad 36)), (9, .ref (ad 37)), (10, .ref (ad 38)), (11, .ref (ad 39)), (12, .ref (ad 40)), (13, .ref (ad 41))]) hx hb dL_law_529 hl (by decide) rfl (fun ls hl => ?_)
    refine lv_goto (tgt := 1021) hx hb dL_law_531 (by decide) ?_
    exact kk _ H locs ls _ _ (by first | omega | (dsimp only; omega)) (by first | omega | (dsimp only; omega)) (hI9) hP hD hS (lv_sub hl [0, 1, 5, 6, 7, 8, 9, 10, 11, 12, 13, 14, 15, 16, 17, 18, 19] rfl)
