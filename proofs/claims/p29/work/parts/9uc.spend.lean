/-! the law's case: spend -/
set_option maxHeartbeats 4000000 in
set_option maxRecDepth 100000 in
theorem case_spend {p : Program} {l : Launch} {e : Env} {s : State} {m : MethodId} {below : List Frame} {meth : Method} {c : Code} {H : Heap} {locs : List Loc} {cells slots : Nat} {Q : State → Prop} {ls : Array Slot} {D : va_G} {A : Nat → Prop} {b L mi tn act : Nat} {xs : Nat → Int32} {vv yv zv : Int32} {ws : va_W} {ad y : Nat → Nat} {nw : Nat} {n : Nat} {nc : Nat} {qn : Nat} {fq : Nat} {mc1 : Int32} {mc2 : Int32} {aita : Nat} {acta : Nat} {qe : Nat → Option Nat} {cents : Nat → Nat} {grams : Nat → Nat} {cf : Nat → Bool} {cc : Nat → Nat} {fx : Nat → Bool} {lc : Nat → Nat} {lg : Nat → Nat} {told : Nat → Nat} {adp : Nat → Nat} {shr : Nat → UInt64} {pr : Nat → UInt64} {rel : Nat → UInt64} {grp : Nat → UInt64} {idx : Nat → UInt64} {num : Nat → Nat} {zi : Nat → Nat} {zc : Nat → Nat} {zg : Nat → Nat} {zf : Nat → Nat} {zn : Nat → Nat} {zl : Nat → Nat} {zr : Nat → Nat} {ze : Nat → Nat} {zt : Nat → Nat} {za : Nat → Nat} {zw : Nat → Nat} {zq : Nat → Nat} {G : Nat → Nat} {M : Nat → Nat} {Sn : Nat → Nat} {fw : Nat → Nat} {lag : Nat → Nat} {trig : Nat → Nat} {fl : Nat → Bool} {fm : Nat → Nat} {cs : Nat → Nat × Nat × Nat × Nat} {pi : Nat} {pc : Nat} (hfl : l.stackTraces = false) (hB : LWB p s m c meth b L xs D y (ad 0) mi A) (hW : SW ad y nw n nc qn fq mc1 mc2 aita acta qe cents grams cf cc fx lc lg told adp shr pr rel grp idx num zi zc zg zf zn zl zr ze zt za zw zq G M Sn fw lag trig fl fm cs pi pc ws) (hp : LInv nw n nc qn fq cents grams cf cc fx lc lg told adp shr pr rel grp idx num zi zc zg zf zn zl zr ze zt za zw zq G M Sn fw lag trig fl fm cs) (he : EInv nc qn fq zc zn zw tn) (htn : tn < 70)  (hP : gvP D vwCl ws H) (hD : gvD A ws) (hS : va_S A s.heap H locs) (hl : lv_has ls 26 (lC ad b tn vv yv act zv)) (hC : cells + 5 ≤ 600104 ∧ slots + 100 ≤ 7301314)
    (kk : ∀ (w : va_W) (H : Heap) (locs : List Loc) (ls : Array Slot) (cells1 slots1 : Nat), cells1 ≤ cells + 2 → slots1 ≤ slots + 19 → Inv ad y (tn + 1) w → gvP D vwCl w H → gvD A w → va_S A s.heap H locs → lv_has ls 26 (lJ ad b tn zv) → W p l e room_1 s m #[.ref b] below meth c H locs cells1 slots1 Q (F0 m 1021 ls [])) : W p l e room_1 s m #[.ref b] below meth c H locs cells slots Q (F0 m 339 ls []) := by
  obtain ⟨hx, hb, hml, hts, hown, hE, hZ, hX, hbl, hbA, hA, hL9⟩ := hB
  have hp0 := hp
  obtain ⟨hq, hs3, hdb, bcc, bta, bz, hgm, hit, hem, hcg, hccg, hlg, hdz, hz2, hser, hrz, hsh, hta, hnum, hcw, hcb⟩ := hp0
  obtain ⟨b_zi, b_zc, b_zg, b_zf, b_zn, b_zl, b_zr, b_ze, b_zt, b_za, b_zw, b_zq⟩ := bz
  have he1 := he.1
  have he2 := he.2.1
  obtain ⟨fs9, f0_off⟩ := sw_off hW
  have f0_zi := sw_zi hW
  have f0_zc := sw_zc hW
  have f0_zg := sw_zg hW
  have f0_zf := sw_zf hW
  have f0_zn := sw_zn hW
  have f0_zl := sw_zl hW
  have f0_zr := sw_zr hW
  have f0_ze := sw_ze hW
  have f0_zt := sw_zt hW
  have f0_za := sw_za hW
  have f0_zw := sw_zw hW
  have f0_zq := sw_zq hW
  refine lv_iload hx hb dL_law_339 (lv_at hl 5 rfl) ?_
  refine lv_bipush (v := nI 12) hx hb dL_law_341 (by decide) ?_
  refine gc_S_i (As := [.int (zv), .int (nI (12))]) (rest := []) (c_L_low l (by decide) (by decide)) ⟨hx, hb, hml, hown, hts⟩ (va_cwS 2 hts gL_law_L_low rfl rfl rfl (by decide +kernel) ⟨Nat.le_of_ble_eq_true rfl, Nat.le_of_ble_eq_true rfl⟩) hE hP hD hS hA rfl rfl hl.1 (Nat.le_of_ble_eq_true rfl) dL_law_343 ⟨by show _ ≤ 600104; (first | omega | (dsimp only; omega)), by show _ ≤ 7301314; (first | omega | (dsimp only; omega))⟩ (fun r_343 u_343 H locs hP hD hS q_343 => ?_)
  obtain ⟨kz, hkz, e_kz⟩ : ∃ z, z < 12 ∧ lowN zv % 12 = z := ⟨_, Nat.mod_lt _ (by omega), rfl⟩
  have q9 := q_343.trans (congrArg nI e_kz)
  subst q9
  refine lv_istore (lv' := [(20, .int (nI (kz))), (14, .int (nI (1))), (15, .int (nI (tn))), (16, .int (vv)), (17, .int (yv)), (18, .int (nI (act))), (19, .int (zv)), (0, .ref b), (1, .ref (ad 1)), (2, .ref (ad 30)), (3, .ref (ad 31)), (4, .ref (ad 32)), (5, .ref (ad 33)), (6, .ref (ad 34)), (7, .ref (ad 35)), (8, .ref (ad 36)), (9, .ref (ad 37)), (10, .ref (ad 38)), (11, .ref (ad 39)), (12, .ref (ad 40)), (13, .ref (ad 41))]) hx hb dL_law_346 hl (by decide) rfl (fun ls hl => ?_)
  refine lv_aload hx hb dL_law_348 (lv_at hl 17 rfl) ?_
  refine lv_iload hx hb dL_law_350 (lv_at hl 0 rfl) ?_
  refine g_nald hx hb hE hP _ f0_zt (by omega) (by decide) dL_law_352 ?_
  have bd_352_1 := b_zt (kz)
  refine lv_istore (lv' := [(21, .int (nI (zt kz))), (20, .int (nI (kz))), (14, .int (nI (1))), (15, .int (nI (tn))), (16, .int (vv)), (17, .int (yv)), (18, .int (nI (act))), (19, .int (zv)), (0, .ref b), (1, .ref (ad 1)), (2, .ref (ad 30)), (3, .ref (ad 31)), (4, .ref (ad 32)), (5, .ref (ad 33)), (6, .ref (ad 34)), (7, .ref (ad 35)), (8, .ref (ad 36)), (9, .ref (ad 37)), (10, .ref (ad 38)), (11, .ref (ad 39)), (12, .ref (ad 40)), (13, .ref (ad 41))]) hx hb dL_law_353 hl (by decide) rfl (fun ls hl => ?_)
  refine lv_aload hx hb dL_law_355 (lv_at hl 18 rfl) ?_
  refine lv_iload hx hb dL_law_357 (lv_at hl 1 rfl) ?_
  refine lv_iload hx hb dL_law_359 (lv_at hl 7 rfl) ?_
  refine lv_iconst (v := nI 4) hx hb dL_law_361 (by decide) ?_
  refine g_ishr hx hb dL_law_362 rfl ?_
  refine lv_iconst (v := nI 3) hx hb dL_law_363 (by decide) ?_
  refine gc_S_i (As := [.int ((zv >>> (nI 4 &&& 31))), .int (nI (3))]) (rest := [.int (nI (kz)), .ref (ad 38)]) (c_L_low l (by decide) (by decide)) ⟨hx, hb, hml, hown, hts⟩ (va_cwS 2 hts gL_law_L_low rfl rfl rfl (by decide +kernel) ⟨Nat.le_of_ble_eq_true rfl, Nat.le_of_ble_eq_true rfl⟩) hE hP hD hS hA rfl rfl hl.1 (Nat.le_of_ble_eq_true rfl) dL_law_364 ⟨by show _ ≤ 600104; (first | omega | (dsimp only; omega)), by show _ ≤ 7301314; (first | omega | (dsimp only; omega))⟩ (fun r_364 u_364 H locs hP hD hS q_364 => ?_)
  subst q_364
  refine g_reg (J := 382) (st1 := [.int (nI (lSp zv yv)), .int (nI (kz)), .ref (ad 38)]) hP hD hS (fun K_382 => ?_) (fun H locs hP hD hS => ?_)
  · refine g_if_ne (tgt := 374) hx hb (by omega) dL_law_367 (by decide) (fun c_367 => ?_) (fun c_367 => ?_)
    · refine lv_iload hx hb dL_law_374 (lv_at hl 5 rfl) ?_
      refine lv_sipush (v := nI 5000) hx hb dL_law_376 (by decide) ?_
      refine gc_S_i (As := [.int (yv), .int (nI (5000))]) (rest := [.int (nI (kz)), .ref (ad 38)]) (c_L_low l (by decide) (by decide)) ⟨hx, hb, hml, hown, hts⟩ (va_cwS 2 hts gL_law_L_low rfl rfl rfl (by decide +kernel) ⟨Nat.le_of_ble_eq_true rfl, Nat.le_of_ble_eq_true rfl⟩) hE hP hD hS hA rfl rfl hl.1 (Nat.le_of_ble_eq_true rfl) dL_law_379 ⟨by show _ ≤ 600104; (first | omega | (dsimp only; omega)), by show _ ≤ 7301314; (first | omega | (dsimp only; omega))⟩ (fun r_379 u_379 H locs hP hD hS q_379 => ?_)
      subst q_379
      refine g_iv (v' := (nI (lSp zv yv))) ((congrArg nI (if_neg (by omega)).symm)) ?_
      exact K_382 _ _ hP hD hS
    · refine lv_iconst (v := nI 0) hx hb dL_law_370 (by decide) ?_
      refine lv_goto (tgt := 382) hx hb dL_law_371 (by decide) ?_
      refine g_iv (v' := (nI (lSp zv yv))) ((congrArg nI (if_pos c_367).symm)) ?_
      exact K_382 _ _ hP hD hS
  obtain ⟨ce, e_ce, kce⟩ : ∃ z, lSp zv yv = z ∧ z ≤ 5000 := ⟨_, rfl, lSp_b zv yv⟩
  refine g_iv (v' := nI (ce)) (congrArg nI e_ce) ?_
  refine g_nast hx hb hE hP hD hS _ f0_zt (by omega) (by decide) dL_law_382 (fun H locs hP hD hS => ?_)
  refine g_fw (sw_set_zt (z9 := vf_upd zt (kz) (ce)) hW) hP hD (fun w382_2 hW hP hD => ?_)
  have b_zt := upd_bd (k := kz) (x := ce) b_zt (by omega)
  obtain ⟨fs9, f_off⟩ := sw_off hW
  have f_zi := sw_zi hW
  have f_zc := sw_zc hW
  have f_zg := sw_zg hW
  have f_zf := sw_zf hW
  have f_zn := sw_zn hW
  have f_zl := sw_zl hW
  have f_zr := sw_zr hW
  have f_ze := sw_ze hW
  have f_zt := sw_zt hW
  have f_za := sw_za hW
  have f_zw := sw_zw hW
  have f_zq := sw_zq hW
  refine lv_aload_n hx hb dL_law_383 rfl (lv_at hl 9 rfl) ?_
  refine lv_iload hx hb dL_law_384 (lv_at hl 1 rfl) ?_
  refine lv_iconst (v := nI 4) hx hb dL_law_386 (by decide) ?_
  refine g_idiv hx hb dL_law_387 (by decide) (pk_div (by omega) (by decide) (by decide)) ?_
  refine lv_iload hx hb dL_law_388 (lv_at hl 1 rfl) ?_
  refine lv_iconst (v := nI 4) hx hb dL_law_390 (by decide) ?_
  refine g_irem hx hb dL_law_391 (by decide) (pk_rem (by omega) (by decide) (by decide)) ?_
  refine lv_aload hx hb dL_law_392 (lv_at hl 18 rfl) ?_
  refine lv_iload hx hb dL_law_394 (lv_at hl 1 rfl) ?_
  refine g_nald hx hb hE hP _ f_zt (by omega) (by decide) dL_law_396 ?_
  have bd_396_3 := b_zt (kz)
  refine g_iv (v' := nI (ce)) (congrArg nI (upd_eq)) ?_
  refine gc_V_i (As := [.int (nI ((kz) / (4))), .int (nI ((kz) % (4))), .int (nI (ce))]) (rest := []) (q_spend (mi := mi) l hW hp (by omega) (by omega) (by omega)) ⟨hx, hb, hml, hown, hts⟩ (cwV 3 hts gL_law_X6_spend rfl rfl rfl (by decide +kernel) ⟨Nat.le_of_ble_eq_true rfl, Nat.le_of_ble_eq_true rfl⟩) hE hP hD hS hA _ f_off rfl rfl rfl rfl hl.1 (Nat.le_of_ble_eq_true rfl) dL_law_397 ⟨by show _ ≤ 600104; (first | omega | (dsimp only; omega)), by show _ ≤ 7301314; (first | omega | (dsimp only; omega))⟩ (fun r_397 u_397 H locs hP hD hS q_397 => ?_)
  obtain ⟨q9, hW⟩ := q_397
  rw [show kz / 4 * 4 + kz % 4 = kz by omega] at q9 hW
  have q9 := q9.trans (congrArg nI (hta kz hkz).1)
  subst q9
  obtain ⟨fs9, f_off⟩ := sw_off hW
  have f_zi := sw_zi hW
  have f_zc := sw_zc hW
  have f_zg := sw_zg hW
  have f_zf := sw_zf hW
  have f_zn := sw_zn hW
  have f_zl := sw_zl hW
  have f_zr := sw_zr hW
  have f_ze := sw_ze hW
  have f_zt := sw_zt hW
  have f_za := sw_za hW
  have f_zw := sw_zw hW
  have f_zq := sw_zq hW
  refine lv_iload hx hb dL_law_400 (lv_at hl 0 rfl) ?_
  refine g_icmp_ne (tgt := 409) hx hb (by omega) (by omega) dL_law_402 (by decide) (fun c_402 => absurd c_402 (fun z => z rfl)) (fun c_402 => ?_)
  refine lv_iconst (v := nI 1) hx hb dL_law_405 (by decide) ?_
  refine lv_goto (tgt := 410) hx hb dL_law_406 (by decide) ?_
  refine lv_istore (lv' := [(14, .int (nI (1))), (21, .int (nI (zt kz))), (20, .int (nI (kz))), (15, .int (nI (tn))), (16, .int (vv)), (17, .int (yv)), (18, .int (nI (act))), (19, .int (zv)), (0, .ref b), (1, .ref (ad 1)), (2, .ref (ad 30)), (3, .ref (ad 31)), (4, .ref (ad 32)), (5, .ref (ad 33)), (6, .ref (ad 34)), (7, .ref (ad 35)), (8, .ref (ad 36)), (9, .ref (ad 37)), (10, .ref (ad 38)), (11, .ref (ad 39)), (12, .ref (ad 40)), (13, .ref (ad 41))]) hx hb dL_law_410 hl (by decide) rfl (fun ls hl => ?_)
  refine lv_goto (tgt := 1021) hx hb dL_law_412 (by decide) ?_
  exact kk _ H locs ls _ _ (by first | omega | (dsimp only; omega)) (by first | omega | (dsimp only; omega)) (Inv.mk hW (hp.spend (by omega)) he.up) hP hD hS (lv_sub hl [0, 3, 7, 8, 9, 10, 11, 12, 13, 14, 15, 16, 17, 18, 19, 20, 21] rfl)
