/-! the law's case: con -/
set_option maxHeartbeats 4000000 in
set_option maxRecDepth 100000 in
theorem case_con {p : Program} {l : Launch} {e : Env} {s : State} {m : MethodId} {below : List Frame} {meth : Method} {c : Code} {H : Heap} {locs : List Loc} {cells slots : Nat} {Q : State → Prop} {ls : Array Slot} {D : va_G} {A : Nat → Prop} {b L mi tn act : Nat} {xs : Nat → Int32} {vv yv zv : Int32} {ws : va_W} {ad y : Nat → Nat} {nw : Nat} {n : Nat} {nc : Nat} {qn : Nat} {fq : Nat} {mc1 : Int32} {mc2 : Int32} {aita : Nat} {acta : Nat} {qe : Nat → Option Nat} {cents : Nat → Nat} {grams : Nat → Nat} {cf : Nat → Bool} {cc : Nat → Nat} {fx : Nat → Bool} {lc : Nat → Nat} {lg : Nat → Nat} {told : Nat → Nat} {adp : Nat → Nat} {shr : Nat → UInt64} {pr : Nat → UInt64} {rel : Nat → UInt64} {grp : Nat → UInt64} {idx : Nat → UInt64} {num : Nat → Nat} {zi : Nat → Nat} {zc : Nat → Nat} {zg : Nat → Nat} {zf : Nat → Nat} {zn : Nat → Nat} {zl : Nat → Nat} {zr : Nat → Nat} {ze : Nat → Nat} {zt : Nat → Nat} {za : Nat → Nat} {zw : Nat → Nat} {zq : Nat → Nat} {G : Nat → Nat} {M : Nat → Nat} {Sn : Nat → Nat} {fw : Nat → Nat} {lag : Nat → Nat} {trig : Nat → Nat} {fl : Nat → Bool} {fm : Nat → Nat} {cs : Nat → Nat × Nat × Nat × Nat} {pi : Nat} {pc : Nat} (hfl : l.stackTraces = false) (hB : LWB p s m c meth b L xs D y (ad 0) mi A) (hW : SW ad y nw n nc qn fq mc1 mc2 aita acta qe cents grams cf cc fx lc lg told adp shr pr rel grp idx num zi zc zg zf zn zl zr ze zt za zw zq G M Sn fw lag trig fl fm cs pi pc ws) (hp : LInv nw n nc qn fq cents grams cf cc fx lc lg told adp shr pr rel grp idx num zi zc zg zf zn zl zr ze zt za zw zq G M Sn fw lag trig fl fm cs) (he : EInv nc qn fq zc zn zw tn) (htn : tn < 70)  (hP : gvP D vwCl ws H) (hD : gvD A ws) (hS : va_S A s.heap H locs) (hl : lv_has ls 26 (lC ad b tn vv yv act zv)) (hC : cells + 5 ≤ 600104 ∧ slots + 100 ≤ 7301314)
    (kk : ∀ (w : va_W) (H : Heap) (locs : List Loc) (ls : Array Slot) (cells1 slots1 : Nat), cells1 ≤ cells + 2 → slots1 ≤ slots + 19 → Inv ad y (tn + 1) w → gvP D vwCl w H → gvD A w → va_S A s.heap H locs → lv_has ls 26 (lJ ad b tn zv) → W p l e room_1 s m #[.ref b] below meth c H locs cells1 slots1 Q (F0 m 1021 ls [])) : W p l e room_1 s m #[.ref b] below meth c H locs cells slots Q (F0 m 752 ls []) := by
  obtain ⟨hx, hb, hml, hts, hown, hE, hZ, hX, hbl, hbA, hA, hL9⟩ := hB
  have hp0 := hp
  obtain ⟨hq, hs3, hdb, bcc, bta, bz, hgm, hit, hem, hcg, hccg, hlg, hdz, hz2, hser, hrz, hsh, hta, hnum, hcw, hcb⟩ := hp0
  obtain ⟨b_zi, b_zc, b_zg, b_zf, b_zn, b_zl, b_zr, b_ze, b_zt, b_za, b_zw, b_zq⟩ := bz
  have he1 := he.1
  have he2 := he.2.1
  obtain ⟨fs9, f0_off⟩ := sw_off hW
  have f0_zi := sw_zi hW
  have f0_zc := sw_zc hW
  have f0_zg := sw_zg hW
  have f0_zf := sw_zf hW
  have f0_zn := sw_zn hW
  have f0_zl := sw_zl hW
  have f0_zr := sw_zr hW
  have f0_ze := sw_ze hW
  have f0_zt := sw_zt hW
  have f0_za := sw_za hW
  have f0_zw := sw_zw hW
  have f0_zq := sw_zq hW
  refine lv_aload hx hb dL_law_752 (lv_at hl 19 rfl) ?_
  refine lv_iconst (v := nI 3) hx hb dL_law_754 (by decide) ?_
  refine g_nald hx hb hE hP _ f0_zq (by omega) (by decide) dL_law_755 ?_
  have bd_755_1 := b_zq (3)
  refine g_iv (v' := nI (nc)) (congrArg nI (hq.2.2.2.1)) ?_
  refine lv_iconst (v := nI 3) hx hb dL_law_756 (by decide) ?_
  refine g_icmp_ge (tgt := 1021) hx hb (by omega) (by omega) dL_law_757 (by decide) (fun c_757 => ?_) (fun c_757 => ?_)
  · exact kk _ H locs ls _ _ (by first | omega | (dsimp only; omega)) (by first | omega | (dsimp only; omega)) (Inv.mk hW hp he.up) hP hD hS (lv_sub hl [0, 1, 5, 6, 7, 8, 9, 10, 11, 12, 13, 14, 15, 16, 17, 18, 19] rfl)
  · refine lv_aload hx hb dL_law_760 (lv_at hl 19 rfl) ?_
    refine lv_iconst (v := nI 1) hx hb dL_law_762 (by decide) ?_
    refine g_nald hx hb hE hP _ f0_zq (by omega) (by decide) dL_law_763 ?_
    have bd_763_2 := b_zq (1)
    refine g_iv (v' := nI (nw)) (congrArg nI (hq.2.1)) ?_
    refine g_if_le (tgt := 771) hx hb (by omega) dL_law_764 (by decide) (fun c_764 => ?_) (fun c_764 => ?_)
    · refine lv_iconst (v := nI 0) hx hb dL_law_771 (by decide) ?_
      refine lv_istore (lv' := [(20, .int (nI (0))), (14, .int (nI (1))), (15, .int (nI (tn))), (16, .int (vv)), (17, .int (yv)), (18, .int (nI (act))), (19, .int (zv)), (0, .ref b), (1, .ref (ad 1)), (2, .ref (ad 30)), (3, .ref (ad 31)), (4, .ref (ad 32)), (5, .ref (ad 33)), (6, .ref (ad 34)), (7, .ref (ad 35)), (8, .ref (ad 36)), (9, .ref (ad 37)), (10, .ref (ad 38)), (11, .ref (ad 39)), (12, .ref (ad 40)), (13, .ref (ad 41))]) hx hb dL_law_772 hl (by decide) rfl (fun ls hl => ?_)
      refine lv_iconst (v := nI 1) hx hb dL_law_774 (by decide) ?_
      refine lv_iload hx hb dL_law_775 (lv_at hl 4 rfl) ?_
      refine lv_iload hx hb dL_law_777 (lv_at hl 6 rfl) ?_
      refine lv_iconst (v := nI 3) hx hb dL_law_779 (by decide) ?_
      refine gc_S_i (As := [.int (zv), .int (nI (3))]) (rest := [.int (yv), .int (nI (1))]) (c_L_low l (by decide) (by decide)) ⟨hx, hb, hml, hown, hts⟩ (va_cwS 2 hts gL_law_L_low rfl rfl rfl (by decide +kernel) ⟨Nat.le_of_ble_eq_true rfl, Nat.le_of_ble_eq_true rfl⟩) hE hP hD hS hA rfl rfl hl.1 (Nat.le_of_ble_eq_true rfl) dL_law_780 ⟨by show _ ≤ 600104; (first | omega | (dsimp only; omega)), by show _ ≤ 7301314; (first | omega | (dsimp only; omega))⟩ (fun r_780 u_780 H locs hP hD hS q_780 => ?_)
      subst q_780
      refine g_reg (J := 794) (st1 := [.int (nI (lWm zv)), .int (yv), .int (nI (1))]) hP hD hS (fun K_794 => ?_) (fun H locs hP hD hS => ?_)
      · refine g_if_ne (tgt := 791) hx hb (by omega) dL_law_783 (by decide) (fun c_783 => ?_) (fun c_783 => ?_)
        · refine lv_sipush (v := nI 5000) hx hb dL_law_791 (by decide) ?_
          refine g_iv (v' := (nI (lWm zv))) ((congrArg nI (if_neg (by omega)).symm)) ?_
          exact K_794 _ _ hP hD hS
        · refine lv_ldc (v := 1000000000) hx hb hown (hts (.constant RL 199 (1000000000)) (by decide +kernel)) dL_law_786 ?_
          rw [show (1000000000 : Int32) = nI 1000000000 from by decide]
          refine lv_goto (tgt := 794) hx hb dL_law_788 (by decide) ?_
          refine g_iv (v' := (nI (lWm zv))) ((congrArg nI (if_pos c_783).symm)) ?_
          exact K_794 _ _ hP hD hS
      refine gc_S_i (As := [.int (yv), .int (nI (lWm zv))]) (rest := [.int (nI (1))]) (c_L_low l (lWm_b zv).1 (by have := (lWm_b zv).2; omega)) ⟨hx, hb, hml, hown, hts⟩ (va_cwS 2 hts gL_law_L_low rfl rfl rfl (by decide +kernel) ⟨Nat.le_of_ble_eq_true rfl, Nat.le_of_ble_eq_true rfl⟩) hE hP hD hS hA rfl rfl hl.1 (Nat.le_of_ble_eq_true rfl) dL_law_794 ⟨by show _ ≤ 600104; (first | omega | (dsimp only; omega)), by show _ ≤ 7301314; (first | omega | (dsimp only; omega))⟩ (fun r_794 u_794 H locs hP hD hS q_794 => ?_)
      subst q_794
      refine g_iadd hx hb dL_law_797 (nI_add _ _) ?_
      obtain ⟨wg, e_wg, hwg, kwg⟩ : ∃ z, 1 + (lowN (yv) % (lWm zv)) = z ∧ 1 ≤ z ∧ z ≤ 1000000000 := ⟨_, rfl, ⟨by omega, by have h8 := lWm_b zv; have := Nat.mod_lt (lowN yv) h8.1; omega⟩⟩
      refine g_iv (v' := nI (wg)) (congrArg nI e_wg) ?_
      refine lv_istore (lv' := [(21, .int (nI (wg))), (20, .int (nI (0))), (14, .int (nI (1))), (15, .int (nI (tn))), (16, .int (vv)), (17, .int (yv)), (18, .int (nI (act))), (19, .int (zv)), (0, .ref b), (1, .ref (ad 1)), (2, .ref (ad 30)), (3, .ref (ad 31)), (4, .ref (ad 32)), (5, .ref (ad 33)), (6, .ref (ad 34)), (7, .ref (ad 35)), (8, .ref (ad 36)), (9, .ref (ad 37)), (10, .ref (ad 38)), (11, .ref (ad 39)), (12, .ref (ad 40)), (13, .ref (ad 41))]) hx hb dL_law_798 hl (by decide) rfl (fun ls hl => ?_)
      refine lv_iload hx hb dL_law_800 (lv_at hl 7 rfl) ?_
      refine lv_iconst (v := nI 2) hx hb dL_law_802 (by decide) ?_
      refine g_ishr hx hb dL_law_803 rfl ?_
      refine lv_iconst (v := nI 4) hx hb dL_law_804 (by decide) ?_
      refine gc_S_i (As := [.int ((zv >>> (nI 2 &&& 31))), .int (nI (4))]) (rest := []) (c_L_low l (by decide) (by decide)) ⟨hx, hb, hml, hown, hts⟩ (va_cwS 2 hts gL_law_L_low rfl rfl rfl (by decide +kernel) ⟨Nat.le_of_ble_eq_true rfl, Nat.le_of_ble_eq_true rfl⟩) hE hP hD hS hA rfl rfl hl.1 (Nat.le_of_ble_eq_true rfl) dL_law_805 ⟨by show _ ≤ 600104; (first | omega | (dsimp only; omega)), by show _ ≤ 7301314; (first | omega | (dsimp only; omega))⟩ (fun r_805 u_805 H locs hP hD hS q_805 => ?_)
      obtain ⟨lg9, hlg9, e_lg9⟩ : ∃ z, z < 4 ∧ lowN (zv >>> (nI 2 &&& 31)) % 4 = z := ⟨_, Nat.mod_lt _ (by omega), rfl⟩
      have q9 := q_805.trans (congrArg nI e_lg9)
      subst q9
      refine lv_istore (lv' := [(22, .int (nI (lg9))), (21, .int (nI (wg))), (20, .int (nI (0))), (14, .int (nI (1))), (15, .int (nI (tn))), (16, .int (vv)), (17, .int (yv)), (18, .int (nI (act))), (19, .int (zv)), (0, .ref b), (1, .ref (ad 1)), (2, .ref (ad 30)), (3, .ref (ad 31)), (4, .ref (ad 32)), (5, .ref (ad 33)), (6, .ref (ad 34)), (7, .ref (ad 35)), (8, .ref (ad 36)), (9, .ref (ad 37)), (10, .ref (ad 38)), (11, .ref (ad 39)), (12, .ref (ad 40)), (13, .ref (ad 41))]) hx hb dL_law_808 hl (by decide) rfl (fun ls hl => ?_)
      refine lv_iload hx hb dL_law_810 (lv_at hl 8 rfl) ?_
      refine lv_iconst (v := nI 4) hx hb dL_law_812 (by decide) ?_
      refine g_ishr hx hb dL_law_813 rfl ?_
      refine lv_iconst (v := nI 3) hx hb dL_law_814 (by decide) ?_
      refine gc_S_i (As := [.int ((zv >>> (nI 4 &&& 31))), .int (nI (3))]) (rest := []) (c_L_low l (by decide) (by decide)) ⟨hx, hb, hml, hown, hts⟩ (va_cwS 2 hts gL_law_L_low rfl rfl rfl (by decide +kernel) ⟨Nat.le_of_ble_eq_true rfl, Nat.le_of_ble_eq_true rfl⟩) hE hP hD hS hA rfl rfl hl.1 (Nat.le_of_ble_eq_true rfl) dL_law_815 ⟨by show _ ≤ 600104; (first | omega | (dsimp only; omega)), by show _ ≤ 7301314; (first | omega | (dsimp only; omega))⟩ (fun r_815 u_815 H locs hP hD hS q_815 => ?_)
      subst q_815
      refine g_reg (J := 834) (st1 := [.int (nI (lTr zv))]) hP hD hS (fun K_834 => ?_) (fun H locs hP hD hS => ?_)
      · refine g_if_ne (tgt := 825) hx hb (by omega) dL_law_818 (by decide) (fun c_818 => ?_) (fun c_818 => ?_)
        · refine lv_iload hx hb dL_law_825 (lv_at hl 8 rfl) ?_
          refine lv_iconst (v := nI 5) hx hb dL_law_827 (by decide) ?_
          refine g_ishr hx hb dL_law_828 rfl ?_
          refine lv_bipush (v := nI 60) hx hb dL_law_829 (by decide) ?_
          refine gc_S_i (As := [.int ((zv >>> (nI 5 &&& 31))), .int (nI (60))]) (rest := []) (c_L_low l (by decide) (by decide)) ⟨hx, hb, hml, hown, hts⟩ (va_cwS 2 hts gL_law_L_low rfl rfl rfl (by decide +kernel) ⟨Nat.le_of_ble_eq_true rfl, Nat.le_of_ble_eq_true rfl⟩) hE hP hD hS hA rfl rfl hl.1 (Nat.le_of_ble_eq_true rfl) dL_law_831 ⟨by show _ ≤ 600104; (first | omega | (dsimp only; omega)), by show _ ≤ 7301314; (first | omega | (dsimp only; omega))⟩ (fun r_831 u_831 H locs hP hD hS q_831 => ?_)
          subst q_831
          refine g_iv (v' := (nI (lTr zv))) ((congrArg nI (if_neg (by omega)).symm)) ?_
          exact K_834 _ _ hP hD hS
        · refine lv_iconst (v := nI 0) hx hb dL_law_821 (by decide) ?_
          refine lv_goto (tgt := 834) hx hb dL_law_822 (by decide) ?_
          refine g_iv (v' := (nI (lTr zv))) ((congrArg nI (if_pos c_818).symm)) ?_
          exact K_834 _ _ hP hD hS
      obtain ⟨tr9, e_tr9, ktr9⟩ : ∃ z, lTr zv = z ∧ z ≤ 60 := ⟨_, rfl, lTr_b zv⟩
      refine g_iv (v' := nI (tr9)) (congrArg nI e_tr9) ?_
      refine lv_istore (lv' := [(23, .int (nI (tr9))), (22, .int (nI (lg9))), (21, .int (nI (wg))), (20, .int (nI (0))), (14, .int (nI (1))), (15, .int (nI (tn))), (16, .int (vv)), (17, .int (yv)), (18, .int (nI (act))), (19, .int (zv)), (0, .ref b), (1, .ref (ad 1)), (2, .ref (ad 30)), (3, .ref (ad 31)), (4, .ref (ad 32)), (5, .ref (ad 33)), (6, .ref (ad 34)), (7, .ref (ad 35)), (8, .ref (ad 36)), (9, .ref (ad 37)), (10, .ref (ad 38)), (11, .ref (ad 39)), (12, .ref (ad 40)), (13, .ref (ad 41))]) hx hb dL_law_834 hl (by decide) rfl (fun ls hl => ?_)
      refine lv_iload hx hb dL_law_836 (lv_at hl 9 rfl) ?_
      refine lv_bipush (v := nI 7) hx hb dL_law_838 (by decide) ?_
      refine g_ishr hx hb dL_law_840 rfl ?_
      refine lv_iconst (v := nI 2) hx hb dL_law_841 (by decide) ?_
      refine gc_S_i (As := [.int ((zv >>> (nI 7 &&& 31))), .int (nI (2))]) (rest := []) (c_L_low l (by decide) (by decide)) ⟨hx, hb, hml, hown, hts⟩ (va_cwS 2 hts gL_law_L_low rfl rfl rfl (by decide +kernel) ⟨Nat.le_of_ble_eq_true rfl, Nat.le_of_ble_eq_true rfl⟩) hE hP hD hS hA rfl rfl hl.1 (Nat.le_of_ble_eq_true rfl) dL_law_842 ⟨by show _ ≤ 600104; (first | omega | (dsimp only; omega)), by show _ ≤ 7301314; (first | omega | (dsimp only; omega))⟩ (fun r_842 u_842 H locs hP hD hS q_842 => ?_)
      obtain ⟨f9, hf9, e_f9⟩ : ∃ z, z < 2 ∧ lowN (zv >>> (nI 7 &&& 31)) % 2 = z := ⟨_, Nat.mod_lt _ (by omega), rfl⟩
      have q9 := q_842.trans (congrArg nI e_f9)
      subst q9
      refine lv_istore (lv' := [(24, .int (nI (f9))), (23, .int (nI (tr9))), (22, .int (nI (lg9))), (21, .int (nI (wg))), (20, .int (nI (0))), (14, .int (nI (1))), (15, .int (nI (tn))), (16, .int (vv)), (17, .int (yv)), (18, .int (nI (act))), (19, .int (zv)), (0, .ref b), (1, .ref (ad 1)), (2, .ref (ad 30)), (3, .ref (ad 31)), (4, .ref (ad 32)), (5, .ref (ad 33)), (6, .ref (ad 34)), (7, .ref (ad 35)), (8, .ref (ad 36)), (9, .ref (ad 37)), (10, .ref (ad 38)), (11, .ref (ad 39)), (12, .ref (ad 40)), (13, .ref (ad 41))]) hx hb dL_law_845 hl (by decide) rfl (fun ls hl => ?_)
      refine lv_iload hx hb dL_law_847 (lv_at hl 4 rfl) ?_
      refine g_if_eq (tgt := 981) hx hb (by omega) dL_law_849 (by decide) (fun c_849 => ?_) (fun c_849 => absurd c_849 (by decide))
      refine lv_aload_n hx hb dL_law_981 rfl (lv_at hl 12 rfl) ?_
      refine lv_iconst (v := nI 4) hx hb dL_law_982 (by decide) ?_
      refine lv_iload hx hb dL_law_983 (lv_at hl 3 rfl) ?_
      refine lv_iload hx hb dL_law_985 (lv_at hl 2 rfl) ?_
      refine lv_iload hx hb dL_law_987 (lv_at hl 1 rfl) ?_
      refine lv_iload hx hb dL_law_989 (lv_at hl 0 rfl) ?_
      have e_f9 : nI (f9) = gb (decide (f9 = 1)) := by rcases (show f9 = 0 ∨ f9 = 1 by omega) with rfl | rfl <;> rfl
      refine g_zv (v' := gb (decide (f9 = 1))) e_f9 ?_
      refine gcz_S_i (As := [.ref (ad 1), .int (nI (4)), .int (nI (wg)), .int (nI (lg9)), .int (nI (tr9)), .int (gb (decide (f9 = 1)))]) (rest := []) (kx_contract l hW hp hfl hwg kwg (by omega) (by omega) c_764) ⟨hx, hb, hml, hown, hts⟩ (vx_cwSW 6 hts gL_law_L_calls rfl rfl rfl (by decide +kernel) ⟨Nat.le_of_ble_eq_true rfl, Nat.le_of_ble_eq_true rfl⟩) hE hZ hP hD hS hA rfl rfl hl.1 (Nat.le_of_ble_eq_true rfl) dL_law_991 ⟨by show _ ≤ 600104; (first | omega | (dsimp only; omega)), by show _ ≤ 7301314; (first | omega | (dsimp only; omega))⟩ (fun r_991_3 u_991_3 H locs hP hD hS q_991_3 => ?_)
      obtain ⟨q9, hW⟩ := q_991_3
      subst q9
      obtain ⟨fs9, f_off⟩ := sw_off hW
      have f_zi := sw_zi hW
      have f_zc := sw_zc hW
      have f_zg := sw_zg hW
      have f_zf := sw_zf hW
      have f_zn := sw_zn hW
      have f_zl := sw_zl hW
      have f_zr := sw_zr hW
      have f_ze := sw_ze hW
      have f_zt := sw_zt hW
      have f_za := sw_za hW
      have f_zw := sw_zw hW
      have f_zq := sw_zq hW
      refine lv_iload hx hb dL_law_994 (lv_at hl 4 rfl) ?_
      refine g_if_eq (tgt := 1008) hx hb (by omega) dL_law_996 (by decide) (fun c_996 => ?_) (fun c_996 => absurd c_996 (by decide))
      refine lv_sipush (v := (-1003)) hx hb dL_law_1008 (by decide) ?_
      refine lv_icmp_ne (tgt := 1018) hx hb dL_law_1011 (by decide) (fun c_1011 => absurd c_1011 (fun z => z (by decide))) (fun c_1011 => ?_)
      refine lv_iconst (v := nI 1) hx hb dL_law_1014 (by decide) ?_
      refine lv_goto (tgt := 1019) hx hb dL_law_1015 (by decide) ?_
      refine lv_istore (lv' := [(14, .int (nI (1))), (24, .int (nI (f9))), (23, .int (nI (tr9))), (22, .int (nI (lg9))), (21, .int (nI (wg))), (20, .int (nI (0))), (15, .int (nI (tn))), (16, .int (vv)), (17, .int (yv)), (18, .int (nI (act))), (19, .int (zv)), (0, .ref b), (1, .ref (ad 1)), (2, .ref (ad 30)), (3, .ref (ad 31)), (4, .ref (ad 32)), (5, .ref (ad 33)), (6, .ref (ad 34)), (7, .ref (ad 35)), (8, .ref (ad 36)), (9, .ref (ad 37)), (10, .ref (ad 38)), (11, .ref (ad 39)), (12, .ref (ad 40)), (13, .ref (ad 41))]) hx hb dL_law_1019 hl (by decide) rfl (fun ls hl => ?_)
      exact kk _ H locs ls _ _ (by first | omega | (dsimp only; omega)) (by first | omega | (dsimp only; omega)) (Inv.mk hW hp he.up) hP hD hS (lv_sub hl [0, 6, 10, 11, 12, 13, 14, 15, 16, 17, 18, 19, 20, 21, 22, 23, 24] rfl)
    · refine lv_iconst (v := nI 1) hx hb dL_law_767 (by decide) ?_
      refine lv_goto (tgt := 772) hx hb dL_law_768 (by decide) ?_
      refine lv_istore (lv' := [(20, .int (nI (1))), (14, .int (nI (1))), (15, .int (nI (tn))), (16, .int (vv)), (17, .int (yv)), (18, .int (nI (act))), (19, .int (zv)), (0, .ref b), (1, .ref (ad 1)), (2, .ref (ad 30)), (3, .ref (ad 31)), (4, .ref (ad 32)), (5, .ref (ad 33)), (6, .ref (ad 34)), (7, .ref (ad 35)), (8, .ref (ad 36)), (9, .ref (ad 37)), (10, .ref (ad 38)), (11, .ref (ad 39)), (12, .ref (ad 40)), (13, .ref (ad 41))]) hx hb dL_law_772 hl (by decide) rfl (fun ls hl => ?_)
      refine lv_iconst (v := nI 1) hx hb dL_law_774 (by decide) ?_
      refine lv_iload hx hb dL_law_775 (lv_at hl 4 rfl) ?_
      refine lv_iload hx hb dL_law_777 (lv_at hl 6 rfl) ?_
      refine lv_iconst (v := nI 3) hx hb dL_law_779 (by decide) ?_
      refine gc_S_i (As := [.int (zv), .int (nI (3))]) (rest := [.int (yv), .int (nI (1))]) (c_L_low l (by decide) (by decide)) ⟨hx, hb, hml, hown, hts⟩ (va_cwS 2 hts gL_law_L_low rfl rfl rfl (by decide +kernel) ⟨Nat.le_of_ble_eq_true rfl, Nat.le_of_ble_eq_true rfl⟩) hE hP hD hS hA rfl rfl hl.1 (Nat.le_of_ble_eq_true rfl) dL_law_780 ⟨by show _ ≤ 600104; (first | omega | (dsimp only; omega)), by show _ ≤ 7301314; (first | omega | (dsimp only; omega))⟩ (fun r_780 u_780 H locs hP hD hS q_780 => ?_)
      subst q_780
      refine g_reg (J := 794) (st1 := [.int (nI (lWm zv)), .int (yv), .int (nI (1))]) hP hD hS (fun K_794 => ?_) (fun H locs hP hD hS => ?_)
      · refine g_if_ne (tgt := 791) hx hb (by omega) dL_law_783 (by decide) (fun c_783 => ?_) (fun c_783 => ?_)
        · refine lv_sipush (v := nI 5000) hx hb dL_law_791 (by decide) ?_
          refine g_iv (v' := (nI (lWm zv))) ((congrArg nI (if_neg (by omega)).symm)) ?_
          exact K_794 _ _ hP hD hS
        · refine lv_ldc (v := 1000000000) hx hb hown (hts (.constant RL 199 (1000000000)) (by decide +kernel)) dL_law_786 ?_
          rw [show (1000000000 : Int32) = nI 1000000000 from by decide]
          refine lv_goto (tgt := 794) hx hb dL_law_788 (by decide) ?_
          refine g_iv (v' := (nI (lWm zv))) ((congrArg nI (if_pos c_783).symm)) ?_
          exact K_794 _ _ hP hD hS
      refine gc_S_i (As := [.int (yv), .int (nI (lWm zv))]) (rest := [.int (nI (1))]) (c_L_low l (lWm_b zv).1 (by have := (lWm_b zv).2; omega)) ⟨hx, hb, hml, hown, hts⟩ (va_cwS 2 hts gL_law_L_low rfl rfl rfl (by decide +kernel) ⟨Nat.le_of_ble_eq_true rfl, Nat.le_of_ble_eq_true rfl⟩) hE hP hD hS hA rfl rfl hl.1 (Nat.le_of_ble_eq_true rfl) dL_law_794 ⟨by show _ ≤ 600104; (first | omega | (dsimp only; omega)), by show _ ≤ 7301314; (first | omega | (dsimp only; omega))⟩ (fun r_794 u_794 H locs hP hD hS q_794 => ?_)
      subst q_794
      refine g_iadd hx hb dL_law_797 (nI_add _ _) ?_
      obtain ⟨wg, e_wg, hwg, kwg⟩ : ∃ z, 1 + (lowN (yv) % (lWm zv)) = z ∧ 1 ≤ z ∧ z ≤ 1000000000 := ⟨_, rfl, ⟨by omega, by have h8 := lWm_b zv; have := Nat.mod_lt (lowN yv) h8.1; omega⟩⟩
      refine g_iv (v' := nI (wg)) (congrArg nI e_wg) ?_
      refine lv_istore (lv' := [(21, .int (nI (wg))), (20, .int (nI (1))), (14, .int (nI (1))), (15, .int (nI (tn))), (16, .int (vv)), (17, .int (yv)), (18, .int (nI (act))), (19, .int (zv)), (0, .ref b), (1, .ref (ad 1)), (2, .ref (ad 30)), (3, .ref (ad 31)), (4, .ref (ad 32)), (5, .ref (ad 33)), (6, .ref (ad 34)), (7, .ref (ad 35)), (8, .ref (ad 36)), (9, .ref (ad 37)), (10, .ref (ad 38)), (11, .ref (ad 39)), (12, .ref (ad 40)), (13, .ref (ad 41))]) hx hb dL_law_798 hl (by decide) rfl (fun ls hl => ?_)
      refine lv_iload hx hb dL_law_800 (lv_at hl 7 rfl) ?_
      refine lv_iconst (v := nI 2) hx hb dL_law_802 (by decide) ?_
      refine g_ishr hx hb dL_law_803 rfl ?_
      refine lv_iconst (v := nI 4) hx hb dL_law_804 (by decide) ?_
      refine gc_S_i (As := [.int ((zv >>> (nI 2 &&& 31))), .int (nI (4))]) (rest := []) (c_L_low l (by decide) (by decide)) ⟨hx, hb, hml, hown, hts⟩ (va_cwS 2 hts gL_law_L_low rfl rfl rfl (by decide +kernel) ⟨Nat.le_of_ble_eq_true rfl, Nat.le_of_ble_eq_true rfl⟩) hE hP hD hS hA rfl rfl hl.1 (Nat.le_of_ble_eq_true rfl) dL_law_805 ⟨by show _ ≤ 600104; (first | omega | (dsimp only; omega)), by show _ ≤ 7301314; (first | omega | (dsimp only; omega))⟩ (fun r_805 u_805 H locs hP hD hS q_805 => ?_)
      obtain ⟨lg9, hlg9, e_lg9⟩ : ∃ z, z < 4 ∧ lowN (zv >>> (nI 2 &&& 31)) % 4 = z := ⟨_, Nat.mod_lt _ (by omega), rfl⟩
      have q9 := q_805.trans (congrArg nI e_lg9)
      subst q9
      refine lv_istore (lv' := [(22, .int (nI (lg9))), (21, .int (nI (wg))), (20, .int (nI (1))), (14, .int (nI (1))), (15, .int (nI (tn))), (16, .int (vv)), (17, .int (yv)), (18, .int (nI (act))), (19, .int (zv)), (0, .ref b), (1, .ref (ad 1)), (2, .ref (ad 30)), (3, .ref (ad 31)), (4, .ref (ad 32)), (5, .ref (ad 33)), (6, .ref (ad 34)), (7, .ref (ad 35)), (8, .ref (ad 36)), (9, .ref (ad 37)), (10, .ref (ad 38)), (11, .ref (ad 39)), (12, .ref (ad 40)), (13, .ref (ad 41))]) hx hb dL_law_808 hl (by decide) rfl (fun ls hl => ?_)
      refine lv_iload hx hb dL_law_810 (lv_at hl 8 rfl) ?_
      refine lv_iconst (v := nI 4) hx hb dL_law_812 (by decide) ?_
      refine g_ishr hx hb dL_law_813 rfl ?_
      refine lv_iconst (v := nI 3) hx hb dL_law_814 (by decide) ?_
      refine gc_S_i (As := [.int ((zv >>> (nI 4 &&& 31))), .int (nI (3))]) (rest := []) (c_L_low l (by decide) (by decide)) ⟨hx, hb, hml, hown, hts⟩ (va_cwS 2 hts gL_law_L_low rfl rfl rfl (by decide +kernel) ⟨Nat.le_of_ble_eq_true rfl, Nat.le_of_ble_eq_true rfl⟩) hE hP hD hS hA rfl rfl hl.1 (Nat.le_of_ble_eq_true rfl) dL_law_815 ⟨by show _ ≤ 600104; (first | omega | (dsimp only; omega)), by show _ ≤ 7301314; (first | omega | (dsimp only; omega))⟩ (fun r_815 u_815 H locs hP hD hS q_815 => ?_)
      subst q_815
      refine g_reg (J := 834) (st1 := [.int (nI (lTr zv))]) hP hD hS (fun K_834 => ?_) (fun H locs hP hD hS => ?_)
      · refine g_if_ne (tgt := 825) hx hb (by omega) dL_law_818 (by decide) (fun c_818 => ?_) (fun c_818 => ?_)
        · refine lv_iload hx hb dL_law_825 (lv_at hl 8 rfl) ?_
          refine lv_iconst (v := nI 5) hx hb dL_law_827 (by decide) ?_
          refine g_ishr hx hb dL_law_828 rfl ?_
          refine lv_bipush (v := nI 60) hx hb dL_law_829 (by decide) ?_
          refine gc_S_i (As := [.int ((zv >>> (nI 5 &&& 31))), .int (nI (60))]) (rest := []) (c_L_low l (by decide) (by decide)) ⟨hx, hb, hml, hown, hts⟩ (va_cwS 2 hts gL_law_L_low rfl rfl rfl (by decide +kernel) ⟨Nat.le_of_ble_eq_true rfl, Nat.le_of_ble_eq_true rfl⟩) hE hP hD hS hA rfl rfl hl.1 (Nat.le_of_ble_eq_true rfl) dL_law_831 ⟨by show _ ≤ 600104; (first | omega | (dsimp only; omega)), by show _ ≤ 7301314; (first | omega | (dsimp only; omega))⟩ (fun r_831 u_831 H locs hP hD hS q_831 => ?_)
          subst q_831
          refine g_iv (v' := (nI (lTr zv))) ((congrArg nI (if_neg (by omega)).symm)) ?_
          exact K_834 _ _ hP hD hS
        · refine lv_iconst (v := nI 0) hx hb dL_law_821 (by decide) ?_
          refine lv_goto (tgt := 834) hx hb dL_law_822 (by decide) ?_
          refine g_iv (v' := (nI (lTr zv))) ((congrArg nI (if_pos c_818).symm)) ?_
          exact K_834 _ _ hP hD hS
      obtain ⟨tr9, e_tr9, ktr9⟩ : ∃ z, lTr zv = z ∧ z ≤ 60 := ⟨_, rfl, lTr_b zv⟩
      refine g_iv (v' := nI (tr9)) (congrArg nI e_tr9) ?_
      refine lv_istore (lv' := [(23, .int (nI (tr9))), (22, .int (nI (lg9))), (21, .int (nI (wg))), (20, .int (nI (1))), (14, .int (nI (1))), (15, .int (nI (tn))), (16, .int (vv)), (17, .int (yv)), (18, .int (nI (act))), (19, .int (zv)), (0, .ref b), (1, .ref (ad 1)), (2, .ref (ad 30)), (3, .ref (ad 31)), (4, .ref (ad 32)), (5, .ref (ad 33)), (6, .ref (ad 34)), (7, .ref (ad 35)), (8, .ref (ad 36)), (9, .ref (ad 37)), (10, .ref (ad 38)), (11, .ref (ad 39)), (12, .ref (ad 40)), (13, .ref (ad 41))]) hx hb dL_law_834 hl (by decide) rfl (fun ls hl => ?_)
      refine lv_iload hx hb dL_law_836 (lv_at hl 9 rfl) ?_
      refine lv_bipush (v := nI 7) hx hb dL_law_838 (by decide) ?_
      refine g_ishr hx hb dL_law_840 rfl ?_
      refine lv_iconst (v := nI 2) hx hb dL_law_841 (by decide) ?_
      refine gc_S_i (As := [.int ((zv >>> (nI 7 &&& 31))), .int (nI (2))]) (rest := []) (c_L_low l (by decide) (by decide)) ⟨hx, hb, hml, hown, hts⟩ (va_cwS 2 hts gL_law_L_low rfl rfl rfl (by decide +kernel) ⟨Nat.le_of_ble_eq_true rfl, Nat.le_of_ble_eq_true rfl⟩) hE hP hD hS hA rfl rfl hl.1 (Nat.le_of_ble_eq_true rfl) dL_law_842 ⟨by show _ ≤ 600104; (first | omega | (dsimp only; omega)), by show _ ≤ 7301314; (first | omega | (dsimp only; omega))⟩ (fun r_842 u_842 H locs hP hD hS q_842 => ?_)
      obtain ⟨f9, hf9, e_f9⟩ : ∃ z, z < 2 ∧ lowN (zv >>> (nI 7 &&& 31)) % 2 = z := ⟨_, Nat.mod_lt _ (by omega), rfl⟩
      have q9 := q_842.trans (congrArg nI e_f9)
      subst q9
      refine lv_istore (lv' := [(24, .int (nI (f9))), (23, .int (nI (tr9))), (22, .int (nI (lg9))), (21, .int (nI (wg))), (20, .int (nI (1))), (14, .int (nI (1))), (15, .int (nI (tn))), (16, .int (vv)), (17, .int (yv)), (18, .int (nI (act))), (19, .int (zv)), (0, .ref b), (1, .ref (ad 1)), (2, .ref (ad 30)), (3, .ref (ad 31)), (4, .ref (ad 32)), (5, .ref (ad 33)), (6, .ref (ad 34)), (7, .ref (ad 35)), (8, .ref (ad 36)), (9, .ref (ad 37)), (10, .ref (ad 38)), (11, .ref (ad 39)), (12, .ref (ad 40)), (13, .ref (ad 41))]) hx hb dL_law_845 hl (by decide) rfl (fun ls hl => ?_)
      refine lv_iload hx hb dL_law_847 (lv_at hl 4 rfl) ?_
      refine g_if_eq (tgt := 981) hx hb (by omega) dL_law_849 (by decide) (fun c_849 => absurd c_849 (by decide)) (fun c_849 => ?_)
      refine lv_bipush (v := nI 10) hx hb dL_law_852 (by decide) ?_
      refine lv_aload hx hb dL_law_854 (lv_at hl 24 rfl) ?_
      refine lv_iconst (v := nI 3) hx hb dL_law_856 (by decide) ?_
      refine g_nald hx hb hE hP _ f0_zq (by omega) (by decide) dL_law_857 ?_
      have bd_857_4 := b_zq (3)
      refine g_iv (v' := nI (nc)) (congrArg nI (hq.2.2.2.1)) ?_
      refine g_imul hx hb dL_law_858 (pk_mul _ _) ?_
      refine lv_istore (lv' := [(25, .int (nI (10 * nc))), (24, .int (nI (f9))), (23, .int (nI (tr9))), (22, .int (nI (lg9))), (21, .int (nI (wg))), (20, .int (nI (1))), (14, .int (nI (1))), (15, .int (nI (tn))), (16, .int (vv)), (17, .int (yv)), (18, .int (nI (act))), (19, .int (zv)), (0, .ref b), (1, .ref (ad 1)), (2, .ref (ad 30)), (3, .ref (ad 31)), (4, .ref (ad 32)), (5, .ref (ad 33)), (6, .ref (ad 34)), (7, .ref (ad 35)), (8, .ref (ad 36)), (9, .ref (ad 37)), (10, .ref (ad 38)), (11, .ref (ad 39)), (12, .ref (ad 40)), (13, .ref (ad 41))]) hx hb dL_law_859 hl (by decide) rfl (fun ls hl => ?_)
      refine lv_aload hx hb dL_law_861 (lv_at hl 24 rfl) ?_
      refine lv_iload hx hb dL_law_863 (lv_at hl 0 rfl) ?_
      refine lv_iload hx hb dL_law_865 (lv_at hl 4 rfl) ?_
      refine lv_i2l (v := lN (wg)) hx hb dL_law_867 (nI_l (by omega)) ?_
      refine g_Last hx hb hE hP hD hS _ f0_zw (by omega) (by decide) dL_law_868 (fun H locs hP hD hS => ?_)
      refine g_fw (sw_set_zw (z9 := vf_upd zw (10 * nc) (wg)) hW) hP hD (fun w868_5 hW hP hD => ?_)
      have b_zw := upd_bd (k := 10 * nc) (x := wg) b_zw (by omega)
      obtain ⟨fs9, f_off⟩ := sw_off hW
      have f_zi := sw_zi hW
      have f_zc := sw_zc hW
      have f_zg := sw_zg hW
      have f_zf := sw_zf hW
      have f_zn := sw_zn hW
      have f_zl := sw_zl hW
      have f_zr := sw_zr hW
      have f_ze := sw_ze hW
      have f_zt := sw_zt hW
      have f_za := sw_za hW
      have f_zw := sw_zw hW
      have f_zq := sw_zq hW
      refine lv_aload hx hb dL_law_869 (lv_at hl 24 rfl) ?_
      refine lv_iload hx hb dL_law_871 (lv_at hl 0 rfl) ?_
      refine lv_iconst (v := nI 1) hx hb dL_law_873 (by decide) ?_
      refine g_iadd hx hb dL_law_874 (nI_add _ _) ?_
      refine lv_iload hx hb dL_law_875 (lv_at hl 3 rfl) ?_
      refine lv_i2l (v := lN (lg9)) hx hb dL_law_877 (nI_l (by omega)) ?_
      refine g_Last hx hb hE hP hD hS _ f_zw (by omega) (by decide) dL_law_878 (fun H locs hP hD hS => ?_)
      refine g_fw (sw_set_zw (z9 := vf_upd (vf_upd zw (10 * nc) (wg)) ((10 * nc) + 1) (lg9)) hW) hP hD (fun w878_6 hW hP hD => ?_)
      have b_zw := upd_bd (k := (10 * nc) + 1) (x := lg9) b_zw (by omega)
      obtain ⟨fs9, f_off⟩ := sw_off hW
      have f_zi := sw_zi hW
      have f_zc := sw_zc hW
      have f_zg := sw_zg hW
      have f_zf := sw_zf hW
      have f_zn := sw_zn hW
      have f_zl := sw_zl hW
      have f_zr := sw_zr hW
      have f_ze := sw_ze hW
      have f_zt := sw_zt hW
      have f_za := sw_za hW
      have f_zw := sw_zw hW
      have f_zq := sw_zq hW
      refine lv_aload hx hb dL_law_879 (lv_at hl 24 rfl) ?_
      refine lv_iload hx hb dL_law_881 (lv_at hl 0 rfl) ?_
      refine lv_iconst (v := nI 2) hx hb dL_law_883 (by decide) ?_
      refine g_iadd hx hb dL_law_884 (nI_add _ _) ?_
      refine lv_iload hx hb dL_law_885 (lv_at hl 2 rfl) ?_
      refine lv_i2l (v := lN (tr9)) hx hb dL_law_887 (nI_l (by omega)) ?_
      refine g_Last hx hb hE hP hD hS _ f_zw (by omega) (by decide) dL_law_888 (fun H locs hP hD hS => ?_)
      refine g_fw (sw_set_zw (z9 := vf_upd (vf_upd (vf_upd zw (10 * nc) (wg)) ((10 * nc) + 1) (lg9)) ((10 * nc) + 2) (tr9)) hW) hP hD (fun w888_7 hW hP hD => ?_)
      have b_zw := upd_bd (k := (10 * nc) + 2) (x := tr9) b_zw (by omega)
      obtain ⟨fs9, f_off⟩ := sw_off hW
      have f_zi := sw_zi hW
      have f_zc := sw_zc hW
      have f_zg := sw_zg hW
      have f_zf := sw_zf hW
      have f_zn := sw_zn hW
      have f_zl := sw_zl hW
      have f_zr := sw_zr hW
      have f_ze := sw_ze hW
      have f_zt := sw_zt hW
      have f_za := sw_za hW
      have f_zw := sw_zw hW
      have f_zq := sw_zq hW
      refine lv_aload hx hb dL_law_889 (lv_at hl 24 rfl) ?_
      refine lv_iload hx hb dL_law_891 (lv_at hl 0 rfl) ?_
      refine lv_iconst (v := nI 3) hx hb dL_law_893 (by decide) ?_
      refine g_iadd hx hb dL_law_894 (nI_add _ _) ?_
      refine lv_iload hx hb dL_law_895 (lv_at hl 1 rfl) ?_
      refine lv_i2l (v := lN (f9)) hx hb dL_law_897 (nI_l (by omega)) ?_
      refine g_Last hx hb hE hP hD hS _ f_zw (by omega) (by decide) dL_law_898 (fun H locs hP hD hS => ?_)
      refine g_fw (sw_set_zw (z9 := vf_upd (vf_upd (vf_upd (vf_upd zw (10 * nc) (wg)) ((10 * nc) + 1) (lg9)) ((10 * nc) + 2) (tr9)) ((10 * nc) + 3) (f9)) hW) hP hD (fun w898_8 hW hP hD => ?_)
      have b_zw := upd_bd (k := (10 * nc) + 3) (x := f9) b_zw (by omega)
      obtain ⟨fs9, f_off⟩ := sw_off hW
      have f_zi := sw_zi hW
      have f_zc := sw_zc hW
      have f_zg := sw_zg hW
      have f_zf := sw_zf hW
      have f_zn := sw_zn hW
      have f_zl := sw_zl hW
      have f_zr := sw_zr hW
      have f_ze := sw_ze hW
      have f_zt := sw_zt hW
      have f_za := sw_za hW
      have f_zw := sw_zw hW
      have f_zq := sw_zq hW
      refine lv_aload hx hb dL_law_899 (lv_at hl 24 rfl) ?_
      refine lv_iload hx hb dL_law_901 (lv_at hl 0 rfl) ?_
      refine lv_iconst (v := nI 4) hx hb dL_law_903 (by decide) ?_
      refine g_iadd hx hb dL_law_904 (nI_add _ _) ?_
      refine lv_aload hx hb dL_law_905 (lv_at hl 25 rfl) ?_
      refine lv_iconst (v := nI 1) hx hb dL_law_907 (by decide) ?_
      refine g_nald hx hb hE hP _ f_zq (by omega) (by decide) dL_law_908 ?_
      have bd_908_9 := b_zq (1)
      refine g_iv (v' := nI (nw)) (congrArg nI (hq.2.1)) ?_
      refine lv_iconst (v := nI 1) hx hb dL_law_909 (by decide) ?_
      refine g_isub hx hb dL_law_910 (pk_sub (by omega)) ?_
      refine lv_iconst (v := nI 0) hx hb dL_law_911 (by decide) ?_
      refine lv_aload_n hx hb dL_law_912 rfl (lv_at hl 14 rfl) ?_
      refine lv_aload_n hx hb dL_law_913 rfl (lv_at hl 15 rfl) ?_
      refine lv_aload hx hb dL_law_914 (lv_at hl 16 rfl) ?_
      refine lv_aload hx hb dL_law_916 (lv_at hl 17 rfl) ?_
      refine lv_aload hx hb dL_law_918 (lv_at hl 18 rfl) ?_
      refine lv_aload hx hb dL_law_920 (lv_at hl 19 rfl) ?_
      refine lv_aload hx hb dL_law_922 (lv_at hl 20 rfl) ?_
      refine lv_aload hx hb dL_law_924 (lv_at hl 21 rfl) ?_
      refine lv_aload hx hb dL_law_926 (lv_at hl 25 rfl) ?_
      refine gc_S_i (As := [.int (nI ((nw) - (1))), .int (gb (false)), .ref (ad 30), .ref (ad 31), .ref (ad 32), .ref (ad 33), .ref (ad 34), .ref (ad 35), .ref (ad 36), .ref (ad 37), .ref (ad 41)]) (rest := [.int (nI ((10 * nc) + 4)), .ref (ad 40)]) (c_L_number l f_zi f_zc f_zg f_zf f_zn f_zl f_zr f_ze f_zq b_zi b_zc b_zg b_zf b_zn b_zl b_zr b_ze b_zq (n := n) (T := nw) (MM := M) (G := G) (M := (rK cf cents grams lc lg pr)) (o := (sRate cents grams)) (b := (sBase lc lg pr)) (pr := pr) (rel := rel) (grp := grp) (shr := shr) (idx := idx) (by omega) hp.ser.1) ⟨hx, hb, hml, hown, hts⟩ (va_cwS 11 hts gL_law_L_number rfl rfl rfl (by decide +kernel) ⟨Nat.le_of_ble_eq_true rfl, Nat.le_of_ble_eq_true rfl⟩) hE hP hD hS hA rfl rfl hl.1 (Nat.le_of_ble_eq_true rfl) dL_law_928 ⟨by show _ ≤ 600104; (first | omega | (dsimp only; omega)), by show _ ≤ 7301314; (first | omega | (dsimp only; omega))⟩ (fun r_928 u_928 H locs hP hD hS q_928 => ?_)
      have q9 := q_928.trans (congrArg nI (hnum (nw - 1) (by omega)).symm)
      subst q9
      have h1n : 1 ≤ num (nw - 1) := by rw [hnum (nw - 1) (by omega)]; exact (num_all (by omega) (by omega) ((hp.ser.2 (nw - 1) (by omega)).2.2.2.1 0 (by decide))).2
      have hnb9 := bta.2.2 (nw - 1)
      refine lv_i2l (v := lN (num (nw - 1))) hx hb dL_law_931 (nI_l (by omega)) ?_
      refine g_Last hx hb hE hP hD hS _ f_zw (by omega) (by decide) dL_law_932 (fun H locs hP hD hS => ?_)
      refine g_fw (sw_set_zw (z9 := vf_upd (vf_upd (vf_upd (vf_upd (vf_upd zw (10 * nc) (wg)) ((10 * nc) + 1) (lg9)) ((10 * nc) + 2) (tr9)) ((10 * nc) + 3) (f9)) ((10 * nc) + 4) (num (nw - 1))) hW) hP hD (fun w932_10 hW hP hD => ?_)
      have b_zw := upd_bd (k := (10 * nc) + 4) (x := num (nw - 1)) b_zw (by omega)
      obtain ⟨fs9, f_off⟩ := sw_off hW
      have f_zi := sw_zi hW
      have f_zc := sw_zc hW
      have f_zg := sw_zg hW
      have f_zf := sw_zf hW
      have f_zn := sw_zn hW
      have f_zl := sw_zl hW
      have f_zr := sw_zr hW
      have f_ze := sw_ze hW
      have f_zt := sw_zt hW
      have f_za := sw_za hW
      have f_zw := sw_zw hW
      have f_zq := sw_zq hW
      refine lv_aload hx hb dL_law_933 (lv_at hl 24 rfl) ?_
      refine lv_iload hx hb dL_law_935 (lv_at hl 0 rfl) ?_
      refine lv_iconst (v := nI 5) hx hb dL_law_937 (by decide) ?_
      refine g_iadd hx hb dL_law_938 (nI_add _ _) ?_
      refine lv_aload hx hb dL_law_939 (lv_at hl 25 rfl) ?_
      refine lv_iconst (v := nI 1) hx hb dL_law_941 (by decide) ?_
      refine g_nald hx hb hE hP _ f_zq (by omega) (by decide) dL_law_942 ?_
      have bd_942_11 := b_zq (1)
      refine g_iv (v' := nI (nw)) (congrArg nI (hq.2.1)) ?_
      refine lv_iconst (v := nI 1) hx hb dL_law_943 (by decide) ?_
      refine g_isub hx hb dL_law_944 (pk_sub (by omega)) ?_
      refine lv_i2l (v := lN ((nw) - (1))) hx hb dL_law_945 (nI_l (by omega)) ?_
      refine g_Last hx hb hE hP hD hS _ f_zw (by omega) (by decide) dL_law_946 (fun H locs hP hD hS => ?_)
      refine g_fw (sw_set_zw (z9 := vf_upd (vf_upd (vf_upd (vf_upd (vf_upd (vf_upd zw (10 * nc) (wg)) ((10 * nc) + 1) (lg9)) ((10 * nc) + 2) (tr9)) ((10 * nc) + 3) (f9)) ((10 * nc) + 4) (num (nw - 1))) ((10 * nc) + 5) ((nw) - (1))) hW) hP hD (fun w946_12 hW hP hD => ?_)
      have b_zw := upd_bd (k := (10 * nc) + 5) (x := (nw) - (1)) b_zw (by omega)
      obtain ⟨fs9, f_off⟩ := sw_off hW
      have f_zi := sw_zi hW
      have f_zc := sw_zc hW
      have f_zg := sw_zg hW
      have f_zf := sw_zf hW
      have f_zn := sw_zn hW
      have f_zl := sw_zl hW
      have f_zr := sw_zr hW
      have f_ze := sw_ze hW
      have f_zt := sw_zt hW
      have f_za := sw_za hW
      have f_zw := sw_zw hW
      have f_zq := sw_zq hW
      refine lv_aload hx hb dL_law_947 (lv_at hl 24 rfl) ?_
      refine lv_iload hx hb dL_law_949 (lv_at hl 0 rfl) ?_
      refine lv_bipush (v := nI 7) hx hb dL_law_951 (by decide) ?_
      refine g_iadd hx hb dL_law_953 (nI_add _ _) ?_
      refine lv_iload hx hb dL_law_954 (lv_at hl 4 rfl) ?_
      refine lv_i2l (v := lN (wg)) hx hb dL_law_956 (nI_l (by omega)) ?_
      refine g_Last hx hb hE hP hD hS _ f_zw (by omega) (by decide) dL_law_957 (fun H locs hP hD hS => ?_)
      refine g_fw (sw_set_zw (z9 := vf_upd (vf_upd (vf_upd (vf_upd (vf_upd (vf_upd (vf_upd zw (10 * nc) (wg)) ((10 * nc) + 1) (lg9)) ((10 * nc) + 2) (tr9)) ((10 * nc) + 3) (f9)) ((10 * nc) + 4) (num (nw - 1))) ((10 * nc) + 5) ((nw) - (1))) ((10 * nc) + 7) (wg)) hW) hP hD (fun w957_13 hW hP hD => ?_)
      have b_zw := upd_bd (k := (10 * nc) + 7) (x := wg) b_zw (by omega)
      obtain ⟨fs9, f_off⟩ := sw_off hW
      have f_zi := sw_zi hW
      have f_zc := sw_zc hW
      have f_zg := sw_zg hW
      have f_zf := sw_zf hW
      have f_zn := sw_zn hW
      have f_zl := sw_zl hW
      have f_zr := sw_zr hW
      have f_ze := sw_ze hW
      have f_zt := sw_zt hW
      have f_za := sw_za hW
      have f_zw := sw_zw hW
      have f_zq := sw_zq hW
      refine lv_aload hx hb dL_law_958 (lv_at hl 24 rfl) ?_
      refine lv_iload hx hb dL_law_960 (lv_at hl 0 rfl) ?_
      refine lv_bipush (v := nI 8) hx hb dL_law_962 (by decide) ?_
      refine g_iadd hx hb dL_law_964 (nI_add _ _) ?_
      refine lv_aload hx hb dL_law_965 (lv_at hl 25 rfl) ?_
      refine lv_iconst (v := nI 1) hx hb dL_law_967 (by decide) ?_
      refine g_nald hx hb hE hP _ f_zq (by omega) (by decide) dL_law_968 ?_
      have bd_968_14 := b_zq (1)
      refine g_iv (v' := nI (nw)) (congrArg nI (hq.2.1)) ?_
      refine lv_iconst (v := nI 1) hx hb dL_law_969 (by decide) ?_
      refine g_isub hx hb dL_law_970 (pk_sub (by omega)) ?_
      refine lv_i2l (v := lN ((nw) - (1))) hx hb dL_law_971 (nI_l (by omega)) ?_
      refine g_Last hx hb hE hP hD hS _ f_zw (by omega) (by decide) dL_law_972 (fun H locs hP hD hS => ?_)
      refine g_fw (sw_set_zw (z9 := vf_upd (vf_upd (vf_upd (vf_upd (vf_upd (vf_upd (vf_upd (vf_upd zw (10 * nc) (wg)) ((10 * nc) + 1) (lg9)) ((10 * nc) + 2) (tr9)) ((10 * nc) + 3) (f9)) ((10 * nc) + 4) (num (nw - 1))) ((10 * nc) + 5) ((nw) - (1))) ((10 * nc) + 7) (wg)) ((10 * nc) + 8) ((nw) - (1))) hW) hP hD (fun w972_15 hW hP hD => ?_)
      have b_zw := upd_bd (k := (10 * nc) + 8) (x := (nw) - (1)) b_zw (by omega)
      obtain ⟨fs9, f_off⟩ := sw_off hW
      have f_zi := sw_zi hW
      have f_zc := sw_zc hW
      have f_zg := sw_zg hW
      have f_zf := sw_zf hW
      have f_zn := sw_zn hW
      have f_zl := sw_zl hW
      have f_zr := sw_zr hW
      have f_ze := sw_ze hW
      have f_zt := sw_zt hW
      have f_za := sw_za hW
      have f_zw := sw_zw hW
      have f_zq := sw_zq hW
      refine lv_aload hx hb dL_law_973 (lv_at hl 25 rfl) ?_
      refine lv_iconst (v := nI 3) hx hb dL_law_975 (by decide) ?_
      refine lv_dup2_11 hx hb dL_law_976 rfl rfl ?_
      refine g_nald hx hb hE hP _ f_zq (by omega) (by decide) dL_law_977 ?_
      have bd_977_16 := b_zq (3)
      refine g_iv (v' := nI (nc)) (congrArg nI (hq.2.2.2.1)) ?_
      refine lv_iconst (v := nI 1) hx hb dL_law_978 (by decide) ?_
      refine g_iadd hx hb dL_law_979 (nI_add _ _) ?_
      refine g_nast hx hb hE hP hD hS _ f_zq (by omega) (by decide) dL_law_980 (fun H locs hP hD hS => ?_)
      refine g_fw (sw_set_zq (z9 := vf_upd zq (3) (nc + 1)) hW) hP hD (fun w980_17 hW hP hD => ?_)
      have b_zq := upd_bd (k := 3) (x := nc + 1) b_zq (by omega)
      obtain ⟨fs9, f_off⟩ := sw_off hW
      have f_zi := sw_zi hW
      have f_zc := sw_zc hW
      have f_zg := sw_zg hW
      have f_zf := sw_zf hW
      have f_zn := sw_zn hW
      have f_zl := sw_zl hW
      have f_zr := sw_zr hW
      have f_ze := sw_ze hW
      have f_zt := sw_zt hW
      have f_za := sw_za hW
      have f_zw := sw_zw hW
      have f_zq := sw_zq hW
      refine lv_aload_n hx hb dL_law_981 rfl (lv_at hl 13 rfl) ?_
      refine lv_iconst (v := nI 4) hx hb dL_law_982 (by decide) ?_
      refine lv_iload hx hb dL_law_983 (lv_at hl 4 rfl) ?_
      refine lv_iload hx hb dL_law_985 (lv_at hl 3 rfl) ?_
      refine lv_iload hx hb dL_law_987 (lv_at hl 2 rfl) ?_
      refine lv_iload hx hb dL_law_989 (lv_at hl 1 rfl) ?_
      have e_f9 : nI (f9) = gb (decide (f9 = 1)) := by rcases (show f9 = 0 ∨ f9 = 1 by omega) with rfl | rfl <;> rfl
      refine g_zv (v' := gb (decide (f9 = 1))) e_f9 ?_
      obtain ⟨rL, hL, ⟨hRf, hRl⟩, hRc, hRs⟩ := k_contract (D := D) (mi := mi) (b_f := decide (f9 = 1)) l hW hp hfl hwg kwg (show lg9 ≤ 3 by omega) (show tr9 ≤ 500 by omega) (by omega) c_757
      refine gcz_S_i (As := [.ref (ad 1), .int (nI (4)), .int (nI (wg)), .int (nI (lg9)), .int (nI (tr9)), .int (gb (decide (f9 = 1)))]) (rest := []) hL ⟨hx, hb, hml, hown, hts⟩ (vx_cwSW 6 hts gL_law_L_calls rfl rfl rfl (by decide +kernel) ⟨by show _ ≤ 13; omega, by show _ ≤ 646; omega⟩) hE hZ hP hD hS hA rfl rfl hl.1 (Nat.le_of_ble_eq_true rfl) dL_law_991 ⟨by show _ ≤ 600104; (first | omega | (dsimp only; omega)), by show _ ≤ 7301314; (first | omega | (dsimp only; omega))⟩ (fun r_991 u_991 H locs hP hD hS q_991 => ?_)
      obtain ⟨q9, a9, p9, hW⟩ := q_991
      subst q9
      obtain ⟨fs9, f_off⟩ := sw_off hW
      have f_zi := sw_zi hW
      have f_zc := sw_zc hW
      have f_zg := sw_zg hW
      have f_zf := sw_zf hW
      have f_zn := sw_zn hW
      have f_zl := sw_zl hW
      have f_zr := sw_zr hW
      have f_ze := sw_ze hW
      have f_zt := sw_zt hW
      have f_za := sw_za hW
      have f_zw := sw_zw hW
      have f_zq := sw_zq hW
      refine lv_iload hx hb dL_law_994 (lv_at hl 5 rfl) ?_
      refine g_if_eq (tgt := 1008) hx hb (by omega) dL_law_996 (by decide) (fun c_996 => absurd c_996 (by decide)) (fun c_996 => ?_)
      refine lv_aload hx hb dL_law_999 (lv_at hl 25 rfl) ?_
      refine lv_iconst (v := nI 3) hx hb dL_law_1001 (by decide) ?_
      refine g_nald hx hb hE hP _ f_zq (by omega) (by decide) dL_law_1002 ?_
      have bd_1002_18 := b_zq (3)
      refine g_iv (v' := nI (nc + 1)) (congrArg nI (upd_eq)) ?_
      refine lv_iconst (v := nI 1) hx hb dL_law_1003 (by decide) ?_
      refine g_isub hx hb dL_law_1004 (pk_sub (by omega)) ?_
      refine lv_goto (tgt := 1011) hx hb dL_law_1005 (by decide) ?_
      refine g_icmp_ne (tgt := 1018) hx hb (by omega) (by omega) dL_law_1011 (by decide) (fun c_1011 => absurd c_1011 (fun z => z (by omega))) (fun c_1011 => ?_)
      refine lv_iconst (v := nI 1) hx hb dL_law_1014 (by decide) ?_
      refine lv_goto (tgt := 1019) hx hb dL_law_1015 (by decide) ?_
      refine lv_istore (lv' := [(14, .int (nI (1))), (25, .int (nI (10 * nc))), (24, .int (nI (f9))), (23, .int (nI (tr9))), (22, .int (nI (lg9))), (21, .int (nI (wg))), (20, .int (nI (1))), (15, .int (nI (tn))), (16, .int (vv)), (17, .int (yv)), (18, .int (nI (act))), (19, .int (zv)), (0, .ref b), (1, .ref (ad 1)), (2, .ref (ad 30)), (3, .ref (ad 31)), (4, .ref (ad 32)), (5, .ref (ad 33)), (6, .ref (ad 34)), (7, .ref (ad 35)), (8, .ref (ad 36)), (9, .ref (ad 37)), (10, .ref (ad 38)), (11, .ref (ad 39)), (12, .ref (ad 40)), (13, .ref (ad 41))]) hx hb dL_law_1019 hl (by decide) rfl (fun ls hl => ?_)
      exact kk _ H locs ls _ _ (by first | omega | (dsimp only; omega)) (by first | omega | (dsimp only; omega)) (Inv.mk hW (hp.contract (by omega) c_757 kwg (by omega) (by omega) (by omega) (he.2.2.2 nc (Nat.le_refl nc)) h1n) ⟨by omega, by omega, he.2.2.1, fun k9 hk9 => by rw [upd_ne (by omega), upd_ne (by omega), upd_ne (by omega), upd_ne (by omega), upd_ne (by omega), upd_ne (by omega), upd_ne (by omega), upd_ne (by omega)]; exact he.2.2.2 k9 (by omega)⟩) hP hD hS (lv_sub hl [0, 7, 11, 12, 13, 14, 15, 16, 17, 18, 19, 20, 21, 22, 23, 24, 25] rfl)
