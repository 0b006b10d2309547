/-! the loop over the script's calls -/
theorem c_tab (x : Int32) : ∃ v : Nat, v < 32 ∧ x &&& 31 = nI v := by
  refine ⟨(x &&& 31).toUInt32.toNat, ?_, ?_⟩
  · have h : (x &&& 31).toBitVec = x.toBitVec &&& 31#32 := rfl
    show (x &&& 31).toBitVec.toNat < 32
    rw [h, BitVec.toNat_and]
    exact Nat.lt_of_le_of_lt Nat.and_le_right (by decide)
  · apply Int32.toBitVec_inj.mp
    show (x &&& 31).toBitVec = (nI (x &&& 31).toBitVec.toNat).toBitVec
    simp [nI]
theorem c_len {L i : Nat} (hL : L ≤ 2560) (hi : i ≤ 2560) : (nI L - 5 < nI i) ↔ L < i + 5 := by
  rw [Int32.lt_iff_toInt_lt, Int32.toInt_sub, nI_toInt (by omega), nI_toInt (by omega), show (5 : Int32).toInt = 5 from rfl, Int.bmod_eq_of_le (by omega) (by omega)]
  omega
theorem c_back {p : Program} {l : Launch} {e : Env} {s : State} {m : MethodId} {below : List Frame} {meth : Method} {c : Code} {b L i : Nat} {D : va_G} {y ad : Nat → Nat} {xs : Nat → Int32} {mi : Nat} {A : Nat → Prop} {cells slots k n : Nat} {Q : State → Prop} (hB : LWB p s m c meth b L xs D y (ad 0) mi A) (h1 : cells ≤ k) (h2 : slots ≤ n) {H : Heap} {locs : List Loc} {ls : Array Slot} (hl : lv_has ls 9 (l0L i b (ad 1) (ad 30) (ad 58) (ad 59)))
    (kk : ∀ ls : Array Slot, lv_has ls 9 (l0L (i + 5) b (ad 1) (ad 30) (ad 58) (ad 59)) → W p l e room_1 s m #[.ref b] below meth c H locs k n Q (F0 m 28 ls [])) : W p l e room_1 s m #[.ref b] below meth c H locs cells slots Q (F0 m 2166 ls []) := by
  obtain ⟨hx, hb, hml, hts, hown, hE, hZ, hX, hbl, hbA, hA, hL9⟩ := hB
  refine lv_iinc (v := nI (i + 5)) (lv' := l0L (i + 5) b (ad 1) (ad 30) (ad 58) (ad 59)) hx hb dL_law_2166 hl (k := 0) rfl (by rw [show Int32.ofInt 5 = nI 5 from rfl]; exact nI_add _ _) (by decide) rfl (fun ls hl => ?_)
  refine lv_goto (tgt := 28) hx hb dL_law_2169 (by decide) ?_
  exact W.widen h1 h2 (kk ls hl)
set_option maxHeartbeats 8000000 in
set_option maxRecDepth 100000 in
theorem law_loop {p : Program} {l : Launch} {e : Env} {s : State} {m : MethodId} {below : List Frame} {meth : Method} {c : Code} {b L : Nat} {D : va_G} {y ad : Nat → Nat} {xs : Nat → Int32} {mi : Nat} (hfl : l.stackTraces = false) (hr : meth.sig.returnType = ret) (hlocks : meth.locks = false) (hB : LWB p s m c meth b L xs D y (ad 0) mi (fun q : Nat => s.heap.size ≤ q)) :
    ∀ (n j : Nat), L < 5 * j + 5 * n → 5 * j ≤ L → ∀ (ws : va_W) (H : Heap) (locs : List Loc) (ls : Array Slot), LInv ad y ws → gvP D vwCl ws H → gvD (fun q : Nat => s.heap.size ≤ q) ws → va_S (fun q : Nat => s.heap.size ≤ q) s.heap H locs → lv_has ls 9 (l0L (5 * j) b (ad 1) (ad 30) (ad 58) (ad 59)) → W p l e room_1 s m #[Value.ref b] below meth c H locs (70 + 5 * j) (30000 + 100 * j) (lw_Z below #[Value.ref b] s) (F0 m 28 ls []) := by
  have hB9 := hB
  obtain ⟨hx, hb, hml, hts, hown, hE, hZ, hX, hbl, hbA, hA, hL9⟩ := hB9
  intro n
  induction n with
  | zero => intro j h1 h2; exact absurd h1 (by omega)
  | succ n ih =>
    intro j hn hj ws H locs ls hLI hP hD hS hl
    refine lv_iload hx hb dL_law_28 (lv_at hl 0 rfl) ?_
    refine lv_aload_n hx hb dL_law_30 rfl (lv_at hl 1 rfl) ?_
    refine va_slen hx hb hX hbl hbA hS dL_law_31 ?_
    refine lv_iconst (v := 5) hx hb dL_law_32 (by decide) ?_
    refine lv_isub hx hb dL_law_33 ?_
    refine lv_icmp_gt (tgt := 2172) hx hb dL_law_34 (by decide) (fun c_34 => ?_) (fun c_34 => ?_)
    · refine lv_iconst (v := 1) hx hb dL_law_2172 (by decide) ?_
      refine va_forget (fun q hq => hS.2.2 q hq) ?_
      refine W.widen (k := 601024) (n := 7293034) (by omega) (by omega) ?_
      exact lw_ret (d0 := s.drawn) (Drawn.sameBut.refl s.drawn lw_cs) hx hb hr hlocks dL_law_2173
    · have hi : 5 * j + 5 ≤ L := by
        have h9 : ¬ L < 5 * j + 5 := fun h => c_34 ((c_len hL9 (by omega : 5 * j ≤ 2560)).mpr h)
        omega
      refine lv_aload_n hx hb dL_law_37 rfl (lv_at hl 1 rfl) ?_
      refine lv_iload hx hb dL_law_38 (lv_at hl 0 rfl) ?_
      refine g_scr hx hb hX hbl hbA hS (by omega) hL9 dL_law_40 ?_
      refine lv_bipush (v := 31) hx hb dL_law_41 (by decide) ?_
      refine lv_iand hx hb dL_law_43 ?_
      obtain ⟨v, hv, ev⟩ := c_tab (xs (5 * j))
      rw [ev]
      have hC : (70 + 5 * j) + 5 ≤ 601024 ∧ (30000 + 100 * j) + 100 ≤ 7293034 := by omega
      have kk : ∀ (w : va_W) (H : Heap) (locs : List Loc) (ls : Array Slot) (cells1 slots1 : Nat), cells1 ≤ (70 + 5 * j) + 5 → slots1 ≤ (30000 + 100 * j) + 100 → LInv ad y w → gvP D vwCl w H → gvD (fun q : Nat => s.heap.size ≤ q) w → va_S (fun q : Nat => s.heap.size ≤ q) s.heap H locs → lv_has ls 9 (l0L (5 * j) b (ad 1) (ad 30) (ad 58) (ad 59)) → W p l e room_1 s m #[.ref b] below meth c H locs cells1 slots1 (lw_Z below #[Value.ref b] s) (F0 m 2166 ls []) := by
        intro w H locs ls cells1 slots1 k1 k2 hLI hP hD hS hl
        refine c_back (k := 70 + 5 * (j + 1)) (n := 30000 + 100 * (j + 1)) hB (by omega) (by omega) hl (fun ls hl => ?_)
        rw [show 5 * j + 5 = 5 * (j + 1) by omega] at hl
        exact ih (j + 1) (by omega) (by omega) w H locs ls hLI hP hD hS hl
      obtain ⟨nw, n0, nc, qn, fq, mc1, mc2, aita, acta, qe, cents, grams, cf, cc, fx, lc, lg, told, adp, shr, xa, pr, rel, grp, idx, wf2, xb, pr2, rel2, grp2, idx2, num, cnum, th, mgr, mme, mse, mfx, msp, mpr, mim, mre, mog, mix, mnu, mla, mtr, mfl, mfw, mfm, mwa, mls, mlm, mpa, oo, oD, rest, pi, pc, rfl, hI, hCR, hne, hp⟩ := hLI
      rcases (show v = 0 ∨ v = 1 ∨ v = 2 ∨ v = 3 ∨ v = 4 ∨ v = 5 ∨ v = 6 ∨ v = 7 ∨ v = 8 ∨ v = 9 ∨ v = 10 ∨ v = 11 ∨ v = 12 ∨ v = 13 ∨ v = 14 ∨ v = 15 ∨ v = 16 ∨ v = 17 ∨ v = 18 ∨ v = 19 ∨ v = 20 ∨ v = 21 ∨ v = 22 ∨ v = 23 ∨ v = 24 ∨ v = 25 ∨ 26 ≤ v by omega) with rfl | rfl | rfl | rfl | rfl | rfl | rfl | rfl | rfl | rfl | rfl | rfl | rfl | rfl | rfl | rfl | rfl | rfl | rfl | rfl | rfl | rfl | rfl | rfl | rfl | rfl | h26
      · refine lv_tableIn (off := 120) (tgt := 164) hx hb dL_law_44 (by decide) (by decide) (by decide) (by decide) ?_
        exact op_item hfl hB hI hCR hne hp hP hD hS hl hi hC kk
      · refine lv_tableIn (off := 200) (tgt := 244) hx hb dL_law_44 (by decide) (by decide) (by decide) (by decide) ?_
        exact op_quote hfl hB hI hCR hne hp hP hD hS hl hi hC kk
      · refine lv_tableIn (off := 292) (tgt := 336) hx hb dL_law_44 (by decide) (by decide) (by decide) (by decide) ?_
        exact op_confirm hfl hB hI hCR hne hp hP hD hS hl hi hC kk
      · refine lv_tableIn (off := 367) (tgt := 411) hx hb dL_law_44 (by decide) (by decide) (by decide) (by decide) ?_
        exact op_link hfl hB hI hCR hne hp hP hD hS hl hi hC kk
      · refine lv_tableIn (off := 439) (tgt := 483) hx hb dL_law_44 (by decide) (by decide) (by decide) (by decide) ?_
        exact op_spend hfl hB hI hCR hne hp hP hD hS hl hi hC kk
      · refine lv_tableIn (off := 519) (tgt := 563) hx hb dL_law_44 (by decide) (by decide) (by decide) (by decide) ?_
        exact op_adopt hfl hB hI hCR hne hp hP hD hS hl hi hC kk
      · refine lv_tableIn (off := 533) (tgt := 577) hx hb dL_law_44 (by decide) (by decide) (by decide) (by decide) ?_
        exact op_publish hfl hB hI hCR hne hp hP hD hS hl hi hC kk
      · refine lv_tableIn (off := 577) (tgt := 621) hx hb dL_law_44 (by decide) (by decide) (by decide) (by decide) ?_
        exact op_fix hfl hB hI hCR hne hp hP hD hS hl hi hC kk
      · refine lv_tableIn (off := 669) (tgt := 713) hx hb dL_law_44 (by decide) (by decide) (by decide) (by decide) ?_
        exact op_contract hfl hB hI hCR hne hp hP hD hS hl hi hC kk
      · refine lv_tableIn (off := 777) (tgt := 821) hx hb dL_law_44 (by decide) (by decide) (by decide) (by decide) ?_
        exact op_price hfl hB hI hCR hne hp hP hD hS hl hi hC kk
      · refine lv_tableIn (off := 878) (tgt := 922) hx hb dL_law_44 (by decide) (by decide) (by decide) (by decide) ?_
        exact op_isMatched hfl hB hI hCR hne hp hP hD hS hl hi hC kk
      · refine lv_tableIn (off := 965) (tgt := 1009) hx hb dL_law_44 (by decide) (by decide) (by decide) (by decide) ?_
        exact op_relative hfl hB hI hCR hne hp hP hD hS hl hi hC kk
      · refine lv_tableIn (off := 1054) (tgt := 1098) hx hb dL_law_44 (by decide) (by decide) (by decide) (by decide) ?_
        exact op_bounce hfl hB hI hCR hne hp hP hD hS hl hi hC kk
      · refine lv_tableIn (off := 1143) (tgt := 1187) hx hb dL_law_44 (by decide) (by decide) (by decide) (by decide) ?_
        exact op_ofGroup hfl hB hI hCR hne hp hP hD hS hl hi hC kk
      · refine lv_tableIn (off := 1232) (tgt := 1276) hx hb dL_law_44 (by decide) (by decide) (by decide) (by decide) ?_
        exact op_share hfl hB hI hCR hne hp hP hD hS hl hi hC kk
      · refine lv_tableIn (off := 1333) (tgt := 1377) hx hb dL_law_44 (by decide) (by decide) (by decide) (by decide) ?_
        exact op_index hfl hB hI hCR hne hp hP hD hS hl hi hC kk
      · refine lv_tableIn (off := 1422) (tgt := 1466) hx hb dL_law_44 (by decide) (by decide) (by decide) (by decide) ?_
        exact op_indexAnew hfl hB hI hCR hne hp hP hD hS hl hi hC kk
      · refine lv_tableIn (off := 1511) (tgt := 1555) hx hb dL_law_44 (by decide) (by decide) (by decide) (by decide) ?_
        exact op_corrected hfl hB hI hCR hne hp hP hD hS hl hi hC kk
      · refine lv_tableIn (off := 1600) (tgt := 1644) hx hb dL_law_44 (by decide) (by decide) (by decide) (by decide) ?_
        exact op_published hfl hB hI hCR hne hp hP hD hS hl hi hC kk
      · refine lv_tableIn (off := 1656) (tgt := 1700) hx hb dL_law_44 (by decide) (by decide) (by decide) (by decide) ?_
        exact op_growth hfl hB hI hCR hne hp hP hD hS hl hi hC kk
      · refine lv_tableIn (off := 1734) (tgt := 1778) hx hb dL_law_44 (by decide) (by decide) (by decide) (by decide) ?_
        exact op_core hfl hB hI hCR hne hp hP hD hS hl hi hC kk
      · refine lv_tableIn (off := 1811) (tgt := 1855) hx hb dL_law_44 (by decide) (by decide) (by decide) (by decide) ?_
        exact op_direct hfl hB hI hCR hne hp hP hD hS hl hi hC kk
      · refine lv_tableIn (off := 1888) (tgt := 1932) hx hb dL_law_44 (by decide) (by decide) (by decide) (by decide) ?_
        exact op_doubts hfl hB hI hCR hne hp hP hD hS hl hi hC kk
      · refine lv_tableIn (off := 1944) (tgt := 1988) hx hb dL_law_44 (by decide) (by decide) (by decide) (by decide) ?_
        exact op_ofContract hfl hB hI hCR hne hp hP hD hS hl hi hC kk
      · refine lv_tableIn (off := 2011) (tgt := 2055) hx hb dL_law_44 (by decide) (by decide) (by decide) (by decide) ?_
        exact op_owed hfl hB hI hCR hne hp hP hD hS hl hi hC kk
      · refine lv_tableIn (off := 2066) (tgt := 2110) hx hb dL_law_44 (by decide) (by decide) (by decide) (by decide) ?_
        exact op_count hfl hB hI hCR hne hp hP hD hS hl hi hC kk
      · refine lv_tableOut (tgt := 2166) hx hb dL_law_44 (Or.inr ?_) (by decide) ?_
        · rw [nI_toInt (by omega)]; omega
        · exact kk _ H locs ls _ _ (by omega) (by omega) (LInv.mk hI hCR hne hp) hP hD hS hl
