/-! the law's case: item -/
set_option maxHeartbeats 4000000 in
set_option maxRecDepth 100000 in
theorem case_item {p : Program} {l : Launch} {e : Env} {s : State} {m : MethodId} {below : List Frame} {meth : Method} {c : Code} {H : Heap} {locs : List Loc} {cells slots : Nat} {Q : State → Prop} {ls : Array Slot} {D : va_G} {A : Nat → Prop} {b L mi tn act : Nat} {xs : Nat → Int32} {vv yv zv : Int32} {ws : va_W} {ad y : Nat → Nat} {nw : Nat} {n : Nat} {nc : Nat} {qn : Nat} {fq : Nat} {mc1 : Int32} {mc2 : Int32} {aita : Nat} {acta : Nat} {qe : Nat → Option Nat} {cents : Nat → Nat} {grams : Nat → Nat} {cf : Nat → Bool} {cc : Nat → Nat} {fx : Nat → Bool} {lc : Nat → Nat} {lg : Nat → Nat} {told : Nat → Nat} {adp : Nat → Nat} {shr : Nat → UInt64} {pr : Nat → UInt64} {rel : Nat → UInt64} {grp : Nat → UInt64} {idx : Nat → UInt64} {num : Nat → Nat} {zi : Nat → Nat} {zc : Nat → Nat} {zg : Nat → Nat} {zf : Nat → Nat} {zn : Nat → Nat} {zl : Nat → Nat} {zr : Nat → Nat} {ze : Nat → Nat} {zt : Nat → Nat} {za : Nat → Nat} {zw : Nat → Nat} {zq : Nat → Nat} {G : Nat → Nat} {M : Nat → Nat} {Sn : Nat → Nat} {fw : Nat → Nat} {lag : Nat → Nat} {trig : Nat → Nat} {fl : Nat → Bool} {fm : Nat → Nat} {cs : Nat → Nat × Nat × Nat × Nat} {pi : Nat} {pc : Nat} (hfl : l.stackTraces = false) (hB : LWB p s m c meth b L xs D y (ad 0) mi A) (hW : SW ad y nw n nc qn fq mc1 mc2 aita acta qe cents grams cf cc fx lc lg told adp shr pr rel grp idx num zi zc zg zf zn zl zr ze zt za zw zq G M Sn fw lag trig fl fm cs pi pc ws) (hp : LInv nw n nc qn fq cents grams cf cc fx lc lg told adp shr pr rel grp idx num zi zc zg zf zn zl zr ze zt za zw zq G M Sn fw lag trig fl fm cs) (he : EInv nc qn fq zc zn zw tn) (htn : tn < 70)  (hP : gvP D vwCl ws H) (hD : gvD A ws) (hS : va_S A s.heap H locs) (hl : lv_has ls 26 (lC ad b tn vv yv act zv)) (hC : cells + 5 ≤ 600104 ∧ slots + 100 ≤ 7301314)
    (kk : ∀ (w : va_W) (H : Heap) (locs : List Loc) (ls : Array Slot) (cells1 slots1 : Nat), cells1 ≤ cells + 2 → slots1 ≤ slots + 19 → Inv ad y (tn + 1) w → gvP D vwCl w H → gvD A w → va_S A s.heap H locs → lv_has ls 26 (lJ ad b tn zv) → W p l e room_1 s m #[.ref b] below meth c H locs cells1 slots1 Q (F0 m 1021 ls [])) : W p l e room_1 s m #[.ref b] below meth c H locs cells slots Q (F0 m 143 ls []) := by
  obtain ⟨hx, hb, hml, hts, hown, hE, hZ, hX, hbl, hbA, hA, hL9⟩ := hB
  have hp0 := hp
  obtain ⟨hq, hs3, hdb, bcc, bta, bz, hgm, hit, hem, hcg, hccg, hlg, hdz, hz2, hser, hrz, hsh, hta, hnum, hcw, hcb⟩ := hp0
  obtain ⟨b_zi, b_zc, b_zg, b_zf, b_zn, b_zl, b_zr, b_ze, b_zt, b_za, b_zw, b_zq⟩ := bz
  have he1 := he.1
  have he2 := he.2.1
  obtain ⟨fs9, f0_off⟩ := sw_off hW
  have f0_zi := sw_zi hW
  have f0_zc := sw_zc hW
  have f0_zg := sw_zg hW
  have f0_zf := sw_zf hW
  have f0_zn := sw_zn hW
  have f0_zl := sw_zl hW
  have f0_zr := sw_zr hW
  have f0_ze := sw_ze hW
  have f0_zt := sw_zt hW
  have f0_za := sw_za hW
  have f0_zw := sw_zw hW
  have f0_zq := sw_zq hW
  refine lv_aload hx hb dL_law_143 (lv_at hl 19 rfl) ?_
  refine lv_iconst (v := nI 0) hx hb dL_law_145 (by decide) ?_
  refine g_nald hx hb hE hP _ f0_zq (by omega) (by decide) dL_law_146 ?_
  have bd_146_1 := b_zq (0)
  refine g_iv (v' := nI (n)) (congrArg nI (hq.1)) ?_
  refine lv_iconst (v := nI 4) hx hb dL_law_147 (by decide) ?_
  refine g_icmp_ge (tgt := 1021) hx hb (by omega) (by omega) dL_law_148 (by decide) (fun c_148 => ?_) (fun c_148 => ?_)
  · exact kk _ H locs ls _ _ (by first | omega | (dsimp only; omega)) (by first | omega | (dsimp only; omega)) (Inv.mk hW hp he.up) hP hD hS (lv_sub hl [0, 1, 5, 6, 7, 8, 9, 10, 11, 12, 13, 14, 15, 16, 17, 18, 19] rfl)
  · refine lv_aload_n hx hb dL_law_151 rfl (lv_at hl 8 rfl) ?_
    refine lv_iconst (v := nI 3) hx hb dL_law_152 (by decide) ?_
    refine lv_aload hx hb dL_law_153 (lv_at hl 19 rfl) ?_
    refine lv_iconst (v := nI 0) hx hb dL_law_155 (by decide) ?_
    refine g_nald hx hb hE hP _ f0_zq (by omega) (by decide) dL_law_156 ?_
    have bd_156_2 := b_zq (0)
    refine g_iv (v' := nI (n)) (congrArg nI (hq.1)) ?_
    refine g_imul hx hb dL_law_157 (pk_mul _ _) ?_
    refine lv_iload hx hb dL_law_158 (lv_at hl 5 rfl) ?_
    refine lv_iconst (v := nI 4) hx hb dL_law_160 (by decide) ?_
    refine gc_S_i (As := [.int (zv), .int (nI (4))]) (rest := [.int (nI (3 * n)), .ref (ad 30)]) (c_L_low l (by decide) (by decide)) ⟨hx, hb, hml, hown, hts⟩ (va_cwS 2 hts gL_law_L_low rfl rfl rfl (by decide +kernel) ⟨Nat.le_of_ble_eq_true rfl, Nat.le_of_ble_eq_true rfl⟩) hE hP hD hS hA rfl rfl hl.1 (Nat.le_of_ble_eq_true rfl) dL_law_161 ⟨by show _ ≤ 600104; (first | omega | (dsimp only; omega)), by show _ ≤ 7301314; (first | omega | (dsimp only; omega))⟩ (fun r_161 u_161 H locs hP hD hS q_161 => ?_)
    obtain ⟨g, hg, e_g⟩ : ∃ z, z < 4 ∧ lowN zv % 4 = z := ⟨_, Nat.mod_lt _ (by omega), rfl⟩
    have q9 := q_161.trans (congrArg nI e_g)
    subst q9
    refine g_nast hx hb hE hP hD hS _ f0_zi (by omega) (by decide) dL_law_164 (fun H locs hP hD hS => ?_)
    refine g_fw (sw_set_zi (z9 := vf_upd zi (3 * n) (g)) hW) hP hD (fun w164_3 hW hP hD => ?_)
    have b_zi := upd_bd (k := 3 * n) (x := g) b_zi (by omega)
    obtain ⟨fs9, f_off⟩ := sw_off hW
    have f_zi := sw_zi hW
    have f_zc := sw_zc hW
    have f_zg := sw_zg hW
    have f_zf := sw_zf hW
    have f_zn := sw_zn hW
    have f_zl := sw_zl hW
    have f_zr := sw_zr hW
    have f_ze := sw_ze hW
    have f_zt := sw_zt hW
    have f_za := sw_za hW
    have f_zw := sw_zw hW
    have f_zq := sw_zq hW
    refine lv_aload_n hx hb dL_law_165 rfl (lv_at hl 8 rfl) ?_
    refine lv_iconst (v := nI 3) hx hb dL_law_166 (by decide) ?_
    refine lv_aload hx hb dL_law_167 (lv_at hl 19 rfl) ?_
    refine lv_iconst (v := nI 0) hx hb dL_law_169 (by decide) ?_
    refine g_nald hx hb hE hP _ f_zq (by omega) (by decide) dL_law_170 ?_
    have bd_170_4 := b_zq (0)
    refine g_iv (v' := nI (n)) (congrArg nI (hq.1)) ?_
    refine g_imul hx hb dL_law_171 (pk_mul _ _) ?_
    refine lv_iconst (v := nI 1) hx hb dL_law_172 (by decide) ?_
    refine g_iadd hx hb dL_law_173 (nI_add _ _) ?_
    refine lv_iload hx hb dL_law_174 (lv_at hl 5 rfl) ?_
    refine lv_iconst (v := nI 3) hx hb dL_law_176 (by decide) ?_
    refine g_ishr hx hb dL_law_177 rfl ?_
    refine lv_iconst (v := nI 3) hx hb dL_law_178 (by decide) ?_
    refine gc_S_i (As := [.int ((zv >>> (nI 3 &&& 31))), .int (nI (3))]) (rest := [.int (nI ((3 * n) + 1)), .ref (ad 30)]) (c_L_low l (by decide) (by decide)) ⟨hx, hb, hml, hown, hts⟩ (va_cwS 2 hts gL_law_L_low rfl rfl rfl (by decide +kernel) ⟨Nat.le_of_ble_eq_true rfl, Nat.le_of_ble_eq_true rfl⟩) hE hP hD hS hA rfl rfl hl.1 (Nat.le_of_ble_eq_true rfl) dL_law_179 ⟨by show _ ≤ 600104; (first | omega | (dsimp only; omega)), by show _ ≤ 7301314; (first | omega | (dsimp only; omega))⟩ (fun r_179 u_179 H locs hP hD hS q_179 => ?_)
    obtain ⟨mn, hmn, e_mn⟩ : ∃ z, z < 3 ∧ lowN (zv >>> (nI 3 &&& 31)) % 3 = z := ⟨_, Nat.mod_lt _ (by omega), rfl⟩
    have q9 := q_179.trans (congrArg nI e_mn)
    subst q9
    refine g_nast hx hb hE hP hD hS _ f_zi (by omega) (by decide) dL_law_182 (fun H locs hP hD hS => ?_)
    refine g_fw (sw_set_zi (z9 := vf_upd (vf_upd zi (3 * n) (g)) ((3 * n) + 1) (mn)) hW) hP hD (fun w182_5 hW hP hD => ?_)
    have b_zi := upd_bd (k := (3 * n) + 1) (x := mn) b_zi (by omega)
    obtain ⟨fs9, f_off⟩ := sw_off hW
    have f_zi := sw_zi hW
    have f_zc := sw_zc hW
    have f_zg := sw_zg hW
    have f_zf := sw_zf hW
    have f_zn := sw_zn hW
    have f_zl := sw_zl hW
    have f_zr := sw_zr hW
    have f_ze := sw_ze hW
    have f_zt := sw_zt hW
    have f_za := sw_za hW
    have f_zw := sw_zw hW
    have f_zq := sw_zq hW
    refine lv_aload_n hx hb dL_law_183 rfl (lv_at hl 8 rfl) ?_
    refine lv_iconst (v := nI 3) hx hb dL_law_184 (by decide) ?_
    refine lv_aload hx hb dL_law_185 (lv_at hl 19 rfl) ?_
    refine lv_iconst (v := nI 0) hx hb dL_law_187 (by decide) ?_
    refine g_nald hx hb hE hP _ f_zq (by omega) (by decide) dL_law_188 ?_
    have bd_188_6 := b_zq (0)
    refine g_iv (v' := nI (n)) (congrArg nI (hq.1)) ?_
    refine g_imul hx hb dL_law_189 (pk_mul _ _) ?_
    refine lv_iconst (v := nI 2) hx hb dL_law_190 (by decide) ?_
    refine g_iadd hx hb dL_law_191 (nI_add _ _) ?_
    refine lv_iload hx hb dL_law_192 (lv_at hl 5 rfl) ?_
    refine lv_iconst (v := nI 5) hx hb dL_law_194 (by decide) ?_
    refine g_ishr hx hb dL_law_195 rfl ?_
    refine lv_iconst (v := nI 4) hx hb dL_law_196 (by decide) ?_
    refine gc_S_i (As := [.int ((zv >>> (nI 5 &&& 31))), .int (nI (4))]) (rest := [.int (nI ((3 * n) + 2)), .ref (ad 30)]) (c_L_low l (by decide) (by decide)) ⟨hx, hb, hml, hown, hts⟩ (va_cwS 2 hts gL_law_L_low rfl rfl rfl (by decide +kernel) ⟨Nat.le_of_ble_eq_true rfl, Nat.le_of_ble_eq_true rfl⟩) hE hP hD hS hA rfl rfl hl.1 (Nat.le_of_ble_eq_true rfl) dL_law_197 ⟨by show _ ≤ 600104; (first | omega | (dsimp only; omega)), by show _ ≤ 7301314; (first | omega | (dsimp only; omega))⟩ (fun r_197 u_197 H locs hP hD hS q_197 => ?_)
    subst q_197
    refine g_reg (J := 222) (st1 := [.int (nI (lSe zv)), .int (nI ((3 * n) + 2)), .ref (ad 30)]) hP hD hS (fun K_222 => ?_) (fun H locs hP hD hS => ?_)
    · refine g_if_ne (tgt := 219) hx hb (by omega) dL_law_200 (by decide) (fun c_200 => ?_) (fun c_200 => ?_)
      · refine lv_sipush (v := nI 4095) hx hb dL_law_219 (by decide) ?_
        refine g_iv (v' := (nI (lSe zv))) ((congrArg nI (if_neg (by omega)).symm)) ?_
        exact K_222 _ _ hP hD hS
      · refine lv_iconst (v := nI 1) hx hb dL_law_203 (by decide) ?_
        refine lv_iload hx hb dL_law_204 (lv_at hl 5 rfl) ?_
        refine lv_bipush (v := nI 6) hx hb dL_law_206 (by decide) ?_
        refine g_ishr hx hb dL_law_208 rfl ?_
        refine lv_sipush (v := nI 4095) hx hb dL_law_209 (by decide) ?_
        refine gc_S_i (As := [.int ((zv >>> (nI 6 &&& 31))), .int (nI (4095))]) (rest := [.int (nI (1)), .int (nI ((3 * n) + 2)), .ref (ad 30)]) (c_L_low l (by decide) (by decide)) ⟨hx, hb, hml, hown, hts⟩ (va_cwS 2 hts gL_law_L_low rfl rfl rfl (by decide +kernel) ⟨Nat.le_of_ble_eq_true rfl, Nat.le_of_ble_eq_true rfl⟩) hE hP hD hS hA rfl rfl hl.1 (Nat.le_of_ble_eq_true rfl) dL_law_212 ⟨by show _ ≤ 600104; (first | omega | (dsimp only; omega)), by show _ ≤ 7301314; (first | omega | (dsimp only; omega))⟩ (fun r_212 u_212 H locs hP hD hS q_212 => ?_)
        subst q_212
        refine g_iadd hx hb dL_law_215 (nI_add _ _) ?_
        refine lv_goto (tgt := 222) hx hb dL_law_216 (by decide) ?_
        refine g_iv (v' := (nI (lSe zv))) ((congrArg nI (if_pos c_200).symm)) ?_
        exact K_222 _ _ hP hD hS
    obtain ⟨sn, e_sn, hsn, ksn⟩ : ∃ z, lSe zv = z ∧ 1 ≤ z ∧ z ≤ 4095 := ⟨_, rfl, lSe_b zv⟩
    refine g_iv (v' := nI (sn)) (congrArg nI e_sn) ?_
    refine g_nast hx hb hE hP hD hS _ f_zi (by omega) (by decide) dL_law_222 (fun H locs hP hD hS => ?_)
    refine g_fw (sw_set_zi (z9 := vf_upd (vf_upd (vf_upd zi (3 * n) (g)) ((3 * n) + 1) (mn)) ((3 * n) + 2) (sn)) hW) hP hD (fun w222_7 hW hP hD => ?_)
    have b_zi := upd_bd (k := (3 * n) + 2) (x := sn) b_zi ksn
    obtain ⟨fs9, f_off⟩ := sw_off hW
    have f_zi := sw_zi hW
    have f_zc := sw_zc hW
    have f_zg := sw_zg hW
    have f_zf := sw_zf hW
    have f_zn := sw_zn hW
    have f_zl := sw_zl hW
    have f_zr := sw_zr hW
    have f_ze := sw_ze hW
    have f_zt := sw_zt hW
    have f_za := sw_za hW
    have f_zw := sw_zw hW
    have f_zq := sw_zq hW
    refine lv_aload hx hb dL_law_223 (lv_at hl 19 rfl) ?_
    refine lv_iconst (v := nI 0) hx hb dL_law_225 (by decide) ?_
    refine lv_dup2_11 hx hb dL_law_226 rfl rfl ?_
    refine g_nald hx hb hE hP _ f_zq (by omega) (by decide) dL_law_227 ?_
    have bd_227_8 := b_zq (0)
    refine g_iv (v' := nI (n)) (congrArg nI (hq.1)) ?_
    refine lv_iconst (v := nI 1) hx hb dL_law_228 (by decide) ?_
    refine g_iadd hx hb dL_law_229 (nI_add _ _) ?_
    refine g_nast hx hb hE hP hD hS _ f_zq (by omega) (by decide) dL_law_230 (fun H locs hP hD hS => ?_)
    refine g_fw (sw_set_zq (z9 := vf_upd zq (0) (n + 1)) hW) hP hD (fun w230_9 hW hP hD => ?_)
    have b_zq := upd_bd (k := 0) (x := n + 1) b_zq (by omega)
    obtain ⟨fs9, f_off⟩ := sw_off hW
    have f_zi := sw_zi hW
    have f_zc := sw_zc hW
    have f_zg := sw_zg hW
    have f_zf := sw_zf hW
    have f_zn := sw_zn hW
    have f_zl := sw_zl hW
    have f_zr := sw_zr hW
    have f_ze := sw_ze hW
    have f_zt := sw_zt hW
    have f_za := sw_za hW
    have f_zw := sw_zw hW
    have f_zq := sw_zq hW
    refine lv_aload_n hx hb dL_law_231 rfl (lv_at hl 7 rfl) ?_
    refine lv_aload_n hx hb dL_law_232 rfl (lv_at hl 8 rfl) ?_
    refine lv_iconst (v := nI 3) hx hb dL_law_233 (by decide) ?_
    refine lv_aload hx hb dL_law_234 (lv_at hl 19 rfl) ?_
    refine lv_iconst (v := nI 0) hx hb dL_law_236 (by decide) ?_
    refine g_nald hx hb hE hP _ f_zq (by omega) (by decide) dL_law_237 ?_
    have bd_237_10 := b_zq (0)
    refine g_iv (v' := nI (n + 1)) (congrArg nI (upd_eq)) ?_
    refine g_imul hx hb dL_law_238 (pk_mul _ _) ?_
    refine lv_iconst (v := nI 3) hx hb dL_law_239 (by decide) ?_
    refine g_isub hx hb dL_law_240 (pk_sub (by omega)) ?_
    refine g_nald hx hb hE hP _ f_zi (by omega) (by decide) dL_law_241 ?_
    have bd_241_11 := b_zi ((3 * (n + 1)) - (3))
    refine g_iv (v' := nI (g)) (congrArg nI ((by rw [show 3 * (n + 1) - 3 = 3 * n by omega, upd_ne (by omega), upd_ne (by omega), upd_eq]))) ?_
    refine lv_aload_n hx hb dL_law_242 rfl (lv_at hl 8 rfl) ?_
    refine lv_iconst (v := nI 3) hx hb dL_law_243 (by decide) ?_
    refine lv_aload hx hb dL_law_244 (lv_at hl 19 rfl) ?_
    refine lv_iconst (v := nI 0) hx hb dL_law_246 (by decide) ?_
    refine g_nald hx hb hE hP _ f_zq (by omega) (by decide) dL_law_247 ?_
    have bd_247_12 := b_zq (0)
    refine g_iv (v' := nI (n + 1)) (congrArg nI (upd_eq)) ?_
    refine g_imul hx hb dL_law_248 (pk_mul _ _) ?_
    refine lv_iconst (v := nI 2) hx hb dL_law_249 (by decide) ?_
    refine g_isub hx hb dL_law_250 (pk_sub (by omega)) ?_
    refine g_nald hx hb hE hP _ f_zi (by omega) (by decide) dL_law_251 ?_
    have bd_251_13 := b_zi ((3 * (n + 1)) - (2))
    refine g_iv (v' := nI (mn)) (congrArg nI ((by rw [show 3 * (n + 1) - 2 = 3 * n + 1 by omega, upd_ne (by omega), upd_eq]))) ?_
    refine lv_aload_n hx hb dL_law_252 rfl (lv_at hl 8 rfl) ?_
    refine lv_iconst (v := nI 3) hx hb dL_law_253 (by decide) ?_
    refine lv_aload hx hb dL_law_254 (lv_at hl 19 rfl) ?_
    refine lv_iconst (v := nI 0) hx hb dL_law_256 (by decide) ?_
    refine g_nald hx hb hE hP _ f_zq (by omega) (by decide) dL_law_257 ?_
    have bd_257_14 := b_zq (0)
    refine g_iv (v' := nI (n + 1)) (congrArg nI (upd_eq)) ?_
    refine g_imul hx hb dL_law_258 (pk_mul _ _) ?_
    refine lv_iconst (v := nI 1) hx hb dL_law_259 (by decide) ?_
    refine g_isub hx hb dL_law_260 (pk_sub (by omega)) ?_
    refine g_nald hx hb hE hP _ f_zi (by omega) (by decide) dL_law_261 ?_
    have bd_261_15 := b_zi ((3 * (n + 1)) - (1))
    refine g_iv (v' := nI (sn)) (congrArg nI ((by rw [show 3 * (n + 1) - 1 = 3 * n + 2 by omega, upd_eq]))) ?_
    obtain ⟨rL, hL, ⟨hRf, hRl⟩, hRc, hRs⟩ := q_item (D := D) (mi := mi) l hW hp c_148 hg (Nat.le_of_lt_succ hmn) hsn ksn
    refine gcz_V_i (As := [.int (nI (g)), .int (nI (mn)), .int (nI (sn))]) (rest := []) hL ⟨hx, hb, hml, hown, hts⟩ (cwV 3 hts gL_law_X6_item rfl rfl rfl (by decide +kernel) ⟨by show _ ≤ 13; omega, by show _ ≤ 646; omega⟩) hE hZ hP hD hS hA _ f_off rfl rfl rfl rfl hl.1 (Nat.le_of_ble_eq_true rfl) dL_law_262 ⟨by show _ ≤ 600104; (first | omega | (dsimp only; omega)), by show _ ≤ 7301314; (first | omega | (dsimp only; omega))⟩ (fun r_262 u_262 H locs hP hD hS q_262 => ?_)
    obtain ⟨q9, a9, p9, hW⟩ := q_262
    subst q9
    obtain ⟨fs9, f_off⟩ := sw_off hW
    have f_zi := sw_zi hW
    have f_zc := sw_zc hW
    have f_zg := sw_zg hW
    have f_zf := sw_zf hW
    have f_zn := sw_zn hW
    have f_zl := sw_zl hW
    have f_zr := sw_zr hW
    have f_ze := sw_ze hW
    have f_zt := sw_zt hW
    have f_za := sw_za hW
    have f_zw := sw_zw hW
    have f_zq := sw_zq hW
    refine lv_aload hx hb dL_law_265 (lv_at hl 19 rfl) ?_
    refine lv_iconst (v := nI 0) hx hb dL_law_267 (by decide) ?_
    refine g_nald hx hb hE hP _ f_zq (by omega) (by decide) dL_law_268 ?_
    have bd_268_16 := b_zq (0)
    refine g_iv (v' := nI (n + 1)) (congrArg nI (upd_eq)) ?_
    refine lv_iconst (v := nI 1) hx hb dL_law_269 (by decide) ?_
    refine g_isub hx hb dL_law_270 (pk_sub (by omega)) ?_
    refine g_icmp_ne (tgt := 278) hx hb (by omega) (by omega) dL_law_271 (by decide) (fun c_271 => absurd c_271 (fun z => z (by omega))) (fun c_271 => ?_)
    refine lv_iconst (v := nI 1) hx hb dL_law_274 (by decide) ?_
    refine lv_goto (tgt := 279) hx hb dL_law_275 (by decide) ?_
    refine lv_istore (lv' := [(14, .int (nI (1))), (15, .int (nI (tn))), (16, .int (vv)), (17, .int (yv)), (18, .int (nI (act))), (19, .int (zv)), (0, .ref b), (1, .ref (ad 1)), (2, .ref (ad 30)), (3, .ref (ad 31)), (4, .ref (ad 32)), (5, .ref (ad 33)), (6, .ref (ad 34)), (7, .ref (ad 35)), (8, .ref (ad 36)), (9, .ref (ad 37)), (10, .ref (ad 38)), (11, .ref (ad 39)), (12, .ref (ad 40)), (13, .ref (ad 41))]) hx hb dL_law_279 hl (by decide) rfl (fun ls hl => ?_)
    refine lv_goto (tgt := 1021) hx hb dL_law_281 (by decide) ?_
    exact kk _ H locs ls _ _ (by first | omega | (dsimp only; omega)) (by first | omega | (dsimp only; omega)) (Inv.mk hW (hp.item c_148 hg (Nat.le_of_lt_succ hmn) ksn) he.up) hP hD hS (lv_sub hl [0, 1, 5, 6, 7, 8, 9, 10, 11, 12, 13, 14, 15, 16, 17, 18, 19] rfl)
