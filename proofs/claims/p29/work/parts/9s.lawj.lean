/-! a month told by the law -/
section GL14
variable {p : Program} {l : Launch} {e : Env} {R : Room} {s : State} {m : MethodId} {args : Array Value} {below : List Frame} {meth : Method} {c : Code} {H H0 : Heap} {locs : List Loc} {cells slots : Nat} {Q : State → Prop}
variable {cc : ByteArray} {pc : Nat} {ls : Array Slot} {rest : List Value} {D : va_G} {y : Nat → Nat} {A : Nat → Prop} {a : Nat} {ws : va_W}
theorem lg_cmp_neg {a b m : Nat} (h : a < b) (hb : b < 2 ^ 30) (hm : m < 2 ^ 62) : lg_cmp (Int32.toInt64 (nI a - nI b)) (lN m) = -1 := by
  have hs : (Int32.toInt64 (nI a - nI b)).toInt = (a : Int) - b := by
    rw [Int32.toInt_toInt64, pk_sub_toInt (by omega) hb]
  have hdn : (lN m).toInt = (m : Int) := pk_lT (by omega)
  have h1 : ¬ Int32.toInt64 (nI a - nI b) > lN m := by
    show ¬ lN m < _
    rw [Int64.lt_iff_toInt_lt, hs, hdn]; omega
  have h2 : ¬ Int32.toInt64 (nI a - nI b) = lN m := by
    rw [← Int64.toInt_inj, hs, hdn]; omega
  unfold lg_cmp
  rw [if_neg h1, if_neg h2]
theorem g_lcmp_neg (hexec : p.tables.exec = Jvm.exec) (hb : c.code = cc) {a b k : Nat} {off : Int} {tgt : Nat} (h : a < b) (hb9 : b < 2 ^ 30) (hm : k < 2 ^ 62) (hdg : decode cc pc = .ok (.lcmp, 1)) (hdh : decode cc (pc + 1) = .ok (.ifCond .le off, 3)) (ht : ((pc + 1 : Nat) : Int) + off = (tgt : Int)) (kt : W p l e R s m args below meth c H locs cells slots Q (F0 m tgt ls rest)) : W p l e R s m args below meth c H locs cells slots Q (F0 m pc ls (.long (lN k) :: .long (Int32.toInt64 (nI a - nI b)) :: rest)) := by
  refine W.lcmp hexec hb hdg ?_
  rw [lg_cmp_neg h hb9 hm]
  exact lv_if_le hexec hb hdh ht (fun _ => kt) (fun h => absurd (by decide) h)
end GL14
/-- the months' rows of what was adopted -/
def cpF (f a : Nat → Nat) (b : Nat) : Nat → Nat → Nat
  | 0 => f
  | j + 1 => vf_upd (cpF f a b j) (b + j) (a j)
theorem cpF_le {f a : Nat → Nat} {b B : Nat} (h1 : ∀ k, f k ≤ B) (h2 : ∀ k, a k ≤ B) : ∀ j k, cpF f a b j k ≤ B
  | 0 => h1
  | j + 1 => upd_bd (cpF_le h1 h2 j) (h2 j)
theorem cpF_in {f a : Nat → Nat} {b q : Nat} : ∀ {j : Nat}, q < j → cpF f a b j (b + q) = a q
  | 0, h => absurd h (Nat.not_lt_zero _)
  | j + 1, h => by
    show vf_upd (cpF f a b j) (b + j) (a j) (b + q) = a q
    by_cases e : q = j
    · subst e; exact upd_eq
    · rw [upd_ne (by omega)]; exact cpF_in (by omega)
theorem cpF_lo {f a : Nat → Nat} {b k : Nat} (h : k < b) : ∀ {j : Nat}, cpF f a b j k = f k
  | 0 => rfl
  | j + 1 => by
    show vf_upd (cpF f a b j) (b + j) (a j) k = f k
    rw [upd_ne (by omega)]; exact cpF_lo h
set_option maxHeartbeats 4000000 in
set_option maxRecDepth 100000 in
theorem c_L_published (l : Launch) {D : va_G} {ws : va_W} {ad y : Nat → Nat} {nw : Nat} {n : Nat} {nc : Nat} {qn : Nat} {fq : Nat} {mc1 : Int32} {mc2 : Int32} {aita : Nat} {acta : Nat} {qe : Nat → Option Nat} {cents : Nat → Nat} {grams : Nat → Nat} {cf : Nat → Bool} {cc : Nat → Nat} {fx : Nat → Bool} {lc : Nat → Nat} {lg : Nat → Nat} {told : Nat → Nat} {adp : Nat → Nat} {shr : Nat → UInt64} {pr : Nat → UInt64} {rel : Nat → UInt64} {grp : Nat → UInt64} {idx : Nat → UInt64} {num : Nat → Nat} {zi : Nat → Nat} {zc : Nat → Nat} {zg : Nat → Nat} {zf : Nat → Nat} {zn : Nat → Nat} {zl : Nat → Nat} {zr : Nat → Nat} {ze : Nat → Nat} {zt : Nat → Nat} {za : Nat → Nat} {zw : Nat → Nat} {zq : Nat → Nat} {G : Nat → Nat} {M : Nat → Nat} {Sn : Nat → Nat} {fw : Nat → Nat} {lag : Nat → Nat} {trig : Nat → Nat} {fl : Nat → Bool} {fm : Nat → Nat} {cs : Nat → Nat × Nat × Nat × Nat} {pi : Nat} {pc : Nat} {mi : Nat} {j9 : Nat} (hfl : l.stackTraces = false) (hW : SW ad y nw n nc qn fq mc1 mc2 aita acta qe cents grams cf cc fx lc lg told adp shr pr rel grp idx num zi zc zg zf zn zl zr ze zt za zw zq G M Sn fw lag trig fl fm cs pi pc ws) (hp : LInv nw n nc qn fq cents grams cf cc fx lc lg told adp shr pr rel grp idx num zi zc zg zf zn zl zr ze zt za zw zq G M Sn fw lag trig fl fm cs) (hnw5 : nw < 5) (he : EInv nc qn fq zc zn zw j9) : gZi l yL_published wsL_published ({ frames := 7, cells := 0, slots := 0, locals := 201 }) D y (ad 0) mi [.ref (ad 1), .ref (ad 30), .ref (ad 31), .ref (ad 32), .ref (ad 33), .ref (ad 34), .ref (ad 35), .ref (ad 36), .ref (ad 37), .ref (ad 39), .ref (ad 40), .ref (ad 41)] ws (fun r u => r = gb true ∧ Inv ad y (j9 + 1) u) := by
  refine g_metZ (cc := cL_published) (maxL := 20) (by decide) rfl (Nat.le_of_ble_eq_true rfl) ?_
  intro p e s m below meth c A hx hb hml hr hts hown hlocks hE hP hD hS hA hZ ls hl
  have hown : s.vm.findClass RL = some m.cls := hown
  have hl : lv_has ls 20 [(0, .ref (ad 1)), (1, .ref (ad 30)), (2, .ref (ad 31)), (3, .ref (ad 32)), (4, .ref (ad 33)), (5, .ref (ad 34)), (6, .ref (ad 35)), (7, .ref (ad 36)), (8, .ref (ad 37)), (9, .ref (ad 39)), (10, .ref (ad 40)), (11, .ref (ad 41))] := hl
  have hp0 := hp
  obtain ⟨hq, hs3, hdb, bcc, bta, bz, hgm, hit, hem, hcg, hccg, hlg, hdz, hz2, hser, hrz, hsh, hta, hnum, hcw, hcb⟩ := hp0
  obtain ⟨b_zi, b_zc, b_zg, b_zf, b_zn, b_zl, b_zr, b_ze, b_zt, b_za, b_zw, b_zq⟩ := bz
  have he1 := he.1
  obtain ⟨fs9, f0_off⟩ := sw_off hW
  have f0_zi := sw_zi hW
  have f0_zc := sw_zc hW
  have f0_zg := sw_zg hW
  have f0_zf := sw_zf hW
  have f0_zn := sw_zn hW
  have f0_zl := sw_zl hW
  have f0_zr := sw_zr hW
  have f0_ze := sw_ze hW
  have f0_za := sw_za hW
  have f0_zw := sw_zw hW
  have f0_zq := sw_zq hW
  refine lv_iconst (v := nI 0) hx hb dL_published_0 (by decide) ?_
  refine lv_istore (lv' := [(12, .int (nI (0))), (0, .ref (ad 1)), (1, .ref (ad 30)), (2, .ref (ad 31)), (3, .ref (ad 32)), (4, .ref (ad 33)), (5, .ref (ad 34)), (6, .ref (ad 35)), (7, .ref (ad 36)), (8, .ref (ad 37)), (9, .ref (ad 39)), (10, .ref (ad 40)), (11, .ref (ad 41))]) hx hb dL_published_1 hl (by decide) rfl (fun ls hl => ?_)
  refine g_forW (fun k w9 => SW ad y nw n nc qn fq mc1 mc2 aita acta qe cents grams cf cc fx lc lg told adp shr pr rel grp idx num zi zc zg zf zn zl zr (cpF ze za (12 * nw) (k)) zt za zw zq G M Sn fw lag trig fl fm cs pi pc w9) (fun k => [(0, .ref (ad 1)), (1, .ref (ad 30)), (2, .ref (ad 31)), (3, .ref (ad 32)), (4, .ref (ad 33)), (5, .ref (ad 34)), (6, .ref (ad 35)), (7, .ref (ad 36)), (8, .ref (ad 37)), (9, .ref (ad 39)), (10, .ref (ad 40)), (11, .ref (ad 41)), (12, .int (nI (k)))]) (12) (0) 0 0 (by omega) ?_ ?_ hW hP hD hS (lv_sub hl [1, 2, 3, 4, 5, 6, 7, 8, 9, 10, 11, 12, 0] rfl) (Nat.le_of_ble_eq_true rfl) (Nat.le_of_ble_eq_true rfl)
  · intro w3 hW H locs ls hP hD hS hl
    have hl : lv_has ls 20 [(0, .ref (ad 1)), (1, .ref (ad 30)), (2, .ref (ad 31)), (3, .ref (ad 32)), (4, .ref (ad 33)), (5, .ref (ad 34)), (6, .ref (ad 35)), (7, .ref (ad 36)), (8, .ref (ad 37)), (9, .ref (ad 39)), (10, .ref (ad 40)), (11, .ref (ad 41)), (12, .int (nI (12)))] := hl
    have hW : SW ad y nw n nc qn fq mc1 mc2 aita acta qe cents grams cf cc fx lc lg told adp shr pr rel grp idx num zi zc zg zf zn zl zr (cpF ze za (12 * nw) (12)) zt za zw zq G M Sn fw lag trig fl fm cs pi pc w3 := hW
    obtain ⟨fs9, f_off⟩ := sw_off hW
    have f_zi := sw_zi hW
    have f_zc := sw_zc hW
    have f_zg := sw_zg hW
    have f_zf := sw_zf hW
    have f_zn := sw_zn hW
    have f_zl := sw_zl hW
    have f_zr := sw_zr hW
    have f_ze := sw_ze hW
    have f_za := sw_za hW
    have f_zw := sw_zw hW
    have f_zq := sw_zq hW
    have hmi0 : ∀ q, q < 12 → (cpF ze za (12 * nw) (12)) (12 * nw + q) = za q := fun q hq9 => cpF_in hq9
    have hmo0 : ∀ k, k < 12 * nw → (cpF ze za (12 * nw) (12)) k = ze k := fun k hk => cpF_lo hk
    have hb20 : ∀ k, (cpF ze za (12 * nw) (12)) k ≤ 1000000000 := cpF_le b_ze b_za 12
    obtain ⟨shr1, hshr1⟩ : ∃ z : Nat → UInt64, z = shF adp nw shr 4 := ⟨_, rfl⟩
    obtain ⟨rel1, hrel1⟩ : ∃ z : Nat → UInt64, z = relF (sIts cf cents grams lc lg pr M nw) nw rel n := ⟨_, rfl⟩
    obtain ⟨pr1, hpr1⟩ : ∃ z : Nat → UInt64, z = prF (sVal cf cents grams lc lg pr M nw) nw pr n := ⟨_, rfl⟩
    obtain ⟨grp1, hgrp1⟩ : ∃ z : Nat → UInt64, z = grpF G rel1 n nw grp 4 := ⟨_, rfl⟩
    obtain ⟨idx1, hidx1⟩ : ∃ z : Nat → UInt64, z = idxF shr1 grp1 idx nw 5 := ⟨_, rfl⟩
    obtain ⟨num1, hnum1⟩ : ∃ z : Nat → Nat, z = vf_upd num nw (sNumN (idx1 (nw * 5 + 0))) := ⟨_, rfl⟩
    obtain ⟨hn1, hn2, hn3, hLM, hSM, hZM, hHM, hNM⟩ := hp.month hnw5 hmi0 hmo0 hb20 hshr1 hrel1 hpr1 hgrp1 hidx1 hnum1
    have b_num1 : ∀ k, num1 k ≤ 2147483647 := by rw [hnum1]; exact upd_bd bta.2.2 (sNumN_le _)
    have b_ze := hb20
    refine lv_iload hx hb dL_published_3 (lv_at hl 12 rfl) ?_
    refine lv_bipush (v := nI 12) hx hb dL_published_5 (by decide) ?_
    refine g_icmp_ge (tgt := 34) hx hb (by omega) (by omega) dL_published_7 (by decide) (fun c_7 => ?_) (fun c_7 => absurd c_7 (by omega))
    refine lv_aload hx hb dL_published_34 (lv_at hl 11 rfl) ?_
    refine lv_iconst (v := nI 1) hx hb dL_published_36 (by decide) ?_
    refine g_nald hx hb hE hP _ f_zq (by omega) (by decide) dL_published_37 ?_
    have bd_37_1 := b_zq (1)
    refine g_iv (v' := nI (nw)) (congrArg nI (hq.2.1)) ?_
    refine lv_istore (lv' := [(12, .int (nI (nw))), (0, .ref (ad 1)), (1, .ref (ad 30)), (2, .ref (ad 31)), (3, .ref (ad 32)), (4, .ref (ad 33)), (5, .ref (ad 34)), (6, .ref (ad 35)), (7, .ref (ad 36)), (8, .ref (ad 37)), (9, .ref (ad 39)), (10, .ref (ad 40)), (11, .ref (ad 41))]) hx hb dL_published_38 hl (by decide) rfl (fun ls hl => ?_)
    refine lv_iload hx hb dL_published_40 (lv_at hl 0 rfl) ?_
    refine lv_iconst (v := nI 0) hx hb dL_published_42 (by decide) ?_
    refine lv_aload_n hx hb dL_published_43 rfl (lv_at hl 2 rfl) ?_
    refine lv_aload_n hx hb dL_published_44 rfl (lv_at hl 3 rfl) ?_
    refine lv_aload_n hx hb dL_published_45 rfl (lv_at hl 4 rfl) ?_
    refine lv_aload hx hb dL_published_46 (lv_at hl 5 rfl) ?_
    refine lv_aload hx hb dL_published_48 (lv_at hl 6 rfl) ?_
    refine lv_aload hx hb dL_published_50 (lv_at hl 7 rfl) ?_
    refine lv_aload hx hb dL_published_52 (lv_at hl 8 rfl) ?_
    refine lv_aload hx hb dL_published_54 (lv_at hl 9 rfl) ?_
    refine lv_aload hx hb dL_published_56 (lv_at hl 12 rfl) ?_
    refine gc_S_i (As := [.int (nI (nw)), .int (gb (false)), .ref (ad 30), .ref (ad 31), .ref (ad 32), .ref (ad 33), .ref (ad 34), .ref (ad 35), .ref (ad 36), .ref (ad 37), .ref (ad 41)]) (rest := []) (c_L_number l f_zi f_zc f_zg f_zf f_zn f_zl f_zr f_ze f_zq b_zi b_zc b_zg b_zf b_zn b_zl b_zr b_ze b_zq (n := n) (T := nw + 1) (MM := M) (G := G) (M := (rK cf cents grams lc lg pr1)) (o := (sRate cents grams)) (b := (sBase lc lg pr1)) (pr := pr1) (rel := rel1) (grp := grp1) (shr := shr1) (idx := idx1) (by omega) hLM) ⟨hx, hb, hml, hown, hts⟩ (va_cwS 11 hts gL_published_L_number rfl rfl rfl (by decide +kernel) ⟨Nat.le_of_ble_eq_true rfl, Nat.le_of_ble_eq_true rfl⟩) hE hP hD hS hA rfl rfl hl.1 (Nat.le_of_ble_eq_true rfl) dL_published_58 ⟨Nat.le_of_ble_eq_true rfl, Nat.le_of_ble_eq_true rfl⟩ (fun r_58 u_58 H locs hP hD hS q_58 => ?_)
    have q9 := q_58.trans (congrArg nI (hNM (nw) (by omega)).1.symm)
    subst q9
    have nb_58 := b_num1 (nw)
    refine lv_istore (lv' := [(13, .int (nI (num1 (nw)))), (12, .int (nI (nw))), (0, .ref (ad 1)), (1, .ref (ad 30)), (2, .ref (ad 31)), (3, .ref (ad 32)), (4, .ref (ad 33)), (5, .ref (ad 34)), (6, .ref (ad 35)), (7, .ref (ad 36)), (8, .ref (ad 37)), (9, .ref (ad 39)), (10, .ref (ad 40)), (11, .ref (ad 41))]) hx hb dL_published_61 hl (by decide) rfl (fun ls hl => ?_)
    refine lv_iconst (v := nI 0) hx hb dL_published_63 (by decide) ?_
    refine lv_istore (lv' := [(14, .int (nI (0))), (13, .int (nI (num1 (nw)))), (12, .int (nI (nw))), (0, .ref (ad 1)), (1, .ref (ad 30)), (2, .ref (ad 31)), (3, .ref (ad 32)), (4, .ref (ad 33)), (5, .ref (ad 34)), (6, .ref (ad 35)), (7, .ref (ad 36)), (8, .ref (ad 37)), (9, .ref (ad 39)), (10, .ref (ad 40)), (11, .ref (ad 41))]) hx hb dL_published_64 hl (by decide) rfl (fun ls hl => ?_)
    refine g_forW (fun k w9 => ∃ zw1 : Nat → Nat, SW ad y nw n nc qn fq mc1 mc2 aita acta qe cents grams cf cc fx lc lg told adp shr pr rel grp idx num zi zc zg zf zn zl zr (cpF ze za (12 * nw) (12)) zt za zw1 zq G M Sn fw lag trig fl fm cs pi pc w9 ∧ ZwP zw zw1 (fun k => payS (lag k) (trig k) (fl k) num1 nw (cs k)) k) (fun k => [(0, .ref (ad 1)), (1, .ref (ad 30)), (2, .ref (ad 31)), (3, .ref (ad 32)), (4, .ref (ad 33)), (5, .ref (ad 34)), (6, .ref (ad 35)), (7, .ref (ad 36)), (8, .ref (ad 37)), (9, .ref (ad 39)), (10, .ref (ad 40)), (11, .ref (ad 41)), (12, .int (nI (nw))), (13, .int (nI (num1 (nw)))), (14, .int (nI (k)))]) (nc) (0) 0 0 (by omega) ?_ ?_ ⟨zw, hW, ZwP.z b_zw⟩ hP hD hS (lv_sub hl [3, 4, 5, 6, 7, 8, 9, 10, 11, 12, 13, 14, 2, 1, 0] rfl) (Nat.le_of_ble_eq_true rfl) (Nat.le_of_ble_eq_true rfl)
    · intro w66 hW H locs ls hP hD hS hl
      have hl : lv_has ls 20 [(0, .ref (ad 1)), (1, .ref (ad 30)), (2, .ref (ad 31)), (3, .ref (ad 32)), (4, .ref (ad 33)), (5, .ref (ad 34)), (6, .ref (ad 35)), (7, .ref (ad 36)), (8, .ref (ad 37)), (9, .ref (ad 39)), (10, .ref (ad 40)), (11, .ref (ad 41)), (12, .int (nI (nw))), (13, .int (nI (num1 (nw)))), (14, .int (nI (nc)))] := hl
      have hW : ∃ zw1 : Nat → Nat, SW ad y nw n nc qn fq mc1 mc2 aita acta qe cents grams cf cc fx lc lg told adp shr pr rel grp idx num zi zc zg zf zn zl zr (cpF ze za (12 * nw) (12)) zt za zw1 zq G M Sn fw lag trig fl fm cs pi pc w66 ∧ ZwP zw zw1 (fun k => payS (lag k) (trig k) (fl k) num1 nw (cs k)) nc := hW
      obtain ⟨zw1, hW, hz1⟩ := hW
      obtain ⟨fs9, f_off⟩ := sw_off hW
      have f_zi := sw_zi hW
      have f_zc := sw_zc hW
      have f_zg := sw_zg hW
      have f_zf := sw_zf hW
      have f_zn := sw_zn hW
      have f_zl := sw_zl hW
      have f_zr := sw_zr hW
      have f_ze := sw_ze hW
      have f_za := sw_za hW
      have f_zw := sw_zw hW
      have f_zq := sw_zq hW
      have b_zw := hz1.1
      refine lv_iload hx hb dL_published_66 (lv_at hl 14 rfl) ?_
      refine lv_aload hx hb dL_published_68 (lv_at hl 11 rfl) ?_
      refine lv_iconst (v := nI 3) hx hb dL_published_70 (by decide) ?_
      refine g_nald hx hb hE hP _ f_zq (by omega) (by decide) dL_published_71 ?_
      have bd_71_2 := b_zq (3)
      refine g_iv (v' := nI (nc)) (congrArg nI (hq.2.2.2.1)) ?_
      refine g_icmp_ge (tgt := 308) hx hb (by omega) (by omega) dL_published_72 (by decide) (fun c_72 => ?_) (fun c_72 => absurd c_72 (by omega))
      refine lv_aload hx hb dL_published_308 (lv_at hl 11 rfl) ?_
      refine lv_iconst (v := nI 1) hx hb dL_published_310 (by decide) ?_
      refine lv_dup2_11 hx hb dL_published_311 rfl rfl ?_
      refine g_nald hx hb hE hP _ f_zq (by omega) (by decide) dL_published_312 ?_
      have bd_312_3 := b_zq (1)
      refine g_iv (v' := nI (nw)) (congrArg nI (hq.2.1)) ?_
      refine lv_iconst (v := nI 1) hx hb dL_published_313 (by decide) ?_
      refine g_iadd hx hb dL_published_314 (nI_add _ _) ?_
      refine g_nast hx hb hE hP hD hS _ f_zq (by omega) (by decide) dL_published_315 (fun H locs hP hD hS => ?_)
      refine g_fw (sw_set_zq (z9 := vf_upd zq (1) (nw + 1)) hW) hP hD (fun w315_4 hW hP hD => ?_)
      have b_zq := upd_bd (k := 1) (x := nw + 1) b_zq (by omega)
      obtain ⟨fs9, f_off⟩ := sw_off hW
      have f_zi := sw_zi hW
      have f_zc := sw_zc hW
      have f_zg := sw_zg hW
      have f_zf := sw_zf hW
      have f_zn := sw_zn hW
      have f_zl := sw_zl hW
      have f_zr := sw_zr hW
      have f_ze := sw_ze hW
      have f_za := sw_za hW
      have f_zw := sw_zw hW
      have f_zq := sw_zq hW
      refine lv_aload hx hb dL_published_316 (lv_at hl 11 rfl) ?_
      refine lv_iconst (v := nI 2) hx hb dL_published_318 (by decide) ?_
      refine lv_iconst (v := nI 0) hx hb dL_published_319 (by decide) ?_
      refine g_nast hx hb hE hP hD hS _ f_zq (by omega) (by decide) dL_published_320 (fun H locs hP hD hS => ?_)
      refine g_fw (sw_set_zq (z9 := vf_upd (vf_upd zq (1) (nw + 1)) (2) (0)) hW) hP hD (fun w320_5 hW hP hD => ?_)
      have b_zq := upd_bd (k := 2) (x := 0) b_zq (by decide)
      obtain ⟨fs9, f_off⟩ := sw_off hW
      have f_zi := sw_zi hW
      have f_zc := sw_zc hW
      have f_zg := sw_zg hW
      have f_zf := sw_zf hW
      have f_zn := sw_zn hW
      have f_zl := sw_zl hW
      have f_zr := sw_zr hW
      have f_ze := sw_ze hW
      have f_za := sw_za hW
      have f_zw := sw_zw hW
      have f_zq := sw_zq hW
      refine lv_aload_n hx hb dL_published_321 rfl (lv_at hl 0 rfl) ?_
      refine gc_V_i (As := []) (rest := []) (q_publish l hW hp hshr1 hrel1 hpr1 hgrp1 hidx1 hnum1 hnw5 hn1 hn2 hn3) ⟨hx, hb, hml, hown, hts⟩ (cwV 0 hts gL_published_X6_publish rfl rfl rfl (by decide +kernel) ⟨Nat.le_of_ble_eq_true rfl, Nat.le_of_ble_eq_true rfl⟩) hE hP hD hS hA _ f_off rfl rfl rfl rfl hl.1 (Nat.le_of_ble_eq_true rfl) dL_published_322 ⟨Nat.le_of_ble_eq_true rfl, Nat.le_of_ble_eq_true rfl⟩ (fun r_322 u_322 H locs hP hD hS q_322 => ?_)
      obtain ⟨q9, hW⟩ := q_322
      subst q9
      refine lv_iload hx hb dL_published_325 (lv_at hl 13 rfl) ?_
      refine g_icmp_ne (tgt := 334) hx hb (by have := b_num1 nw; omega) (by have := b_num1 nw; omega) dL_published_327 (by decide) (fun c_327 => absurd c_327 (fun z => z rfl)) (fun c_327 => ?_)
      refine lv_iconst (v := nI 1) hx hb dL_published_330 (by decide) ?_
      refine lv_goto (tgt := 335) hx hb dL_published_331 (by decide) ?_
      refine g_zret (r := (gb (true))) hx hb hr hlocks u_322 dL_published_335 (gb_narrow _) hS hP hD ?_
      exact ⟨rfl, Inv.mk hW (hp.publish hnw5 hmi0 hmo0 hb20 hshr1 hrel1 hpr1 hgrp1 hidx1 hnum1 hz1) ⟨Nat.zero_le _, by have := he.2.1; omega, he.2.2.1, fun k hk => (hz1.2.2.1 k hk).2.2.2.trans (he.2.2.2 k hk)⟩⟩
    · intro k hj_k ih_k w66 hW H locs ls hP hD hS hl
      have hl : lv_has ls 20 [(0, .ref (ad 1)), (1, .ref (ad 30)), (2, .ref (ad 31)), (3, .ref (ad 32)), (4, .ref (ad 33)), (5, .ref (ad 34)), (6, .ref (ad 35)), (7, .ref (ad 36)), (8, .ref (ad 37)), (9, .ref (ad 39)), (10, .ref (ad 40)), (11, .ref (ad 41)), (12, .int (nI (nw))), (13, .int (nI (num1 (nw)))), (14, .int (nI (k)))] := hl
      have hW : ∃ zw1 : Nat → Nat, SW ad y nw n nc qn fq mc1 mc2 aita acta qe cents grams cf cc fx lc lg told adp shr pr rel grp idx num zi zc zg zf zn zl zr (cpF ze za (12 * nw) (12)) zt za zw1 zq G M Sn fw lag trig fl fm cs pi pc w66 ∧ ZwP zw zw1 (fun k => payS (lag k) (trig k) (fl k) num1 nw (cs k)) k := hW
      obtain ⟨zw1, hW, hz1⟩ := hW
      obtain ⟨fs9, f_off⟩ := sw_off hW
      have f_zi := sw_zi hW
      have f_zc := sw_zc hW
      have f_zg := sw_zg hW
      have f_zf := sw_zf hW
      have f_zn := sw_zn hW
      have f_zl := sw_zl hW
      have f_zr := sw_zr hW
      have f_ze := sw_ze hW
      have f_za := sw_za hW
      have f_zw := sw_zw hW
      have f_zq := sw_zq hW
      obtain ⟨w1, w2, w3, w4, w5, w6, w7, w8, w9⟩ := hcw k hj_k
      obtain ⟨c1, c2, c3, c4, c5, c6, c7, c8, c9⟩ := hcb k hj_k
      obtain ⟨y1, y2, y3, y7, y8⟩ := hz1.2.2.2 k
      obtain ⟨z0, z4, z5, z6⟩ := hz1.2.2.1 k (Nat.le_refl k)
      have v4 : decide (zw1 (10 * k + 3) = 1) = fl k := by rw [y3]; exact w4
      have b_zw := hz1.1
      refine lv_iload hx hb dL_published_66 (lv_at hl 14 rfl) ?_
      refine lv_aload hx hb dL_published_68 (lv_at hl 11 rfl) ?_
      refine lv_iconst (v := nI 3) hx hb dL_published_70 (by decide) ?_
      refine g_nald hx hb hE hP _ f_zq (by omega) (by decide) dL_published_71 ?_
      have bd_71_6 := b_zq (3)
      refine g_iv (v' := nI (nc)) (congrArg nI (hq.2.2.2.1)) ?_
      refine g_icmp_ge (tgt := 308) hx hb (by omega) (by omega) dL_published_72 (by decide) (fun c_72 => absurd c_72 (by omega)) (fun c_72 => ?_)
      refine lv_iload hx hb dL_published_75 (lv_at hl 12 rfl) ?_
      refine lv_aload hx hb dL_published_77 (lv_at hl 10 rfl) ?_
      refine lv_bipush (v := nI 10) hx hb dL_published_79 (by decide) ?_
      refine lv_iload hx hb dL_published_81 (lv_at hl 14 rfl) ?_
      refine g_imul hx hb dL_published_83 (pk_mul _ _) ?_
      refine lv_iconst (v := nI 1) hx hb dL_published_84 (by decide) ?_
      refine g_iadd hx hb dL_published_85 (nI_add _ _) ?_
      refine g_Lald hx hb hE hP _ f_zw (by omega) (by decide) dL_published_86 ?_
      have bd_86_7 := b_zw ((10 * k) + 1)
      refine g_lv (v' := lN (lag k)) (congrArg lN (y1.trans w2)) ?_
      refine lv_l2i (v := nI (lag k)) hx hb dL_published_87 (lN_i _) ?_
      rcases Nat.lt_or_ge nw (lag k) with hs | hs
      · refine g_isub hx hb dL_published_88 rfl ?_
        refine lv_istore (lv' := [(15, .int (nI nw - nI (lag k))), (0, .ref (ad 1)), (1, .ref (ad 30)), (2, .ref (ad 31)), (3, .ref (ad 32)), (4, .ref (ad 33)), (5, .ref (ad 34)), (6, .ref (ad 35)), (7, .ref (ad 36)), (8, .ref (ad 37)), (9, .ref (ad 39)), (10, .ref (ad 40)), (11, .ref (ad 41)), (12, .int (nI (nw))), (13, .int (nI (num1 (nw)))), (14, .int (nI (k)))]) hx hb dL_published_89 hl (by decide) rfl (fun ls hl => ?_)
        refine lv_iload hx hb dL_published_91 (lv_at hl 0 rfl) ?_
        refine lv_i2l (v := Int32.toInt64 (nI nw - nI (lag k))) hx hb dL_published_93 rfl ?_
        refine lv_aload hx hb dL_published_94 (lv_at hl 11 rfl) ?_
        refine lv_bipush (v := nI 10) hx hb dL_published_96 (by decide) ?_
        refine lv_iload hx hb dL_published_98 (lv_at hl 15 rfl) ?_
        refine g_imul hx hb dL_published_100 (pk_mul _ _) ?_
        refine lv_iconst (v := nI 5) hx hb dL_published_101 (by decide) ?_
        refine g_iadd hx hb dL_published_102 (nI_add _ _) ?_
        refine g_Lald hx hb hE hP _ f_zw (by omega) (by decide) dL_published_103 ?_
        have bd_103_8 := b_zw ((10 * k) + 5)
        refine g_lv (v' := lN ((cs k).2.2.1)) (congrArg lN (z5.trans w6)) ?_
        refine g_lcmp_neg (tgt := 280) hx hb hs (by omega) (by omega) dL_published_104 dL_published_105 (by decide) ?_
        refine lv_aload hx hb dL_published_280 (lv_at hl 11 rfl) ?_
        refine lv_bipush (v := nI 10) hx hb dL_published_282 (by decide) ?_
        refine lv_iload hx hb dL_published_284 (lv_at hl 15 rfl) ?_
        refine g_imul hx hb dL_published_286 (pk_mul _ _) ?_
        refine lv_bipush (v := nI 6) hx hb dL_published_287 (by decide) ?_
        refine g_iadd hx hb dL_published_289 (nI_add _ _) ?_
        refine lv_dup2_11 hx hb dL_published_290 rfl rfl ?_
        refine g_Lald hx hb hE hP _ f_zw (by omega) (by decide) dL_published_291 ?_
        have bd_291_9 := b_zw ((10 * k) + 6)
        refine g_lv (v' := lN ((cs k).2.2.2)) (congrArg lN (z6.trans w7)) ?_
        refine lv_aload hx hb dL_published_292 (lv_at hl 11 rfl) ?_
        refine lv_bipush (v := nI 10) hx hb dL_published_294 (by decide) ?_
        refine lv_iload hx hb dL_published_296 (lv_at hl 15 rfl) ?_
        refine g_imul hx hb dL_published_298 (pk_mul _ _) ?_
        refine g_Lald hx hb hE hP _ f_zw (by omega) (by decide) dL_published_299 ?_
        have bd_299_10 := b_zw (10 * k)
        refine g_lv (v' := lN ((cs k).1)) (congrArg lN (z0.trans w1)) ?_
        refine g_ladd hx hb dL_published_300 (lN_add _ _) ?_
        refine g_Last hx hb hE hP hD hS _ f_zw (by omega) (by decide) dL_published_301 (fun H locs hP hD hS => ?_)
        refine g_fw (sw_set_zw (z9 := vf_upd zw1 ((10 * k) + 6) (((cs k).2.2.2) + ((cs k).1))) hW) hP hD (fun w301_11 hW hP hD => ?_)
        have b_zw := upd_bd (k := (10 * k) + 6) (x := ((cs k).2.2.2) + ((cs k).1)) b_zw (by omega)
        obtain ⟨fs9, f_off⟩ := sw_off hW
        have f_zi := sw_zi hW
        have f_zc := sw_zc hW
        have f_zg := sw_zg hW
        have f_zf := sw_zf hW
        have f_zn := sw_zn hW
        have f_zl := sw_zl hW
        have f_zr := sw_zr hW
        have f_ze := sw_ze hW
        have f_za := sw_za hW
        have f_zw := sw_zw hW
        have f_zq := sw_zq hW
        refine lv_iinc (v := nI (k + 1)) (lv' := [(14, .int (nI (k + 1))), (15, .int (nI nw - nI (lag k))), (0, .ref (ad 1)), (1, .ref (ad 30)), (2, .ref (ad 31)), (3, .ref (ad 32)), (4, .ref (ad 33)), (5, .ref (ad 34)), (6, .ref (ad 35)), (7, .ref (ad 36)), (8, .ref (ad 37)), (9, .ref (ad 39)), (10, .ref (ad 40)), (11, .ref (ad 41)), (12, .int (nI (nw))), (13, .int (nI (num1 (nw))))]) hx hb dL_published_302 hl (k := 15) rfl (nI_add _ 1) (by decide) rfl (fun ls hl => ?_)
        refine lv_goto (tgt := 66) hx hb dL_published_305 (by decide) ?_
        exact ih_k _ ⟨_, hW, hz1.s1 (payC_f (Or.inl hs)) w1 w5 w6 (by omega)⟩ H locs ls hP hD hS (lv_sub hl [2, 3, 4, 5, 6, 7, 8, 9, 10, 11, 12, 13, 14, 15, 0] rfl)
      · refine g_isub hx hb dL_published_88 (pk_sub hs) ?_
        refine lv_istore (lv' := [(15, .int (nI (nw - lag k))), (0, .ref (ad 1)), (1, .ref (ad 30)), (2, .ref (ad 31)), (3, .ref (ad 32)), (4, .ref (ad 33)), (5, .ref (ad 34)), (6, .ref (ad 35)), (7, .ref (ad 36)), (8, .ref (ad 37)), (9, .ref (ad 39)), (10, .ref (ad 40)), (11, .ref (ad 41)), (12, .int (nI (nw))), (13, .int (nI (num1 (nw)))), (14, .int (nI (k)))]) hx hb dL_published_89 hl (by decide) rfl (fun ls hl => ?_)
        refine lv_iload hx hb dL_published_91 (lv_at hl 0 rfl) ?_
        refine lv_i2l (v := lN (nw - lag k)) hx hb dL_published_93 (nI_l (by omega)) ?_
        refine lv_aload hx hb dL_published_94 (lv_at hl 11 rfl) ?_
        refine lv_bipush (v := nI 10) hx hb dL_published_96 (by decide) ?_
        refine lv_iload hx hb dL_published_98 (lv_at hl 15 rfl) ?_
        refine g_imul hx hb dL_published_100 (pk_mul _ _) ?_
        refine lv_iconst (v := nI 5) hx hb dL_published_101 (by decide) ?_
        refine g_iadd hx hb dL_published_102 (nI_add _ _) ?_
        refine g_Lald hx hb hE hP _ f_zw (by omega) (by decide) dL_published_103 ?_
        have bd_103_12 := b_zw ((10 * k) + 5)
        refine g_lv (v' := lN ((cs k).2.2.1)) (congrArg lN (z5.trans w6)) ?_
        refine g_lcmp_le (tgt := 280) hx hb (by omega) (by omega) dL_published_104 dL_published_105 (by decide) (fun c_104 => ?_) (fun c_104 => ?_)
        · refine lv_aload hx hb dL_published_280 (lv_at hl 11 rfl) ?_
          refine lv_bipush (v := nI 10) hx hb dL_published_282 (by decide) ?_
          refine lv_iload hx hb dL_published_284 (lv_at hl 15 rfl) ?_
          refine g_imul hx hb dL_published_286 (pk_mul _ _) ?_
          refine lv_bipush (v := nI 6) hx hb dL_published_287 (by decide) ?_
          refine g_iadd hx hb dL_published_289 (nI_add _ _) ?_
          refine lv_dup2_11 hx hb dL_published_290 rfl rfl ?_
          refine g_Lald hx hb hE hP _ f_zw (by omega) (by decide) dL_published_291 ?_
          have bd_291_13 := b_zw ((10 * k) + 6)
          refine g_lv (v' := lN ((cs k).2.2.2)) (congrArg lN (z6.trans w7)) ?_
          refine lv_aload hx hb dL_published_292 (lv_at hl 11 rfl) ?_
          refine lv_bipush (v := nI 10) hx hb dL_published_294 (by decide) ?_
          refine lv_iload hx hb dL_published_296 (lv_at hl 15 rfl) ?_
          refine g_imul hx hb dL_published_298 (pk_mul _ _) ?_
          refine g_Lald hx hb hE hP _ f_zw (by omega) (by decide) dL_published_299 ?_
          have bd_299_14 := b_zw (10 * k)
          refine g_lv (v' := lN ((cs k).1)) (congrArg lN (z0.trans w1)) ?_
          refine g_ladd hx hb dL_published_300 (lN_add _ _) ?_
          refine g_Last hx hb hE hP hD hS _ f_zw (by omega) (by decide) dL_published_301 (fun H locs hP hD hS => ?_)
          refine g_fw (sw_set_zw (z9 := vf_upd zw1 ((10 * k) + 6) (((cs k).2.2.2) + ((cs k).1))) hW) hP hD (fun w301_15 hW hP hD => ?_)
          have b_zw := upd_bd (k := (10 * k) + 6) (x := ((cs k).2.2.2) + ((cs k).1)) b_zw (by omega)
          obtain ⟨fs9, f_off⟩ := sw_off hW
          have f_zi := sw_zi hW
          have f_zc := sw_zc hW
          have f_zg := sw_zg hW
          have f_zf := sw_zf hW
          have f_zn := sw_zn hW
          have f_zl := sw_zl hW
          have f_zr := sw_zr hW
          have f_ze := sw_ze hW
          have f_za := sw_za hW
          have f_zw := sw_zw hW
          have f_zq := sw_zq hW
          refine lv_iinc (v := nI (k + 1)) (lv' := [(14, .int (nI (k + 1))), (15, .int (nI (nw - lag k))), (0, .ref (ad 1)), (1, .ref (ad 30)), (2, .ref (ad 31)), (3, .ref (ad 32)), (4, .ref (ad 33)), (5, .ref (ad 34)), (6, .ref (ad 35)), (7, .ref (ad 36)), (8, .ref (ad 37)), (9, .ref (ad 39)), (10, .ref (ad 40)), (11, .ref (ad 41)), (12, .int (nI (nw))), (13, .int (nI (num1 (nw))))]) hx hb dL_published_302 hl (k := 15) rfl (nI_add _ 1) (by decide) rfl (fun ls hl => ?_)
          refine lv_goto (tgt := 66) hx hb dL_published_305 (by decide) ?_
          exact ih_k _ ⟨_, hW, hz1.s1 (payC_f (Or.inr (Or.inl c_104))) w1 w5 w6 (by omega)⟩ H locs ls hP hD hS (lv_sub hl [2, 3, 4, 5, 6, 7, 8, 9, 10, 11, 12, 13, 14, 15, 0] rfl)
        · refine lv_iload hx hb dL_published_108 (lv_at hl 0 rfl) ?_
          refine lv_iconst (v := nI 0) hx hb dL_published_110 (by decide) ?_
          refine lv_aload_n hx hb dL_published_111 rfl (lv_at hl 2 rfl) ?_
          refine lv_aload_n hx hb dL_published_112 rfl (lv_at hl 3 rfl) ?_
          refine lv_aload_n hx hb dL_published_113 rfl (lv_at hl 4 rfl) ?_
          refine lv_aload hx hb dL_published_114 (lv_at hl 5 rfl) ?_
          refine lv_aload hx hb dL_published_116 (lv_at hl 6 rfl) ?_
          refine lv_aload hx hb dL_published_118 (lv_at hl 7 rfl) ?_
          refine lv_aload hx hb dL_published_120 (lv_at hl 8 rfl) ?_
          refine lv_aload hx hb dL_published_122 (lv_at hl 9 rfl) ?_
          refine lv_aload hx hb dL_published_124 (lv_at hl 12 rfl) ?_
          refine gc_S_i (As := [.int (nI (nw - lag k)), .int (gb (false)), .ref (ad 30), .ref (ad 31), .ref (ad 32), .ref (ad 33), .ref (ad 34), .ref (ad 35), .ref (ad 36), .ref (ad 37), .ref (ad 41)]) (rest := []) (c_L_number l f_zi f_zc f_zg f_zf f_zn f_zl f_zr f_ze f_zq b_zi b_zc b_zg b_zf b_zn b_zl b_zr b_ze b_zq (n := n) (T := nw + 1) (MM := M) (G := G) (M := (rK cf cents grams lc lg pr1)) (o := (sRate cents grams)) (b := (sBase lc lg pr1)) (pr := pr1) (rel := rel1) (grp := grp1) (shr := shr1) (idx := idx1) (by omega) hLM) ⟨hx, hb, hml, hown, hts⟩ (va_cwS 11 hts gL_published_L_number rfl rfl rfl (by decide +kernel) ⟨Nat.le_of_ble_eq_true rfl, Nat.le_of_ble_eq_true rfl⟩) hE hP hD hS hA rfl rfl hl.1 (Nat.le_of_ble_eq_true rfl) dL_published_126 ⟨Nat.le_of_ble_eq_true rfl, Nat.le_of_ble_eq_true rfl⟩ (fun r_126 u_126 H locs hP hD hS q_126 => ?_)
          have q9 := q_126.trans (congrArg nI (hNM (nw - lag k) (by omega)).1.symm)
          subst q9
          have nb_126 := b_num1 (nw - lag k)
          refine lv_i2l (v := lN (num1 (nw - lag k))) hx hb dL_published_129 (nI_l (by omega)) ?_
          refine lv_lstore (lv' := [(16, .long (lN (num1 (nw - lag k)))), (15, .int (nI (nw - lag k))), (0, .ref (ad 1)), (1, .ref (ad 30)), (2, .ref (ad 31)), (3, .ref (ad 32)), (4, .ref (ad 33)), (5, .ref (ad 34)), (6, .ref (ad 35)), (7, .ref (ad 36)), (8, .ref (ad 37)), (9, .ref (ad 39)), (10, .ref (ad 40)), (11, .ref (ad 41)), (12, .int (nI (nw))), (13, .int (nI (num1 (nw)))), (14, .int (nI (k)))]) hx hb dL_published_130 hl (by decide) rfl (fun ls hl => ?_)
          refine lv_aload hx hb dL_published_132 (lv_at hl 12 rfl) ?_
          refine lv_bipush (v := nI 10) hx hb dL_published_134 (by decide) ?_
          refine lv_iload hx hb dL_published_136 (lv_at hl 16 rfl) ?_
          refine g_imul hx hb dL_published_138 (pk_mul _ _) ?_
          refine g_Lald hx hb hE hP _ f_zw (by omega) (by decide) dL_published_139 ?_
          have bd_139_16 := b_zw (10 * k)
          refine g_lv (v' := lN ((cs k).1)) (congrArg lN (z0.trans w1)) ?_
          refine lv_lload hx hb dL_published_140 (lv_at hl 0 rfl) ?_
          refine lv_aload hx hb dL_published_142 (lv_at hl 12 rfl) ?_
          refine lv_bipush (v := nI 10) hx hb dL_published_144 (by decide) ?_
          refine lv_iload hx hb dL_published_146 (lv_at hl 16 rfl) ?_
          refine g_imul hx hb dL_published_148 (pk_mul _ _) ?_
          refine lv_iconst (v := nI 4) hx hb dL_published_149 (by decide) ?_
          refine g_iadd hx hb dL_published_150 (nI_add _ _) ?_
          refine g_Lald hx hb hE hP _ f_zw (by omega) (by decide) dL_published_151 ?_
          have bd_151_17 := b_zw ((10 * k) + 4)
          refine g_lv (v' := lN ((cs k).2.1)) (congrArg lN (z4.trans w5)) ?_
          refine lv_aload hx hb dL_published_152 (lv_at hl 12 rfl) ?_
          refine lv_bipush (v := nI 10) hx hb dL_published_154 (by decide) ?_
          refine lv_iload hx hb dL_published_156 (lv_at hl 16 rfl) ?_
          refine g_imul hx hb dL_published_158 (pk_mul _ _) ?_
          refine lv_iconst (v := nI 2) hx hb dL_published_159 (by decide) ?_
          refine g_iadd hx hb dL_published_160 (nI_add _ _) ?_
          refine g_Lald hx hb hE hP _ f_zw (by omega) (by decide) dL_published_161 ?_
          have bd_161_18 := b_zw ((10 * k) + 2)
          refine g_lv (v' := lN (trig k)) (congrArg lN (y2.trans w3)) ?_
          refine g_reg (J := 182) (st1 := [.int (gb (fl k)), .long (lN (trig k)), .long (lN ((cs k).2.1)), .long (lN (num1 (nw - lag k))), .long (lN ((cs k).1))]) hP hD hS (fun K_182 => ?_) (fun H locs hP hD hS => ?_)
          · refine lv_aload hx hb dL_published_162 (lv_at hl 12 rfl) ?_
            refine lv_bipush (v := nI 10) hx hb dL_published_164 (by decide) ?_
            refine lv_iload hx hb dL_published_166 (lv_at hl 16 rfl) ?_
            refine g_imul hx hb dL_published_168 (pk_mul _ _) ?_
            refine lv_iconst (v := nI 3) hx hb dL_published_169 (by decide) ?_
            refine g_iadd hx hb dL_published_170 (nI_add _ _) ?_
            refine g_Lald hx hb hE hP _ f_zw (by omega) (by decide) dL_published_171 ?_
            have bd_171_19 := b_zw ((10 * k) + 3)
            refine lv_lconst (v := lN 1) hx hb dL_published_172 (by decide) ?_
            refine g_lcmp_ne (tgt := 181) hx hb (by have := b_zw (10 * k + 3); omega) (by decide) dL_published_173 dL_published_174 (by decide) (fun c_173 => ?_) (fun c_173 => ?_)
            · refine lv_iconst (v := nI 0) hx hb dL_published_181 (by decide) ?_
              refine g_iv (v' := (gb (fl k))) ((congrArg gb (v4.symm.trans (decide_eq_false c_173)).symm)) ?_
              exact K_182 _ _ hP hD hS
            · refine lv_iconst (v := nI 1) hx hb dL_published_177 (by decide) ?_
              refine lv_goto (tgt := 182) hx hb dL_published_178 (by decide) ?_
              refine g_iv (v' := (gb (fl k))) ((congrArg gb (v4.symm.trans (decide_eq_true c_173)).symm)) ?_
              exact K_182 _ _ hP hD hS
          refine gc_S_l (As := [.long (lN ((cs k).1)), .long (lN (num1 (nw - lag k))), .long (lN ((cs k).2.1)), .long (lN (trig k)), .int (gb (fl k))]) (rest := []) (c_L_tied l c5 (by omega) c6 c7 c3) ⟨hx, hb, hml, hown, hts⟩ (va_cwS 5 hts gL_published_L_tied rfl rfl rfl (by decide +kernel) ⟨Nat.le_of_ble_eq_true rfl, Nat.le_of_ble_eq_true rfl⟩) hE hP hD hS hA rfl rfl hl.1 (Nat.le_of_ble_eq_true rfl) dL_published_182 ⟨Nat.le_of_ble_eq_true rfl, Nat.le_of_ble_eq_true rfl⟩ (fun r_182 u_182 H locs hP hD hS q_182 => ?_)
          subst q_182
          have pw9 := pW_le (cs k).1 (num1 (nw - lag k)) (cs k).2.1
          cases htt : tie (cs k).2.1 (trig k) (fl k) (num1 (nw - lag k))
          · refine g_lv (v' := (-1)) (tieV_f htt) ?_
            refine lv_lstore (lv' := [(18, .long (-1)), (16, .long (lN (num1 (nw - lag k)))), (15, .int (nI (nw - lag k))), (0, .ref (ad 1)), (1, .ref (ad 30)), (2, .ref (ad 31)), (3, .ref (ad 32)), (4, .ref (ad 33)), (5, .ref (ad 34)), (6, .ref (ad 35)), (7, .ref (ad 36)), (8, .ref (ad 37)), (9, .ref (ad 39)), (10, .ref (ad 40)), (11, .ref (ad 41)), (12, .int (nI (nw))), (13, .int (nI (num1 (nw)))), (14, .int (nI (k)))]) hx hb dL_published_185 hl (by decide) rfl (fun ls hl => ?_)
            refine lv_aload hx hb dL_published_187 (lv_at hl 13 rfl) ?_
            refine lv_bipush (v := nI 10) hx hb dL_published_189 (by decide) ?_
            refine lv_iload hx hb dL_published_191 (lv_at hl 17 rfl) ?_
            refine g_imul hx hb dL_published_193 (pk_mul _ _) ?_
            refine lv_iconst (v := nI 4) hx hb dL_published_194 (by decide) ?_
            refine g_iadd hx hb dL_published_195 (nI_add _ _) ?_
            refine lv_lload hx hb dL_published_196 (lv_at hl 0 rfl) ?_
            refine lv_lconst (v := lN 0) hx hb dL_published_198 (by decide) ?_
            refine g_m1_ge (tgt := 216) hx hb dL_published_199 dL_published_200 (by decide) ?_
            refine lv_aload hx hb dL_published_203 (lv_at hl 13 rfl) ?_
            refine lv_bipush (v := nI 10) hx hb dL_published_205 (by decide) ?_
            refine lv_iload hx hb dL_published_207 (lv_at hl 17 rfl) ?_
            refine g_imul hx hb dL_published_209 (pk_mul _ _) ?_
            refine lv_iconst (v := nI 4) hx hb dL_published_210 (by decide) ?_
            refine g_iadd hx hb dL_published_211 (nI_add _ _) ?_
            refine g_Lald hx hb hE hP _ f_zw (by omega) (by decide) dL_published_212 ?_
            have bd_212_20 := b_zw ((10 * k) + 4)
            refine g_lv (v' := lN ((cs k).2.1)) (congrArg lN (z4.trans w5)) ?_
            refine lv_goto (tgt := 218) hx hb dL_published_213 (by decide) ?_
            refine g_Last hx hb hE hP hD hS _ f_zw (by omega) (by decide) dL_published_218 (fun H locs hP hD hS => ?_)
            refine g_fw (sw_set_zw (z9 := vf_upd zw1 ((10 * k) + 4) ((cs k).2.1)) hW) hP hD (fun w218_21 hW hP hD => ?_)
            have b_zw := upd_bd (k := (10 * k) + 4) (x := (cs k).2.1) b_zw (by omega)
            obtain ⟨fs9, f_off⟩ := sw_off hW
            have f_zi := sw_zi hW
            have f_zc := sw_zc hW
            have f_zg := sw_zg hW
            have f_zf := sw_zf hW
            have f_zn := sw_zn hW
            have f_zl := sw_zl hW
            have f_zr := sw_zr hW
            have f_ze := sw_ze hW
            have f_za := sw_za hW
            have f_zw := sw_zw hW
            have f_zq := sw_zq hW
            refine lv_aload hx hb dL_published_219 (lv_at hl 13 rfl) ?_
            refine lv_bipush (v := nI 10) hx hb dL_published_221 (by decide) ?_
            refine lv_iload hx hb dL_published_223 (lv_at hl 17 rfl) ?_
            refine g_imul hx hb dL_published_225 (pk_mul _ _) ?_
            refine lv_iconst (v := nI 5) hx hb dL_published_226 (by decide) ?_
            refine g_iadd hx hb dL_published_227 (nI_add _ _) ?_
            refine lv_lload hx hb dL_published_228 (lv_at hl 0 rfl) ?_
            refine lv_lconst (v := lN 0) hx hb dL_published_230 (by decide) ?_
            refine g_m1_ge (tgt := 248) hx hb dL_published_231 dL_published_232 (by decide) ?_
            refine lv_aload hx hb dL_published_235 (lv_at hl 13 rfl) ?_
            refine lv_bipush (v := nI 10) hx hb dL_published_237 (by decide) ?_
            refine lv_iload hx hb dL_published_239 (lv_at hl 17 rfl) ?_
            refine g_imul hx hb dL_published_241 (pk_mul _ _) ?_
            refine lv_iconst (v := nI 5) hx hb dL_published_242 (by decide) ?_
            refine g_iadd hx hb dL_published_243 (nI_add _ _) ?_
            refine g_Lald hx hb hE hP _ f_zw (by omega) (by decide) dL_published_244 ?_
            have bd_244_22 := b_zw ((10 * k) + 5)
            refine g_lv (v' := lN ((cs k).2.2.1)) (congrArg lN ((upd_ne (by omega)).trans (z5.trans w6))) ?_
            refine lv_goto (tgt := 251) hx hb dL_published_245 (by decide) ?_
            refine g_Last hx hb hE hP hD hS _ f_zw (by omega) (by decide) dL_published_251 (fun H locs hP hD hS => ?_)
            refine g_fw (sw_set_zw (z9 := vf_upd (vf_upd zw1 ((10 * k) + 4) ((cs k).2.1)) ((10 * k) + 5) ((cs k).2.2.1)) hW) hP hD (fun w251_23 hW hP hD => ?_)
            have b_zw := upd_bd (k := (10 * k) + 5) (x := (cs k).2.2.1) b_zw (by omega)
            obtain ⟨fs9, f_off⟩ := sw_off hW
            have f_zi := sw_zi hW
            have f_zc := sw_zc hW
            have f_zg := sw_zg hW
            have f_zf := sw_zf hW
            have f_zn := sw_zn hW
            have f_zl := sw_zl hW
            have f_zr := sw_zr hW
            have f_ze := sw_ze hW
            have f_za := sw_za hW
            have f_zw := sw_zw hW
            have f_zq := sw_zq hW
            refine lv_aload hx hb dL_published_252 (lv_at hl 13 rfl) ?_
            refine lv_bipush (v := nI 10) hx hb dL_published_254 (by decide) ?_
            refine lv_iload hx hb dL_published_256 (lv_at hl 17 rfl) ?_
            refine g_imul hx hb dL_published_258 (pk_mul _ _) ?_
            refine lv_lload hx hb dL_published_259 (lv_at hl 0 rfl) ?_
            refine lv_lconst (v := lN 0) hx hb dL_published_261 (by decide) ?_
            refine g_m1_ge (tgt := 277) hx hb dL_published_262 dL_published_263 (by decide) ?_
            refine lv_aload hx hb dL_published_266 (lv_at hl 13 rfl) ?_
            refine lv_bipush (v := nI 10) hx hb dL_published_268 (by decide) ?_
            refine lv_iload hx hb dL_published_270 (lv_at hl 17 rfl) ?_
            refine g_imul hx hb dL_published_272 (pk_mul _ _) ?_
            refine g_Lald hx hb hE hP _ f_zw (by omega) (by decide) dL_published_273 ?_
            have bd_273_24 := b_zw (10 * k)
            refine g_lv (v' := lN ((cs k).1)) (congrArg lN ((upd_ne (by omega)).trans ((upd_ne (by omega)).trans (z0.trans w1)))) ?_
            refine lv_goto (tgt := 279) hx hb dL_published_274 (by decide) ?_
            refine g_Last hx hb hE hP hD hS _ f_zw (by omega) (by decide) dL_published_279 (fun H locs hP hD hS => ?_)
            refine g_fw (sw_set_zw (z9 := vf_upd (vf_upd (vf_upd zw1 ((10 * k) + 4) ((cs k).2.1)) ((10 * k) + 5) ((cs k).2.2.1)) (10 * k) ((cs k).1)) hW) hP hD (fun w279_25 hW hP hD => ?_)
            have b_zw := upd_bd (k := 10 * k) (x := (cs k).1) b_zw (by omega)
            obtain ⟨fs9, f_off⟩ := sw_off hW
            have f_zi := sw_zi hW
            have f_zc := sw_zc hW
            have f_zg := sw_zg hW
            have f_zf := sw_zf hW
            have f_zn := sw_zn hW
            have f_zl := sw_zl hW
            have f_zr := sw_zr hW
            have f_ze := sw_ze hW
            have f_za := sw_za hW
            have f_zw := sw_zw hW
            have f_zq := sw_zq hW
            refine lv_aload hx hb dL_published_280 (lv_at hl 13 rfl) ?_
            refine lv_bipush (v := nI 10) hx hb dL_published_282 (by decide) ?_
            refine lv_iload hx hb dL_published_284 (lv_at hl 17 rfl) ?_
            refine g_imul hx hb dL_published_286 (pk_mul _ _) ?_
            refine lv_bipush (v := nI 6) hx hb dL_published_287 (by decide) ?_
            refine g_iadd hx hb dL_published_289 (nI_add _ _) ?_
            refine lv_dup2_11 hx hb dL_published_290 rfl rfl ?_
            refine g_Lald hx hb hE hP _ f_zw (by omega) (by decide) dL_published_291 ?_
            have bd_291_26 := b_zw ((10 * k) + 6)
            refine g_lv (v' := lN ((cs k).2.2.2)) (congrArg lN ((upd_ne (by omega)).trans ((upd_ne (by omega)).trans ((upd_ne (by omega)).trans (z6.trans w7))))) ?_
            refine lv_aload hx hb dL_published_292 (lv_at hl 13 rfl) ?_
            refine lv_bipush (v := nI 10) hx hb dL_published_294 (by decide) ?_
            refine lv_iload hx hb dL_published_296 (lv_at hl 17 rfl) ?_
            refine g_imul hx hb dL_published_298 (pk_mul _ _) ?_
            refine g_Lald hx hb hE hP _ f_zw (by omega) (by decide) dL_published_299 ?_
            have bd_299_27 := b_zw (10 * k)
            refine g_lv (v' := lN ((cs k).1)) (congrArg lN (upd_eq)) ?_
            refine g_ladd hx hb dL_published_300 (lN_add _ _) ?_
            refine g_Last hx hb hE hP hD hS _ f_zw (by omega) (by decide) dL_published_301 (fun H locs hP hD hS => ?_)
            refine g_fw (sw_set_zw (z9 := vf_upd (vf_upd (vf_upd (vf_upd zw1 ((10 * k) + 4) ((cs k).2.1)) ((10 * k) + 5) ((cs k).2.2.1)) (10 * k) ((cs k).1)) ((10 * k) + 6) (((cs k).2.2.2) + ((cs k).1))) hW) hP hD (fun w301_28 hW hP hD => ?_)
            have b_zw := upd_bd (k := (10 * k) + 6) (x := ((cs k).2.2.2) + ((cs k).1)) b_zw (by omega)
            obtain ⟨fs9, f_off⟩ := sw_off hW
            have f_zi := sw_zi hW
            have f_zc := sw_zc hW
            have f_zg := sw_zg hW
            have f_zf := sw_zf hW
            have f_zn := sw_zn hW
            have f_zl := sw_zl hW
            have f_zr := sw_zr hW
            have f_ze := sw_ze hW
            have f_za := sw_za hW
            have f_zw := sw_zw hW
            have f_zq := sw_zq hW
            refine lv_iinc (v := nI (k + 1)) (lv' := [(14, .int (nI (k + 1))), (18, .long (-1)), (16, .long (lN (num1 (nw - lag k)))), (15, .int (nI (nw - lag k))), (0, .ref (ad 1)), (1, .ref (ad 30)), (2, .ref (ad 31)), (3, .ref (ad 32)), (4, .ref (ad 33)), (5, .ref (ad 34)), (6, .ref (ad 35)), (7, .ref (ad 36)), (8, .ref (ad 37)), (9, .ref (ad 39)), (10, .ref (ad 40)), (11, .ref (ad 41)), (12, .int (nI (nw))), (13, .int (nI (num1 (nw))))]) hx hb dL_published_302 hl (k := 17) rfl (nI_add _ 1) (by decide) rfl (fun ls hl => ?_)
            refine lv_goto (tgt := 66) hx hb dL_published_305 (by decide) ?_
            exact ih_k _ ⟨_, hW, hz1.s (payC_f (Or.inr (Or.inr htt))) ⟨by omega, by omega, by omega, by omega⟩⟩ H locs ls hP hD hS (lv_sub hl [4, 5, 6, 7, 8, 9, 10, 11, 12, 13, 14, 15, 16, 17, 0] rfl)
          · refine g_lv (v' := (lN (pW (cs k).1 (num1 (nw - lag k)) (cs k).2.1))) (tieV_t htt) ?_
            refine lv_lstore (lv' := [(18, .long (lN (pW (cs k).1 (num1 (nw - lag k)) (cs k).2.1))), (16, .long (lN (num1 (nw - lag k)))), (15, .int (nI (nw - lag k))), (0, .ref (ad 1)), (1, .ref (ad 30)), (2, .ref (ad 31)), (3, .ref (ad 32)), (4, .ref (ad 33)), (5, .ref (ad 34)), (6, .ref (ad 35)), (7, .ref (ad 36)), (8, .ref (ad 37)), (9, .ref (ad 39)), (10, .ref (ad 40)), (11, .ref (ad 41)), (12, .int (nI (nw))), (13, .int (nI (num1 (nw)))), (14, .int (nI (k)))]) hx hb dL_published_185 hl (by decide) rfl (fun ls hl => ?_)
            refine lv_aload hx hb dL_published_187 (lv_at hl 13 rfl) ?_
            refine lv_bipush (v := nI 10) hx hb dL_published_189 (by decide) ?_
            refine lv_iload hx hb dL_published_191 (lv_at hl 17 rfl) ?_
            refine g_imul hx hb dL_published_193 (pk_mul _ _) ?_
            refine lv_iconst (v := nI 4) hx hb dL_published_194 (by decide) ?_
            refine g_iadd hx hb dL_published_195 (nI_add _ _) ?_
            refine lv_lload hx hb dL_published_196 (lv_at hl 0 rfl) ?_
            refine lv_lconst (v := lN 0) hx hb dL_published_198 (by decide) ?_
            refine g_lcmp_ge (tgt := 216) hx hb (by omega) (by decide) dL_published_199 dL_published_200 (by decide) (fun c_199 => ?_) (fun c_199 => absurd c_199 (by omega))
            refine lv_lload hx hb dL_published_216 (lv_at hl 1 rfl) ?_
            refine g_Last hx hb hE hP hD hS _ f_zw (by omega) (by decide) dL_published_218 (fun H locs hP hD hS => ?_)
            refine g_fw (sw_set_zw (z9 := vf_upd zw1 ((10 * k) + 4) (num1 (nw - lag k))) hW) hP hD (fun w218_29 hW hP hD => ?_)
            have b_zw := upd_bd (k := (10 * k) + 4) (x := num1 (nw - lag k)) b_zw (by omega)
            obtain ⟨fs9, f_off⟩ := sw_off hW
            have f_zi := sw_zi hW
            have f_zc := sw_zc hW
            have f_zg := sw_zg hW
            have f_zf := sw_zf hW
            have f_zn := sw_zn hW
            have f_zl := sw_zl hW
            have f_zr := sw_zr hW
            have f_ze := sw_ze hW
            have f_za := sw_za hW
            have f_zw := sw_zw hW
            have f_zq := sw_zq hW
            refine lv_aload hx hb dL_published_219 (lv_at hl 13 rfl) ?_
            refine lv_bipush (v := nI 10) hx hb dL_published_221 (by decide) ?_
            refine lv_iload hx hb dL_published_223 (lv_at hl 17 rfl) ?_
            refine g_imul hx hb dL_published_225 (pk_mul _ _) ?_
            refine lv_iconst (v := nI 5) hx hb dL_published_226 (by decide) ?_
            refine g_iadd hx hb dL_published_227 (nI_add _ _) ?_
            refine lv_lload hx hb dL_published_228 (lv_at hl 0 rfl) ?_
            refine lv_lconst (v := lN 0) hx hb dL_published_230 (by decide) ?_
            refine g_lcmp_ge (tgt := 248) hx hb (by omega) (by decide) dL_published_231 dL_published_232 (by decide) (fun c_231 => ?_) (fun c_231 => absurd c_231 (by omega))
            refine lv_iload hx hb dL_published_248 (lv_at hl 2 rfl) ?_
            refine lv_i2l (v := lN (nw - lag k)) hx hb dL_published_250 (nI_l (by omega)) ?_
            refine g_Last hx hb hE hP hD hS _ f_zw (by omega) (by decide) dL_published_251 (fun H locs hP hD hS => ?_)
            refine g_fw (sw_set_zw (z9 := vf_upd (vf_upd zw1 ((10 * k) + 4) (num1 (nw - lag k))) ((10 * k) + 5) (nw - lag k)) hW) hP hD (fun w251_30 hW hP hD => ?_)
            have b_zw := upd_bd (k := (10 * k) + 5) (x := nw - lag k) b_zw (by omega)
            obtain ⟨fs9, f_off⟩ := sw_off hW
            have f_zi := sw_zi hW
            have f_zc := sw_zc hW
            have f_zg := sw_zg hW
            have f_zf := sw_zf hW
            have f_zn := sw_zn hW
            have f_zl := sw_zl hW
            have f_zr := sw_zr hW
            have f_ze := sw_ze hW
            have f_za := sw_za hW
            have f_zw := sw_zw hW
            have f_zq := sw_zq hW
            refine lv_aload hx hb dL_published_252 (lv_at hl 13 rfl) ?_
            refine lv_bipush (v := nI 10) hx hb dL_published_254 (by decide) ?_
            refine lv_iload hx hb dL_published_256 (lv_at hl 17 rfl) ?_
            refine g_imul hx hb dL_published_258 (pk_mul _ _) ?_
            refine lv_lload hx hb dL_published_259 (lv_at hl 0 rfl) ?_
            refine lv_lconst (v := lN 0) hx hb dL_published_261 (by decide) ?_
            refine g_lcmp_ge (tgt := 277) hx hb (by omega) (by decide) dL_published_262 dL_published_263 (by decide) (fun c_262 => ?_) (fun c_262 => absurd c_262 (by omega))
            refine lv_lload hx hb dL_published_277 (lv_at hl 0 rfl) ?_
            refine g_Last hx hb hE hP hD hS _ f_zw (by omega) (by decide) dL_published_279 (fun H locs hP hD hS => ?_)
            refine g_fw (sw_set_zw (z9 := vf_upd (vf_upd (vf_upd zw1 ((10 * k) + 4) (num1 (nw - lag k))) ((10 * k) + 5) (nw - lag k)) (10 * k) (pW (cs k).1 (num1 (nw - lag k)) (cs k).2.1)) hW) hP hD (fun w279_31 hW hP hD => ?_)
            have b_zw := upd_bd (k := 10 * k) (x := pW (cs k).1 (num1 (nw - lag k)) (cs k).2.1) b_zw (by omega)
            obtain ⟨fs9, f_off⟩ := sw_off hW
            have f_zi := sw_zi hW
            have f_zc := sw_zc hW
            have f_zg := sw_zg hW
            have f_zf := sw_zf hW
            have f_zn := sw_zn hW
            have f_zl := sw_zl hW
            have f_zr := sw_zr hW
            have f_ze := sw_ze hW
            have f_za := sw_za hW
            have f_zw := sw_zw hW
            have f_zq := sw_zq hW
            refine lv_aload hx hb dL_published_280 (lv_at hl 13 rfl) ?_
            refine lv_bipush (v := nI 10) hx hb dL_published_282 (by decide) ?_
            refine lv_iload hx hb dL_published_284 (lv_at hl 17 rfl) ?_
            refine g_imul hx hb dL_published_286 (pk_mul _ _) ?_
            refine lv_bipush (v := nI 6) hx hb dL_published_287 (by decide) ?_
            refine g_iadd hx hb dL_published_289 (nI_add _ _) ?_
            refine lv_dup2_11 hx hb dL_published_290 rfl rfl ?_
            refine g_Lald hx hb hE hP _ f_zw (by omega) (by decide) dL_published_291 ?_
            have bd_291_32 := b_zw ((10 * k) + 6)
            refine g_lv (v' := lN ((cs k).2.2.2)) (congrArg lN ((upd_ne (by omega)).trans ((upd_ne (by omega)).trans ((upd_ne (by omega)).trans (z6.trans w7))))) ?_
            refine lv_aload hx hb dL_published_292 (lv_at hl 13 rfl) ?_
            refine lv_bipush (v := nI 10) hx hb dL_published_294 (by decide) ?_
            refine lv_iload hx hb dL_published_296 (lv_at hl 17 rfl) ?_
            refine g_imul hx hb dL_published_298 (pk_mul _ _) ?_
            refine g_Lald hx hb hE hP _ f_zw (by omega) (by decide) dL_published_299 ?_
            have bd_299_33 := b_zw (10 * k)
            refine g_lv (v' := lN (pW (cs k).1 (num1 (nw - lag k)) (cs k).2.1)) (congrArg lN (upd_eq)) ?_
            refine g_ladd hx hb dL_published_300 (lN_add _ _) ?_
            refine g_Last hx hb hE hP hD hS _ f_zw (by omega) (by decide) dL_published_301 (fun H locs hP hD hS => ?_)
            refine g_fw (sw_set_zw (z9 := vf_upd (vf_upd (vf_upd (vf_upd zw1 ((10 * k) + 4) (num1 (nw - lag k))) ((10 * k) + 5) (nw - lag k)) (10 * k) (pW (cs k).1 (num1 (nw - lag k)) (cs k).2.1)) ((10 * k) + 6) (((cs k).2.2.2) + (pW (cs k).1 (num1 (nw - lag k)) (cs k).2.1))) hW) hP hD (fun w301_34 hW hP hD => ?_)
            have b_zw := upd_bd (k := (10 * k) + 6) (x := ((cs k).2.2.2) + (pW (cs k).1 (num1 (nw - lag k)) (cs k).2.1)) b_zw (by omega)
            obtain ⟨fs9, f_off⟩ := sw_off hW
            have f_zi := sw_zi hW
            have f_zc := sw_zc hW
            have f_zg := sw_zg hW
            have f_zf := sw_zf hW
            have f_zn := sw_zn hW
            have f_zl := sw_zl hW
            have f_zr := sw_zr hW
            have f_ze := sw_ze hW
            have f_za := sw_za hW
            have f_zw := sw_zw hW
            have f_zq := sw_zq hW
            refine lv_iinc (v := nI (k + 1)) (lv' := [(14, .int (nI (k + 1))), (18, .long (lN (pW (cs k).1 (num1 (nw - lag k)) (cs k).2.1))), (16, .long (lN (num1 (nw - lag k)))), (15, .int (nI (nw - lag k))), (0, .ref (ad 1)), (1, .ref (ad 30)), (2, .ref (ad 31)), (3, .ref (ad 32)), (4, .ref (ad 33)), (5, .ref (ad 34)), (6, .ref (ad 35)), (7, .ref (ad 36)), (8, .ref (ad 37)), (9, .ref (ad 39)), (10, .ref (ad 40)), (11, .ref (ad 41)), (12, .int (nI (nw))), (13, .int (nI (num1 (nw))))]) hx hb dL_published_302 hl (k := 17) rfl (nI_add _ 1) (by decide) rfl (fun ls hl => ?_)
            refine lv_goto (tgt := 66) hx hb dL_published_305 (by decide) ?_
            exact ih_k _ ⟨_, hW, hz1.s (payC_t hs c_104 htt) ⟨by omega, by omega, by omega, by omega⟩⟩ H locs ls hP hD hS (lv_sub hl [4, 5, 6, 7, 8, 9, 10, 11, 12, 13, 14, 15, 16, 17, 0] rfl)
  · intro k hj_k ih_k w3 hW H locs ls hP hD hS hl
    have hl : lv_has ls 20 [(0, .ref (ad 1)), (1, .ref (ad 30)), (2, .ref (ad 31)), (3, .ref (ad 32)), (4, .ref (ad 33)), (5, .ref (ad 34)), (6, .ref (ad 35)), (7, .ref (ad 36)), (8, .ref (ad 37)), (9, .ref (ad 39)), (10, .ref (ad 40)), (11, .ref (ad 41)), (12, .int (nI (k)))] := hl
    have hW : SW ad y nw n nc qn fq mc1 mc2 aita acta qe cents grams cf cc fx lc lg told adp shr pr rel grp idx num zi zc zg zf zn zl zr (cpF ze za (12 * nw) (k)) zt za zw zq G M Sn fw lag trig fl fm cs pi pc w3 := hW
    obtain ⟨fs9, f_off⟩ := sw_off hW
    have f_zi := sw_zi hW
    have f_zc := sw_zc hW
    have f_zg := sw_zg hW
    have f_zf := sw_zf hW
    have f_zn := sw_zn hW
    have f_zl := sw_zl hW
    have f_zr := sw_zr hW
    have f_ze := sw_ze hW
    have f_za := sw_za hW
    have f_zw := sw_zw hW
    have f_zq := sw_zq hW
    have b_ze := cpF_le (b := 12 * nw) b_ze b_za k
    refine lv_iload hx hb dL_published_3 (lv_at hl 12 rfl) ?_
    refine lv_bipush (v := nI 12) hx hb dL_published_5 (by decide) ?_
    refine g_icmp_ge (tgt := 34) hx hb (by omega) (by omega) dL_published_7 (by decide) (fun c_7 => absurd c_7 (by omega)) (fun c_7 => ?_)
    refine lv_aload hx hb dL_published_10 (lv_at hl 8 rfl) ?_
    refine lv_bipush (v := nI 12) hx hb dL_published_12 (by decide) ?_
    refine lv_aload hx hb dL_published_14 (lv_at hl 11 rfl) ?_
    refine lv_iconst (v := nI 1) hx hb dL_published_16 (by decide) ?_
    refine g_nald hx hb hE hP _ f_zq (by omega) (by decide) dL_published_17 ?_
    have bd_17_35 := b_zq (1)
    refine g_iv (v' := nI (nw)) (congrArg nI (hq.2.1)) ?_
    refine g_imul hx hb dL_published_18 (pk_mul _ _) ?_
    refine lv_iload hx hb dL_published_19 (lv_at hl 12 rfl) ?_
    refine g_iadd hx hb dL_published_21 (nI_add _ _) ?_
    refine lv_aload hx hb dL_published_22 (lv_at hl 9 rfl) ?_
    refine lv_iload hx hb dL_published_24 (lv_at hl 12 rfl) ?_
    refine g_nald hx hb hE hP _ f_za (by omega) (by decide) dL_published_26 ?_
    have bd_26_36 := b_za (k)
    refine g_nast hx hb hE hP hD hS _ f_ze (by omega) (by decide) dL_published_27 (fun H locs hP hD hS => ?_)
    refine g_fw (sw_set_ze (z9 := vf_upd (cpF ze za (12 * nw) (k)) ((12 * nw) + k) (za k)) hW) hP hD (fun w27_37 hW hP hD => ?_)
    have b_ze := upd_bd (k := (12 * nw) + k) (x := za k) b_ze (by have := b_za k; omega)
    obtain ⟨fs9, f_off⟩ := sw_off hW
    have f_zi := sw_zi hW
    have f_zc := sw_zc hW
    have f_zg := sw_zg hW
    have f_zf := sw_zf hW
    have f_zn := sw_zn hW
    have f_zl := sw_zl hW
    have f_zr := sw_zr hW
    have f_ze := sw_ze hW
    have f_za := sw_za hW
    have f_zw := sw_zw hW
    have f_zq := sw_zq hW
    refine lv_iinc (v := nI (k + 1)) (lv' := [(12, .int (nI (k + 1))), (0, .ref (ad 1)), (1, .ref (ad 30)), (2, .ref (ad 31)), (3, .ref (ad 32)), (4, .ref (ad 33)), (5, .ref (ad 34)), (6, .ref (ad 35)), (7, .ref (ad 36)), (8, .ref (ad 37)), (9, .ref (ad 39)), (10, .ref (ad 40)), (11, .ref (ad 41))]) hx hb dL_published_28 hl (k := 12) rfl (nI_add _ 1) (by decide) rfl (fun ls hl => ?_)
    refine lv_goto (tgt := 3) hx hb dL_published_31 (by decide) ?_
    exact ih_k _ hW H locs ls hP hD hS (lv_sub hl [1, 2, 3, 4, 5, 6, 7, 8, 9, 10, 11, 12, 0] rfl)
