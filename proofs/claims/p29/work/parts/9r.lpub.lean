/-! a month published: what holds then -/
theorem LInv.month {nw : Nat} {n : Nat} {nc : Nat} {qn : Nat} {fq : Nat} {cents : Nat → Nat} {grams : Nat → Nat} {cf : Nat → Bool} {cc : Nat → Nat} {fx : Nat → Bool} {lc : Nat → Nat} {lg : Nat → Nat} {told : Nat → Nat} {adp : Nat → Nat} {shr : Nat → UInt64} {pr : Nat → UInt64} {rel : Nat → UInt64} {grp : Nat → UInt64} {idx : Nat → UInt64} {num : Nat → Nat} {zi : Nat → Nat} {zc : Nat → Nat} {zg : Nat → Nat} {zf : Nat → Nat} {zn : Nat → Nat} {zl : Nat → Nat} {zr : Nat → Nat} {ze : Nat → Nat} {zt : Nat → Nat} {za : Nat → Nat} {zw : Nat → Nat} {zq : Nat → Nat} {G : Nat → Nat} {M : Nat → Nat} {Sn : Nat → Nat} {fw : Nat → Nat} {lag : Nat → Nat} {trig : Nat → Nat} {fl : Nat → Bool} {fm : Nat → Nat} {cs : Nat → Nat × Nat × Nat × Nat} {ze1 : Nat → Nat} {shr1 : Nat → UInt64} {rel1 : Nat → UInt64} {pr1 : Nat → UInt64} {grp1 : Nat → UInt64} {idx1 : Nat → UInt64} {num1 : Nat → Nat} (h : LInv nw n nc qn fq cents grams cf cc fx lc lg told adp shr pr rel grp idx num zi zc zg zf zn zl zr ze zt za zw zq G M Sn fw lag trig fl fm cs) (hnw : nw < 5) (hmi0 : ∀ q, q < 12 → ze1 (12 * nw + q) = za q) (hmo : ∀ k, k < 12 * nw → ze1 k = ze k) (hb2 : ∀ k, ze1 k ≤ 1000000000) (hshr1 : shr1 = shF adp nw shr 4) (hrel1 : rel1 = relF (sIts cf cents grams lc lg pr M nw) nw rel n) (hpr1 : pr1 = prF (sVal cf cents grams lc lg pr M nw) nw pr n) (hgrp1 : grp1 = grpF G rel1 n nw grp 4) (hidx1 : idx1 = idxF shr1 grp1 idx nw 5) (hnum1 : num1 = vf_upd num nw (sNumN (idx1 (nw * 5 + 0)))) :
    (∀ g, g < 4 → nnShM adp g) ∧ nnMonth cf cents grams lc lg pr G M n nw rel1 shr1 grp1 idx ∧ nnNum (idx1 (nw * 5 + 0)) ∧
    LSer false zi zc zg zf zn zl zr ze1 zq n (nw + 1) M G (rK cf cents grams lc lg pr1) (sRate cents grams) (sBase lc lg pr1) pr1 rel1 grp1 shr1 idx1 ∧ SerOK cf cents grams lc lg M G shr1 rel1 pr1 grp1 idx1 (nw + 1) ∧ RowZ rel1 pr1 n ∧
    (∀ t, t < nw + 1 → ∀ kd, kd < 5 → ∀ g, g < 4 → mShr (fun q => ze1 (12 * t + q)) kd g = shr1 ((t * 5 + kd) * 4 + g)) ∧ ∀ t, t < nw + 1 → num1 t = sNumN (idx1 (t * 5 + 0)) ∧ 1 ≤ num1 t := by
  have hp0 := h
  obtain ⟨hq, hs3, hb, bcc, bta, bz, hgm, hit, hE, hcg, hccg, hlg, hdz, hz2, hser, hrz, hsh, hta, hnum, hcw, hcb⟩ := h
  have hmi : ∀ q, q < 12 → ze1 (12 * nw + q) = adp q := fun q hq9 => (hmi0 q hq9).trans (hta q hq9).2.symm
  have hs1 : ∀ t, t < nw + 1 → ∀ kd, kd < 5 → ∀ g, g < 4 → mShr (fun q => ze1 (12 * t + q)) kd g = shr1 ((t * 5 + kd) * 4 + g) := fun t ht kd hkd g hg => by
    rcases Nat.lt_or_ge t nw with q | q
    · rw [hshr1, shF_out (Or.inl (by omega)) (Nat.le_refl 4), ← hsh t q kd hkd g hg]
      exact mShr_congr (fun q' hq' => hmo _ (by omega)) hkd hg
    · have e : t = nw := by omega
      subst e
      rw [hshr1, shF_in hkd hg (Nat.le_refl 4)]
      exact mShr_congr (fun q' hq' => hmi q' hq') hkd hg
  have hS : ShB shr1 (nw + 1) := ShB_of (f := fun t q => ze1 (12 * t + q)) (fun t q => hb2 _) hs1
  have hserA : SerOK cf cents grams lc lg M G shr1 rel pr grp idx nw := hser.congr (fun k _ => ⟨rfl, rfl, rfl, rfl, rfl⟩) (fun k hk => by rw [hshr1]; exact (shF_out (Or.inl (by omega)) (Nat.le_refl 4)).symm) (fun _ _ => Or.inl ⟨rfl, rfl⟩)
  have hM : Mth cf cents grams lc lg M G n shr1 pr rel pr grp idx rel1 pr1 grp1 idx1 nw := by rw [hidx1, hgrp1, hpr1, hrel1]; exact Mth_F
  have hserB := SerOK.step (by omega) (by omega) hserA (fun _ _ => rfl) hdz hrz hM
  have hB := SerOK.bounds hb hS (by omega) hserB
  have hpv : nw ≠ 0 → SerB rel pr grp idx (nw - 1) := fun h0 => SerOK.bounds hb (fun t ht => hS t (by omega)) (by omega) hserA (nw - 1) (by omega)
  obtain ⟨a1, a2, a3, a4, a5, a6⟩ := month_nn (cf := cf) (M := M) (G := G) (pr0 := pr) (show n ≤ 12 by omega) hb hS (by omega) (fun _ _ => rfl) hpv (hB nw (by omega))
  have hL := (LSer_of (wf := false) (zi := zi) (zc := zc) (zg := zg) (zf := zf) (zn := zn) (zl := zl) (zr := zr) (ze := ze1) (zq := zq) hq.1 hs3.1 (show nw + 1 ≤ 5 by omega) (fun k hk => ⟨(hit k hk).1, (hit k hk).2.1⟩) hgm.2.1 (fun a ha => by
    obtain ⟨e1, e2, e3, e4, e5, e6, e7⟩ := hE a ha
    exact ⟨lIts_f.trans e1, e2, e3, e4, e5⟩) hcg hlg (fun t i _ hi => (hz2 t i (by omega)).1) (fun t i h1 h2 j hj => (hdz t i h1 h2 j hj).2.1) hb hserB hb2 hs1).1
  refine ⟨fun g hg => (shM_all bta.2.1 hg).1, ⟨a1, a2, fun k hk h0 => ⟨a3 k hk, a4 k hk h0⟩⟩, a5, hL, hserB, RowZ.step hrz hM (fun k hk => by rw [hrel1]; exact relF_out (Or.inr (by omega))) (fun k hk => by rw [hpr1]; exact prF_out (Or.inr (by omega))), hs1, fun t ht => ?_⟩
  rw [hnum1]
  by_cases e : t = nw
  · rw [e, upd_eq]; exact ⟨rfl, a6⟩
  · rw [upd_ne e]
    have e2 : idx1 (t * 5 + 0) = idx (t * 5 + 0) := by rw [hidx1]; exact idxF_out (Or.inl (by omega))
    have e3 := hnum t (by omega)
    have e4 := (num_all (by omega) (by omega) ((hp0.ser.2 t (by omega)).2.2.2.1 0 (by decide))).2
    rw [e2, e3]; exact ⟨rfl, e4⟩
/-- the first k contracts' rows as of the month, the others as they were -/
def ZwP (zw zw1 : Nat → Nat) (c1 : Nat → Nat × Nat × Nat × Nat) (k : Nat) : Prop := (∀ a, zw1 a ≤ 1000000000000) ∧
  (∀ j, j < k → zw1 (10 * j) = (c1 j).1 ∧ zw1 (10 * j + 4) = (c1 j).2.1 ∧ zw1 (10 * j + 5) = (c1 j).2.2.1 ∧ zw1 (10 * j + 6) = (c1 j).2.2.2) ∧
  (∀ j, k ≤ j → zw1 (10 * j) = zw (10 * j) ∧ zw1 (10 * j + 4) = zw (10 * j + 4) ∧ zw1 (10 * j + 5) = zw (10 * j + 5) ∧ zw1 (10 * j + 6) = zw (10 * j + 6)) ∧
  ∀ j, zw1 (10 * j + 1) = zw (10 * j + 1) ∧ zw1 (10 * j + 2) = zw (10 * j + 2) ∧ zw1 (10 * j + 3) = zw (10 * j + 3) ∧ zw1 (10 * j + 7) = zw (10 * j + 7) ∧ zw1 (10 * j + 8) = zw (10 * j + 8)
theorem ZwP.z {zw : Nat → Nat} {c1 : Nat → Nat × Nat × Nat × Nat} (h : ∀ a, zw a ≤ 1000000000000) : ZwP zw zw c1 0 := ⟨h, fun j hj => absurd hj (Nat.not_lt_zero _), fun _ _ => ⟨rfl, rfl, rfl, rfl⟩, fun _ => ⟨rfl, rfl, rfl, rfl, rfl⟩⟩
theorem ZwP.s {zw zw1 : Nat → Nat} {c1 : Nat → Nat × Nat × Nat × Nat} {k w n m p : Nat} (h : ZwP zw zw1 c1 k) (hc : c1 k = (w, n, m, p)) (hb : w ≤ 1000000000000 ∧ n ≤ 1000000000000 ∧ m ≤ 1000000000000 ∧ p ≤ 1000000000000) : ZwP zw (vf_upd (vf_upd (vf_upd (vf_upd zw1 (10 * k + 4) n) (10 * k + 5) m) (10 * k) w) (10 * k + 6) p) c1 (k + 1) := by
  obtain ⟨h1, h2, h3, h4⟩ := h
  refine ⟨upd_bd (upd_bd (upd_bd (upd_bd h1 hb.2.1) hb.2.2.1) hb.1) hb.2.2.2, fun j hj => ?_, fun j hj => ?_, fun j => ?_⟩
  · by_cases e : j = k
    · rw [e, hc]
      exact ⟨by rw [upd_ne (by omega), upd_eq], by rw [upd_ne (by omega), upd_ne (by omega), upd_ne (by omega), upd_eq], by rw [upd_ne (by omega), upd_ne (by omega), upd_eq], upd_eq⟩
    · obtain ⟨z1, z2, z3, z4⟩ := h2 j (by omega)
      refine ⟨?_, ?_, ?_, ?_⟩ <;> rw [upd_ne (by omega), upd_ne (by omega), upd_ne (by omega), upd_ne (by omega)] <;> assumption
  · obtain ⟨z1, z2, z3, z4⟩ := h3 j (by omega)
    refine ⟨?_, ?_, ?_, ?_⟩ <;> rw [upd_ne (by omega), upd_ne (by omega), upd_ne (by omega), upd_ne (by omega)] <;> assumption
  · obtain ⟨z1, z2, z3, z4, z5⟩ := h4 j
    refine ⟨?_, ?_, ?_, ?_, ?_⟩ <;> rw [upd_ne (by omega), upd_ne (by omega), upd_ne (by omega), upd_ne (by omega)] <;> assumption
theorem ZwP.s1 {zw zw1 : Nat → Nat} {c1 : Nat → Nat × Nat × Nat × Nat} {k w n m p : Nat} (h : ZwP zw zw1 c1 k) (hc : c1 k = (w, n, m, p)) (hw : zw (10 * k) = w) (hn : zw (10 * k + 4) = n) (hm : zw (10 * k + 5) = m) (hb : p ≤ 1000000000000) : ZwP zw (vf_upd zw1 (10 * k + 6) p) c1 (k + 1) := by
  obtain ⟨h1, h2, h3, h4⟩ := h
  refine ⟨upd_bd h1 hb, fun j hj => ?_, fun j hj => ?_, fun j => ?_⟩
  · by_cases e : j = k
    · obtain ⟨z1, z2, z3, z4⟩ := h3 k (Nat.le_refl k)
      rw [e, hc]
      exact ⟨by rw [upd_ne (by omega), z1]; exact hw, by rw [upd_ne (by omega), z2]; exact hn, by rw [upd_ne (by omega), z3]; exact hm, upd_eq⟩
    · obtain ⟨z1, z2, z3, z4⟩ := h2 j (by omega)
      refine ⟨?_, ?_, ?_, ?_⟩ <;> rw [upd_ne (by omega)] <;> assumption
  · obtain ⟨z1, z2, z3, z4⟩ := h3 j (by omega)
    refine ⟨?_, ?_, ?_, ?_⟩ <;> rw [upd_ne (by omega)] <;> assumption
  · obtain ⟨z1, z2, z3, z4, z5⟩ := h4 j
    refine ⟨?_, ?_, ?_, ?_, ?_⟩ <;> rw [upd_ne (by omega)] <;> assumption
theorem payS_p {lag trig t : Nat} {fl : Bool} {num : Nat → Nat} {c : Nat × Nat × Nat × Nat} (h1 : c.1 ≤ 1000000000) : (payS lag trig fl num t c).2.2.2 ≤ c.2.2.2 + 1000000000 := by
  unfold payS
  split
  · show _ + pW _ _ _ ≤ _; have := pW_le c.1 (num (t - lag)) c.2.1; omega
  · show _ + _ ≤ _; omega
theorem LInv.publish {nw : Nat} {n : Nat} {nc : Nat} {qn : Nat} {fq : Nat} {cents : Nat → Nat} {grams : Nat → Nat} {cf : Nat → Bool} {cc : Nat → Nat} {fx : Nat → Bool} {lc : Nat → Nat} {lg : Nat → Nat} {told : Nat → Nat} {adp : Nat → Nat} {shr : Nat → UInt64} {pr : Nat → UInt64} {rel : Nat → UInt64} {grp : Nat → UInt64} {idx : Nat → UInt64} {num : Nat → Nat} {zi : Nat → Nat} {zc : Nat → Nat} {zg : Nat → Nat} {zf : Nat → Nat} {zn : Nat → Nat} {zl : Nat → Nat} {zr : Nat → Nat} {ze : Nat → Nat} {zt : Nat → Nat} {za : Nat → Nat} {zw : Nat → Nat} {zq : Nat → Nat} {G : Nat → Nat} {M : Nat → Nat} {Sn : Nat → Nat} {fw : Nat → Nat} {lag : Nat → Nat} {trig : Nat → Nat} {fl : Nat → Bool} {fm : Nat → Nat} {cs : Nat → Nat × Nat × Nat × Nat} {ze1 zw1 : Nat → Nat} {shr1 : Nat → UInt64} {rel1 : Nat → UInt64} {pr1 : Nat → UInt64} {grp1 : Nat → UInt64} {idx1 : Nat → UInt64} {num1 : Nat → Nat} (h : LInv nw n nc qn fq cents grams cf cc fx lc lg told adp shr pr rel grp idx num zi zc zg zf zn zl zr ze zt za zw zq G M Sn fw lag trig fl fm cs) (hnw : nw < 5) (hmi0 : ∀ q, q < 12 → ze1 (12 * nw + q) = za q) (hmo : ∀ k, k < 12 * nw → ze1 k = ze k) (hb2 : ∀ k, ze1 k ≤ 1000000000) (hshr1 : shr1 = shF adp nw shr 4) (hrel1 : rel1 = relF (sIts cf cents grams lc lg pr M nw) nw rel n) (hpr1 : pr1 = prF (sVal cf cents grams lc lg pr M nw) nw pr n) (hgrp1 : grp1 = grpF G rel1 n nw grp 4) (hidx1 : idx1 = idxF shr1 grp1 idx nw 5) (hnum1 : num1 = vf_upd num nw (sNumN (idx1 (nw * 5 + 0)))) (hzw : ZwP zw zw1 (fun k => payS (lag k) (trig k) (fl k) num1 nw (cs k)) nc) : LInv (nw + 1) n nc 0 fq cents grams cf cc fx lc lg told adp shr1 pr1 rel1 grp1 idx1 num1 zi zc zg zf zn zl zr ze1 zt za zw1 (vf_upd (vf_upd zq 1 (nw + 1)) 2 0) G M Sn fw lag trig fl fm (fun k => payS (lag k) (trig k) (fl k) num1 nw (cs k)) := by
  have hp9 := h
  obtain ⟨hq, hs3, hb, bcc, bta, bz, hgm, hit, hE, hcg, hccg, hlg, hdz, hz2, hser, hrz, hsh, hta, hnum, hcw, hcb⟩ := h
  obtain ⟨b_zi, b_zc, b_zg, b_zf, b_zn, b_zl, b_zr, b_ze, b_zt, b_za, b_zw, b_zq⟩ := bz
  obtain ⟨-, -, -, -, m5, m6, m7, m8⟩ := hp9.month (ze1 := ze1) hnw hmi0 hmo hb2 hshr1 hrel1 hpr1 hgrp1 hidx1 hnum1
  have n_hcw := (fun k hk => by
    obtain ⟨w0, w1, w2, w3, w4, w5, w6, w7, w8⟩ := hcw k hk
    obtain ⟨z0, z4, z5, z6⟩ := hzw.2.1 k hk
    obtain ⟨y1, y2, y3, y7, y8⟩ := hzw.2.2.2 k
    exact ⟨z0, y1.trans w1, y2.trans w2, by rw [y3]; exact w3, z4, z5, z6, y7.trans w7, y8.trans w8⟩ : ∀ k, k < nc → zw1 (10 * k) = ((fun k => payS (lag k) (trig k) (fl k) num1 nw (cs k)) k).1 ∧ zw1 (10 * k + 1) = lag k ∧ zw1 (10 * k + 2) = trig k ∧ decide (zw1 (10 * k + 3) = 1) = fl k ∧ zw1 (10 * k + 4) = ((fun k => payS (lag k) (trig k) (fl k) num1 nw (cs k)) k).2.1 ∧ zw1 (10 * k + 5) = ((fun k => payS (lag k) (trig k) (fl k) num1 nw (cs k)) k).2.2.1 ∧ zw1 (10 * k + 6) = ((fun k => payS (lag k) (trig k) (fl k) num1 nw (cs k)) k).2.2.2 ∧ zw1 (10 * k + 7) = fw k ∧ zw1 (10 * k + 8) = fm k)
  have n_hcb := (fun k hk => by
    obtain ⟨c1, c2, c3, c4, c5, c6, c7, c8, c9⟩ := hcb k hk
    have n9 : ∀ q, num1 q ≤ 2147483647 := by rw [hnum1]; exact upd_bd bta.2.2 (sNumN_le _)
    obtain ⟨n1, n2⟩ := payS_nx (lag := lag k) (trig := trig k) (fl := fl k) (num := num1) (t := nw) (c := cs k) (fun q hq => (m8 q (by omega)).2) c6 c8
    obtain ⟨n3, n4, n5⟩ := payS_b2 (lag := lag k) (trig := trig k) (fl := fl k) (num := num1) (t := nw) (c := cs k) n9 (by omega) c5 c7 (by omega)
    have n6 := payS_p (lag := lag k) (trig := trig k) (fl := fl k) (num := num1) (t := nw) (c := cs k) c5
    exact ⟨c1, c2, c3, by omega, n3, n1, n4, n2, by show (payS (lag k) (trig k) (fl k) num1 nw (cs k)).2.2.2 ≤ _; omega⟩ : ∀ k, k < nc → fw k ≤ 1000000000 ∧ lag k ≤ 3 ∧ trig k ≤ 500 ∧ fm k < nw + 1 ∧ ((fun k => payS (lag k) (trig k) (fl k) num1 nw (cs k)) k).1 ≤ 1000000000 ∧ 1 ≤ ((fun k => payS (lag k) (trig k) (fl k) num1 nw (cs k)) k).2.1 ∧ ((fun k => payS (lag k) (trig k) (fl k) num1 nw (cs k)) k).2.1 ≤ 2147483647 ∧ ((fun k => payS (lag k) (trig k) (fl k) num1 nw (cs k)) k).2.2.1 < nw + 1 ∧ ((fun k => payS (lag k) (trig k) (fl k) num1 nw (cs k)) k).2.2.2 ≤ (nw + 1) * 1000000000)
  exact ⟨⟨(upd_ne (by decide)).trans ((upd_ne (by decide)).trans hq.1), (upd_ne (by decide)).trans upd_eq, upd_eq, (upd_ne (by decide)).trans ((upd_ne (by decide)).trans hq.2.2.2.1), (upd_ne (by decide)).trans ((upd_ne (by decide)).trans hq.2.2.2.2)⟩, ⟨hs3.1, hnw, hs3.2.2⟩, hb, bcc, ⟨bta.1, bta.2.1, by rw [hnum1]; exact upd_bd bta.2.2 (sNumN_le _)⟩, ⟨b_zi, b_zc, b_zg, b_zf, b_zn, b_zl, b_zr, hb2, b_zt, b_za, hzw.1, upd_bd (upd_bd b_zq (by omega)) (by decide)⟩, hgm, hit, hE, hcg, hccg, hlg, hdz, hz2, m5, m6, m7, hta, fun t ht => (m8 t ht).1, n_hcw, n_hcb⟩
set_option maxHeartbeats 4000000 in
set_option maxRecDepth 100000 in
theorem q_publish (l : Launch) {D : va_G} {ws : va_W} {ad y : Nat → Nat} {nw : Nat} {n : Nat} {nc : Nat} {qn : Nat} {fq : Nat} {mc1 : Int32} {mc2 : Int32} {aita : Nat} {acta : Nat} {qe : Nat → Option Nat} {cents : Nat → Nat} {grams : Nat → Nat} {cf : Nat → Bool} {cc : Nat → Nat} {fx : Nat → Bool} {lc : Nat → Nat} {lg : Nat → Nat} {told : Nat → Nat} {adp : Nat → Nat} {shr : Nat → UInt64} {pr : Nat → UInt64} {rel : Nat → UInt64} {grp : Nat → UInt64} {idx : Nat → UInt64} {num : Nat → Nat} {zi : Nat → Nat} {zc : Nat → Nat} {zg : Nat → Nat} {zf : Nat → Nat} {zn : Nat → Nat} {zl : Nat → Nat} {zr : Nat → Nat} {ze : Nat → Nat} {zt : Nat → Nat} {za : Nat → Nat} {zw : Nat → Nat} {zq : Nat → Nat} {G : Nat → Nat} {M : Nat → Nat} {Sn : Nat → Nat} {fw : Nat → Nat} {lag : Nat → Nat} {trig : Nat → Nat} {fl : Nat → Bool} {fm : Nat → Nat} {cs : Nat → Nat × Nat × Nat × Nat} {pi : Nat} {pc : Nat} {zi9 : Nat → Nat} {zc9 : Nat → Nat} {zg9 : Nat → Nat} {zf9 : Nat → Nat} {zn9 : Nat → Nat} {zl9 : Nat → Nat} {zr9 : Nat → Nat} {ze9 : Nat → Nat} {zt9 : Nat → Nat} {za9 : Nat → Nat} {zw9 : Nat → Nat} {zq9 : Nat → Nat} {shr1 : Nat → UInt64} {rel1 : Nat → UInt64} {pr1 : Nat → UInt64} {grp1 : Nat → UInt64} {idx1 : Nat → UInt64} {num1 : Nat → Nat} (hW : SW ad y nw n nc qn fq mc1 mc2 aita acta qe cents grams cf cc fx lc lg told adp shr pr rel grp idx num zi zc zg zf zn zl zr ze zt za zw zq G M Sn fw lag trig fl fm cs pi pc ws) (hp : LInv nw n nc qn fq cents grams cf cc fx lc lg told adp shr pr rel grp idx num zi9 zc9 zg9 zf9 zn9 zl9 zr9 ze9 zt9 za9 zw9 zq9 G M Sn fw lag trig fl fm cs) (hshr1 : shr1 = shF adp nw shr 4) (hrel1 : rel1 = relF (sIts cf cents grams lc lg pr M nw) nw rel n) (hpr1 : pr1 = prF (sVal cf cents grams lc lg pr M nw) nw pr n) (hgrp1 : grp1 = grpF G rel1 n nw grp 4) (hidx1 : idx1 = idxF shr1 grp1 idx nw 5) (hnum1 : num1 = vf_upd num nw (sNumN (idx1 (nw * 5 + 0)))) (hnw5 : nw < 5) (hn1 : ∀ g, g < 4 → nnShM adp g) (hn2 : nnMonth cf cents grams lc lg pr G M n nw rel1 shr1 grp1 idx) (hn3 : nnNum (idx1 (nw * 5 + 0))) : gMi l yX6_publish wsX6_publish ({ frames := 6, cells := 0, slots := 0, locals := 141 }) D y [.ref (ad 1)] ws (fun r (u : va_W) => r = nI (num1 nw) ∧ SW ad y (nw + 1) n nc 0 fq mc1 mc2 aita acta qe cents grams cf cc fx lc lg told adp shr1 pr1 rel1 grp1 idx1 num1 zi zc zg zf zn zl zr ze zt za zw zq G M Sn fw lag trig fl fm (fun k => payS (lag k) (trig k) (fl k) num1 nw (cs k)) pi pc u) (fun u => u) := by
  obtain ⟨xa, wf2, xb, pr2, rel2, grp2, idx2, cnum, rest, rfl, hz9, hcn9, hI, hC, hne⟩ := hW
  obtain ⟨hq, hs3, hb, bcc, bta, bz, hgm, hit, hE, hcg, hccg, hlg, hdz, hz2, hser, hrz, hsh, hta, hnum, hcw, hcb⟩ := hp
  obtain ⟨pi', cap, q, iad, hita, hIt⟩ := hI.w (A := LWc ad y nw n nc qn fq mc1 mc2 aita acta qe cents grams cf cc fx lc lg told adp shr xa pr rel grp idx wf2 xb pr2 rel2 grp2 idx2 num cnum) (B := LWl ad y zi zc zg zf zn zl zr ze zt za) (C := LWo ad y zw zq) rfl rfl rfl fw_emp
  obtain ⟨pc9, capc9, qc9, adc9, pk9, hw3, hpk9, hw4⟩ := hC.w3 (qe := qe)
  obtain ⟨hcta9, hCt9⟩ := hw3 _ _ _ (show (LWc ad y nw n nc qn fq mc1 mc2 aita acta qe cents grams cf cc fx lc lg told adp shr xa pr rel grp idx wf2 xb pr2 rel2 grp2 idx2 num cnum).length = 30 from rfl) (show (LWl ad y zi zc zg zf zn zl zr ze zt za).length = 10 from rfl) (show (LWo ad y zw zq).length = 2 from rfl) fw_emp
  have hn9 : n ≤ 12 := by omega
  have hnw : nw < 24 := by omega
  have hnc : nc ≤ 10 := by omega
  have hcon : conB nc lag trig cs := fun k hk => by
    obtain ⟨c1, c2, c3, c4, c5, c6, c7, c8, c9⟩ := hcb k hk
    exact ⟨c2, by omega, c5, c7, c3⟩
  refine gMi.wk (c_X6_publish l fw_off fw_led fw_ser fw_sums fw_cents fw_grams fw_cc fw_lc fw_lg fw_cf fw_pr fw_rel fw_grp fw_idx fw_itl hita fw_spd fw_adp fw_shr fw_num fw_ctl hcta9 hb.1 hb.2.1 bcc hb.2.2.1 hb.2.2.2 bta.2.1 bta.2.2 (by first | assumption | omega | decide) (by first | assumption | omega | decide) hIt hCt9 (by first | assumption | omega | decide) hpk9 hcon hgm.2.1 hgm.1 hn1 (fun _ _ => rfl) hn2 hn3 (by first | assumption | omega | decide) (by first | assumption | omega | decide) hshr1 hrel1 hpr1 hgrp1 hidx1 rfl hnum1) (fun r u h => ?_)
  obtain ⟨rest9, e1, e2, e3⟩ := hw4 (LWc ad y nw n nc qn fq mc1 mc2 aita acta qe cents grams cf cc fx lc lg told adp shr1 u pr1 rel1 grp1 idx1 wf2 xb pr2 rel2 grp2 idx2 num1 cnum) (LWl ad y zi zc zg zf zn zl zr ze zt za) (LWo ad y zw zq) (fun k => payS (lag k) (trig k) (fl k) num1 nw (cs k)) rfl rfl rfl
  refine ⟨(LWc ad y (nw + 1) n nc 0 fq mc1 mc2 aita acta qe cents grams cf cc fx lc lg told adp shr1 u pr1 rel1 grp1 idx1 wf2 xb pr2 rel2 grp2 idx2 num1 cnum ++ (LWl ad y zi zc zg zf zn zl zr ze zt za ++ (LWo ad y zw zq ++ rest9))), ⟨h.trans ?_, ⟨u, wf2, xb, pr2, rel2, grp2, idx2, cnum, rest9, rfl, hz9, hcn9, e3 hI, e2, hne⟩⟩, ?_⟩
  · rw [hnum1, upd_eq]
  · symm
    exact (congrArg (fun z : va_W => (z.set _ _).set _ _) e1).trans rfl
