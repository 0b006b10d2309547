/-! what each call does to what holds at the head of the law's loop -/
theorem sl_inj {a b : Nat} (h : sl a = sl b) (ha : a < 60) (hb : b < 60) : a = b := by
  have h1 := oo_lt (j := a % 3) (by omega)
  have h2 := oo_lt (j := b % 3) (by omega)
  unfold sl at h
  have h3 : oo (a % 3) = oo (b % 3) := by omega
  have h4 : a % 3 = b % 3 := by
    unfold oo at h3
    split at h3 <;> split at h3 <;> omega
  omega
theorem oo_ne (j : Nat) : oo j ≠ 2 := by
  unfold oo
  split <;> omega
theorem lIts_le {f c : Nat → Nat} {a : Nat} (h : lIts true f c a = 0) : f a = 0 := by
  unfold lIts at h
  by_cases e : true = true ∧ 0 < f a
  · rw [if_pos e] at h; omega
  · exact Nat.eq_zero_of_not_pos (fun z => e ⟨rfl, z⟩)
theorem lIts_0 {f c : Nat → Nat} {a : Nat} (h : f a = 0) : lIts true f c a = c a := if_neg (fun z => by have := z.2; omega)
theorem lIts_p {f c : Nat → Nat} {a : Nat} (h : 0 < f a) : lIts true f c a = f a := if_pos ⟨rfl, h⟩
theorem adF_at {f a : Nat → Nat} {k : Nat} : ∀ {j : Nat}, k < j → adF f a j k = f k
  | 0, h => absurd h (Nat.not_lt_zero _)
  | j + 1, h => by
    show vf_upd (adF f a j) j (f j) k = f k
    by_cases e : k = j
    · subst e; exact upd_eq
    · rw [upd_ne e]; exact adF_at (by omega)
/-- what holds besides: how many quotes and fixes there can be; no word said of a quote that is not there; nothing paid by a contract that is not there -/
def EInv (nc qn fq : Nat) (zc zn zw : Nat → Nat) (j : Nat) : Prop := qn ≤ j ∧ fq ≤ j ∧ (∀ a, a < 60 → zc a = 0 → zn a = 0) ∧ ∀ k, nc ≤ k → zw (10 * k + 6) = 0

theorem LInv.quote {nw : Nat} {n : Nat} {nc : Nat} {qn : Nat} {fq : Nat} {cents : Nat → Nat} {grams : Nat → Nat} {cf : Nat → Bool} {cc : Nat → Nat} {fx : Nat → Bool} {lc : Nat → Nat} {lg : Nat → Nat} {told : Nat → Nat} {adp : Nat → Nat} {shr : Nat → UInt64} {pr : Nat → UInt64} {rel : Nat → UInt64} {grp : Nat → UInt64} {idx : Nat → UInt64} {num : Nat → Nat} {zi : Nat → Nat} {zc : Nat → Nat} {zg : Nat → Nat} {zf : Nat → Nat} {zn : Nat → Nat} {zl : Nat → Nat} {zr : Nat → Nat} {ze : Nat → Nat} {zt : Nat → Nat} {za : Nat → Nat} {zw : Nat → Nat} {zq : Nat → Nat} {G : Nat → Nat} {M : Nat → Nat} {Sn : Nat → Nat} {fw : Nat → Nat} {lag : Nat → Nat} {trig : Nat → Nat} {fl : Nat → Bool} {fm : Nat → Nat} {cs : Nat → Nat × Nat × Nat × Nat} {i o ce gr : Nat} (h : LInv nw n nc qn fq cents grams cf cc fx lc lg told adp shr pr rel grp idx num zi zc zg zf zn zl zr ze zt za zw zq G M Sn fw lag trig fl fm cs) (hi : i < n) (ho : o < 3) (hnw : nw < 5) (hce : 1 ≤ ce) (kce : ce ≤ 100000) (hgr : 1 ≤ gr) (kgr : gr ≤ 10000) (hnq : cents (nw * 48 + i * 4 + oo o) = 0) (hqn : qn + 1 ≤ 1000) : LInv nw n nc (qn + 1) fq (vf_upd cents (nw * 48 + i * 4 + oo o) ce) (vf_upd grams (nw * 48 + i * 4 + oo o) gr) cf (vf_upd cc (nw * 48 + i * 4 + oo o) ce) fx lc lg told adp shr pr rel grp idx num zi (vf_upd zc (12 * nw + 3 * i + o) ce) (vf_upd zg (12 * nw + 3 * i + o) gr) zf zn zl zr ze zt za zw (vf_upd zq 2 (qn + 1)) G M Sn fw lag trig fl fm cs := by
  obtain ⟨hq, hs3, hb, bcc, bta, bz, hgm, hit, hE, hcg, hccg, hlg, hdz, hz2, hser, hrz, hsh, hta, hnum, hcw, hcb⟩ := h
  obtain ⟨b_zi, b_zc, b_zg, b_zf, b_zn, b_zl, b_zr, b_ze, b_zt, b_za, b_zw, b_zq⟩ := bz
  have h1 := oo_lt ho
  have h2 := oo_ne o
  have hat : (12 * nw + 3 * i + o) < 60 := by omega
  have e_sl : sl (12 * nw + 3 * i + o) = (nw * 48 + i * 4 + oo o) := sl_at (by omega) ho
  have n_sl : ∀ a, a < 60 → a ≠ (12 * nw + 3 * i + o) → sl a ≠ (nw * 48 + i * 4 + oo o) := fun a ha e z => e (sl_inj (z.trans e_sl.symm) ha hat)
  have n_hE := (fun a ha => by
    obtain ⟨e1, e2, e3, e4, e5, e6, e7⟩ := hE a ha
    by_cases e : a = (12 * nw + 3 * i + o)
    · subst e
      rw [e_sl] at e3 e4 e5 e6 e7 ⊢
      have hf : zf (12 * nw + 3 * i + o) = 0 := lIts_le (e6.trans ((hccg _).mpr ((hcg _).mp hnq)))
      rw [lIts_0 hf, upd_eq, upd_eq, upd_eq, upd_eq, upd_eq]
      exact ⟨rfl, rfl, e3, e4, e5, rfl, e7⟩
    · have e9 := n_sl a ha e
      have e8 : lIts true zf (vf_upd zc (12 * nw + 3 * i + o) ce) a = lIts true zf zc a := by unfold lIts; rw [upd_ne e]
      rw [e8, upd_ne e, upd_ne e, upd_ne e9, upd_ne e9, upd_ne e9]
      exact ⟨e1, e2, e3, e4, e5, e6, e7⟩ : ∀ a, a < 60 → (vf_upd zc (12 * nw + 3 * i + o) ce) a = (vf_upd cents (nw * 48 + i * 4 + oo o) ce) (sl a) ∧ (vf_upd zg (12 * nw + 3 * i + o) gr) a = (vf_upd grams (nw * 48 + i * 4 + oo o) gr) (sl a) ∧ zl a = lc (sl a) ∧ zr a = lg (sl a) ∧ decide (zn a = 1) = cf (sl a) ∧ lIts true zf (vf_upd zc (12 * nw + 3 * i + o) ce) a = (vf_upd cc (nw * 48 + i * 4 + oo o) ce) (sl a) ∧ decide (0 < zf a) = fx (sl a))
  have n_hcg := ((fun k => by
    by_cases e : k = (nw * 48 + i * 4 + oo o)
    · rw [e, upd_eq, upd_eq]; omega
    · rw [upd_ne e, upd_ne e]; exact hcg k) : ∀ k, vf_upd cents (nw * 48 + i * 4 + oo o) ce k = 0 ↔ vf_upd grams (nw * 48 + i * 4 + oo o) gr k = 0)
  have n_hccg := ((fun k => by
    by_cases e : k = (nw * 48 + i * 4 + oo o)
    · rw [e, upd_eq, upd_eq]; omega
    · rw [upd_ne e, upd_ne e]; exact hccg k) : ∀ k, vf_upd cc (nw * 48 + i * 4 + oo o) ce k = 0 ↔ vf_upd grams (nw * 48 + i * 4 + oo o) gr k = 0)
  have n_hdz := ((fun t i9 h3 h4 j hj => by
    obtain ⟨z1, z2, z3⟩ := hdz t i9 h3 h4 j hj
    exact ⟨(upd_ne (by omega)).trans z1, (upd_ne (by omega)).trans z2, z3⟩) : DatZ (vf_upd cents (nw * 48 + i * 4 + oo o) ce) (vf_upd grams (nw * 48 + i * 4 + oo o) gr) lc n)
  exact ⟨⟨(upd_ne (by decide)).trans hq.1, (upd_ne (by decide)).trans hq.2.1, upd_eq, (upd_ne (by decide)).trans hq.2.2.2.1, (upd_ne (by decide)).trans hq.2.2.2.2⟩, hs3, ⟨upd_bd hb.1 kce, upd_bd hb.2.1 kgr, hb.2.2.1, hb.2.2.2⟩, upd_bd bcc kce, bta, ⟨b_zi, upd_bd b_zc kce, upd_bd b_zg kgr, b_zf, b_zn, b_zl, b_zr, b_ze, b_zt, b_za, b_zw, upd_bd b_zq hqn⟩, hgm, hit, n_hE, n_hcg, n_hccg, hlg, n_hdz, fun t i9 h3 => ⟨(upd_ne (by omega)).trans (hz2 t i9 h3).1, (hz2 t i9 h3).2⟩, hser.upds (fun k hk => ⟨rfl, upd_ne (by omega), upd_ne (by omega), rfl, rfl⟩), hrz, hsh, hta, hnum, hcw, hcb⟩
theorem LInv.link {nw : Nat} {n : Nat} {nc : Nat} {qn : Nat} {fq : Nat} {cents : Nat → Nat} {grams : Nat → Nat} {cf : Nat → Bool} {cc : Nat → Nat} {fx : Nat → Bool} {lc : Nat → Nat} {lg : Nat → Nat} {told : Nat → Nat} {adp : Nat → Nat} {shr : Nat → UInt64} {pr : Nat → UInt64} {rel : Nat → UInt64} {grp : Nat → UInt64} {idx : Nat → UInt64} {num : Nat → Nat} {zi : Nat → Nat} {zc : Nat → Nat} {zg : Nat → Nat} {zf : Nat → Nat} {zn : Nat → Nat} {zl : Nat → Nat} {zr : Nat → Nat} {ze : Nat → Nat} {zt : Nat → Nat} {za : Nat → Nat} {zw : Nat → Nat} {zq : Nat → Nat} {G : Nat → Nat} {M : Nat → Nat} {Sn : Nat → Nat} {fw : Nat → Nat} {lag : Nat → Nat} {trig : Nat → Nat} {fl : Nat → Bool} {fm : Nat → Nat} {cs : Nat → Nat × Nat × Nat × Nat} {i o ce gr : Nat} (h : LInv nw n nc qn fq cents grams cf cc fx lc lg told adp shr pr rel grp idx num zi zc zg zf zn zl zr ze zt za zw zq G M Sn fw lag trig fl fm cs) (hi : i < n) (ho : o < 3) (hnw : nw < 5) (hce : 1 ≤ ce) (kce : ce ≤ 100000) (hgr : 1 ≤ gr) (kgr : gr ≤ 10000) : LInv nw n nc qn fq cents grams cf cc fx (vf_upd lc (nw * 48 + i * 4 + oo o) ce) (vf_upd lg (nw * 48 + i * 4 + oo o) gr) told adp shr pr rel grp idx num zi zc zg zf zn (vf_upd zl (12 * nw + 3 * i + o) ce) (vf_upd zr (12 * nw + 3 * i + o) gr) ze zt za zw zq G M Sn fw lag trig fl fm cs := by
  obtain ⟨hq, hs3, hb, bcc, bta, bz, hgm, hit, hE, hcg, hccg, hlg, hdz, hz2, hser, hrz, hsh, hta, hnum, hcw, hcb⟩ := h
  obtain ⟨b_zi, b_zc, b_zg, b_zf, b_zn, b_zl, b_zr, b_ze, b_zt, b_za, b_zw, b_zq⟩ := bz
  have h1 := oo_lt ho
  have h2 := oo_ne o
  have hat : (12 * nw + 3 * i + o) < 60 := by omega
  have e_sl : sl (12 * nw + 3 * i + o) = (nw * 48 + i * 4 + oo o) := sl_at (by omega) ho
  have n_sl : ∀ a, a < 60 → a ≠ (12 * nw + 3 * i + o) → sl a ≠ (nw * 48 + i * 4 + oo o) := fun a ha e z => e (sl_inj (z.trans e_sl.symm) ha hat)
  have n_hE := (fun a ha => by
    obtain ⟨e1, e2, e3, e4, e5, e6, e7⟩ := hE a ha
    by_cases e : a = (12 * nw + 3 * i + o)
    · subst e
      rw [e_sl] at e1 e2 e5 e6 e7 ⊢
      rw [upd_eq, upd_eq, upd_eq, upd_eq]
      exact ⟨e1, e2, rfl, rfl, e5, e6, e7⟩
    · have e9 := n_sl a ha e
      rw [upd_ne e, upd_ne e, upd_ne e9, upd_ne e9]
      exact ⟨e1, e2, e3, e4, e5, e6, e7⟩ : ∀ a, a < 60 → zc a = cents (sl a) ∧ zg a = grams (sl a) ∧ (vf_upd zl (12 * nw + 3 * i + o) ce) a = (vf_upd lc (nw * 48 + i * 4 + oo o) ce) (sl a) ∧ (vf_upd zr (12 * nw + 3 * i + o) gr) a = (vf_upd lg (nw * 48 + i * 4 + oo o) gr) (sl a) ∧ decide (zn a = 1) = cf (sl a) ∧ lIts true zf zc a = cc (sl a) ∧ decide (0 < zf a) = fx (sl a))
  have n_hlg := (fun k h => by
    by_cases e : k = (nw * 48 + i * 4 + oo o)
    · rw [e, upd_eq] at h; omega
    · rw [upd_ne e] at h ⊢; exact hlg k h : ∀ k, vf_upd lg (nw * 48 + i * 4 + oo o) gr k = 0 → vf_upd lc (nw * 48 + i * 4 + oo o) ce k = 0)
  have n_hdz := ((fun t i9 h3 h4 j hj => by
    obtain ⟨z1, z2, z3⟩ := hdz t i9 h3 h4 j hj
    exact ⟨z1, z2, (upd_ne (by omega)).trans z3⟩) : DatZ cents grams (vf_upd lc (nw * 48 + i * 4 + oo o) ce) n)
  exact ⟨hq, hs3, ⟨hb.1, hb.2.1, upd_bd hb.2.2.1 kce, upd_bd hb.2.2.2 kgr⟩, bcc, bta, ⟨b_zi, b_zc, b_zg, b_zf, b_zn, upd_bd b_zl kce, upd_bd b_zr kgr, b_ze, b_zt, b_za, b_zw, b_zq⟩, hgm, hit, n_hE, hcg, hccg, n_hlg, n_hdz, fun t i9 h3 => ⟨(hz2 t i9 h3).1, (upd_ne (by omega)).trans (hz2 t i9 h3).2⟩, hser.upds (fun k hk => ⟨rfl, rfl, rfl, upd_ne (by omega), upd_ne (by omega)⟩), hrz, hsh, hta, hnum, hcw, hcb⟩
theorem LInv.confirm {nw : Nat} {n : Nat} {nc : Nat} {qn : Nat} {fq : Nat} {cents : Nat → Nat} {grams : Nat → Nat} {cf : Nat → Bool} {cc : Nat → Nat} {fx : Nat → Bool} {lc : Nat → Nat} {lg : Nat → Nat} {told : Nat → Nat} {adp : Nat → Nat} {shr : Nat → UInt64} {pr : Nat → UInt64} {rel : Nat → UInt64} {grp : Nat → UInt64} {idx : Nat → UInt64} {num : Nat → Nat} {zi : Nat → Nat} {zc : Nat → Nat} {zg : Nat → Nat} {zf : Nat → Nat} {zn : Nat → Nat} {zl : Nat → Nat} {zr : Nat → Nat} {ze : Nat → Nat} {zt : Nat → Nat} {za : Nat → Nat} {zw : Nat → Nat} {zq : Nat → Nat} {G : Nat → Nat} {M : Nat → Nat} {Sn : Nat → Nat} {fw : Nat → Nat} {lag : Nat → Nat} {trig : Nat → Nat} {fl : Nat → Bool} {fm : Nat → Nat} {cs : Nat → Nat × Nat × Nat × Nat} {i o : Nat} (h : LInv nw n nc qn fq cents grams cf cc fx lc lg told adp shr pr rel grp idx num zi zc zg zf zn zl zr ze zt za zw zq G M Sn fw lag trig fl fm cs) (hi : i < n) (ho : o < 3) (hnw : nw < 5) : LInv nw n nc qn fq cents grams (vf_upd cf (nw * 48 + i * 4 + oo o) true) cc fx lc lg told adp shr pr rel grp idx num zi zc zg zf (vf_upd zn (12 * nw + 3 * i + o) 1) zl zr ze zt za zw zq G M Sn fw lag trig fl fm cs := by
  obtain ⟨hq, hs3, hb, bcc, bta, bz, hgm, hit, hE, hcg, hccg, hlg, hdz, hz2, hser, hrz, hsh, hta, hnum, hcw, hcb⟩ := h
  obtain ⟨b_zi, b_zc, b_zg, b_zf, b_zn, b_zl, b_zr, b_ze, b_zt, b_za, b_zw, b_zq⟩ := bz
  have h1 := oo_lt ho
  have h2 := oo_ne o
  have hat : (12 * nw + 3 * i + o) < 60 := by omega
  have e_sl : sl (12 * nw + 3 * i + o) = (nw * 48 + i * 4 + oo o) := sl_at (by omega) ho
  have n_sl : ∀ a, a < 60 → a ≠ (12 * nw + 3 * i + o) → sl a ≠ (nw * 48 + i * 4 + oo o) := fun a ha e z => e (sl_inj (z.trans e_sl.symm) ha hat)
  have n_hE := (fun a ha => by
    obtain ⟨e1, e2, e3, e4, e5, e6, e7⟩ := hE a ha
    by_cases e : a = (12 * nw + 3 * i + o)
    · subst e
      rw [e_sl] at e1 e2 e3 e4 e6 e7 ⊢
      rw [upd_eq, upd_eq]
      exact ⟨e1, e2, e3, e4, rfl, e6, e7⟩
    · have e9 := n_sl a ha e
      rw [upd_ne e, upd_ne e9]
      exact ⟨e1, e2, e3, e4, e5, e6, e7⟩ : ∀ a, a < 60 → zc a = cents (sl a) ∧ zg a = grams (sl a) ∧ zl a = lc (sl a) ∧ zr a = lg (sl a) ∧ decide ((vf_upd zn (12 * nw + 3 * i + o) 1) a = 1) = (vf_upd cf (nw * 48 + i * 4 + oo o) true) (sl a) ∧ lIts true zf zc a = cc (sl a) ∧ decide (0 < zf a) = fx (sl a))
  exact ⟨hq, hs3, hb, bcc, bta, ⟨b_zi, b_zc, b_zg, b_zf, upd_bd b_zn (Nat.le_refl 1), b_zl, b_zr, b_ze, b_zt, b_za, b_zw, b_zq⟩, hgm, hit, n_hE, hcg, hccg, hlg, hdz, hz2, hser.upds (fun k hk => ⟨upd_ne (by omega), rfl, rfl, rfl, rfl⟩), hrz, hsh, hta, hnum, hcw, hcb⟩
theorem LInv.noconf {nw : Nat} {n : Nat} {nc : Nat} {qn : Nat} {fq : Nat} {cents : Nat → Nat} {grams : Nat → Nat} {cf : Nat → Bool} {cc : Nat → Nat} {fx : Nat → Bool} {lc : Nat → Nat} {lg : Nat → Nat} {told : Nat → Nat} {adp : Nat → Nat} {shr : Nat → UInt64} {pr : Nat → UInt64} {rel : Nat → UInt64} {grp : Nat → UInt64} {idx : Nat → UInt64} {num : Nat → Nat} {zi : Nat → Nat} {zc : Nat → Nat} {zg : Nat → Nat} {zf : Nat → Nat} {zn : Nat → Nat} {zl : Nat → Nat} {zr : Nat → Nat} {ze : Nat → Nat} {zt : Nat → Nat} {za : Nat → Nat} {zw : Nat → Nat} {zq : Nat → Nat} {G : Nat → Nat} {M : Nat → Nat} {Sn : Nat → Nat} {fw : Nat → Nat} {lag : Nat → Nat} {trig : Nat → Nat} {fl : Nat → Bool} {fm : Nat → Nat} {cs : Nat → Nat × Nat × Nat × Nat} {i o : Nat} (h : LInv nw n nc qn fq cents grams cf cc fx lc lg told adp shr pr rel grp idx num zi zc zg zf zn zl zr ze zt za zw zq G M Sn fw lag trig fl fm cs) (hi : i < n) (ho : o < 3) (hnw : nw < 5) (h0 : zn (12 * nw + 3 * i + o) = 0) : LInv nw n nc qn fq cents grams cf cc fx lc lg told adp shr pr rel grp idx num zi zc zg zf (vf_upd zn (12 * nw + 3 * i + o) 0) zl zr ze zt za zw zq G M Sn fw lag trig fl fm cs := by
  obtain ⟨hq, hs3, hb, bcc, bta, bz, hgm, hit, hE, hcg, hccg, hlg, hdz, hz2, hser, hrz, hsh, hta, hnum, hcw, hcb⟩ := h
  obtain ⟨b_zi, b_zc, b_zg, b_zf, b_zn, b_zl, b_zr, b_ze, b_zt, b_za, b_zw, b_zq⟩ := bz
  have h1 := oo_lt ho
  have h2 := oo_ne o
  have hat : (12 * nw + 3 * i + o) < 60 := by omega
  have e_sl : sl (12 * nw + 3 * i + o) = (nw * 48 + i * 4 + oo o) := sl_at (by omega) ho
  have n_sl : ∀ a, a < 60 → a ≠ (12 * nw + 3 * i + o) → sl a ≠ (nw * 48 + i * 4 + oo o) := fun a ha e z => e (sl_inj (z.trans e_sl.symm) ha hat)
  have n_hE := (fun a ha => by
    obtain ⟨e1, e2, e3, e4, e5, e6, e7⟩ := hE a ha
    by_cases e : a = (12 * nw + 3 * i + o)
    · subst e
      rw [h0] at e5
      rw [upd_eq]
      exact ⟨e1, e2, e3, e4, e5, e6, e7⟩
    · have e9 := n_sl a ha e
      rw [upd_ne e]
      exact ⟨e1, e2, e3, e4, e5, e6, e7⟩ : ∀ a, a < 60 → zc a = cents (sl a) ∧ zg a = grams (sl a) ∧ zl a = lc (sl a) ∧ zr a = lg (sl a) ∧ decide ((vf_upd zn (12 * nw + 3 * i + o) 0) a = 1) = cf (sl a) ∧ lIts true zf zc a = cc (sl a) ∧ decide (0 < zf a) = fx (sl a))
  exact ⟨hq, hs3, hb, bcc, bta, ⟨b_zi, b_zc, b_zg, b_zf, upd_bd b_zn (Nat.zero_le 1), b_zl, b_zr, b_ze, b_zt, b_za, b_zw, b_zq⟩, hgm, hit, n_hE, hcg, hccg, hlg, hdz, hz2, hser, hrz, hsh, hta, hnum, hcw, hcb⟩
theorem LInv.spend {nw : Nat} {n : Nat} {nc : Nat} {qn : Nat} {fq : Nat} {cents : Nat → Nat} {grams : Nat → Nat} {cf : Nat → Bool} {cc : Nat → Nat} {fx : Nat → Bool} {lc : Nat → Nat} {lg : Nat → Nat} {told : Nat → Nat} {adp : Nat → Nat} {shr : Nat → UInt64} {pr : Nat → UInt64} {rel : Nat → UInt64} {grp : Nat → UInt64} {idx : Nat → UInt64} {num : Nat → Nat} {zi : Nat → Nat} {zc : Nat → Nat} {zg : Nat → Nat} {zf : Nat → Nat} {zn : Nat → Nat} {zl : Nat → Nat} {zr : Nat → Nat} {ze : Nat → Nat} {zt : Nat → Nat} {za : Nat → Nat} {zw : Nat → Nat} {zq : Nat → Nat} {G : Nat → Nat} {M : Nat → Nat} {Sn : Nat → Nat} {fw : Nat → Nat} {lag : Nat → Nat} {trig : Nat → Nat} {fl : Nat → Bool} {fm : Nat → Nat} {cs : Nat → Nat × Nat × Nat × Nat} {q v : Nat} (h : LInv nw n nc qn fq cents grams cf cc fx lc lg told adp shr pr rel grp idx num zi zc zg zf zn zl zr ze zt za zw zq G M Sn fw lag trig fl fm cs) (hv : v ≤ 1000000000) : LInv nw n nc qn fq cents grams cf cc fx lc lg (vf_upd told q v) adp shr pr rel grp idx num zi zc zg zf zn zl zr ze (vf_upd zt q v) za zw zq G M Sn fw lag trig fl fm cs := by
  obtain ⟨hq, hs3, hb, bcc, bta, bz, hgm, hit, hE, hcg, hccg, hlg, hdz, hz2, hser, hrz, hsh, hta, hnum, hcw, hcb⟩ := h
  obtain ⟨b_zi, b_zc, b_zg, b_zf, b_zn, b_zl, b_zr, b_ze, b_zt, b_za, b_zw, b_zq⟩ := bz
  have n_hta := (fun k hk => by
    by_cases e : k = q
    · rw [e, upd_eq, upd_eq]; exact ⟨rfl, e ▸ (hta k hk).2⟩
    · rw [upd_ne e, upd_ne e]; exact hta k hk : ∀ k, k < 12 → vf_upd told q v k = vf_upd zt q v k ∧ adp k = za k)
  exact ⟨hq, hs3, hb, bcc, ⟨upd_bd bta.1 hv, bta.2⟩, ⟨b_zi, b_zc, b_zg, b_zf, b_zn, b_zl, b_zr, b_ze, upd_bd b_zt hv, b_za, b_zw, b_zq⟩, hgm, hit, hE, hcg, hccg, hlg, hdz, hz2, hser, hrz, hsh, n_hta, hnum, hcw, hcb⟩
theorem LInv.adopt {nw : Nat} {n : Nat} {nc : Nat} {qn : Nat} {fq : Nat} {cents : Nat → Nat} {grams : Nat → Nat} {cf : Nat → Bool} {cc : Nat → Nat} {fx : Nat → Bool} {lc : Nat → Nat} {lg : Nat → Nat} {told : Nat → Nat} {adp : Nat → Nat} {shr : Nat → UInt64} {pr : Nat → UInt64} {rel : Nat → UInt64} {grp : Nat → UInt64} {idx : Nat → UInt64} {num : Nat → Nat} {zi : Nat → Nat} {zc : Nat → Nat} {zg : Nat → Nat} {zf : Nat → Nat} {zn : Nat → Nat} {zl : Nat → Nat} {zr : Nat → Nat} {ze : Nat → Nat} {zt : Nat → Nat} {za : Nat → Nat} {zw : Nat → Nat} {zq : Nat → Nat} {G : Nat → Nat} {M : Nat → Nat} {Sn : Nat → Nat} {fw : Nat → Nat} {lag : Nat → Nat} {trig : Nat → Nat} {fl : Nat → Bool} {fm : Nat → Nat} {cs : Nat → Nat × Nat × Nat × Nat}  (h : LInv nw n nc qn fq cents grams cf cc fx lc lg told adp shr pr rel grp idx num zi zc zg zf zn zl zr ze zt za zw zq G M Sn fw lag trig fl fm cs)  : LInv nw n nc qn fq cents grams cf cc fx lc lg told (adF told adp 12) shr pr rel grp idx num zi zc zg zf zn zl zr ze zt (adF zt za 12) zw zq G M Sn fw lag trig fl fm cs := by
  obtain ⟨hq, hs3, hb, bcc, bta, bz, hgm, hit, hE, hcg, hccg, hlg, hdz, hz2, hser, hrz, hsh, hta, hnum, hcw, hcb⟩ := h
  obtain ⟨b_zi, b_zc, b_zg, b_zf, b_zn, b_zl, b_zr, b_ze, b_zt, b_za, b_zw, b_zq⟩ := bz
  exact ⟨hq, hs3, hb, bcc, ⟨bta.1, adF_le bta.1 bta.2.1 12, bta.2.2⟩, ⟨b_zi, b_zc, b_zg, b_zf, b_zn, b_zl, b_zr, b_ze, b_zt, adF_le b_zt b_za 12, b_zw, b_zq⟩, hgm, hit, hE, hcg, hccg, hlg, hdz, hz2, hser, hrz, hsh, fun k hk => ⟨(hta k hk).1, by rw [adF_at hk, adF_at hk]; exact (hta k hk).1⟩, hnum, hcw, hcb⟩
theorem LInv.fix {nw : Nat} {n : Nat} {nc : Nat} {qn : Nat} {fq : Nat} {cents : Nat → Nat} {grams : Nat → Nat} {cf : Nat → Bool} {cc : Nat → Nat} {fx : Nat → Bool} {lc : Nat → Nat} {lg : Nat → Nat} {told : Nat → Nat} {adp : Nat → Nat} {shr : Nat → UInt64} {pr : Nat → UInt64} {rel : Nat → UInt64} {grp : Nat → UInt64} {idx : Nat → UInt64} {num : Nat → Nat} {zi : Nat → Nat} {zc : Nat → Nat} {zg : Nat → Nat} {zf : Nat → Nat} {zn : Nat → Nat} {zl : Nat → Nat} {zr : Nat → Nat} {ze : Nat → Nat} {zt : Nat → Nat} {za : Nat → Nat} {zw : Nat → Nat} {zq : Nat → Nat} {G : Nat → Nat} {M : Nat → Nat} {Sn : Nat → Nat} {fw : Nat → Nat} {lag : Nat → Nat} {trig : Nat → Nat} {fl : Nat → Bool} {fm : Nat → Nat} {cs : Nat → Nat × Nat × Nat × Nat} {t i o ce : Nat} (h : LInv nw n nc qn fq cents grams cf cc fx lc lg told adp shr pr rel grp idx num zi zc zg zf zn zl zr ze zt za zw zq G M Sn fw lag trig fl fm cs) (ht : t < nw) (hi : i < n) (ho : o < 3) (hce : 1 ≤ ce) (kce : ce ≤ 100000) (hq9 : 0 < cents (t * 48 + i * 4 + oo o)) (hfq : fq + 1 ≤ 1000) : LInv nw n nc qn (if fx (t * 48 + i * 4 + oo o) = true then fq else fq + 1) cents grams cf (vf_upd cc (t * 48 + i * 4 + oo o) ce) (vf_upd fx (t * 48 + i * 4 + oo o) true) lc lg told adp shr pr rel grp idx num zi zc zg (vf_upd zf (12 * t + 3 * i + o) ce) zn zl zr ze zt za zw (vf_upd zq 4 (if fx (t * 48 + i * 4 + oo o) = true then fq else fq + 1)) G M Sn fw lag trig fl fm cs := by
  obtain ⟨hq, hs3, hb, bcc, bta, bz, hgm, hit, hE, hcg, hccg, hlg, hdz, hz2, hser, hrz, hsh, hta, hnum, hcw, hcb⟩ := h
  obtain ⟨b_zi, b_zc, b_zg, b_zf, b_zn, b_zl, b_zr, b_ze, b_zt, b_za, b_zw, b_zq⟩ := bz
  have h1 := oo_lt ho
  have h2 := oo_ne o
  have hat : (12 * t + 3 * i + o) < 60 := by omega
  have e_sl : sl (12 * t + 3 * i + o) = (t * 48 + i * 4 + oo o) := sl_at (by omega) ho
  have n_sl : ∀ a, a < 60 → a ≠ (12 * t + 3 * i + o) → sl a ≠ (t * 48 + i * 4 + oo o) := fun a ha e z => e (sl_inj (z.trans e_sl.symm) ha hat)
  have n_hE := (fun a ha => by
    obtain ⟨e1, e2, e3, e4, e5, e6, e7⟩ := hE a ha
    by_cases e : a = (12 * t + 3 * i + o)
    · subst e
      rw [e_sl] at e1 e2 e3 e4 e5 ⊢
      rw [lIts_p (by rw [upd_eq]; exact hce), upd_eq, upd_eq, upd_eq]
      exact ⟨e1, e2, e3, e4, e5, rfl, decide_eq_true hce⟩
    · have e9 := n_sl a ha e
      have e8 : lIts true (vf_upd zf (12 * t + 3 * i + o) ce) zc a = lIts true zf zc a := by unfold lIts; rw [upd_ne e]
      rw [e8, upd_ne e, upd_ne e9, upd_ne e9]
      exact ⟨e1, e2, e3, e4, e5, e6, e7⟩ : ∀ a, a < 60 → zc a = cents (sl a) ∧ zg a = grams (sl a) ∧ zl a = lc (sl a) ∧ zr a = lg (sl a) ∧ decide (zn a = 1) = cf (sl a) ∧ lIts true (vf_upd zf (12 * t + 3 * i + o) ce) zc a = (vf_upd cc (t * 48 + i * 4 + oo o) ce) (sl a) ∧ decide (0 < (vf_upd zf (12 * t + 3 * i + o) ce) a) = (vf_upd fx (t * 48 + i * 4 + oo o) true) (sl a))
  have n_hccg := (fun k => by
    by_cases e : k = (t * 48 + i * 4 + oo o)
    · have := hcg k
      rw [e] at this ⊢
      rw [upd_eq]; omega
    · rw [upd_ne e]; exact hccg k : ∀ k, vf_upd cc (t * 48 + i * 4 + oo o) ce k = 0 ↔ grams k = 0)
  exact ⟨⟨(upd_ne (by decide)).trans hq.1, (upd_ne (by decide)).trans hq.2.1, (upd_ne (by decide)).trans hq.2.2.1, (upd_ne (by decide)).trans hq.2.2.2.1, upd_eq⟩, hs3, hb, upd_bd bcc kce, bta, ⟨b_zi, b_zc, b_zg, upd_bd b_zf kce, b_zn, b_zl, b_zr, b_ze, b_zt, b_za, b_zw, upd_bd b_zq (by split <;> omega)⟩, hgm, hit, n_hE, hcg, n_hccg, hlg, hdz, hz2, hser, hrz, hsh, hta, hnum, hcw, hcb⟩
theorem LInv.nofix {nw : Nat} {n : Nat} {nc : Nat} {qn : Nat} {fq : Nat} {cents : Nat → Nat} {grams : Nat → Nat} {cf : Nat → Bool} {cc : Nat → Nat} {fx : Nat → Bool} {lc : Nat → Nat} {lg : Nat → Nat} {told : Nat → Nat} {adp : Nat → Nat} {shr : Nat → UInt64} {pr : Nat → UInt64} {rel : Nat → UInt64} {grp : Nat → UInt64} {idx : Nat → UInt64} {num : Nat → Nat} {zi : Nat → Nat} {zc : Nat → Nat} {zg : Nat → Nat} {zf : Nat → Nat} {zn : Nat → Nat} {zl : Nat → Nat} {zr : Nat → Nat} {ze : Nat → Nat} {zt : Nat → Nat} {za : Nat → Nat} {zw : Nat → Nat} {zq : Nat → Nat} {G : Nat → Nat} {M : Nat → Nat} {Sn : Nat → Nat} {fw : Nat → Nat} {lag : Nat → Nat} {trig : Nat → Nat} {fl : Nat → Bool} {fm : Nat → Nat} {cs : Nat → Nat × Nat × Nat × Nat} {t i o : Nat} (h : LInv nw n nc qn fq cents grams cf cc fx lc lg told adp shr pr rel grp idx num zi zc zg zf zn zl zr ze zt za zw zq G M Sn fw lag trig fl fm cs) (ht : t < nw) (hi : i < n) (ho : o < 3) (hq9 : cents (t * 48 + i * 4 + oo o) = 0) : LInv nw n nc qn fq cents grams cf cc fx lc lg told adp shr pr rel grp idx num zi zc zg (vf_upd zf (12 * t + 3 * i + o) 0) zn zl zr ze zt za zw (vf_upd zq 4 fq) G M Sn fw lag trig fl fm cs := by
  obtain ⟨hq, hs3, hb, bcc, bta, bz, hgm, hit, hE, hcg, hccg, hlg, hdz, hz2, hser, hrz, hsh, hta, hnum, hcw, hcb⟩ := h
  obtain ⟨b_zi, b_zc, b_zg, b_zf, b_zn, b_zl, b_zr, b_ze, b_zt, b_za, b_zw, b_zq⟩ := bz
  have h1 := oo_lt ho
  have h2 := oo_ne o
  have hat : (12 * t + 3 * i + o) < 60 := by omega
  have e_sl : sl (12 * t + 3 * i + o) = (t * 48 + i * 4 + oo o) := sl_at (by omega) ho
  have n_sl : ∀ a, a < 60 → a ≠ (12 * t + 3 * i + o) → sl a ≠ (t * 48 + i * 4 + oo o) := fun a ha e z => e (sl_inj (z.trans e_sl.symm) ha hat)
  have n_hE := (fun a ha => by
    obtain ⟨e1, e2, e3, e4, e5, e6, e7⟩ := hE a ha
    by_cases e : a = (12 * t + 3 * i + o)
    · subst e
      have hf : zf (12 * t + 3 * i + o) = 0 := lIts_le (by rw [e6, e_sl]; exact (hccg _).mpr ((hcg _).mp hq9))
      rw [lIts_0 hf] at e6
      rw [hf] at e7
      rw [lIts_0 upd_eq, upd_eq]
      exact ⟨e1, e2, e3, e4, e5, e6, e7⟩
    · have e9 := n_sl a ha e
      have e8 : lIts true (vf_upd zf (12 * t + 3 * i + o) 0) zc a = lIts true zf zc a := by unfold lIts; rw [upd_ne e]
      rw [e8, upd_ne e]
      exact ⟨e1, e2, e3, e4, e5, e6, e7⟩ : ∀ a, a < 60 → zc a = cents (sl a) ∧ zg a = grams (sl a) ∧ zl a = lc (sl a) ∧ zr a = lg (sl a) ∧ decide (zn a = 1) = cf (sl a) ∧ lIts true (vf_upd zf (12 * t + 3 * i + o) 0) zc a = cc (sl a) ∧ decide (0 < (vf_upd zf (12 * t + 3 * i + o) 0) a) = fx (sl a))
  exact ⟨⟨(upd_ne (by decide)).trans hq.1, (upd_ne (by decide)).trans hq.2.1, (upd_ne (by decide)).trans hq.2.2.1, (upd_ne (by decide)).trans hq.2.2.2.1, upd_eq⟩, hs3, hb, bcc, bta, ⟨b_zi, b_zc, b_zg, upd_bd b_zf (Nat.zero_le _), b_zn, b_zl, b_zr, b_ze, b_zt, b_za, b_zw, upd_bd b_zq (by have := b_zq 4; omega)⟩, hgm, hit, n_hE, hcg, hccg, hlg, hdz, hz2, hser, hrz, hsh, hta, hnum, hcw, hcb⟩
theorem LInv.item {nw : Nat} {n : Nat} {nc : Nat} {qn : Nat} {fq : Nat} {cents : Nat → Nat} {grams : Nat → Nat} {cf : Nat → Bool} {cc : Nat → Nat} {fx : Nat → Bool} {lc : Nat → Nat} {lg : Nat → Nat} {told : Nat → Nat} {adp : Nat → Nat} {shr : Nat → UInt64} {pr : Nat → UInt64} {rel : Nat → UInt64} {grp : Nat → UInt64} {idx : Nat → UInt64} {num : Nat → Nat} {zi : Nat → Nat} {zc : Nat → Nat} {zg : Nat → Nat} {zf : Nat → Nat} {zn : Nat → Nat} {zl : Nat → Nat} {zr : Nat → Nat} {ze : Nat → Nat} {zt : Nat → Nat} {za : Nat → Nat} {zw : Nat → Nat} {zq : Nat → Nat} {G : Nat → Nat} {M : Nat → Nat} {Sn : Nat → Nat} {fw : Nat → Nat} {lag : Nat → Nat} {trig : Nat → Nat} {fl : Nat → Bool} {fm : Nat → Nat} {cs : Nat → Nat × Nat × Nat × Nat} {g mn sn : Nat} (h : LInv nw n nc qn fq cents grams cf cc fx lc lg told adp shr pr rel grp idx num zi zc zg zf zn zl zr ze zt za zw zq G M Sn fw lag trig fl fm cs) (hn4 : n < 4) (hg : g < 4) (kmn : mn ≤ 2) (ksn : sn ≤ 4095) : LInv nw (n + 1) nc qn fq cents grams cf cc fx lc lg told adp shr pr rel grp idx num (vf_upd (vf_upd (vf_upd zi (3 * n) g) (3 * n + 1) mn) (3 * n + 2) sn) zc zg zf zn zl zr ze zt za zw (vf_upd zq 0 (n + 1)) (vf_upd G n g) (vf_upd M n mn) (vf_upd Sn n sn) fw lag trig fl fm cs := by
  obtain ⟨hq, hs3, hb, bcc, bta, bz, hgm, hit, hE, hcg, hccg, hlg, hdz, hz2, hser, hrz, hsh, hta, hnum, hcw, hcb⟩ := h
  obtain ⟨b_zi, b_zc, b_zg, b_zf, b_zn, b_zl, b_zr, b_ze, b_zt, b_za, b_zw, b_zq⟩ := bz
  have n_hit := (fun k hk => by
    by_cases e : k = n
    · subst e
      exact ⟨by rw [upd_ne (by omega), upd_ne (by omega), upd_eq, upd_eq], by rw [upd_ne (by omega), upd_eq, upd_eq], by rw [upd_eq, upd_eq]⟩
    · obtain ⟨z1, z2, z3⟩ := hit k (by omega)
      exact ⟨by rw [upd_ne (by omega), upd_ne (by omega), upd_ne (by omega), upd_ne e]; exact z1, by rw [upd_ne (by omega), upd_ne (by omega), upd_ne (by omega), upd_ne e]; exact z2, by rw [upd_ne (by omega), upd_ne (by omega), upd_ne (by omega), upd_ne e]; exact z3⟩ : ∀ k, k < n + 1 → (vf_upd (vf_upd (vf_upd zi (3 * n) g) (3 * n + 1) mn) (3 * n + 2) sn) (3 * k) = vf_upd G n g k ∧ (vf_upd (vf_upd (vf_upd zi (3 * n) g) (3 * n + 1) mn) (3 * n + 2) sn) (3 * k + 1) = vf_upd M n mn k ∧ (vf_upd (vf_upd (vf_upd zi (3 * n) g) (3 * n + 1) mn) (3 * n + 2) sn) (3 * k + 2) = vf_upd Sn n sn k)
  have n_hser := hser.congr (M' := vf_upd M n mn) (G' := vf_upd G n g) (fun k _ => ⟨rfl, rfl, rfl, rfl, rfl⟩) (fun _ _ => rfl) (fun i hi => by
    by_cases e : i = n
    · subst e; exact Or.inr (fun t ht => ⟨(hrz t (by omega) i (Nat.le_refl i) hi).1, fun j hj => (hdz t i (Nat.le_refl i) hi j hj).2.1⟩)
    · exact Or.inl ⟨(upd_ne e).symm, (upd_ne e).symm⟩)
  exact ⟨⟨upd_eq, (upd_ne (by decide)).trans hq.2.1, (upd_ne (by decide)).trans hq.2.2.1, (upd_ne (by decide)).trans hq.2.2.2.1, (upd_ne (by decide)).trans hq.2.2.2.2⟩, ⟨hn4, hs3.2⟩, hb, bcc, bta, ⟨upd_bd (upd_bd (upd_bd b_zi (by omega)) (by omega)) ksn, b_zc, b_zg, b_zf, b_zn, b_zl, b_zr, b_ze, b_zt, b_za, b_zw, upd_bd b_zq (by omega)⟩, ⟨upd_bd hgm.1 (by omega), upd_bd hgm.2.1 kmn, upd_bd hgm.2.2 ksn⟩, n_hit, hE, hcg, hccg, hlg, fun t i h1 h2 => hdz t i (by omega) h2, hz2, n_hser, fun t ht i h1 h2 => hrz t ht i (by omega) h2, hsh, hta, hnum, hcw, hcb⟩
theorem LInv.contract {nw : Nat} {n : Nat} {nc : Nat} {qn : Nat} {fq : Nat} {cents : Nat → Nat} {grams : Nat → Nat} {cf : Nat → Bool} {cc : Nat → Nat} {fx : Nat → Bool} {lc : Nat → Nat} {lg : Nat → Nat} {told : Nat → Nat} {adp : Nat → Nat} {shr : Nat → UInt64} {pr : Nat → UInt64} {rel : Nat → UInt64} {grp : Nat → UInt64} {idx : Nat → UInt64} {num : Nat → Nat} {zi : Nat → Nat} {zc : Nat → Nat} {zg : Nat → Nat} {zf : Nat → Nat} {zn : Nat → Nat} {zl : Nat → Nat} {zr : Nat → Nat} {ze : Nat → Nat} {zt : Nat → Nat} {za : Nat → Nat} {zw : Nat → Nat} {zq : Nat → Nat} {G : Nat → Nat} {M : Nat → Nat} {Sn : Nat → Nat} {fw : Nat → Nat} {lag : Nat → Nat} {trig : Nat → Nat} {fl : Nat → Bool} {fm : Nat → Nat} {cs : Nat → Nat × Nat × Nat × Nat} {wg lg9 tr9 f9 : Nat} (h : LInv nw n nc qn fq cents grams cf cc fx lc lg told adp shr pr rel grp idx num zi zc zg zf zn zl zr ze zt za zw zq G M Sn fw lag trig fl fm cs) (hnw1 : 0 < nw) (hnc : nc < 3) (kwg : wg ≤ 1000000000) (klg9 : lg9 ≤ 3) (ktr9 : tr9 ≤ 500) (kf9 : f9 ≤ 1) (h60 : zw (10 * nc + 6) = 0) (h1n : 1 ≤ num (nw - 1)) : LInv nw n (nc + 1) qn fq cents grams cf cc fx lc lg told adp shr pr rel grp idx num zi zc zg zf zn zl zr ze zt za (vf_upd (vf_upd (vf_upd (vf_upd (vf_upd (vf_upd (vf_upd (vf_upd zw (10 * nc) wg) (10 * nc + 1) lg9) (10 * nc + 2) tr9) (10 * nc + 3) f9) (10 * nc + 4) (num (nw - 1))) (10 * nc + 5) (nw - 1)) (10 * nc + 7) wg) (10 * nc + 8) (nw - 1)) (vf_upd zq 3 (nc + 1)) G M Sn (vf_upd fw nc wg) (vf_upd lag nc lg9) (vf_upd trig nc tr9) (vf_upd fl nc (decide (f9 = 1))) (vf_upd fm nc (nw - 1)) (vf_upd cs nc (wg, num (nw - 1), nw - 1, 0)) := by
  obtain ⟨hq, hs3, hb, bcc, bta, bz, hgm, hit, hE, hcg, hccg, hlg, hdz, hz2, hser, hrz, hsh, hta, hnum, hcw, hcb⟩ := h
  obtain ⟨b_zi, b_zc, b_zg, b_zf, b_zn, b_zl, b_zr, b_ze, b_zt, b_za, b_zw, b_zq⟩ := bz
  have n_hcw := (fun k hk => by
    by_cases e : k = nc
    · subst e
      exact ⟨by rw [upd_ne (by omega), upd_ne (by omega), upd_ne (by omega), upd_ne (by omega), upd_ne (by omega), upd_ne (by omega), upd_ne (by omega), upd_eq, upd_eq], by rw [upd_ne (by omega), upd_ne (by omega), upd_ne (by omega), upd_ne (by omega), upd_ne (by omega), upd_ne (by omega), upd_eq, upd_eq], by rw [upd_ne (by omega), upd_ne (by omega), upd_ne (by omega), upd_ne (by omega), upd_ne (by omega), upd_eq, upd_eq], by rw [upd_ne (by omega), upd_ne (by omega), upd_ne (by omega), upd_ne (by omega), upd_eq, upd_eq], by rw [upd_ne (by omega), upd_ne (by omega), upd_ne (by omega), upd_eq, upd_eq], by rw [upd_ne (by omega), upd_ne (by omega), upd_eq, upd_eq], by rw [upd_ne (by omega), upd_ne (by omega), upd_ne (by omega), upd_ne (by omega), upd_ne (by omega), upd_ne (by omega), upd_ne (by omega), upd_ne (by omega), upd_eq]; exact h60, by rw [upd_ne (by omega), upd_eq, upd_eq], by rw [upd_eq, upd_eq]⟩
    · obtain ⟨z0, z1, z2, z3, z4, z5, z6, z7, z8⟩ := hcw k (by omega)
      exact ⟨by rw [upd_ne (by omega), upd_ne (by omega), upd_ne (by omega), upd_ne (by omega), upd_ne (by omega), upd_ne (by omega), upd_ne (by omega), upd_ne (by omega), upd_ne e]; exact z0, by rw [upd_ne (by omega), upd_ne (by omega), upd_ne (by omega), upd_ne (by omega), upd_ne (by omega), upd_ne (by omega), upd_ne (by omega), upd_ne (by omega), upd_ne e]; exact z1, by rw [upd_ne (by omega), upd_ne (by omega), upd_ne (by omega), upd_ne (by omega), upd_ne (by omega), upd_ne (by omega), upd_ne (by omega), upd_ne (by omega), upd_ne e]; exact z2, by rw [upd_ne (by omega), upd_ne (by omega), upd_ne (by omega), upd_ne (by omega), upd_ne (by omega), upd_ne (by omega), upd_ne (by omega), upd_ne (by omega), upd_ne e]; exact z3, by rw [upd_ne (by omega), upd_ne (by omega), upd_ne (by omega), upd_ne (by omega), upd_ne (by omega), upd_ne (by omega), upd_ne (by omega), upd_ne (by omega), upd_ne e]; exact z4, by rw [upd_ne (by omega), upd_ne (by omega), upd_ne (by omega), upd_ne (by omega), upd_ne (by omega), upd_ne (by omega), upd_ne (by omega), upd_ne (by omega), upd_ne e]; exact z5, by rw [upd_ne (by omega), upd_ne (by omega), upd_ne (by omega), upd_ne (by omega), upd_ne (by omega), upd_ne (by omega), upd_ne (by omega), upd_ne (by omega), upd_ne e]; exact z6, by rw [upd_ne (by omega), upd_ne (by omega), upd_ne (by omega), upd_ne (by omega), upd_ne (by omega), upd_ne (by omega), upd_ne (by omega), upd_ne (by omega), upd_ne e]; exact z7, by rw [upd_ne (by omega), upd_ne (by omega), upd_ne (by omega), upd_ne (by omega), upd_ne (by omega), upd_ne (by omega), upd_ne (by omega), upd_ne (by omega), upd_ne e]; exact z8⟩ : ∀ k, k < nc + 1 → (vf_upd (vf_upd (vf_upd (vf_upd (vf_upd (vf_upd (vf_upd (vf_upd zw (10 * nc) wg) (10 * nc + 1) lg9) (10 * nc + 2) tr9) (10 * nc + 3) f9) (10 * nc + 4) (num (nw - 1))) (10 * nc + 5) (nw - 1)) (10 * nc + 7) wg) (10 * nc + 8) (nw - 1)) (10 * k) = ((vf_upd cs nc (wg, num (nw - 1), nw - 1, 0)) k).1 ∧ (vf_upd (vf_upd (vf_upd (vf_upd (vf_upd (vf_upd (vf_upd (vf_upd zw (10 * nc) wg) (10 * nc + 1) lg9) (10 * nc + 2) tr9) (10 * nc + 3) f9) (10 * nc + 4) (num (nw - 1))) (10 * nc + 5) (nw - 1)) (10 * nc + 7) wg) (10 * nc + 8) (nw - 1)) (10 * k + 1) = (vf_upd lag nc lg9) k ∧ (vf_upd (vf_upd (vf_upd (vf_upd (vf_upd (vf_upd (vf_upd (vf_upd zw (10 * nc) wg) (10 * nc + 1) lg9) (10 * nc + 2) tr9) (10 * nc + 3) f9) (10 * nc + 4) (num (nw - 1))) (10 * nc + 5) (nw - 1)) (10 * nc + 7) wg) (10 * nc + 8) (nw - 1)) (10 * k + 2) = (vf_upd trig nc tr9) k ∧ decide ((vf_upd (vf_upd (vf_upd (vf_upd (vf_upd (vf_upd (vf_upd (vf_upd zw (10 * nc) wg) (10 * nc + 1) lg9) (10 * nc + 2) tr9) (10 * nc + 3) f9) (10 * nc + 4) (num (nw - 1))) (10 * nc + 5) (nw - 1)) (10 * nc + 7) wg) (10 * nc + 8) (nw - 1)) (10 * k + 3) = 1) = (vf_upd fl nc (decide (f9 = 1))) k ∧ (vf_upd (vf_upd (vf_upd (vf_upd (vf_upd (vf_upd (vf_upd (vf_upd zw (10 * nc) wg) (10 * nc + 1) lg9) (10 * nc + 2) tr9) (10 * nc + 3) f9) (10 * nc + 4) (num (nw - 1))) (10 * nc + 5) (nw - 1)) (10 * nc + 7) wg) (10 * nc + 8) (nw - 1)) (10 * k + 4) = ((vf_upd cs nc (wg, num (nw - 1), nw - 1, 0)) k).2.1 ∧ (vf_upd (vf_upd (vf_upd (vf_upd (vf_upd (vf_upd (vf_upd (vf_upd zw (10 * nc) wg) (10 * nc + 1) lg9) (10 * nc + 2) tr9) (10 * nc + 3) f9) (10 * nc + 4) (num (nw - 1))) (10 * nc + 5) (nw - 1)) (10 * nc + 7) wg) (10 * nc + 8) (nw - 1)) (10 * k + 5) = ((vf_upd cs nc (wg, num (nw - 1), nw - 1, 0)) k).2.2.1 ∧ (vf_upd (vf_upd (vf_upd (vf_upd (vf_upd (vf_upd (vf_upd (vf_upd zw (10 * nc) wg) (10 * nc + 1) lg9) (10 * nc + 2) tr9) (10 * nc + 3) f9) (10 * nc + 4) (num (nw - 1))) (10 * nc + 5) (nw - 1)) (10 * nc + 7) wg) (10 * nc + 8) (nw - 1)) (10 * k + 6) = ((vf_upd cs nc (wg, num (nw - 1), nw - 1, 0)) k).2.2.2 ∧ (vf_upd (vf_upd (vf_upd (vf_upd (vf_upd (vf_upd (vf_upd (vf_upd zw (10 * nc) wg) (10 * nc + 1) lg9) (10 * nc + 2) tr9) (10 * nc + 3) f9) (10 * nc + 4) (num (nw - 1))) (10 * nc + 5) (nw - 1)) (10 * nc + 7) wg) (10 * nc + 8) (nw - 1)) (10 * k + 7) = (vf_upd fw nc wg) k ∧ (vf_upd (vf_upd (vf_upd (vf_upd (vf_upd (vf_upd (vf_upd (vf_upd zw (10 * nc) wg) (10 * nc + 1) lg9) (10 * nc + 2) tr9) (10 * nc + 3) f9) (10 * nc + 4) (num (nw - 1))) (10 * nc + 5) (nw - 1)) (10 * nc + 7) wg) (10 * nc + 8) (nw - 1)) (10 * k + 8) = (vf_upd fm nc (nw - 1)) k)
  have n_hcb := (fun k hk => by
    by_cases e : k = nc
    · subst e
      rw [upd_eq, upd_eq, upd_eq, upd_eq, upd_eq]
      exact ⟨kwg, klg9, ktr9, by omega, kwg, h1n, bta.2.2 _, by show nw - 1 < nw; omega, Nat.zero_le _⟩
    · rw [upd_ne e, upd_ne e, upd_ne e, upd_ne e, upd_ne e]
      exact hcb k (by omega) : ∀ k, k < nc + 1 → (vf_upd fw nc wg) k ≤ 1000000000 ∧ (vf_upd lag nc lg9) k ≤ 3 ∧ (vf_upd trig nc tr9) k ≤ 500 ∧ (vf_upd fm nc (nw - 1)) k < nw ∧ ((vf_upd cs nc (wg, num (nw - 1), nw - 1, 0)) k).1 ≤ 1000000000 ∧ 1 ≤ ((vf_upd cs nc (wg, num (nw - 1), nw - 1, 0)) k).2.1 ∧ ((vf_upd cs nc (wg, num (nw - 1), nw - 1, 0)) k).2.1 ≤ 2147483647 ∧ ((vf_upd cs nc (wg, num (nw - 1), nw - 1, 0)) k).2.2.1 < nw ∧ ((vf_upd cs nc (wg, num (nw - 1), nw - 1, 0)) k).2.2.2 ≤ nw * 1000000000)
  exact ⟨⟨(upd_ne (by decide)).trans hq.1, (upd_ne (by decide)).trans hq.2.1, (upd_ne (by decide)).trans hq.2.2.1, upd_eq, (upd_ne (by decide)).trans hq.2.2.2.2⟩, ⟨hs3.1, hs3.2.1, hnc⟩, hb, bcc, bta, ⟨b_zi, b_zc, b_zg, b_zf, b_zn, b_zl, b_zr, b_ze, b_zt, b_za, upd_bd (upd_bd (upd_bd (upd_bd (upd_bd (upd_bd (upd_bd (upd_bd b_zw (by omega)) (by omega)) (by omega)) (by omega)) (by have := bta.2.2 (nw - 1); omega)) (by omega)) (by omega)) (by omega), upd_bd b_zq (by omega)⟩, hgm, hit, hE, hcg, hccg, hlg, hdz, hz2, hser, hrz, hsh, hta, hnum, n_hcw, n_hcb⟩
