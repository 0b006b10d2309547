/-! the law's sums over items, groups, months -/
section GL9
variable {p : Program} {l : Launch} {e : Env} {R : Room} {s : State} {m : MethodId} {args : Array Value} {below : List Frame} {meth : Method} {c : Code} {H H0 : Heap} {locs : List Loc} {cells slots : Nat} {Q : State → Prop}
variable {cc : ByteArray} {pc : Nat} {ls : Array Slot} {rest : List Value}
theorem g_lgcS {a b d : Nat} (ha : a < 2 ^ 62) (hb : b < 2 ^ 62) (hd : d < 2 ^ 62) : lg_cmp (lN a - lN b) (lN d) = if b + d < a then 1 else if a = b + d then 0 else (-1) := by
  have hs : (lN a - lN b).toInt = (a : Int) - b := by
    rw [Int64.toInt_sub, pk_lT (by omega), pk_lT (by omega)]
    exact Int.bmod_eq_of_le (by omega) (by omega)
  have hdn : (lN d).toInt = (d : Int) := pk_lT (by omega)
  have h1 : lN a - lN b > lN d ↔ b + d < a := by
    show lN d < lN a - lN b ↔ _
    rw [Int64.lt_iff_toInt_lt, hs, hdn]; omega
  have h2 : lN a - lN b = lN d ↔ a = b + d := by
    rw [← Int64.toInt_inj, hs, hdn]; omega
  unfold lg_cmp
  simp only [h1, h2]
theorem g_lcmpS_lt (hexec : p.tables.exec = Jvm.exec) (hb : c.code = cc) {a b d : Nat} {off : Int} {tgt : Nat} (ha : a < 2 ^ 62) (hb2 : b < 2 ^ 62) (hd2 : d < 2 ^ 62) (hdg : decode cc pc = .ok (.lcmp, 1)) (hdh : decode cc (pc + 1) = .ok (.ifCond .lt off, 3)) (ht : ((pc + 1 : Nat) : Int) + off = (tgt : Int)) (kt : a < b + d → W p l e R s m args below meth c H locs cells slots Q (F0 m tgt ls rest)) (kf : b + d ≤ a → W p l e R s m args below meth c H locs cells slots Q (F0 m (pc + 1 + 3) ls rest)) : W p l e R s m args below meth c H locs cells slots Q (F0 m pc ls (.long (lN d) :: .long (lN a - lN b) :: rest)) := by
  refine W.lcmp hexec hb hdg ?_
  rw [g_lgcS ha hb2 hd2]
  refine lv_if_lt hexec hb hdh ht (fun h => kt ?_) (fun h => kf ?_) <;> revert h <;> split <;> (try split) <;> intro h <;> first | omega | (exact absurd h (by decide)) | (exact absurd rfl h) | (exact absurd (by decide) h)
end GL9
def itG (G : Nat → Nat) (rel : Nat → UInt64) (g t k : Nat) : UInt64 := if G k = g then rel (t * 12 + k) else 0
theorem z_ngt : ¬ Dgt 0 0 := by decide +kernel
theorem itG_t {G : Nat → Nat} {rel : Nat → UInt64} {g t k : Nat} (h : Dgt (itG G rel g t k) 0) : gM G rel g t (t * 12 + k) = true ∧ itG G rel g t k = rel (t * 12 + k) := by
  unfold itG at h ⊢
  by_cases q : G k = g
  · rw [if_pos q] at h ⊢; exact ⟨gM_t q h, rfl⟩
  · rw [if_neg q] at h; exact absurd h z_ngt
theorem itG_f {G : Nat → Nat} {rel : Nat → UInt64} {g t k : Nat} (h : ¬ Dgt (itG G rel g t k) 0) : gM G rel g t (t * 12 + k) = false := by
  unfold itG at h
  by_cases q : G k = g
  · rw [if_pos q] at h; exact gM_f (Or.inr h)
  · exact gM_f (Or.inl q)
theorem mN_b {M : Nat → Bool} {k0 j : Nat} : mN M k0 j + bN (M (k0 + j)) = mN M k0 (j + 1) := by
  cases h : M (k0 + j)
  · rw [mN_f h, bN_f rfl]; rfl
  · rw [mN_t h, bN_t rfl]
theorem gV_3 {mn : Nat} {M : Nat → Bool} {o b pr : Nat → UInt64} {k0 : Nat} : gV 3 mn M o b pr k0 = sMean mn M o b k0 := by
  unfold gV
  rw [if_neg (by decide), if_neg (by decide), if_neg (by decide), if_pos rfl]
/-- the shares with what is counted of a household -/
def sMn (ad : Nat → Nat) (kd : Nat) : Nat → Nat
  | 0 => 0
  | j + 1 => if 0 < uS ad (j * 4) 4 ∧ mCt kd j = true then sMn ad kd j + 1 else sMn ad kd j
def sMs (ad : Nat → Nat) (kd g : Nat) : Nat → UInt64
  | 0 => 0
  | j + 1 => if 0 < uS ad (j * 4) 4 ∧ mCt kd j = true then FP.dadd (sMs ad kd g j) (sShH ad j g) else sMs ad kd g j
theorem sMn_t {ad : Nat → Nat} {kd j : Nat} (h : 0 < uS ad (j * 4) 4) (k : mCt kd j = true) : sMn ad kd (j + 1) = sMn ad kd j + 1 := if_pos ⟨h, k⟩
theorem sMn_f {ad : Nat → Nat} {kd j : Nat} (h : ¬ (0 < uS ad (j * 4) 4 ∧ mCt kd j = true)) : sMn ad kd (j + 1) = sMn ad kd j := if_neg h
theorem sMs_t {ad : Nat → Nat} {kd g j : Nat} (h : 0 < uS ad (j * 4) 4) (k : mCt kd j = true) : sMs ad kd g (j + 1) = FP.dadd (sMs ad kd g j) (sShH ad j g) := if_pos ⟨h, k⟩
theorem sMs_f {ad : Nat → Nat} {kd g j : Nat} (h : ¬ (0 < uS ad (j * 4) 4 ∧ mCt kd j = true)) : sMs ad kd g (j + 1) = sMs ad kd g j := if_neg h
theorem sMn_le (ad : Nat → Nat) (kd : Nat) : ∀ j, sMn ad kd j ≤ j
  | 0 => Nat.le_refl 0
  | j + 1 => by
    have h := sMn_le ad kd j
    unfold sMn
    split <;> omega
theorem sMn_0 {ad : Nat → Nat} {kd : Nat} : ∀ {j : Nat}, sMn ad kd j = 0 ↔ mAl ad kd j = 0
  | 0 => ⟨fun _ => rfl, fun _ => rfl⟩
  | j + 1 => by
    have ih := sMn_0 (ad := ad) (kd := kd) (j := j)
    unfold sMn mAl
    by_cases h : mCt kd j = true
    · rw [if_pos h]
      by_cases q : 0 < uS ad (j * 4) 4
      · rw [if_pos ⟨q, h⟩]; omega
      · rw [if_neg (fun z => q z.1)]; omega
    · rw [if_neg h, if_neg (fun z => h z.2)]; omega
theorem sMn_1 {ad : Nat → Nat} {kd : Nat} (h : kd < 2) : ∀ j, sMn ad kd j = mhN ad j
  | 0 => rfl
  | j + 1 => by
    unfold sMn mhN
    rw [sMn_1 h j]
    by_cases q : 0 < uS ad (j * 4) 4
    · rw [if_pos ⟨q, mCt_1 h⟩, if_pos q]
    · rw [if_neg (fun z => q z.1), if_neg q]
theorem sMs_1 {ad : Nat → Nat} {kd g : Nat} (h : kd < 2) : ∀ j, sMs ad kd g j = mhS ad g j
  | 0 => rfl
  | j + 1 => by
    unfold sMs mhS
    rw [sMs_1 h j]
    by_cases q : 0 < uS ad (j * 4) 4
    · rw [if_pos ⟨q, mCt_1 h⟩, if_pos q]
    · rw [if_neg (fun z => q z.1), if_neg q]
theorem uS4_z {ad : Nat → Nat} {k g : Nat} (hg : g < 4) (h : uS ad k 4 = 0) : ad (k + g) = 0 := by
  rw [show uS ad k 4 = ad (k + 0) + ad (k + 1) + ad (k + 2) + ad (k + 3) by simp [uS]] at h
  rcases (show g = 0 ∨ g = 1 ∨ g = 2 ∨ g = 3 by omega) with rfl | rfl | rfl | rfl <;> omega
theorem mAl_t {ad : Nat → Nat} {kd j : Nat} (k : mCt kd j = true) : mAl ad kd (j + 1) = mAl ad kd j + uS ad (j * 4) 4 := by
  show mAl ad kd j + _ = _
  rw [if_pos k]
theorem mAl_f {ad : Nat → Nat} {kd j : Nat} (h : ¬ (0 < uS ad (j * 4) 4 ∧ mCt kd j = true)) : mAl ad kd (j + 1) = mAl ad kd j := by
  show mAl ad kd j + _ = _
  by_cases k : mCt kd j = true
  · rw [if_pos k]
    have : ¬ 0 < uS ad (j * 4) 4 := fun z => h ⟨z, k⟩
    omega
  · rw [if_neg k]; rfl
theorem mPt_t {ad : Nat → Nat} {kd g j : Nat} (k : mCt kd j = true) : mPt ad kd g (j + 1) = mPt ad kd g j + ad (j * 4 + g) := by
  show mPt ad kd g j + _ = _
  rw [if_pos k]
theorem mPt_f {ad : Nat → Nat} {kd g j : Nat} (hg : g < 4) (h : ¬ (0 < uS ad (j * 4) 4 ∧ mCt kd j = true)) : mPt ad kd g (j + 1) = mPt ad kd g j := by
  show mPt ad kd g j + _ = _
  by_cases k : mCt kd j = true
  · rw [if_pos k, uS4_z (ad := ad) (k := j * 4) hg (by have : ¬ 0 < uS ad (j * 4) 4 := fun z => h ⟨z, k⟩; omega)]; rfl
  · rw [if_neg k]; rfl
/-- nothing is drawn when a share is reckoned -/
def nnSh (ad : Nat → Nat) (kd g : Nat) : Prop := (∀ j, j < 3 → vf_n64 (FP.dadd (sMs ad kd g j) (sShH ad j g))) ∧ (kd = 1 → mAl ad kd 3 ≠ 0 → vf_n64 (FP.ddiv (mhS ad g 3) (FP.i2d (nI (mhN ad 3)))))
theorem uS_at {f : Nat → Nat} {a j : Nat} : f (a + 4 * j) + f (a + 4 * j + 1) + f (a + 4 * j + 2) + f (a + 4 * j + 3) = uS (fun k9 => f (a + k9)) (j * 4) 4 := by
  show _ = 0 + f (a + (j * 4 + 0)) + f (a + (j * 4 + 1)) + f (a + (j * 4 + 2)) + f (a + (j * 4 + 3))
  rw [show a + (j * 4 + 0) = a + 4 * j by omega, show a + (j * 4 + 1) = a + 4 * j + 1 by omega, show a + (j * 4 + 2) = a + 4 * j + 2 by omega, show a + (j * 4 + 3) = a + 4 * j + 3 by omega, Nat.zero_add]
set_option maxHeartbeats 4000000 in
set_option maxRecDepth 100000 in
theorem c_L_group (l : Launch) {D : va_G} {y : Nat → Nat} {ws : va_W} {p_zi p_zc p_zg p_zf p_zn p_zl p_zr p_zq a_zi a_zc a_zg a_zf a_zn a_zl a_zr a_zq : Nat} {zi : Nat → Nat} {zc : Nat → Nat} {zg : Nat → Nat} {zf : Nat → Nat} {zn : Nat → Nat} {zl : Nat → Nat} {zr : Nat → Nat} {zq : Nat → Nat} {wc mo n T : Nat} {wf : Bool} {M : Nat → Bool} {o b pr rel : Nat → UInt64} {MM G : Nat → Nat} (f0_zi : ws[p_zi]? = some (a_zi, eN y 12 zi)) (f0_zc : ws[p_zc]? = some (a_zc, eN y 60 zc)) (f0_zg : ws[p_zg]? = some (a_zg, eN y 60 zg)) (f0_zf : ws[p_zf]? = some (a_zf, eN y 60 zf)) (f0_zn : ws[p_zn]? = some (a_zn, eN y 60 zn)) (f0_zl : ws[p_zl]? = some (a_zl, eN y 60 zl)) (f0_zr : ws[p_zr]? = some (a_zr, eN y 60 zr)) (f0_zq : ws[p_zq]? = some (a_zq, eN y 5 zq)) (b_zi : ∀ k, zi k ≤ 4095) (b_zc : ∀ k, zc k ≤ 100000) (b_zg : ∀ k, zg k ≤ 10000) (b_zf : ∀ k, zf k ≤ 100000) (b_zn : ∀ k, zn k ≤ 1) (b_zl : ∀ k, zl k ≤ 100000) (b_zr : ∀ k, zr k ≤ 10000) (b_zq : ∀ k, zq k ≤ 1000) (hwc : wc < 4) (hmo : mo < T) (hT : T ≤ 5) (hq0 : zq 0 = n) (hn : n ≤ 4) (hG9 : ∀ k, k < n → zi (3 * k) = G k ∧ zi (3 * k + 1) = MM k ∧ MM k < 2 ^ 31 ∧ sMean (MM k) M o b (mo * 48 + k * 4 + 0) = rel (mo * 12 + k)) (hGK : ∀ k, k < n → ∀ t, t < T → GK wf zc zg zf zn zl zr k (MM k) M o b pr t) (hnn : nnGrp G rel n wc mo) : gMd l yL_group wsL_group ({ frames := 2, cells := 0, slots := 0, locals := 96 }) D y [.int (nI (wc)), .int (nI (mo)), .int (gb (wf)), .ref a_zi, .ref a_zc, .ref a_zg, .ref a_zf, .ref a_zn, .ref a_zl, .ref a_zr, .ref a_zq] ws (fun r (_ : Unit) => r = sGrp G rel n wc mo) (fun (_ : Unit) => ws) := by
  refine g_met_d (cc := cL_group) (maxL := 17) (by decide) rfl (Nat.le_of_ble_eq_true rfl) ?_
  intro p e s m below meth c A hx hb hml hr hts hown hnm hlocks hE hP hD hS hA ls hl
  have hown : s.vm.findClass RL = some m.cls := hown
  have hl : lv_has ls 17 [(0, .int (nI (wc))), (1, .int (nI (mo))), (2, .int (gb (wf))), (3, .ref a_zi), (4, .ref a_zc), (5, .ref a_zg), (6, .ref a_zf), (7, .ref a_zn), (8, .ref a_zl), (9, .ref a_zr), (10, .ref a_zq)] := hl
  refine g_dconst0 hx hb dL_group_0 ?_
  refine lv_dstore (lv' := [(11, .double 0), (0, .int (nI (wc))), (1, .int (nI (mo))), (2, .int (gb (wf))), (3, .ref a_zi), (4, .ref a_zc), (5, .ref a_zg), (6, .ref a_zf), (7, .ref a_zn), (8, .ref a_zl), (9, .ref a_zr), (10, .ref a_zq)]) hx hb dL_group_1 hl (by decide) rfl (fun ls hl => ?_)
  refine lv_iconst (v := nI 0) hx hb dL_group_3 (by decide) ?_
  refine lv_istore (lv' := [(13, .int (nI (0))), (11, .double 0), (0, .int (nI (wc))), (1, .int (nI (mo))), (2, .int (gb (wf))), (3, .ref a_zi), (4, .ref a_zc), (5, .ref a_zg), (6, .ref a_zf), (7, .ref a_zn), (8, .ref a_zl), (9, .ref a_zr), (10, .ref a_zq)]) hx hb dL_group_4 hl (by decide) rfl (fun ls hl => ?_)
  refine lv_iconst (v := nI 0) hx hb dL_group_6 (by decide) ?_
  refine lv_istore (lv' := [(14, .int (nI (0))), (13, .int (nI (0))), (11, .double 0), (0, .int (nI (wc))), (1, .int (nI (mo))), (2, .int (gb (wf))), (3, .ref a_zi), (4, .ref a_zc), (5, .ref a_zg), (6, .ref a_zf), (7, .ref a_zn), (8, .ref a_zl), (9, .ref a_zr), (10, .ref a_zq)]) hx hb dL_group_7 hl (by decide) rfl (fun ls hl => ?_)
  have hP : gvP D vwCl ws _ := g_trP (rfl) hP
  have hD : gvD A ws := g_trD (rfl) hD
  refine g_for (fun k => ws) (fun k => [(0, .int (nI (wc))), (1, .int (nI (mo))), (2, .int (gb (wf))), (3, .ref a_zi), (4, .ref a_zc), (5, .ref a_zg), (6, .ref a_zf), (7, .ref a_zn), (8, .ref a_zl), (9, .ref a_zr), (10, .ref a_zq), (11, .double (mS (gM G rel wc mo) rel (mo * 12) (k))), (13, .int (nI (mN (gM G rel wc mo) (mo * 12) (k)))), (14, .int (nI (k)))]) (n) (0) (by omega) ?_ ?_ hP hD hS (lv_sub hl [3, 4, 5, 6, 7, 8, 9, 10, 11, 12, 13, 2, 1, 0] rfl)
  · intro H locs ls hP hD hS hl
    have hP : gvP D vwCl ws H := hP
    have hD : gvD A ws := hD
    have hl : lv_has ls 17 [(0, .int (nI (wc))), (1, .int (nI (mo))), (2, .int (gb (wf))), (3, .ref a_zi), (4, .ref a_zc), (5, .ref a_zg), (6, .ref a_zf), (7, .ref a_zn), (8, .ref a_zl), (9, .ref a_zr), (10, .ref a_zq), (11, .double (mS (gM G rel wc mo) rel (mo * 12) (n))), (13, .int (nI (mN (gM G rel wc mo) (mo * 12) (n)))), (14, .int (nI (n)))] := hl
    have bm9 := mN_le (gM G rel wc mo) (mo * 12) n
    refine lv_iload hx hb dL_group_9 (lv_at hl 13 rfl) ?_
    refine lv_aload hx hb dL_group_11 (lv_at hl 10 rfl) ?_
    refine lv_iconst (v := nI 0) hx hb dL_group_13 (by decide) ?_
    refine g_nald hx hb hE hP _ f0_zq (by omega) (by decide) dL_group_14 ?_
    have bd_14_1 := b_zq (0)
    refine g_iv (v' := (nI (n))) (congrArg nI hq0) ?_
    refine g_icmp_ge (tgt := 97) hx hb (by omega) (by omega) dL_group_15 (by decide) (fun c_15 => ?_) (fun c_15 => absurd c_15 (by omega))
    refine lv_iload hx hb dL_group_97 (lv_at hl 12 rfl) ?_
    refine g_if_ne (tgt := 106) hx hb (by omega) dL_group_99 (by decide) (fun c_99 => ?_) (fun c_99 => ?_)
    · refine lv_dload hx hb dL_group_106 (lv_at hl 11 rfl) ?_
      refine lv_iload hx hb dL_group_108 (lv_at hl 12 rfl) ?_
      refine lv_i2d hx hb dL_group_110 ?_
      refine lv_ddiv hx hb dL_group_111 (hnn.2 (Nat.ne_of_gt c_99)) ?_
      refine g_dret hx hb hr hlocks () dL_group_112 hS hP hD ?_
      exact (if_neg (Nat.ne_of_gt c_99)).symm
    · refine lv_dconst1 hx hb dL_group_102 ?_
      refine lv_goto (tgt := 112) hx hb dL_group_103 (by decide) ?_
      refine g_dret hx hb hr hlocks () dL_group_112 hS hP hD ?_
      exact (if_pos c_99).symm
  · intro k hj_k ih_k H locs ls hP hD hS hl
    have hP : gvP D vwCl ws H := hP
    have hD : gvD A ws := hD
    have hl : lv_has ls 17 [(0, .int (nI (wc))), (1, .int (nI (mo))), (2, .int (gb (wf))), (3, .ref a_zi), (4, .ref a_zc), (5, .ref a_zg), (6, .ref a_zf), (7, .ref a_zn), (8, .ref a_zl), (9, .ref a_zr), (10, .ref a_zq), (11, .double (mS (gM G rel wc mo) rel (mo * 12) (k))), (13, .int (nI (mN (gM G rel wc mo) (mo * 12) (k)))), (14, .int (nI (k)))] := hl
    have bm9 := mN_le (gM G rel wc mo) (mo * 12) k
    have bi9 := b_zi (3 * k)
    refine lv_iload hx hb dL_group_9 (lv_at hl 13 rfl) ?_
    refine lv_aload hx hb dL_group_11 (lv_at hl 10 rfl) ?_
    refine lv_iconst (v := nI 0) hx hb dL_group_13 (by decide) ?_
    refine g_nald hx hb hE hP _ f0_zq (by omega) (by decide) dL_group_14 ?_
    have bd_14_2 := b_zq (0)
    refine g_iv (v' := (nI (n))) (congrArg nI hq0) ?_
    refine g_icmp_ge (tgt := 97) hx hb (by omega) (by omega) dL_group_15 (by decide) (fun c_15 => absurd c_15 (by omega)) (fun c_15 => ?_)
    refine g_reg (J := 53) (st1 := [.double (itG G rel wc mo k)]) hP hD hS (fun K_53 => ?_) (fun H locs hP hD hS => ?_)
    · refine lv_aload_n hx hb dL_group_18 rfl (lv_at hl 3 rfl) ?_
      refine lv_iconst (v := nI 3) hx hb dL_group_19 (by decide) ?_
      refine lv_iload hx hb dL_group_20 (lv_at hl 13 rfl) ?_
      refine g_imul hx hb dL_group_22 (pk_mul _ _) ?_
      refine g_nald hx hb hE hP _ f0_zi (by omega) (by decide) dL_group_23 ?_
      have bd_23_3 := b_zi (3 * k)
      refine lv_iload_n hx hb dL_group_24 rfl (lv_at hl 0 rfl) ?_
      refine g_icmp_ne (tgt := 52) hx hb (by omega) (by omega) dL_group_25 (by decide) (fun c_25 => ?_) (fun c_25 => ?_)
      · refine g_dconst0 hx hb dL_group_52 ?_
        refine g_dv (v' := (itG G rel wc mo k)) ((if_neg (fun z => c_25 ((hG9 k hj_k).1.trans z))).symm) ?_
        exact K_53 H locs hP hD hS
      · refine lv_iload hx hb dL_group_28 (lv_at hl 13 rfl) ?_
        refine lv_iload_n hx hb dL_group_30 rfl (lv_at hl 1 rfl) ?_
        refine lv_iconst (v := nI 3) hx hb dL_group_31 (by decide) ?_
        refine lv_iload_n hx hb dL_group_32 rfl (lv_at hl 2 rfl) ?_
        refine lv_aload_n hx hb dL_group_33 rfl (lv_at hl 3 rfl) ?_
        refine lv_aload hx hb dL_group_34 (lv_at hl 4 rfl) ?_
        refine lv_aload hx hb dL_group_36 (lv_at hl 5 rfl) ?_
        refine lv_aload hx hb dL_group_38 (lv_at hl 6 rfl) ?_
        refine lv_aload hx hb dL_group_40 (lv_at hl 7 rfl) ?_
        refine lv_aload hx hb dL_group_42 (lv_at hl 8 rfl) ?_
        refine lv_aload hx hb dL_group_44 (lv_at hl 9 rfl) ?_
        refine gc_S_d (As := [.int (nI (k)), .int (nI (mo)), .int (nI (3)), .int (gb (wf)), .ref a_zi, .ref a_zc, .ref a_zg, .ref a_zf, .ref a_zn, .ref a_zl, .ref a_zr]) (rest := []) (c_L_goes l f0_zi f0_zc f0_zg f0_zf f0_zn f0_zl f0_zr b_zi b_zc b_zg b_zf b_zn b_zl b_zr (mn := MM k) (T := T) (M := M) (o := o) (b := b) (pr := pr) (by omega) hmo hT (by decide) (hG9 k hj_k).2.1 (hG9 k hj_k).2.2.1 (hGK k hj_k)) ⟨hx, hb, hml, hown, hts⟩ (va_cwS 11 hts gL_group_L_goes rfl rfl rfl (by decide +kernel) ⟨Nat.le_of_ble_eq_true rfl, Nat.le_of_ble_eq_true rfl⟩) hE hP hD hS hA rfl rfl hl.1 (Nat.le_of_ble_eq_true rfl) dL_group_46 ⟨Nat.le_of_ble_eq_true rfl, Nat.le_of_ble_eq_true rfl⟩ (fun r_46 u_46 H locs hP hD hS q_46 => ?_)
        have q9 := q_46.trans (gV_3.trans (hG9 k hj_k).2.2.2)
        subst q9
        refine lv_goto (tgt := 53) hx hb dL_group_49 (by decide) ?_
        refine g_dv (v' := (itG G rel wc mo k)) ((if_pos ((hG9 k hj_k).1.symm.trans c_25)).symm) ?_
        exact K_53 H locs hP hD hS
    refine lv_dstore (lv' := [(15, .double (itG G rel wc mo k)), (0, .int (nI (wc))), (1, .int (nI (mo))), (2, .int (gb (wf))), (3, .ref a_zi), (4, .ref a_zc), (5, .ref a_zg), (6, .ref a_zf), (7, .ref a_zn), (8, .ref a_zl), (9, .ref a_zr), (10, .ref a_zq), (11, .double (mS (gM G rel wc mo) rel (mo * 12) (k))), (13, .int (nI (mN (gM G rel wc mo) (mo * 12) (k)))), (14, .int (nI (k)))]) hx hb dL_group_53 hl (by decide) rfl (fun ls hl => ?_)
    refine lv_iload hx hb dL_group_55 (lv_at hl 13 rfl) ?_
    refine g_reg (J := 69) (st1 := [.int (nI (bN (gM G rel wc mo (mo * 12 + k)))), .int (nI (mN (gM G rel wc mo) (mo * 12) (k)))]) hP hD hS (fun K_69 => ?_) (fun H locs hP hD hS => ?_)
    · refine lv_dload hx hb dL_group_57 (lv_at hl 0 rfl) ?_
      refine g_dconst0 hx hb dL_group_59 ?_
      refine g_dcmpl_le (tgt := 68) hx hb dL_group_60 dL_group_61 (by decide) (fun c_60 => ?_) (fun c_60 => ?_)
      · refine lv_iconst (v := nI 0) hx hb dL_group_68 (by decide) ?_
        refine g_iv (v' := (nI (bN (gM G rel wc mo (mo * 12 + k))))) (congrArg nI (bN_f (itG_f c_60)).symm) ?_
        exact K_69 H locs hP hD hS
      · refine lv_iconst (v := nI 1) hx hb dL_group_64 (by decide) ?_
        refine lv_goto (tgt := 69) hx hb dL_group_65 (by decide) ?_
        refine g_iv (v' := (nI (bN (gM G rel wc mo (mo * 12 + k))))) (congrArg nI (bN_t (itG_t c_60).1).symm) ?_
        exact K_69 H locs hP hD hS
    refine g_iadd hx hb dL_group_69 (nI_add _ _) ?_
    refine g_iv (v' := (nI (mN (gM G rel wc mo) (mo * 12) (k + 1)))) (congrArg nI mN_b) ?_
    refine lv_istore (lv' := [(13, .int (nI (mN (gM G rel wc mo) (mo * 12) (k + 1)))), (15, .double (itG G rel wc mo k)), (0, .int (nI (wc))), (1, .int (nI (mo))), (2, .int (gb (wf))), (3, .ref a_zi), (4, .ref a_zc), (5, .ref a_zg), (6, .ref a_zf), (7, .ref a_zn), (8, .ref a_zl), (9, .ref a_zr), (10, .ref a_zq), (11, .double (mS (gM G rel wc mo) rel (mo * 12) (k))), (14, .int (nI (k)))]) hx hb dL_group_70 hl (by decide) rfl (fun ls hl => ?_)
    refine g_reg (J := 89) (st1 := [.double (mS (gM G rel wc mo) rel (mo * 12) (k + 1))]) hP hD hS (fun K_89 => ?_) (fun H locs hP hD hS => ?_)
    · refine lv_dload hx hb dL_group_72 (lv_at hl 1 rfl) ?_
      refine g_dconst0 hx hb dL_group_74 ?_
      refine g_dcmpl_le (tgt := 87) hx hb dL_group_75 dL_group_76 (by decide) (fun c_75 => ?_) (fun c_75 => ?_)
      · refine lv_dload hx hb dL_group_87 (lv_at hl 13 rfl) ?_
        refine g_dv (v' := (mS (gM G rel wc mo) rel (mo * 12) (k + 1))) ((mS_f (itG_f c_75)).symm) ?_
        exact K_89 H locs hP hD hS
      · refine lv_dload hx hb dL_group_79 (lv_at hl 13 rfl) ?_
        refine lv_dload hx hb dL_group_81 (lv_at hl 1 rfl) ?_
        refine lv_dadd hx hb dL_group_83 (by rw [(itG_t c_75).2]; exact hnn.1 k hj_k (itG_t c_75).1) ?_
        refine lv_goto (tgt := 89) hx hb dL_group_84 (by decide) ?_
        refine g_dv (v' := (mS (gM G rel wc mo) rel (mo * 12) (k + 1))) ((by rw [(itG_t c_75).2]; exact (mS_t (itG_t c_75).1).symm)) ?_
        exact K_89 H locs hP hD hS
    refine lv_dstore (lv' := [(11, .double (mS (gM G rel wc mo) rel (mo * 12) (k + 1))), (13, .int (nI (mN (gM G rel wc mo) (mo * 12) (k + 1)))), (15, .double (itG G rel wc mo k)), (0, .int (nI (wc))), (1, .int (nI (mo))), (2, .int (gb (wf))), (3, .ref a_zi), (4, .ref a_zc), (5, .ref a_zg), (6, .ref a_zf), (7, .ref a_zn), (8, .ref a_zl), (9, .ref a_zr), (10, .ref a_zq), (14, .int (nI (k)))]) hx hb dL_group_89 hl (by decide) rfl (fun ls hl => ?_)
    refine lv_iinc (v := nI (k + 1)) (lv' := [(14, .int (nI (k + 1))), (11, .double (mS (gM G rel wc mo) rel (mo * 12) (k + 1))), (13, .int (nI (mN (gM G rel wc mo) (mo * 12) (k + 1)))), (15, .double (itG G rel wc mo k)), (0, .int (nI (wc))), (1, .int (nI (mo))), (2, .int (gb (wf))), (3, .ref a_zi), (4, .ref a_zc), (5, .ref a_zg), (6, .ref a_zf), (7, .ref a_zn), (8, .ref a_zl), (9, .ref a_zr), (10, .ref a_zq)]) hx hb dL_group_91 hl (k := 14) rfl (nI_add _ 1) (by decide) rfl (fun ls hl => ?_)
    refine lv_goto (tgt := 9) hx hb dL_group_94 (by decide) ?_
    have hP : gvP D vwCl ws _ := g_trP (rfl) hP
    have hD : gvD A ws := g_trD (rfl) hD
    exact ih_k H locs ls hP hD hS (lv_sub hl [4, 5, 6, 7, 8, 9, 10, 11, 12, 13, 14, 1, 2, 0] rfl)

set_option maxHeartbeats 4000000 in
set_option maxRecDepth 100000 in
theorem c_L_share (l : Launch) {D : va_G} {y : Nat → Nat} {ws : va_W} {p_ze a_ze : Nat} {ze : Nat → Nat} {kd g mo : Nat} (f0_ze : ws[p_ze]? = some (a_ze, eN y 60 ze)) (b_ze : ∀ k, ze k ≤ 1000000000) (hkd : kd < 5) (hg : g < 4) (hmo : mo < 5) (hnn : nnSh (fun k9 => ze (12 * mo + k9)) kd g) : gMd l yL_share wsL_share ({ frames := 0, cells := 0, slots := 0, locals := 0 }) D y [.int (nI (kd)), .int (nI (g)), .int (nI (mo)), .ref a_ze] ws (fun r (_ : Unit) => r = mShr (fun k9 => ze (12 * mo + k9)) kd g) (fun (_ : Unit) => ws) := by
  refine g_met_d (cc := cL_share) (maxL := 15) (by decide) rfl (Nat.le_of_ble_eq_true rfl) ?_
  intro p e s m below meth c A hx hb hml hr hts hown hnm hlocks hE hP hD hS hA ls hl
  have hown : s.vm.findClass RL = some m.cls := hown
  have hl : lv_has ls 15 [(0, .int (nI (kd))), (1, .int (nI (g))), (2, .int (nI (mo))), (3, .ref a_ze)] := hl
  refine lv_bipush (v := nI 12) hx hb dL_share_0 (by decide) ?_
  refine lv_iload_n hx hb dL_share_2 rfl (lv_at hl 2 rfl) ?_
  refine g_imul hx hb dL_share_3 (pk_mul _ _) ?_
  refine lv_istore (lv' := [(4, .int (nI (12 * mo))), (0, .int (nI (kd))), (1, .int (nI (g))), (2, .int (nI (mo))), (3, .ref a_ze)]) hx hb dL_share_4 hl (by decide) rfl (fun ls hl => ?_)
  refine g_dconst0 hx hb dL_share_6 ?_
  refine lv_dstore (lv' := [(5, .double 0), (4, .int (nI (12 * mo))), (0, .int (nI (kd))), (1, .int (nI (g))), (2, .int (nI (mo))), (3, .ref a_ze)]) hx hb dL_share_7 hl (by decide) rfl (fun ls hl => ?_)
  refine lv_iconst (v := nI 0) hx hb dL_share_9 (by decide) ?_
  refine lv_istore (lv' := [(7, .int (nI (0))), (5, .double 0), (4, .int (nI (12 * mo))), (0, .int (nI (kd))), (1, .int (nI (g))), (2, .int (nI (mo))), (3, .ref a_ze)]) hx hb dL_share_10 hl (by decide) rfl (fun ls hl => ?_)
  refine lv_lconst (v := lN 0) hx hb dL_share_12 (by decide) ?_
  refine lv_lstore (lv' := [(8, .long (lN (0))), (7, .int (nI (0))), (5, .double 0), (4, .int (nI (12 * mo))), (0, .int (nI (kd))), (1, .int (nI (g))), (2, .int (nI (mo))), (3, .ref a_ze)]) hx hb dL_share_13 hl (by decide) rfl (fun ls hl => ?_)
  refine lv_lconst (v := lN 0) hx hb dL_share_15 (by decide) ?_
  refine lv_lstore (lv' := [(10, .long (lN (0))), (8, .long (lN (0))), (7, .int (nI (0))), (5, .double 0), (4, .int (nI (12 * mo))), (0, .int (nI (kd))), (1, .int (nI (g))), (2, .int (nI (mo))), (3, .ref a_ze)]) hx hb dL_share_16 hl (by decide) rfl (fun ls hl => ?_)
  refine lv_iconst (v := nI 0) hx hb dL_share_18 (by decide) ?_
  refine lv_istore (lv' := [(12, .int (nI (0))), (10, .long (lN (0))), (8, .long (lN (0))), (7, .int (nI (0))), (5, .double 0), (4, .int (nI (12 * mo))), (0, .int (nI (kd))), (1, .int (nI (g))), (2, .int (nI (mo))), (3, .ref a_ze)]) hx hb dL_share_19 hl (by decide) rfl (fun ls hl => ?_)
  have hP : gvP D vwCl ws _ := g_trP (rfl) hP
  have hD : gvD A ws := g_trD (rfl) hD
  refine g_for (fun j => ws) (fun j => [(0, .int (nI (kd))), (1, .int (nI (g))), (2, .int (nI (mo))), (3, .ref a_ze), (4, .int (nI (12 * mo))), (5, .double (sMs (fun k9 => ze (12 * mo + k9)) kd g (j))), (7, .int (nI (sMn (fun k9 => ze (12 * mo + k9)) kd (j)))), (8, .long (lN (mAl (fun k9 => ze (12 * mo + k9)) kd (j)))), (10, .long (lN (mPt (fun k9 => ze (12 * mo + k9)) kd g (j)))), (12, .int (nI (j)))]) (3) (0) (by omega) ?_ ?_ hP hD hS (lv_sub hl [6, 7, 8, 9, 5, 4, 3, 2, 1, 0] rfl)
  · intro H locs ls hP hD hS hl
    have hP : gvP D vwCl ws H := hP
    have hD : gvD A ws := hD
    have hl : lv_has ls 15 [(0, .int (nI (kd))), (1, .int (nI (g))), (2, .int (nI (mo))), (3, .ref a_ze), (4, .int (nI (12 * mo))), (5, .double (sMs (fun k9 => ze (12 * mo + k9)) kd g (3))), (7, .int (nI (sMn (fun k9 => ze (12 * mo + k9)) kd (3)))), (8, .long (lN (mAl (fun k9 => ze (12 * mo + k9)) kd (3)))), (10, .long (lN (mPt (fun k9 => ze (12 * mo + k9)) kd g (3)))), (12, .int (nI (3)))] := hl
    have bm9 := sMn_le (fun k9 => ze (12 * mo + k9)) kd 3
    refine lv_iload hx hb dL_share_21 (lv_at hl 9 rfl) ?_
    refine lv_iconst (v := nI 3) hx hb dL_share_23 (by decide) ?_
    refine g_icmp_ge (tgt := 152) hx hb (by omega) (by omega) dL_share_24 (by decide) (fun c_24 => ?_) (fun c_24 => absurd c_24 (by omega))
    refine lv_iload hx hb dL_share_152 (lv_at hl 6 rfl) ?_
    refine g_if_ne (tgt := 163) hx hb (by omega) dL_share_154 (by decide) (fun c_154 => ?_) (fun c_154 => ?_)
    · refine lv_iload_n hx hb dL_share_163 rfl (lv_at hl 0 rfl) ?_
      refine lv_iconst (v := nI 1) hx hb dL_share_164 (by decide) ?_
      refine g_icmp_ne (tgt := 177) hx hb (by omega) (by omega) dL_share_165 (by decide) (fun c_165 => ?_) (fun c_165 => ?_)
      · refine lv_lload hx hb dL_share_177 (lv_at hl 8 rfl) ?_
        refine lv_l2d hx hb dL_share_179 ?_
        refine lv_lload hx hb dL_share_180 (lv_at hl 7 rfl) ?_
        refine lv_l2d hx hb dL_share_182 ?_
        refine lv_ddiv hx hb dL_share_183 (fp_shareL _ (fun z => by have := sMn_0.mpr z; omega) (by have := mAl_le (ad := (fun k9 => ze (12 * mo + k9))) (B := 1000000000) (fun k9 => b_ze (12 * mo + k9)) kd 3; omega)) ?_
        refine g_dret hx hb hr hlocks () dL_share_184 hS hP hD ?_
        exact (mShr_d hkd (fun k9 => b_ze (12 * mo + k9)) c_165 (fun z => by have := sMn_0.mpr z; omega)).symm
      · refine lv_dload hx hb dL_share_168 (lv_at hl 5 rfl) ?_
        refine lv_iload hx hb dL_share_170 (lv_at hl 6 rfl) ?_
        refine lv_i2d hx hb dL_share_172 ?_
        refine lv_ddiv hx hb dL_share_173 (by rw [sMs_1 (by omega), sMn_1 (by omega)]; exact hnn.2 c_165 (fun z => by have := sMn_0.mpr z; omega)) ?_
        refine lv_goto (tgt := 184) hx hb dL_share_174 (by decide) ?_
        refine g_dret hx hb hr hlocks () dL_share_184 hS hP hD ?_
        rw [sMs_1 (by omega), sMn_1 (by omega)]
        exact (mShr_1 c_165 (fun z => by have := sMn_0.mpr z; omega)).symm
    · refine lv_ldc2d (v := 4598175219545276416) hx hb hown (hts (.constantDouble RL 63 (4598175219545276416)) (by decide +kernel)) dL_share_157 ?_
      refine lv_goto (tgt := 184) hx hb dL_share_160 (by decide) ?_
      refine g_dret hx hb hr hlocks () dL_share_184 hS hP hD ?_
      exact (mShr_z hkd (sMn_0.mp c_154)).symm
  · intro j hj_j ih_j H locs ls hP hD hS hl
    have hP : gvP D vwCl ws H := hP
    have hD : gvD A ws := hD
    have hl : lv_has ls 15 [(0, .int (nI (kd))), (1, .int (nI (g))), (2, .int (nI (mo))), (3, .ref a_ze), (4, .int (nI (12 * mo))), (5, .double (sMs (fun k9 => ze (12 * mo + k9)) kd g (j))), (7, .int (nI (sMn (fun k9 => ze (12 * mo + k9)) kd (j)))), (8, .long (lN (mAl (fun k9 => ze (12 * mo + k9)) kd (j)))), (10, .long (lN (mPt (fun k9 => ze (12 * mo + k9)) kd g (j)))), (12, .int (nI (j)))] := hl
    have bm9 := sMn_le (fun k9 => ze (12 * mo + k9)) kd j
    refine lv_iload hx hb dL_share_21 (lv_at hl 9 rfl) ?_
    refine lv_iconst (v := nI 3) hx hb dL_share_23 (by decide) ?_
    refine g_icmp_ge (tgt := 152) hx hb (by omega) (by omega) dL_share_24 (by decide) (fun c_24 => absurd c_24 (by omega)) (fun c_24 => ?_)
    refine lv_aload_n hx hb dL_share_27 rfl (lv_at hl 3 rfl) ?_
    refine lv_iload hx hb dL_share_28 (lv_at hl 4 rfl) ?_
    refine lv_iconst (v := nI 4) hx hb dL_share_30 (by decide) ?_
    refine lv_iload hx hb dL_share_31 (lv_at hl 9 rfl) ?_
    refine g_imul hx hb dL_share_33 (pk_mul _ _) ?_
    refine g_iadd hx hb dL_share_34 (nI_add _ _) ?_
    refine g_nald hx hb hE hP _ f0_ze (by omega) (by decide) dL_share_35 ?_
    have bd_35_1 := b_ze ((12 * mo) + (4 * j))
    refine lv_i2l (v := lN (ze ((12 * mo) + (4 * j)))) hx hb dL_share_36 (nI_l (by omega)) ?_
    refine lv_aload_n hx hb dL_share_37 rfl (lv_at hl 3 rfl) ?_
    refine lv_iload hx hb dL_share_38 (lv_at hl 4 rfl) ?_
    refine lv_iconst (v := nI 4) hx hb dL_share_40 (by decide) ?_
    refine lv_iload hx hb dL_share_41 (lv_at hl 9 rfl) ?_
    refine g_imul hx hb dL_share_43 (pk_mul _ _) ?_
    refine g_iadd hx hb dL_share_44 (nI_add _ _) ?_
    refine lv_iconst (v := nI 1) hx hb dL_share_45 (by decide) ?_
    refine g_iadd hx hb dL_share_46 (nI_add _ _) ?_
    refine g_nald hx hb hE hP _ f0_ze (by omega) (by decide) dL_share_47 ?_
    have bd_47_2 := b_ze (((12 * mo) + (4 * j)) + 1)
    refine lv_i2l (v := lN (ze (((12 * mo) + (4 * j)) + 1))) hx hb dL_share_48 (nI_l (by omega)) ?_
    refine g_ladd hx hb dL_share_49 (lN_add _ _) ?_
    refine lv_aload_n hx hb dL_share_50 rfl (lv_at hl 3 rfl) ?_
    refine lv_iload hx hb dL_share_51 (lv_at hl 4 rfl) ?_
    refine lv_iconst (v := nI 4) hx hb dL_share_53 (by decide) ?_
    refine lv_iload hx hb dL_share_54 (lv_at hl 9 rfl) ?_
    refine g_imul hx hb dL_share_56 (pk_mul _ _) ?_
    refine g_iadd hx hb dL_share_57 (nI_add _ _) ?_
    refine lv_iconst (v := nI 2) hx hb dL_share_58 (by decide) ?_
    refine g_iadd hx hb dL_share_59 (nI_add _ _) ?_
    refine g_nald hx hb hE hP _ f0_ze (by omega) (by decide) dL_share_60 ?_
    have bd_60_3 := b_ze (((12 * mo) + (4 * j)) + 2)
    refine lv_i2l (v := lN (ze (((12 * mo) + (4 * j)) + 2))) hx hb dL_share_61 (nI_l (by omega)) ?_
    refine g_ladd hx hb dL_share_62 (lN_add _ _) ?_
    refine lv_aload_n hx hb dL_share_63 rfl (lv_at hl 3 rfl) ?_
    refine lv_iload hx hb dL_share_64 (lv_at hl 4 rfl) ?_
    refine lv_iconst (v := nI 4) hx hb dL_share_66 (by decide) ?_
    refine lv_iload hx hb dL_share_67 (lv_at hl 9 rfl) ?_
    refine g_imul hx hb dL_share_69 (pk_mul _ _) ?_
    refine g_iadd hx hb dL_share_70 (nI_add _ _) ?_
    refine lv_iconst (v := nI 3) hx hb dL_share_71 (by decide) ?_
    refine g_iadd hx hb dL_share_72 (nI_add _ _) ?_
    refine g_nald hx hb hE hP _ f0_ze (by omega) (by decide) dL_share_73 ?_
    have bd_73_4 := b_ze (((12 * mo) + (4 * j)) + 3)
    refine lv_i2l (v := lN (ze (((12 * mo) + (4 * j)) + 3))) hx hb dL_share_74 (nI_l (by omega)) ?_
    refine g_ladd hx hb dL_share_75 (lN_add _ _) ?_
    refine g_lv (v' := lN (uS (fun k9 => ze (12 * mo + k9)) (j * 4) 4)) (congrArg lN (uS_at (f := ze) (a := 12 * mo) (j := j))) ?_
    refine lv_lstore (lv' := [(13, .long (lN (uS (fun k9 => ze (12 * mo + k9)) (j * 4) 4))), (0, .int (nI (kd))), (1, .int (nI (g))), (2, .int (nI (mo))), (3, .ref a_ze), (4, .int (nI (12 * mo))), (5, .double (sMs (fun k9 => ze (12 * mo + k9)) kd g (j))), (7, .int (nI (sMn (fun k9 => ze (12 * mo + k9)) kd (j)))), (8, .long (lN (mAl (fun k9 => ze (12 * mo + k9)) kd (j)))), (10, .long (lN (mPt (fun k9 => ze (12 * mo + k9)) kd g (j)))), (12, .int (nI (j)))]) hx hb dL_share_76 hl (by decide) rfl (fun ls hl => ?_)
    refine lv_lload hx hb dL_share_78 (lv_at hl 0 rfl) ?_
    refine lv_lconst (v := lN 0) hx hb dL_share_80 (by decide) ?_
    refine g_lcmp_le (tgt := 146) hx hb (by have := uS_le (f := (fun k9 => ze (12 * mo + k9))) (B := 1000000000) (fun k9 => b_ze (12 * mo + k9)) (j * 4) 4; omega) (by decide) dL_share_81 dL_share_82 (by decide) (fun c_81 => ?_) (fun c_81 => ?_)
    · refine lv_iinc (v := nI (j + 1)) (lv' := [(12, .int (nI (j + 1))), (13, .long (lN (uS (fun k9 => ze (12 * mo + k9)) (j * 4) 4))), (0, .int (nI (kd))), (1, .int (nI (g))), (2, .int (nI (mo))), (3, .ref a_ze), (4, .int (nI (12 * mo))), (5, .double (sMs (fun k9 => ze (12 * mo + k9)) kd g (j))), (7, .int (nI (sMn (fun k9 => ze (12 * mo + k9)) kd (j)))), (8, .long (lN (mAl (fun k9 => ze (12 * mo + k9)) kd (j)))), (10, .long (lN (mPt (fun k9 => ze (12 * mo + k9)) kd g (j))))]) hx hb dL_share_146 hl (k := 10) rfl (nI_add _ 1) (by decide) rfl (fun ls hl => ?_)
      refine lv_goto (tgt := 21) hx hb dL_share_149 (by decide) ?_
      have hP : gvP D vwCl ws _ := g_trP (rfl) hP
      have hD : gvD A ws := g_trD (rfl) hD
      exact ih_j H locs ls hP hD hS (lv_sub hl [2, 3, 4, 5, 6, 7, 8, 9, 10, 0] (by rw [sMs_f (fun z => absurd z.1 (by omega)), sMn_f (fun z => absurd z.1 (by omega)), mAl_f (fun z => absurd z.1 (by omega)), mPt_f hg (fun z => absurd z.1 (by omega))]; rfl))
    · refine lv_iload_n hx hb dL_share_85 rfl (lv_at hl 1 rfl) ?_
      refine lv_iconst (v := nI 2) hx hb dL_share_86 (by decide) ?_
      refine g_icmp_lt (tgt := 98) hx hb (by omega) (by omega) dL_share_87 (by decide) (fun c_87 => ?_) (fun c_87 => ?_)
      · refine lv_iinc (v := nI (sMn (fun k9 => ze (12 * mo + k9)) kd (j) + 1)) (lv' := [(7, .int (nI (sMn (fun k9 => ze (12 * mo + k9)) kd (j) + 1))), (13, .long (lN (uS (fun k9 => ze (12 * mo + k9)) (j * 4) 4))), (0, .int (nI (kd))), (1, .int (nI (g))), (2, .int (nI (mo))), (3, .ref a_ze), (4, .int (nI (12 * mo))), (5, .double (sMs (fun k9 => ze (12 * mo + k9)) kd g (j))), (8, .long (lN (mAl (fun k9 => ze (12 * mo + k9)) kd (j)))), (10, .long (lN (mPt (fun k9 => ze (12 * mo + k9)) kd g (j)))), (12, .int (nI (j)))]) hx hb dL_share_98 hl (k := 7) rfl (nI_add _ 1) (by decide) rfl (fun ls hl => ?_)
        refine lv_lload hx hb dL_share_101 (lv_at hl 8 rfl) ?_
        refine lv_lload hx hb dL_share_103 (lv_at hl 1 rfl) ?_
        refine g_ladd hx hb dL_share_105 (lN_add _ _) ?_
        refine lv_lstore (lv' := [(8, .long (lN ((mAl (fun k9 => ze (12 * mo + k9)) kd (j)) + (uS (fun k9 => ze (12 * mo + k9)) (j * 4) 4)))), (7, .int (nI (sMn (fun k9 => ze (12 * mo + k9)) kd (j) + 1))), (13, .long (lN (uS (fun k9 => ze (12 * mo + k9)) (j * 4) 4))), (0, .int (nI (kd))), (1, .int (nI (g))), (2, .int (nI (mo))), (3, .ref a_ze), (4, .int (nI (12 * mo))), (5, .double (sMs (fun k9 => ze (12 * mo + k9)) kd g (j))), (10, .long (lN (mPt (fun k9 => ze (12 * mo + k9)) kd g (j)))), (12, .int (nI (j)))]) hx hb dL_share_106 hl (by decide) rfl (fun ls hl => ?_)
        refine lv_lload hx hb dL_share_108 (lv_at hl 9 rfl) ?_
        refine lv_aload_n hx hb dL_share_110 rfl (lv_at hl 6 rfl) ?_
        refine lv_iload hx hb dL_share_111 (lv_at hl 7 rfl) ?_
        refine lv_iconst (v := nI 4) hx hb dL_share_113 (by decide) ?_
        refine lv_iload hx hb dL_share_114 (lv_at hl 10 rfl) ?_
        refine g_imul hx hb dL_share_116 (pk_mul _ _) ?_
        refine g_iadd hx hb dL_share_117 (nI_add _ _) ?_
        refine lv_iload_n hx hb dL_share_118 rfl (lv_at hl 4 rfl) ?_
        refine g_iadd hx hb dL_share_119 (nI_add _ _) ?_
        refine g_nald hx hb hE hP _ f0_ze (by omega) (by decide) dL_share_120 ?_
        have bd_120_5 := b_ze (((12 * mo) + (4 * j)) + g)
        refine g_iv (v' := nI (ze (12 * mo + (j * 4 + g)))) (by rw [show 12 * mo + 4 * j + g = 12 * mo + (j * 4 + g) by omega]) ?_
        have bd9 := b_ze (12 * mo + (j * 4 + g))
        refine lv_i2l (v := lN (ze (12 * mo + (j * 4 + g)))) hx hb dL_share_121 (nI_l (by omega)) ?_
        refine g_ladd hx hb dL_share_122 (lN_add _ _) ?_
        refine lv_lstore (lv' := [(10, .long (lN ((mPt (fun k9 => ze (12 * mo + k9)) kd g (j)) + (ze (12 * mo + (j * 4 + g)))))), (8, .long (lN ((mAl (fun k9 => ze (12 * mo + k9)) kd (j)) + (uS (fun k9 => ze (12 * mo + k9)) (j * 4) 4)))), (7, .int (nI (sMn (fun k9 => ze (12 * mo + k9)) kd (j) + 1))), (13, .long (lN (uS (fun k9 => ze (12 * mo + k9)) (j * 4) 4))), (0, .int (nI (kd))), (1, .int (nI (g))), (2, .int (nI (mo))), (3, .ref a_ze), (4, .int (nI (12 * mo))), (5, .double (sMs (fun k9 => ze (12 * mo + k9)) kd g (j))), (12, .int (nI (j)))]) hx hb dL_share_123 hl (by decide) rfl (fun ls hl => ?_)
        refine lv_dload hx hb dL_share_125 (lv_at hl 9 rfl) ?_
        refine lv_aload_n hx hb dL_share_127 rfl (lv_at hl 7 rfl) ?_
        refine lv_iload hx hb dL_share_128 (lv_at hl 8 rfl) ?_
        refine lv_iconst (v := nI 4) hx hb dL_share_130 (by decide) ?_
        refine lv_iload hx hb dL_share_131 (lv_at hl 10 rfl) ?_
        refine g_imul hx hb dL_share_133 (pk_mul _ _) ?_
        refine g_iadd hx hb dL_share_134 (nI_add _ _) ?_
        refine lv_iload_n hx hb dL_share_135 rfl (lv_at hl 5 rfl) ?_
        refine g_iadd hx hb dL_share_136 (nI_add _ _) ?_
        refine g_nald hx hb hE hP _ f0_ze (by omega) (by decide) dL_share_137 ?_
        have bd_137_6 := b_ze (((12 * mo) + (4 * j)) + g)
        refine g_iv (v' := nI (ze (12 * mo + (j * 4 + g)))) (by rw [show 12 * mo + 4 * j + g = 12 * mo + (j * 4 + g) by omega]) ?_
        have bd9 := b_ze (12 * mo + (j * 4 + g))
        refine lv_i2d hx hb dL_share_138 ?_
        refine lv_lload hx hb dL_share_139 (lv_at hl 3 rfl) ?_
        refine lv_l2d hx hb dL_share_141 ?_
        refine lv_ddiv hx hb dL_share_142 (fp_shareI _ (by omega) (by have := uS_le (f := (fun k9 => ze (12 * mo + k9))) (B := 1000000000) (fun k9 => b_ze (12 * mo + k9)) (j * 4) 4; omega)) ?_
        refine g_dv (v' := sShH (fun k9 => ze (12 * mo + k9)) j g) (by rw [sShH, if_pos c_81]) ?_
        refine lv_dadd hx hb dL_share_143 (hnn.1 j hj_j) ?_
        refine lv_dstore (lv' := [(5, .double (FP.dadd (sMs (fun k9 => ze (12 * mo + k9)) kd g (j)) (sShH (fun k9 => ze (12 * mo + k9)) j g))), (10, .long (lN ((mPt (fun k9 => ze (12 * mo + k9)) kd g (j)) + (ze (12 * mo + (j * 4 + g)))))), (8, .long (lN ((mAl (fun k9 => ze (12 * mo + k9)) kd (j)) + (uS (fun k9 => ze (12 * mo + k9)) (j * 4) 4)))), (7, .int (nI (sMn (fun k9 => ze (12 * mo + k9)) kd (j) + 1))), (13, .long (lN (uS (fun k9 => ze (12 * mo + k9)) (j * 4) 4))), (0, .int (nI (kd))), (1, .int (nI (g))), (2, .int (nI (mo))), (3, .ref a_ze), (4, .int (nI (12 * mo))), (12, .int (nI (j)))]) hx hb dL_share_144 hl (by decide) rfl (fun ls hl => ?_)
        refine lv_iinc (v := nI (j + 1)) (lv' := [(12, .int (nI (j + 1))), (5, .double (FP.dadd (sMs (fun k9 => ze (12 * mo + k9)) kd g (j)) (sShH (fun k9 => ze (12 * mo + k9)) j g))), (10, .long (lN ((mPt (fun k9 => ze (12 * mo + k9)) kd g (j)) + (ze (12 * mo + (j * 4 + g)))))), (8, .long (lN ((mAl (fun k9 => ze (12 * mo + k9)) kd (j)) + (uS (fun k9 => ze (12 * mo + k9)) (j * 4) 4)))), (7, .int (nI (sMn (fun k9 => ze (12 * mo + k9)) kd (j) + 1))), (13, .long (lN (uS (fun k9 => ze (12 * mo + k9)) (j * 4) 4))), (0, .int (nI (kd))), (1, .int (nI (g))), (2, .int (nI (mo))), (3, .ref a_ze), (4, .int (nI (12 * mo)))]) hx hb dL_share_146 hl (k := 10) rfl (nI_add _ 1) (by decide) rfl (fun ls hl => ?_)
        refine lv_goto (tgt := 21) hx hb dL_share_149 (by decide) ?_
        have hP : gvP D vwCl ws _ := g_trP (rfl) hP
        have hD : gvD A ws := g_trD (rfl) hD
        exact ih_j H locs ls hP hD hS (lv_sub hl [6, 7, 8, 9, 10, 1, 4, 3, 2, 0] (by rw [sMs_t c_81 (mCt_1 c_87), sMn_t c_81 (mCt_1 c_87), mAl_t (mCt_1 c_87), mPt_t (mCt_1 c_87)]; rfl))
      · refine lv_iload_n hx hb dL_share_90 rfl (lv_at hl 1 rfl) ?_
        refine lv_iconst (v := nI 2) hx hb dL_share_91 (by decide) ?_
        refine g_isub hx hb dL_share_92 (pk_sub (by omega)) ?_
        refine lv_iload hx hb dL_share_93 (lv_at hl 10 rfl) ?_
        refine g_icmp_ne (tgt := 146) hx hb (by omega) (by omega) dL_share_95 (by decide) (fun c_95 => ?_) (fun c_95 => ?_)
        · refine lv_iinc (v := nI (j + 1)) (lv' := [(12, .int (nI (j + 1))), (13, .long (lN (uS (fun k9 => ze (12 * mo + k9)) (j * 4) 4))), (0, .int (nI (kd))), (1, .int (nI (g))), (2, .int (nI (mo))), (3, .ref a_ze), (4, .int (nI (12 * mo))), (5, .double (sMs (fun k9 => ze (12 * mo + k9)) kd g (j))), (7, .int (nI (sMn (fun k9 => ze (12 * mo + k9)) kd (j)))), (8, .long (lN (mAl (fun k9 => ze (12 * mo + k9)) kd (j)))), (10, .long (lN (mPt (fun k9 => ze (12 * mo + k9)) kd g (j))))]) hx hb dL_share_146 hl (k := 10) rfl (nI_add _ 1) (by decide) rfl (fun ls hl => ?_)
          refine lv_goto (tgt := 21) hx hb dL_share_149 (by decide) ?_
          have hP : gvP D vwCl ws _ := g_trP (rfl) hP
          have hD : gvD A ws := g_trD (rfl) hD
          exact ih_j H locs ls hP hD hS (lv_sub hl [2, 3, 4, 5, 6, 7, 8, 9, 10, 0] (by rw [sMs_f (fun z => mCt_3 (by omega) (fun w => c_95 (by omega)) z.2), sMn_f (fun z => mCt_3 (by omega) (fun w => c_95 (by omega)) z.2), mAl_f (fun z => mCt_3 (by omega) (fun w => c_95 (by omega)) z.2), mPt_f hg (fun z => mCt_3 (by omega) (fun w => c_95 (by omega)) z.2)]; rfl))
        · refine lv_iinc (v := nI (sMn (fun k9 => ze (12 * mo + k9)) kd (j) + 1)) (lv' := [(7, .int (nI (sMn (fun k9 => ze (12 * mo + k9)) kd (j) + 1))), (13, .long (lN (uS (fun k9 => ze (12 * mo + k9)) (j * 4) 4))), (0, .int (nI (kd))), (1, .int (nI (g))), (2, .int (nI (mo))), (3, .ref a_ze), (4, .int (nI (12 * mo))), (5, .double (sMs (fun k9 => ze (12 * mo + k9)) kd g (j))), (8, .long (lN (mAl (fun k9 => ze (12 * mo + k9)) kd (j)))), (10, .long (lN (mPt (fun k9 => ze (12 * mo + k9)) kd g (j)))), (12, .int (nI (j)))]) hx hb dL_share_98 hl (k := 7) rfl (nI_add _ 1) (by decide) rfl (fun ls hl => ?_)
          refine lv_lload hx hb dL_share_101 (lv_at hl 8 rfl) ?_
          refine lv_lload hx hb dL_share_103 (lv_at hl 1 rfl) ?_
          refine g_ladd hx hb dL_share_105 (lN_add _ _) ?_
          refine lv_lstore (lv' := [(8, .long (lN ((mAl (fun k9 => ze (12 * mo + k9)) kd (j)) + (uS (fun k9 => ze (12 * mo + k9)) (j * 4) 4)))), (7, .int (nI (sMn (fun k9 => ze (12 * mo + k9)) kd (j) + 1))), (13, .long (lN (uS (fun k9 => ze (12 * mo + k9)) (j * 4) 4))), (0, .int (nI (kd))), (1, .int (nI (g))), (2, .int (nI (mo))), (3, .ref a_ze), (4, .int (nI (12 * mo))), (5, .double (sMs (fun k9 => ze (12 * mo + k9)) kd g (j))), (10, .long (lN (mPt (fun k9 => ze (12 * mo + k9)) kd g (j)))), (12, .int (nI (j)))]) hx hb dL_share_106 hl (by decide) rfl (fun ls hl => ?_)
          refine lv_lload hx hb dL_share_108 (lv_at hl 9 rfl) ?_
          refine lv_aload_n hx hb dL_share_110 rfl (lv_at hl 6 rfl) ?_
          refine lv_iload hx hb dL_share_111 (lv_at hl 7 rfl) ?_
          refine lv_iconst (v := nI 4) hx hb dL_share_113 (by decide) ?_
          refine lv_iload hx hb dL_share_114 (lv_at hl 10 rfl) ?_
          refine g_imul hx hb dL_share_116 (pk_mul _ _) ?_
          refine g_iadd hx hb dL_share_117 (nI_add _ _) ?_
          refine lv_iload_n hx hb dL_share_118 rfl (lv_at hl 4 rfl) ?_
          refine g_iadd hx hb dL_share_119 (nI_add _ _) ?_
          refine g_nald hx hb hE hP _ f0_ze (by omega) (by decide) dL_share_120 ?_
          have bd_120_7 := b_ze (((12 * mo) + (4 * j)) + g)
          refine g_iv (v' := nI (ze (12 * mo + (j * 4 + g)))) (by rw [show 12 * mo + 4 * j + g = 12 * mo + (j * 4 + g) by omega]) ?_
          have bd9 := b_ze (12 * mo + (j * 4 + g))
          refine lv_i2l (v := lN (ze (12 * mo + (j * 4 + g)))) hx hb dL_share_121 (nI_l (by omega)) ?_
          refine g_ladd hx hb dL_share_122 (lN_add _ _) ?_
          refine lv_lstore (lv' := [(10, .long (lN ((mPt (fun k9 => ze (12 * mo + k9)) kd g (j)) + (ze (12 * mo + (j * 4 + g)))))), (8, .long (lN ((mAl (fun k9 => ze (12 * mo + k9)) kd (j)) + (uS (fun k9 => ze (12 * mo + k9)) (j * 4) 4)))), (7, .int (nI (sMn (fun k9 => ze (12 * mo + k9)) kd (j) + 1))), (13, .long (lN (uS (fun k9 => ze (12 * mo + k9)) (j * 4) 4))), (0, .int (nI (kd))), (1, .int (nI (g))), (2, .int (nI (mo))), (3, .ref a_ze), (4, .int (nI (12 * mo))), (5, .double (sMs (fun k9 => ze (12 * mo + k9)) kd g (j))), (12, .int (nI (j)))]) hx hb dL_share_123 hl (by decide) rfl (fun ls hl => ?_)
          refine lv_dload hx hb dL_share_125 (lv_at hl 9 rfl) ?_
          refine lv_aload_n hx hb dL_share_127 rfl (lv_at hl 7 rfl) ?_
          refine lv_iload hx hb dL_share_128 (lv_at hl 8 rfl) ?_
          refine lv_iconst (v := nI 4) hx hb dL_share_130 (by decide) ?_
          refine lv_iload hx hb dL_share_131 (lv_at hl 10 rfl) ?_
          refine g_imul hx hb dL_share_133 (pk_mul _ _) ?_
          refine g_iadd hx hb dL_share_134 (nI_add _ _) ?_
          refine lv_iload_n hx hb dL_share_135 rfl (lv_at hl 5 rfl) ?_
          refine g_iadd hx hb dL_share_136 (nI_add _ _) ?_
          refine g_nald hx hb hE hP _ f0_ze (by omega) (by decide) dL_share_137 ?_
          have bd_137_8 := b_ze (((12 * mo) + (4 * j)) + g)
          refine g_iv (v' := nI (ze (12 * mo + (j * 4 + g)))) (by rw [show 12 * mo + 4 * j + g = 12 * mo + (j * 4 + g) by omega]) ?_
          have bd9 := b_ze (12 * mo + (j * 4 + g))
          refine lv_i2d hx hb dL_share_138 ?_
          refine lv_lload hx hb dL_share_139 (lv_at hl 3 rfl) ?_
          refine lv_l2d hx hb dL_share_141 ?_
          refine lv_ddiv hx hb dL_share_142 (fp_shareI _ (by omega) (by have := uS_le (f := (fun k9 => ze (12 * mo + k9))) (B := 1000000000) (fun k9 => b_ze (12 * mo + k9)) (j * 4) 4; omega)) ?_
          refine g_dv (v' := sShH (fun k9 => ze (12 * mo + k9)) j g) (by rw [sShH, if_pos c_81]) ?_
          refine lv_dadd hx hb dL_share_143 (hnn.1 j hj_j) ?_
          refine lv_dstore (lv' := [(5, .double (FP.dadd (sMs (fun k9 => ze (12 * mo + k9)) kd g (j)) (sShH (fun k9 => ze (12 * mo + k9)) j g))), (10, .long (lN ((mPt (fun k9 => ze (12 * mo + k9)) kd g (j)) + (ze (12 * mo + (j * 4 + g)))))), (8, .long (lN ((mAl (fun k9 => ze (12 * mo + k9)) kd (j)) + (uS (fun k9 => ze (12 * mo + k9)) (j * 4) 4)))), (7, .int (nI (sMn (fun k9 => ze (12 * mo + k9)) kd (j) + 1))), (13, .long (lN (uS (fun k9 => ze (12 * mo + k9)) (j * 4) 4))), (0, .int (nI (kd))), (1, .int (nI (g))), (2, .int (nI (mo))), (3, .ref a_ze), (4, .int (nI (12 * mo))), (12, .int (nI (j)))]) hx hb dL_share_144 hl (by decide) rfl (fun ls hl => ?_)
          refine lv_iinc (v := nI (j + 1)) (lv' := [(12, .int (nI (j + 1))), (5, .double (FP.dadd (sMs (fun k9 => ze (12 * mo + k9)) kd g (j)) (sShH (fun k9 => ze (12 * mo + k9)) j g))), (10, .long (lN ((mPt (fun k9 => ze (12 * mo + k9)) kd g (j)) + (ze (12 * mo + (j * 4 + g)))))), (8, .long (lN ((mAl (fun k9 => ze (12 * mo + k9)) kd (j)) + (uS (fun k9 => ze (12 * mo + k9)) (j * 4) 4)))), (7, .int (nI (sMn (fun k9 => ze (12 * mo + k9)) kd (j) + 1))), (13, .long (lN (uS (fun k9 => ze (12 * mo + k9)) (j * 4) 4))), (0, .int (nI (kd))), (1, .int (nI (g))), (2, .int (nI (mo))), (3, .ref a_ze), (4, .int (nI (12 * mo)))]) hx hb dL_share_146 hl (k := 10) rfl (nI_add _ 1) (by decide) rfl (fun ls hl => ?_)
          refine lv_goto (tgt := 21) hx hb dL_share_149 (by decide) ?_
          have hP : gvP D vwCl ws _ := g_trP (rfl) hP
          have hD : gvD A ws := g_trD (rfl) hD
          exact ih_j H locs ls hP hD hS (lv_sub hl [6, 7, 8, 9, 10, 1, 4, 3, 2, 0] (by rw [sMs_t c_81 (mCt_2 (by omega)), sMn_t c_81 (mCt_2 (by omega)), mAl_t (mCt_2 (by omega)), mPt_t (mCt_2 (by omega))]; rfl))
