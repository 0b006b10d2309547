/-! the law's index and number, its wages tied -/
section GL10
variable {p : Program} {l : Launch} {e : Env} {R : Room} {s : State} {m : MethodId} {args : Array Value} {below : List Frame} {meth : Method} {c : Code} {H H0 : Heap} {locs : List Loc} {cells slots : Nat} {Q : State → Prop}
variable {cc : ByteArray} {pc : Nat} {ls : Array Slot} {rest : List Value}
theorem lg_cmp_m1 : lg_cmp (-1) (lN 0) = -1 := by decide +kernel
theorem g_m1_ge (hexec : p.tables.exec = Jvm.exec) (hb : c.code = cc) {off : Int} {tgt : Nat} (hdg : decode cc pc = .ok (.lcmp, 1)) (hdh : decode cc (pc + 1) = .ok (.ifCond .ge off, 3)) (ht : ((pc + 1 : Nat) : Int) + off = (tgt : Int)) (kf : W p l e R s m args below meth c H locs cells slots Q (F0 m (pc + 1 + 3) ls rest)) : W p l e R s m args below meth c H locs cells slots Q (F0 m pc ls (.long (lN 0) :: .long (-1) :: rest)) := by
  refine W.lcmp hexec hb hdg ?_
  rw [lg_cmp_m1]
  exact lv_if_ge hexec hb hdh ht (fun h => absurd h (by decide)) (fun _ => kf)
end GL10
def LSer (wf : Bool) (zi zc zg zf zn zl zr ze zq : Nat → Nat) (n T : Nat) (MM G : Nat → Nat) (M : Nat → Bool) (o b pr rel grp shr idx : Nat → UInt64) : Prop :=
  (zq 0 = n ∧ n ≤ 4 ∧ T ≤ 5) ∧
  (∀ k, k < n → zi (3 * k) = G k ∧ zi (3 * k + 1) = MM k ∧ MM k < 2 ^ 31) ∧
  (∀ k, k < n → ∀ t, t < T → GK wf zc zg zf zn zl zr k (MM k) M o b pr t ∧ sMean (MM k) M o b (t * 48 + k * 4 + 0) = rel (t * 12 + k)) ∧
  (∀ t, t < T → ∀ g, g < 4 → nnGrp G rel n g t ∧ sGrp G rel n g t = grp (t * 4 + g)) ∧
  (∀ t, t < T → ∀ kd, kd < 5 → ∀ g, g < 4 → nnSh (fun k9 => ze (12 * t + k9)) kd g ∧ mShr (fun k9 => ze (12 * t + k9)) kd g = shr ((t * 5 + kd) * 4 + g)) ∧
  (0 < T → ∀ kd, kd < 5 → idx (0 * 5 + kd) = 4636737291354636288) ∧
  (∀ t, t < T → t ≠ 0 → ∀ kd, kd < 5 → nnStep shr grp kd t ∧ vf_n64 (FP.dmul (idx ((t - 1) * 5 + kd)) (sStep shr grp kd t 4)) ∧ FP.dmul (idx ((t - 1) * 5 + kd)) (sStep shr grp kd t 4) = idx (t * 5 + kd)) ∧
  (∀ t, t < T → nnNum (idx (t * 5 + 0)) ∧ NF (FP.dadd (FP.dmul (idx (t * 5 + 0)) 4621819117588971520) 4602678819172646912))
theorem num_lt {x : UInt64} (h : NF (FP.dadd (FP.dmul x 4621819117588971520) 4602678819172646912)) (k : Dlt (FP.dadd (FP.dmul x 4621819117588971520) 4602678819172646912) FP.dconst1) : sNum x = nI 1 := by
  have h1 := (cmp_uN h one_uN.1).1.mp k
  have hm : NF 4746794007244308480 := by unfold NF; decide
  have hq : ¬ Dge (FP.dadd (FP.dmul x 4621819117588971520) 4602678819172646912) 4746794007244308480 := fun z => by
    have h2 := (ge_uN h hm).mp z
    have h3 : uN FP.dconst1 ≤ uN 4746794007244308480 := by rw [one_uN.2]; decide +kernel
    omega
  unfold sNum
  rw [if_neg hq, if_pos k]
def tieV (w n last trig : Nat) (fl : Bool) : Int64 := if tie last trig fl n = true then lN (pW w n last) else (-1)
theorem tieV_t {w n last trig : Nat} {fl : Bool} (h : tie last trig fl n = true) : tieV w n last trig fl = lN (pW w n last) := if_pos h
theorem tieV_f {w n last trig : Nat} {fl : Bool} (h : tie last trig fl n = false) : tieV w n last trig fl = -1 := if_neg (by rw [h]; decide)
theorem payC_t {lag trig t : Nat} {fl : Bool} {num : Nat → Nat} {c : Nat × Nat × Nat × Nat} (h1 : lag ≤ t) (h2 : c.2.2.1 < t - lag) (h3 : tie c.2.1 trig fl (num (t - lag)) = true) : payS lag trig fl num t c = (pW c.1 (num (t - lag)) c.2.1, num (t - lag), t - lag, c.2.2.2 + pW c.1 (num (t - lag)) c.2.1) := if_pos ⟨h1, h2, h3⟩
theorem payC_f {lag trig t : Nat} {fl : Bool} {num : Nat → Nat} {c : Nat × Nat × Nat × Nat} (h : t < lag ∨ t - lag ≤ c.2.2.1 ∨ tie c.2.1 trig fl (num (t - lag)) = false) : payS lag trig fl num t c = (c.1, c.2.1, c.2.2.1, c.2.2.2 + c.1) := if_neg (fun z => by
  rcases h with q | q | q
  · have := z.1; omega
  · have := z.2.1; omega
  · have h3 := z.2.2; rw [q] at h3; cases h3)
/-- what stands in the reckoning of the wages that would have been paid -/
theorem paR_b {fw lag trig fm nw : Nat} {fl : Bool} {num : Nat → Nat} (hw : fw ≤ 1000000000) (hn : ∀ t, t < nw → 1 ≤ num t ∧ num t ≤ 2147483647) (hf : fm < nw) : ∀ d, d ≤ nw - (fm + 1) → (paR fw lag trig fl fm num d).1 ≤ 1000000000 ∧ 1 ≤ (paR fw lag trig fl fm num d).2.1 ∧ (paR fw lag trig fl fm num d).2.1 ≤ 2147483647 ∧ (paR fw lag trig fl fm num d).2.2.1 ≤ fm + d ∧ (paR fw lag trig fl fm num d).2.2.2 ≤ d * 1000000000
  | 0, _ => ⟨hw, (hn fm hf).1, (hn fm hf).2, Nat.le_refl _, Nat.zero_le _⟩
  | d + 1, h => by
    obtain ⟨a1, a2, a3, a4, a5⟩ := paR_b (lag := lag) (trig := trig) (fl := fl) hw hn hf d (by omega)
    show (payS _ _ _ _ _ _).1 ≤ _ ∧ _ ≤ (payS _ _ _ _ _ _).2.1 ∧ (payS _ _ _ _ _ _).2.1 ≤ _ ∧ (payS _ _ _ _ _ _).2.2.1 ≤ _ ∧ (payS _ _ _ _ _ _).2.2.2 ≤ _
    rw [Nat.succ_mul]
    by_cases h1 : lag ≤ fm + 1 + d ∧ (paR fw lag trig fl fm num d).2.2.1 < fm + 1 + d - lag ∧ tie (paR fw lag trig fl fm num d).2.1 trig fl (num (fm + 1 + d - lag)) = true
    · rw [payC_t h1.1 h1.2.1 h1.2.2]
      have hb := pW_le (paR fw lag trig fl fm num d).1 (num (fm + 1 + d - lag)) (paR fw lag trig fl fm num d).2.1
      have h9 := hn (fm + 1 + d - lag) (by omega)
      exact ⟨hb, h9.1, h9.2, by show fm + 1 + d - lag ≤ _; omega, by show _ + _ ≤ _; omega⟩
    · have e : payS lag trig fl num (fm + 1 + d) (paR fw lag trig fl fm num d) = ((paR fw lag trig fl fm num d).1, (paR fw lag trig fl fm num d).2.1, (paR fw lag trig fl fm num d).2.2.1, (paR fw lag trig fl fm num d).2.2.2 + (paR fw lag trig fl fm num d).1) := if_neg h1
      rw [e]
      exact ⟨a1, a2, a3, Nat.le_trans a4 (by omega), by show _ + _ ≤ _; omega⟩
set_option maxHeartbeats 4000000 in
set_option maxRecDepth 100000 in
theorem c_L_index (l : Launch) {D : va_G} {y : Nat → Nat} {ws : va_W} {p_zi p_zc p_zg p_zf p_zn p_zl p_zr p_ze p_zq a_zi a_zc a_zg a_zf a_zn a_zl a_zr a_ze a_zq : Nat} {zi : Nat → Nat} {zc : Nat → Nat} {zg : Nat → Nat} {zf : Nat → Nat} {zn : Nat → Nat} {zl : Nat → Nat} {zr : Nat → Nat} {ze : Nat → Nat} {zq : Nat → Nat} {kd mo : Nat} {wf : Bool} {M : Nat → Bool} {o b pr rel grp shr idx : Nat → UInt64} {MM G : Nat → Nat} {n T : Nat} (f0_zi : ws[p_zi]? = some (a_zi, eN y 12 zi)) (f0_zc : ws[p_zc]? = some (a_zc, eN y 60 zc)) (f0_zg : ws[p_zg]? = some (a_zg, eN y 60 zg)) (f0_zf : ws[p_zf]? = some (a_zf, eN y 60 zf)) (f0_zn : ws[p_zn]? = some (a_zn, eN y 60 zn)) (f0_zl : ws[p_zl]? = some (a_zl, eN y 60 zl)) (f0_zr : ws[p_zr]? = some (a_zr, eN y 60 zr)) (f0_ze : ws[p_ze]? = some (a_ze, eN y 60 ze)) (f0_zq : ws[p_zq]? = some (a_zq, eN y 5 zq)) (b_zi : ∀ k, zi k ≤ 4095) (b_zc : ∀ k, zc k ≤ 100000) (b_zg : ∀ k, zg k ≤ 10000) (b_zf : ∀ k, zf k ≤ 100000) (b_zn : ∀ k, zn k ≤ 1) (b_zl : ∀ k, zl k ≤ 100000) (b_zr : ∀ k, zr k ≤ 10000) (b_ze : ∀ k, ze k ≤ 1000000000) (b_zq : ∀ k, zq k ≤ 1000) (hkd : kd < 5) (hmo : mo < T) (hL : LSer wf zi zc zg zf zn zl zr ze zq n T MM G M o b pr rel grp shr idx) : gMd l yL_index wsL_index ({ frames := 3, cells := 0, slots := 0, locals := 132 }) D y [.int (nI (kd)), .int (nI (mo)), .int (gb (wf)), .ref a_zi, .ref a_zc, .ref a_zg, .ref a_zf, .ref a_zn, .ref a_zl, .ref a_zr, .ref a_ze, .ref a_zq] ws (fun r (_ : Unit) => r = idx (mo * 5 + kd)) (fun (_ : Unit) => ws) := by
  refine g_met_d (cc := cL_index) (maxL := 18) (by decide) rfl (Nat.le_of_ble_eq_true rfl) ?_
  intro p e s m below meth c A hx hb hml hr hts hown hnm hlocks hE hP hD hS hA ls hl
  have hown : s.vm.findClass RL = some m.cls := hown
  have hl : lv_has ls 18 [(0, .int (nI (kd))), (1, .int (nI (mo))), (2, .int (gb (wf))), (3, .ref a_zi), (4, .ref a_zc), (5, .ref a_zg), (6, .ref a_zf), (7, .ref a_zn), (8, .ref a_zl), (9, .ref a_zr), (10, .ref a_ze), (11, .ref a_zq)] := hl
  obtain ⟨q1, q2, q3, q4, q5, q6, q7, q8⟩ := hL
  refine lv_ldc2d (v := 4636737291354636288) hx hb hown (hts (.constantDouble RL 65 (4636737291354636288)) (by decide +kernel)) dL_index_0 ?_
  refine g_dv (v' := idx ((1 - 1) * 5 + kd)) (show idx ((1 - 1) * 5 + kd) = 4636737291354636288 from q6 (by omega) kd hkd).symm ?_
  refine lv_dstore (lv' := [(12, .double (idx ((1 - 1) * 5 + kd))), (0, .int (nI (kd))), (1, .int (nI (mo))), (2, .int (gb (wf))), (3, .ref a_zi), (4, .ref a_zc), (5, .ref a_zg), (6, .ref a_zf), (7, .ref a_zn), (8, .ref a_zl), (9, .ref a_zr), (10, .ref a_ze), (11, .ref a_zq)]) hx hb dL_index_3 hl (by decide) rfl (fun ls hl => ?_)
  refine lv_iconst (v := nI 1) hx hb dL_index_5 (by decide) ?_
  refine lv_istore (lv' := [(14, .int (nI (1))), (12, .double (idx ((1 - 1) * 5 + kd))), (0, .int (nI (kd))), (1, .int (nI (mo))), (2, .int (gb (wf))), (3, .ref a_zi), (4, .ref a_zc), (5, .ref a_zg), (6, .ref a_zf), (7, .ref a_zn), (8, .ref a_zl), (9, .ref a_zr), (10, .ref a_ze), (11, .ref a_zq)]) hx hb dL_index_6 hl (by decide) rfl (fun ls hl => ?_)
  have hP : gvP D vwCl ws _ := g_trP (rfl) hP
  have hD : gvD A ws := g_trD (rfl) hD
  refine g_forP (fun t => (1 ≤ t)) (fun t => ws) (fun t => [(0, .int (nI (kd))), (1, .int (nI (mo))), (2, .int (gb (wf))), (3, .ref a_zi), (4, .ref a_zc), (5, .ref a_zg), (6, .ref a_zf), (7, .ref a_zn), (8, .ref a_zl), (9, .ref a_zr), (10, .ref a_ze), (11, .ref a_zq), (12, .double (idx ((t - 1) * 5 + kd))), (14, .int (nI (t)))]) ((mo + 1)) (1) (by omega) ?_ ?_ (by omega) hP hD hS (lv_sub hl [2, 3, 4, 5, 6, 7, 8, 9, 10, 11, 12, 13, 1, 0] rfl)
  · intro hp_t H locs ls hP hD hS hl
    have hP : gvP D vwCl ws H := hP
    have hD : gvD A ws := hD
    have hl : lv_has ls 18 [(0, .int (nI (kd))), (1, .int (nI (mo))), (2, .int (gb (wf))), (3, .ref a_zi), (4, .ref a_zc), (5, .ref a_zg), (6, .ref a_zf), (7, .ref a_zn), (8, .ref a_zl), (9, .ref a_zr), (10, .ref a_ze), (11, .ref a_zq), (12, .double (idx (((mo + 1) - 1) * 5 + kd))), (14, .int (nI ((mo + 1))))] := hl
    refine lv_iload hx hb dL_index_8 (lv_at hl 13 rfl) ?_
    refine lv_iload_n hx hb dL_index_10 rfl (lv_at hl 1 rfl) ?_
    refine g_icmp_gt (tgt := 84) hx hb (by omega) (by omega) dL_index_11 (by decide) (fun c_11 => ?_) (fun c_11 => absurd c_11 (by omega))
    refine lv_dload hx hb dL_index_84 (lv_at hl 12 rfl) ?_
    refine g_dret hx hb hr hlocks () dL_index_86 hS hP hD ?_
    rw [Nat.add_sub_cancel]
  · intro t hj_t hp_t ih_t H locs ls hP hD hS hl
    have hP : gvP D vwCl ws H := hP
    have hD : gvD A ws := hD
    have hl : lv_has ls 18 [(0, .int (nI (kd))), (1, .int (nI (mo))), (2, .int (gb (wf))), (3, .ref a_zi), (4, .ref a_zc), (5, .ref a_zg), (6, .ref a_zf), (7, .ref a_zn), (8, .ref a_zl), (9, .ref a_zr), (10, .ref a_ze), (11, .ref a_zq), (12, .double (idx ((t - 1) * 5 + kd))), (14, .int (nI (t)))] := hl
    refine lv_iload hx hb dL_index_8 (lv_at hl 13 rfl) ?_
    refine lv_iload_n hx hb dL_index_10 rfl (lv_at hl 1 rfl) ?_
    refine g_icmp_gt (tgt := 84) hx hb (by omega) (by omega) dL_index_11 (by decide) (fun c_11 => absurd c_11 (by omega)) (fun c_11 => ?_)
    refine g_dconst0 hx hb dL_index_14 ?_
    refine lv_dstore (lv' := [(15, .double 0), (0, .int (nI (kd))), (1, .int (nI (mo))), (2, .int (gb (wf))), (3, .ref a_zi), (4, .ref a_zc), (5, .ref a_zg), (6, .ref a_zf), (7, .ref a_zn), (8, .ref a_zl), (9, .ref a_zr), (10, .ref a_ze), (11, .ref a_zq), (12, .double (idx ((t - 1) * 5 + kd))), (14, .int (nI (t)))]) hx hb dL_index_15 hl (by decide) rfl (fun ls hl => ?_)
    refine lv_iconst (v := nI 0) hx hb dL_index_17 (by decide) ?_
    refine lv_istore (lv' := [(17, .int (nI (0))), (15, .double 0), (0, .int (nI (kd))), (1, .int (nI (mo))), (2, .int (gb (wf))), (3, .ref a_zi), (4, .ref a_zc), (5, .ref a_zg), (6, .ref a_zf), (7, .ref a_zn), (8, .ref a_zl), (9, .ref a_zr), (10, .ref a_ze), (11, .ref a_zq), (12, .double (idx ((t - 1) * 5 + kd))), (14, .int (nI (t)))]) hx hb dL_index_18 hl (by decide) rfl (fun ls hl => ?_)
    have hP : gvP D vwCl ws _ := g_trP (rfl) hP
    have hD : gvD A ws := g_trD (rfl) hD
    refine g_for (fun k => ws) (fun k => [(0, .int (nI (kd))), (1, .int (nI (mo))), (2, .int (gb (wf))), (3, .ref a_zi), (4, .ref a_zc), (5, .ref a_zg), (6, .ref a_zf), (7, .ref a_zn), (8, .ref a_zl), (9, .ref a_zr), (10, .ref a_ze), (11, .ref a_zq), (12, .double (idx ((t - 1) * 5 + kd))), (14, .int (nI (t))), (15, .double (sStep shr grp kd t (k))), (17, .int (nI (k)))]) (4) (0) (by omega) ?_ ?_ hP hD hS (lv_sub hl [2, 3, 4, 5, 6, 7, 8, 9, 10, 11, 12, 13, 14, 15, 1, 0] rfl)
    · intro H locs ls hP hD hS hl
      have hP : gvP D vwCl ws H := hP
      have hD : gvD A ws := hD
      have hl : lv_has ls 18 [(0, .int (nI (kd))), (1, .int (nI (mo))), (2, .int (gb (wf))), (3, .ref a_zi), (4, .ref a_zc), (5, .ref a_zg), (6, .ref a_zf), (7, .ref a_zn), (8, .ref a_zl), (9, .ref a_zr), (10, .ref a_ze), (11, .ref a_zq), (12, .double (idx ((t - 1) * 5 + kd))), (14, .int (nI (t))), (15, .double (sStep shr grp kd t (4))), (17, .int (nI (4)))] := hl
      refine lv_iload hx hb dL_index_20 (lv_at hl 15 rfl) ?_
      refine lv_iconst (v := nI 4) hx hb dL_index_22 (by decide) ?_
      refine g_icmp_ge (tgt := 71) hx hb (by omega) (by omega) dL_index_23 (by decide) (fun c_23 => ?_) (fun c_23 => absurd c_23 (by omega))
      refine lv_dload hx hb dL_index_71 (lv_at hl 12 rfl) ?_
      refine lv_dload hx hb dL_index_73 (lv_at hl 14 rfl) ?_
      refine lv_dmul hx hb dL_index_75 (q7 t (by omega) (by omega) kd hkd).2.1 ?_
      refine g_dv (v' := idx ((t + 1 - 1) * 5 + kd)) (q7 t (by omega) (by omega) kd hkd).2.2 ?_
      refine lv_dstore (lv' := [(12, .double (idx ((t + 1 - 1) * 5 + kd))), (0, .int (nI (kd))), (1, .int (nI (mo))), (2, .int (gb (wf))), (3, .ref a_zi), (4, .ref a_zc), (5, .ref a_zg), (6, .ref a_zf), (7, .ref a_zn), (8, .ref a_zl), (9, .ref a_zr), (10, .ref a_ze), (11, .ref a_zq), (14, .int (nI (t))), (15, .double (sStep shr grp kd t (4))), (17, .int (nI (4)))]) hx hb dL_index_76 hl (by decide) rfl (fun ls hl => ?_)
      refine lv_iinc (v := nI (t + 1)) (lv' := [(14, .int (nI (t + 1))), (12, .double (idx ((t + 1 - 1) * 5 + kd))), (0, .int (nI (kd))), (1, .int (nI (mo))), (2, .int (gb (wf))), (3, .ref a_zi), (4, .ref a_zc), (5, .ref a_zg), (6, .ref a_zf), (7, .ref a_zn), (8, .ref a_zl), (9, .ref a_zr), (10, .ref a_ze), (11, .ref a_zq), (15, .double (sStep shr grp kd t (4))), (17, .int (nI (4)))]) hx hb dL_index_78 hl (k := 13) rfl (nI_add _ 1) (by decide) rfl (fun ls hl => ?_)
      refine lv_goto (tgt := 8) hx hb dL_index_81 (by decide) ?_
      have hP : gvP D vwCl ws _ := g_trP (rfl) hP
      have hD : gvD A ws := g_trD (rfl) hD
      exact ih_t (by omega) H locs ls hP hD hS (lv_sub hl [2, 3, 4, 5, 6, 7, 8, 9, 10, 11, 12, 13, 1, 0] rfl)
    · intro k hj_k ih_k H locs ls hP hD hS hl
      have hP : gvP D vwCl ws H := hP
      have hD : gvD A ws := hD
      have hl : lv_has ls 18 [(0, .int (nI (kd))), (1, .int (nI (mo))), (2, .int (gb (wf))), (3, .ref a_zi), (4, .ref a_zc), (5, .ref a_zg), (6, .ref a_zf), (7, .ref a_zn), (8, .ref a_zl), (9, .ref a_zr), (10, .ref a_ze), (11, .ref a_zq), (12, .double (idx ((t - 1) * 5 + kd))), (14, .int (nI (t))), (15, .double (sStep shr grp kd t (k))), (17, .int (nI (k)))] := hl
      refine lv_iload hx hb dL_index_20 (lv_at hl 15 rfl) ?_
      refine lv_iconst (v := nI 4) hx hb dL_index_22 (by decide) ?_
      refine g_icmp_ge (tgt := 71) hx hb (by omega) (by omega) dL_index_23 (by decide) (fun c_23 => absurd c_23 (by omega)) (fun c_23 => ?_)
      refine lv_dload hx hb dL_index_26 (lv_at hl 14 rfl) ?_
      refine lv_iload_n hx hb dL_index_28 rfl (lv_at hl 0 rfl) ?_
      refine lv_iload hx hb dL_index_29 (lv_at hl 15 rfl) ?_
      refine lv_iload hx hb dL_index_31 (lv_at hl 13 rfl) ?_
      refine lv_aload hx hb dL_index_33 (lv_at hl 10 rfl) ?_
      refine gc_S_d (As := [.int (nI (kd)), .int (nI (k)), .int (nI (t)), .ref a_ze]) (rest := [.double (sStep shr grp kd t (k))]) (c_L_share l f0_ze b_ze hkd (by omega) (by omega) (q5 t (by omega) kd hkd k hj_k).1) ⟨hx, hb, hml, hown, hts⟩ (va_cwS 4 hts gL_index_L_share rfl rfl rfl (by decide +kernel) ⟨Nat.le_of_ble_eq_true rfl, Nat.le_of_ble_eq_true rfl⟩) hE hP hD hS hA rfl rfl hl.1 (Nat.le_of_ble_eq_true rfl) dL_index_35 ⟨Nat.le_of_ble_eq_true rfl, Nat.le_of_ble_eq_true rfl⟩ (fun r_35 u_35 H locs hP hD hS q_35 => ?_)
      have q9 := q_35.trans (q5 t (by omega) kd hkd k hj_k).2
      subst q9
      refine lv_iload hx hb dL_index_38 (lv_at hl 15 rfl) ?_
      refine lv_iload hx hb dL_index_40 (lv_at hl 13 rfl) ?_
      refine lv_iload_n hx hb dL_index_42 rfl (lv_at hl 2 rfl) ?_
      refine lv_aload_n hx hb dL_index_43 rfl (lv_at hl 3 rfl) ?_
      refine lv_aload hx hb dL_index_44 (lv_at hl 4 rfl) ?_
      refine lv_aload hx hb dL_index_46 (lv_at hl 5 rfl) ?_
      refine lv_aload hx hb dL_index_48 (lv_at hl 6 rfl) ?_
      refine lv_aload hx hb dL_index_50 (lv_at hl 7 rfl) ?_
      refine lv_aload hx hb dL_index_52 (lv_at hl 8 rfl) ?_
      refine lv_aload hx hb dL_index_54 (lv_at hl 9 rfl) ?_
      refine lv_aload hx hb dL_index_56 (lv_at hl 11 rfl) ?_
      refine gc_S_d (As := [.int (nI (k)), .int (nI (t)), .int (gb (wf)), .ref a_zi, .ref a_zc, .ref a_zg, .ref a_zf, .ref a_zn, .ref a_zl, .ref a_zr, .ref a_zq]) (rest := [.double (shr ((t * 5 + kd) * 4 + k)), .double (sStep shr grp kd t (k))]) (c_L_group l f0_zi f0_zc f0_zg f0_zf f0_zn f0_zl f0_zr f0_zq b_zi b_zc b_zg b_zf b_zn b_zl b_zr b_zq (n := n) (T := T) (M := M) (o := o) (b := b) (pr := pr) (rel := rel) (MM := MM) (G := G) (by omega) (by omega) q1.2.2 q1.1 q1.2.1 (fun k9 hk9 => ⟨(q2 k9 hk9).1, (q2 k9 hk9).2.1, (q2 k9 hk9).2.2, (q3 k9 hk9 t (by omega)).2⟩) (fun k9 hk9 t9 ht9 => (q3 k9 hk9 t9 ht9).1) (q4 t (by omega) k hj_k).1) ⟨hx, hb, hml, hown, hts⟩ (va_cwS 11 hts gL_index_L_group rfl rfl rfl (by decide +kernel) ⟨Nat.le_of_ble_eq_true rfl, Nat.le_of_ble_eq_true rfl⟩) hE hP hD hS hA rfl rfl hl.1 (Nat.le_of_ble_eq_true rfl) dL_index_58 ⟨Nat.le_of_ble_eq_true rfl, Nat.le_of_ble_eq_true rfl⟩ (fun r_58 u_58 H locs hP hD hS q_58 => ?_)
      have q9 := q_58.trans (q4 t (by omega) k hj_k).2
      subst q9
      refine lv_dmul hx hb dL_index_61 ((q7 t (by omega) (by omega) kd hkd).1 k hj_k).1 ?_
      refine lv_dadd hx hb dL_index_62 ((q7 t (by omega) (by omega) kd hkd).1 k hj_k).2 ?_
      refine lv_dstore (lv' := [(15, .double (FP.dadd (sStep shr grp kd t (k)) (FP.dmul (shr ((t * 5 + kd) * 4 + k)) (grp (t * 4 + k))))), (0, .int (nI (kd))), (1, .int (nI (mo))), (2, .int (gb (wf))), (3, .ref a_zi), (4, .ref a_zc), (5, .ref a_zg), (6, .ref a_zf), (7, .ref a_zn), (8, .ref a_zl), (9, .ref a_zr), (10, .ref a_ze), (11, .ref a_zq), (12, .double (idx ((t - 1) * 5 + kd))), (14, .int (nI (t))), (17, .int (nI (k)))]) hx hb dL_index_63 hl (by decide) rfl (fun ls hl => ?_)
      refine lv_iinc (v := nI (k + 1)) (lv' := [(17, .int (nI (k + 1))), (15, .double (FP.dadd (sStep shr grp kd t (k)) (FP.dmul (shr ((t * 5 + kd) * 4 + k)) (grp (t * 4 + k))))), (0, .int (nI (kd))), (1, .int (nI (mo))), (2, .int (gb (wf))), (3, .ref a_zi), (4, .ref a_zc), (5, .ref a_zg), (6, .ref a_zf), (7, .ref a_zn), (8, .ref a_zl), (9, .ref a_zr), (10, .ref a_ze), (11, .ref a_zq), (12, .double (idx ((t - 1) * 5 + kd))), (14, .int (nI (t)))]) hx hb dL_index_65 hl (k := 15) rfl (nI_add _ 1) (by decide) rfl (fun ls hl => ?_)
      refine lv_goto (tgt := 20) hx hb dL_index_68 (by decide) ?_
      have hP : gvP D vwCl ws _ := g_trP (rfl) hP
      have hD : gvD A ws := g_trD (rfl) hD
      exact ih_k H locs ls hP hD hS (lv_sub hl [2, 3, 4, 5, 6, 7, 8, 9, 10, 11, 12, 13, 14, 15, 1, 0] rfl)

set_option maxHeartbeats 4000000 in
set_option maxRecDepth 100000 in
theorem c_L_number (l : Launch) {D : va_G} {y : Nat → Nat} {ws : va_W} {p_zi p_zc p_zg p_zf p_zn p_zl p_zr p_ze p_zq a_zi a_zc a_zg a_zf a_zn a_zl a_zr a_ze a_zq : Nat} {zi : Nat → Nat} {zc : Nat → Nat} {zg : Nat → Nat} {zf : Nat → Nat} {zn : Nat → Nat} {zl : Nat → Nat} {zr : Nat → Nat} {ze : Nat → Nat} {zq : Nat → Nat} {mo : Nat} {wf : Bool} {M : Nat → Bool} {o b pr rel grp shr idx : Nat → UInt64} {MM G : Nat → Nat} {n T : Nat} (f0_zi : ws[p_zi]? = some (a_zi, eN y 12 zi)) (f0_zc : ws[p_zc]? = some (a_zc, eN y 60 zc)) (f0_zg : ws[p_zg]? = some (a_zg, eN y 60 zg)) (f0_zf : ws[p_zf]? = some (a_zf, eN y 60 zf)) (f0_zn : ws[p_zn]? = some (a_zn, eN y 60 zn)) (f0_zl : ws[p_zl]? = some (a_zl, eN y 60 zl)) (f0_zr : ws[p_zr]? = some (a_zr, eN y 60 zr)) (f0_ze : ws[p_ze]? = some (a_ze, eN y 60 ze)) (f0_zq : ws[p_zq]? = some (a_zq, eN y 5 zq)) (b_zi : ∀ k, zi k ≤ 4095) (b_zc : ∀ k, zc k ≤ 100000) (b_zg : ∀ k, zg k ≤ 10000) (b_zf : ∀ k, zf k ≤ 100000) (b_zn : ∀ k, zn k ≤ 1) (b_zl : ∀ k, zl k ≤ 100000) (b_zr : ∀ k, zr k ≤ 10000) (b_ze : ∀ k, ze k ≤ 1000000000) (b_zq : ∀ k, zq k ≤ 1000) (hmo : mo < T) (hL : LSer wf zi zc zg zf zn zl zr ze zq n T MM G M o b pr rel grp shr idx) : gMi l yL_number wsL_number ({ frames := 4, cells := 0, slots := 0, locals := 169 }) D y [.int (nI (mo)), .int (gb (wf)), .ref a_zi, .ref a_zc, .ref a_zg, .ref a_zf, .ref a_zn, .ref a_zl, .ref a_zr, .ref a_ze, .ref a_zq] ws (fun r (_ : Unit) => r = nI (sNumN (idx (mo * 5 + 0)))) (fun (_ : Unit) => ws) := by
  refine g_met_i (cc := cL_number) (maxL := 13) (by decide) rfl (Nat.le_of_ble_eq_true rfl) ?_
  intro p e s m below meth c A hx hb hml hr hts hown hnm hlocks hE hP hD hS hA ls hl
  have hown : s.vm.findClass RL = some m.cls := hown
  have hl : lv_has ls 13 [(0, .int (nI (mo))), (1, .int (gb (wf))), (2, .ref a_zi), (3, .ref a_zc), (4, .ref a_zg), (5, .ref a_zf), (6, .ref a_zn), (7, .ref a_zl), (8, .ref a_zr), (9, .ref a_ze), (10, .ref a_zq)] := hl
  refine lv_iconst (v := nI 0) hx hb dL_number_0 (by decide) ?_
  refine lv_iload_n hx hb dL_number_1 rfl (lv_at hl 0 rfl) ?_
  refine lv_iload_n hx hb dL_number_2 rfl (lv_at hl 1 rfl) ?_
  refine lv_aload_n hx hb dL_number_3 rfl (lv_at hl 2 rfl) ?_
  refine lv_aload_n hx hb dL_number_4 rfl (lv_at hl 3 rfl) ?_
  refine lv_aload hx hb dL_number_5 (lv_at hl 4 rfl) ?_
  refine lv_aload hx hb dL_number_7 (lv_at hl 5 rfl) ?_
  refine lv_aload hx hb dL_number_9 (lv_at hl 6 rfl) ?_
  refine lv_aload hx hb dL_number_11 (lv_at hl 7 rfl) ?_
  refine lv_aload hx hb dL_number_13 (lv_at hl 8 rfl) ?_
  refine lv_aload hx hb dL_number_15 (lv_at hl 9 rfl) ?_
  refine lv_aload hx hb dL_number_17 (lv_at hl 10 rfl) ?_
  refine gc_S_d (As := [.int (nI (0)), .int (nI (mo)), .int (gb (wf)), .ref a_zi, .ref a_zc, .ref a_zg, .ref a_zf, .ref a_zn, .ref a_zl, .ref a_zr, .ref a_ze, .ref a_zq]) (rest := []) (c_L_index l f0_zi f0_zc f0_zg f0_zf f0_zn f0_zl f0_zr f0_ze f0_zq b_zi b_zc b_zg b_zf b_zn b_zl b_zr b_ze b_zq (T := T) (n := n) (MM := MM) (G := G) (M := M) (o := o) (b := b) (pr := pr) (rel := rel) (grp := grp) (shr := shr) (idx := idx) (by decide) hmo hL) ⟨hx, hb, hml, hown, hts⟩ (va_cwS 12 hts gL_number_L_index rfl rfl rfl (by decide +kernel) ⟨Nat.le_of_ble_eq_true rfl, Nat.le_of_ble_eq_true rfl⟩) hE hP hD hS hA rfl rfl hl.1 (Nat.le_of_ble_eq_true rfl) dL_number_19 ⟨Nat.le_of_ble_eq_true rfl, Nat.le_of_ble_eq_true rfl⟩ (fun r_19 u_19 H locs hP hD hS q_19 => ?_)
  subst q_19
  refine lv_ldc2d (v := 4621819117588971520) hx hb hown (hts (.constantDouble RL 79 (4621819117588971520)) (by decide +kernel)) dL_number_22 ?_
  refine lv_dmul hx hb dL_number_25 (hL.2.2.2.2.2.2.2 mo hmo).1.1 ?_
  refine lv_ldc2d (v := 4602678819172646912) hx hb hown (hts (.constantDouble RL 81 (4602678819172646912)) (by decide +kernel)) dL_number_26 ?_
  refine lv_dadd hx hb dL_number_29 (hL.2.2.2.2.2.2.2 mo hmo).1.2.1 ?_
  refine lv_dstore (lv' := [(11, .double (FP.dadd (FP.dmul (idx (mo * 5 + 0)) 4621819117588971520) 4602678819172646912)), (0, .int (nI (mo))), (1, .int (gb (wf))), (2, .ref a_zi), (3, .ref a_zc), (4, .ref a_zg), (5, .ref a_zf), (6, .ref a_zn), (7, .ref a_zl), (8, .ref a_zr), (9, .ref a_ze), (10, .ref a_zq)]) hx hb dL_number_30 hl (by decide) rfl (fun ls hl => ?_)
  refine lv_dload hx hb dL_number_32 (lv_at hl 0 rfl) ?_
  refine lv_dconst1 hx hb dL_number_34 ?_
  refine g_dcmpg_ge (tgt := 43) hx hb dL_number_35 dL_number_36 (by decide) (fun c_35 => ?_) (fun c_35 => ?_)
  · refine lv_dload hx hb dL_number_43 (lv_at hl 0 rfl) ?_
    refine lv_ldc2d (v := 4746794007244308480) hx hb hown (hts (.constantDouble RL 83 (4746794007244308480)) (by decide +kernel)) dL_number_45 ?_
    refine g_dcmpl_lt (tgt := 57) hx hb dL_number_48 dL_number_49 (by decide) (fun c_48 => ?_) (fun c_48 => ?_)
    · refine lv_dload hx hb dL_number_57 (lv_at hl 0 rfl) ?_
      refine lv_d2i hx hb dL_number_59 ?_
      refine g_iret hx hb hr hlocks () dL_number_60 hS hP hD ?_
      refine Eq.trans ?_ (sNumN_eq (hL.2.2.2.2.2.2.2 mo hmo).1.2.2)
      rw [sNum, if_neg c_48, if_neg c_35]
    · refine lv_ldc (v := 2147483647) hx hb hown (hts (.constant RL 9 (2147483647)) (by decide +kernel)) dL_number_52 ?_
      rw [show (2147483647 : Int32) = nI 2147483647 from by decide]
      refine lv_goto (tgt := 60) hx hb dL_number_54 (by decide) ?_
      refine g_iret hx hb hr hlocks () dL_number_60 hS hP hD ?_
      refine Eq.trans ?_ (sNumN_eq (hL.2.2.2.2.2.2.2 mo hmo).1.2.2)
      rw [sNum, if_pos c_48]
  · refine lv_iconst (v := nI 1) hx hb dL_number_39 (by decide) ?_
    refine lv_goto (tgt := 60) hx hb dL_number_40 (by decide) ?_
    refine g_iret hx hb hr hlocks () dL_number_60 hS hP hD ?_
    refine Eq.trans ?_ (sNumN_eq (hL.2.2.2.2.2.2.2 mo hmo).1.2.2)
    exact (num_lt (hL.2.2.2.2.2.2.2 mo hmo).2 c_35).symm

set_option maxHeartbeats 4000000 in
set_option maxRecDepth 100000 in
theorem c_L_tied (l : Launch) {D : va_G} {y : Nat → Nat} {ws : va_W}  {wg ts la tg : Nat} {fl : Bool} (hwg : wg ≤ 1000000000) (hts9 : ts ≤ 2147483647) (hl1 : 1 ≤ la) (hla : la ≤ 2147483647) (htg : tg ≤ 500) : gMl l yL_tied wsL_tied ({ frames := 0, cells := 0, slots := 0, locals := 0 }) D y [.long (lN (wg)), .long (lN (ts)), .long (lN (la)), .long (lN (tg)), .int (gb (fl))] ws (fun r (_ : Unit) => r = tieV wg ts la tg fl) (fun (_ : Unit) => ws) := by
  refine g_met_l (cc := cL_tied) (maxL := 13) (by decide) rfl (Nat.le_of_ble_eq_true rfl) ?_
  intro p e s m below meth c A hx hb hml hr hts hown hnm hlocks hE hP hD hS hA ls hl
  have hown : s.vm.findClass RL = some m.cls := hown
  have hl : lv_has ls 13 [(0, .long (lN (wg))), (2, .long (lN (ts))), (4, .long (lN (la))), (6, .long (lN (tg))), (8, .int (gb (fl)))] := hl
  have hb9 : la * tg < 2 ^ 62 := by have := Nat.mul_le_mul hla htg; omega
  have up9 : decide (la * 1000 + la * tg ≤ ts * 1000) = true → la * 1000 + la * tg ≤ ts * 1000 := of_decide_eq_true
  have un9 : decide (la * 1000 + la * tg ≤ ts * 1000) = false → ¬ la * 1000 + la * tg ≤ ts * 1000 := of_decide_eq_false
  have dm9 : la * (1000 - tg) + la * tg = la * 1000 := by rw [← Nat.mul_add]; congr 1; omega
  have dn9 : decide (fl = false ∧ ts * 1000 + la * tg ≤ la * 1000) = true → fl = false ∧ ts * 1000 ≤ la * (1000 - tg) := fun z => ⟨(of_decide_eq_true z).1, by have := (of_decide_eq_true z).2; omega⟩
  have dd9 : decide (fl = false ∧ ts * 1000 + la * tg ≤ la * 1000) = false → ¬ (fl = false ∧ ts * 1000 ≤ la * (1000 - tg)) := fun z w => of_decide_eq_false z ⟨w.1, by omega⟩
  refine g_reg (J := 26) (st1 := [.int (gb (decide (la * 1000 + la * tg ≤ ts * 1000)))]) hP hD hS (fun K_26 => ?_) (fun H locs hP hD hS => ?_)
  · refine lv_lload_n hx hb dL_tied_0 rfl (lv_at hl 1 rfl) ?_
    refine lv_ldc2 (v := 1000) hx hb hown (hts (.constantLong RL 85 (1000)) (by decide +kernel)) dL_tied_1 ?_
    rw [show (1000 : Int64) = lN 1000 from by decide]
    refine g_lmul hx hb dL_tied_4 (lN_mul _ _) ?_
    refine lv_lload hx hb dL_tied_5 (lv_at hl 2 rfl) ?_
    refine lv_ldc2 (v := 1000) hx hb hown (hts (.constantLong RL 85 (1000)) (by decide +kernel)) dL_tied_7 ?_
    rw [show (1000 : Int64) = lN 1000 from by decide]
    refine g_lmul hx hb dL_tied_10 (lN_mul _ _) ?_
    refine g_lsub hx hb dL_tied_11  rfl ?_
    refine lv_lload hx hb dL_tied_12 (lv_at hl 2 rfl) ?_
    refine lv_lload hx hb dL_tied_14 (lv_at hl 3 rfl) ?_
    refine g_lmul hx hb dL_tied_16 (lN_mul _ _) ?_
    refine g_lcmpS_lt (tgt := 25) hx hb (by omega) (by omega) (by omega) dL_tied_17 dL_tied_18 (by decide) (fun c_17 => ?_) (fun c_17 => ?_)
    · refine lv_iconst (v := nI 0) hx hb dL_tied_25 (by decide) ?_
      refine g_iv (v' := (gb (decide (la * 1000 + la * tg ≤ ts * 1000)))) (congrArg gb (decide_eq_false (fun z => by omega)).symm) ?_
      exact K_26 _ _ hP hD hS
    · refine lv_iconst (v := nI 1) hx hb dL_tied_21 (by decide) ?_
      refine lv_goto (tgt := 26) hx hb dL_tied_22 (by decide) ?_
      refine g_iv (v' := (gb (decide (la * 1000 + la * tg ≤ ts * 1000)))) (congrArg gb (decide_eq_true c_17).symm) ?_
      exact K_26 _ _ hP hD hS
  refine lv_istore (lv' := [(9, .int (gb (decide (la * 1000 + la * tg ≤ ts * 1000)))), (0, .long (lN (wg))), (2, .long (lN (ts))), (4, .long (lN (la))), (6, .long (lN (tg))), (8, .int (gb (fl)))]) hx hb dL_tied_26 hl (by decide) rfl (fun ls hl => ?_)
  refine g_reg (J := 59) (st1 := [.int (gb (decide (fl = false ∧ ts * 1000 + la * tg ≤ la * 1000)))]) hP hD hS (fun K_59 => ?_) (fun H locs hP hD hS => ?_)
  · refine lv_iload hx hb dL_tied_28 (lv_at hl 5 rfl) ?_
    refine g_bif_ne (tgt := 58) hx hb dL_tied_30 (by decide) (fun c_30 => ?_) (fun c_30 => ?_)
    · refine lv_iconst (v := nI 0) hx hb dL_tied_58 (by decide) ?_
      refine g_iv (v' := (gb (decide (fl = false ∧ ts * 1000 + la * tg ≤ la * 1000)))) (congrArg gb (decide_eq_false (fun z => by rw [c_30] at z; exact absurd z.1 (by decide))).symm) ?_
      exact K_59 _ _ hP hD hS
    · refine lv_lload hx hb dL_tied_33 (lv_at hl 3 rfl) ?_
      refine lv_ldc2 (v := 1000) hx hb hown (hts (.constantLong RL 85 (1000)) (by decide +kernel)) dL_tied_35 ?_
      rw [show (1000 : Int64) = lN 1000 from by decide]
      refine g_lmul hx hb dL_tied_38 (lN_mul _ _) ?_
      refine lv_lload_n hx hb dL_tied_39 rfl (lv_at hl 2 rfl) ?_
      refine lv_ldc2 (v := 1000) hx hb hown (hts (.constantLong RL 85 (1000)) (by decide +kernel)) dL_tied_40 ?_
      rw [show (1000 : Int64) = lN 1000 from by decide]
      refine g_lmul hx hb dL_tied_43 (lN_mul _ _) ?_
      refine g_lsub hx hb dL_tied_44  rfl ?_
      refine lv_lload hx hb dL_tied_45 (lv_at hl 3 rfl) ?_
      refine lv_lload hx hb dL_tied_47 (lv_at hl 4 rfl) ?_
      refine g_lmul hx hb dL_tied_49 (lN_mul _ _) ?_
      refine g_lcmpS_lt (tgt := 58) hx hb (by omega) (by omega) (by omega) dL_tied_50 dL_tied_51 (by decide) (fun c_50 => ?_) (fun c_50 => ?_)
      · refine lv_iconst (v := nI 0) hx hb dL_tied_58 (by decide) ?_
        refine g_iv (v' := (gb (decide (fl = false ∧ ts * 1000 + la * tg ≤ la * 1000)))) (congrArg gb (decide_eq_false (fun z => by have := z.2; omega)).symm) ?_
        exact K_59 _ _ hP hD hS
      · refine lv_iconst (v := nI 1) hx hb dL_tied_54 (by decide) ?_
        refine lv_goto (tgt := 59) hx hb dL_tied_55 (by decide) ?_
        refine g_iv (v' := (gb (decide (fl = false ∧ ts * 1000 + la * tg ≤ la * 1000)))) (congrArg gb (decide_eq_true ⟨c_30, c_50⟩).symm) ?_
        exact K_59 _ _ hP hD hS
  refine lv_istore (lv' := [(10, .int (gb (decide (fl = false ∧ ts * 1000 + la * tg ≤ la * 1000)))), (9, .int (gb (decide (la * 1000 + la * tg ≤ ts * 1000)))), (0, .long (lN (wg))), (2, .long (lN (ts))), (4, .long (lN (la))), (6, .long (lN (tg))), (8, .int (gb (fl)))]) hx hb dL_tied_59 hl (by decide) rfl (fun ls hl => ?_)
  refine lv_lload_n hx hb dL_tied_61 rfl (lv_at hl 2 rfl) ?_
  refine lv_lload_n hx hb dL_tied_62 rfl (lv_at hl 3 rfl) ?_
  refine g_lmul hx hb dL_tied_63 (lN_mul _ _) ?_
  refine lv_lload hx hb dL_tied_64 (lv_at hl 4 rfl) ?_
  refine g_ldiv hx hb dL_tied_66 (fp_lN_ne (by omega) (by omega)) (pk_lDiv (pay_bd hwg hts9) (by omega) (by omega)) ?_
  refine lv_lstore (lv' := [(11, .long (lN (wg * ts / la))), (10, .int (gb (decide (fl = false ∧ ts * 1000 + la * tg ≤ la * 1000)))), (9, .int (gb (decide (la * 1000 + la * tg ≤ ts * 1000)))), (0, .long (lN (wg))), (2, .long (lN (ts))), (4, .long (lN (la))), (6, .long (lN (tg))), (8, .int (gb (fl)))]) hx hb dL_tied_67 hl (by decide) rfl (fun ls hl => ?_)
  refine lv_iload hx hb dL_tied_69 (lv_at hl 2 rfl) ?_
  refine g_bif_ne (tgt := 79) hx hb dL_tied_71 (by decide) (fun c_71 => ?_) (fun c_71 => ?_)
  · refine lv_lload hx hb dL_tied_79 (lv_at hl 0 rfl) ?_
    refine lv_ldc2 (v := 1000000000) hx hb hown (hts (.constantLong RL 87 (1000000000)) (by decide +kernel)) dL_tied_81 ?_
    rw [show (1000000000 : Int64) = lN 1000000000 from by decide]
    refine g_lcmp_ge (tgt := 93) hx hb (Nat.lt_of_le_of_lt (Nat.div_le_self _ _) (pay_bd hwg hts9)) (by decide) dL_tied_84 dL_tied_85 (by decide) (fun c_84 => ?_) (fun c_84 => ?_)
    · refine lv_ldc2 (v := 1000000000) hx hb hown (hts (.constantLong RL 87 (1000000000)) (by decide +kernel)) dL_tied_93 ?_
      rw [show (1000000000 : Int64) = lN 1000000000 from by decide]
      refine lv_goto (tgt := 102) hx hb dL_tied_96 (by decide) ?_
      refine g_lret hx hb hr hlocks () dL_tied_102 hS hP hD ?_
      have h9 : tie la tg fl ts = true := decide_eq_true ⟨by omega, Or.inl (by rw [Nat.mul_add]; exact up9 c_71)⟩
      rw [tieV_t h9]
      unfold pW
      by_cases e9 : 1000000000 < wg * ts / la
      · rw [if_pos e9]
      · rw [if_neg e9]
        exact congrArg lN (by omega)
    · refine lv_lload hx hb dL_tied_88 (lv_at hl 0 rfl) ?_
      refine lv_goto (tgt := 102) hx hb dL_tied_90 (by decide) ?_
      refine g_lret hx hb hr hlocks () dL_tied_102 hS hP hD ?_
      have h9 : tie la tg fl ts = true := decide_eq_true ⟨by omega, Or.inl (by rw [Nat.mul_add]; exact up9 c_71)⟩
      rw [tieV_t h9, pW, if_neg (by omega)]
  · refine lv_iload hx hb dL_tied_74 (lv_at hl 1 rfl) ?_
    refine g_bif_eq (tgt := 99) hx hb dL_tied_76 (by decide) (fun c_76 => ?_) (fun c_76 => ?_)
    · refine lv_ldc2 (v := -1) hx hb hown (hts (.constantLong RL 89 (-1)) (by decide +kernel)) dL_tied_99 ?_
      refine g_lret hx hb hr hlocks () dL_tied_102 hS hP hD ?_
      have h9 : tie la tg fl ts = false := decide_eq_false (fun z => z.2.elim (fun w => by have h8 := un9 c_71; rw [Nat.mul_add] at w; omega) (fun w => dd9 c_76 w))
      rw [tieV_f h9]
    · refine lv_lload hx hb dL_tied_79 (lv_at hl 0 rfl) ?_
      refine lv_ldc2 (v := 1000000000) hx hb hown (hts (.constantLong RL 87 (1000000000)) (by decide +kernel)) dL_tied_81 ?_
      rw [show (1000000000 : Int64) = lN 1000000000 from by decide]
      refine g_lcmp_ge (tgt := 93) hx hb (Nat.lt_of_le_of_lt (Nat.div_le_self _ _) (pay_bd hwg hts9)) (by decide) dL_tied_84 dL_tied_85 (by decide) (fun c_84 => ?_) (fun c_84 => ?_)
      · refine lv_ldc2 (v := 1000000000) hx hb hown (hts (.constantLong RL 87 (1000000000)) (by decide +kernel)) dL_tied_93 ?_
        rw [show (1000000000 : Int64) = lN 1000000000 from by decide]
        refine lv_goto (tgt := 102) hx hb dL_tied_96 (by decide) ?_
        refine g_lret hx hb hr hlocks () dL_tied_102 hS hP hD ?_
        have h9 : tie la tg fl ts = true := decide_eq_true ⟨by omega, Or.inr (dn9 c_76)⟩
        rw [tieV_t h9]
        unfold pW
        by_cases e9 : 1000000000 < wg * ts / la
        · rw [if_pos e9]
        · rw [if_neg e9]
          exact congrArg lN (by omega)
      · refine lv_lload hx hb dL_tied_88 (lv_at hl 0 rfl) ?_
        refine lv_goto (tgt := 102) hx hb dL_tied_90 (by decide) ?_
        refine g_lret hx hb hr hlocks () dL_tied_102 hS hP hD ?_
        have h9 : tie la tg fl ts = true := decide_eq_true ⟨by omega, Or.inr (dn9 c_76)⟩
        rw [tieV_t h9, pW, if_neg (by omega)]
