/-! the law's own helpers -/
section GL8
variable {p : Program} {l : Launch} {e : Env} {R : Room} {s : State} {m : MethodId} {args : Array Value} {below : List Frame} {meth : Method} {c : Code} {H H0 : Heap} {locs : List Loc} {cells slots : Nat} {Q : State → Prop}
variable {cc : ByteArray} {pc : Nat} {ls : Array Slot} {st0 rest : List Value} {D : va_G} {y : Nat → Nat} {A : Nat → Prop} {a : Nat} {ws : va_W}
/-- a piece of a method with one end: from there on once -/
theorem g_reg (J : Nat) (st1 : List Value) (hP : gvP D vwCl ws H) (hD : gvD A ws) (hS : va_S A H0 H locs)
    (b : (∀ (H : Heap) (locs : List Loc), gvP D vwCl ws H → gvD A ws → va_S A H0 H locs → W p l e R s m args below meth c H locs cells slots Q (F0 m J ls st1)) → W p l e R s m args below meth c H locs cells slots Q (F0 m pc ls st0))
    (k : ∀ (H : Heap) (locs : List Loc), gvP D vwCl ws H → gvD A ws → va_S A H0 H locs → W p l e R s m args below meth c H locs cells slots Q (F0 m J ls st1)) : W p l e R s m args below meth c H locs cells slots Q (F0 m pc ls st0) := b k
theorem g_forP (Pr : Nat → Prop) (Wd : Nat → va_W) (Lv : Nat → List (Nat × Value)) (N j0 : Nat) {nL : Nat} {st : List Value} (h0 : j0 ≤ N)
    (hx : Pr N → ∀ (H : Heap) (locs : List Loc) (ls : Array Slot), gvP D vwCl (Wd N) H → gvD A (Wd N) → va_S A H0 H locs → lv_has ls nL (Lv N) → W p l e R s m args below meth c H locs cells slots Q (F0 m pc ls st))
    (hs : ∀ j, j < N → Pr j → (Pr (j + 1) → ∀ (H : Heap) (locs : List Loc) (ls : Array Slot), gvP D vwCl (Wd (j + 1)) H → gvD A (Wd (j + 1)) → va_S A H0 H locs → lv_has ls nL (Lv (j + 1)) → W p l e R s m args below meth c H locs cells slots Q (F0 m pc ls st)) → ∀ (H : Heap) (locs : List Loc) (ls : Array Slot), gvP D vwCl (Wd j) H → gvD A (Wd j) → va_S A H0 H locs → lv_has ls nL (Lv j) → W p l e R s m args below meth c H locs cells slots Q (F0 m pc ls st))
    (hp : Pr j0) (hP : gvP D vwCl (Wd j0) H) (hD : gvD A (Wd j0)) (hS : va_S A H0 H locs) (hl : lv_has ls nL (Lv j0)) : W p l e R s m args below meth c H locs cells slots Q (F0 m pc ls st) :=
  g_down (P := fun j => Pr j → ∀ (H : Heap) (locs : List Loc) (ls : Array Slot), gvP D vwCl (Wd j) H → gvD A (Wd j) → va_S A H0 H locs → lv_has ls nL (Lv j) → W p l e R s m args below meth c H locs cells slots Q (F0 m pc ls st)) N hx (fun j hj ih hpj => hs j hj hpj ih) j0 h0 hp H locs ls hP hD hS hl
end GL8
theorem bv_and31 (v : BitVec 32) : (v &&& 2147483647#32).toNat < 2 ^ 31 := by
  rw [BitVec.toNat_and]
  exact Nat.lt_of_le_of_lt Nat.and_le_right (by decide)
def lowN (v : Int32) : Nat := (v.toBitVec &&& 2147483647#32).toNat
theorem lowN_lt (v : Int32) : lowN v < 2 ^ 31 := bv_and31 _
theorem low_and (v : Int32) : v &&& nI 2147483647 = nI (lowN v) := by
  refine Int32.toInt_inj.mp ?_
  rw [nI_toInt (lowN_lt v)]
  show (v &&& nI 2147483647).toBitVec.toInt = _
  rw [show (v &&& nI 2147483647).toBitVec = v.toBitVec &&& 2147483647#32 from rfl, BitVec.toInt_eq_toNat_of_lt (by have := bv_and31 v.toBitVec; omega)]
  rfl
def oo (j : Nat) : Nat := if j = 2 then 3 else j
def lIts (wf : Bool) (f c : Nat → Nat) (k : Nat) : Nat := if wf = true ∧ 0 < f k then f k else c k
def lRate (wf : Bool) (f c g : Nat → Nat) (k : Nat) : UInt64 := FP.ddiv (FP.i2d (nI (lIts wf f c k))) (FP.i2d (nI (if lIts wf f c k = 0 then 1 else g k)))
def lOf (mn : Nat) (a b : UInt64) : UInt64 := if mn = 0 then FP.ddiv a b else if mn = 1 then a else FP.ddiv FP.dconst1 (FP.ddiv a b)
def fO (mn : Nat) (o b : Nat → UInt64) (k : Nat) : UInt64 := lOf mn (o k) (b k)
def bN (b : Bool) : Nat := if b = true then 1 else 0
theorem bN_t {b : Bool} (h : b = true) : bN b = 1 := if_pos h
theorem bN_f {b : Bool} (h : b = false) : bN b = 0 := if_neg (by rw [h]; decide)
theorem bN_le (b : Bool) : bN b ≤ 1 := by unfold bN; split <;> omega
def dN (r b : UInt64) (m : Bool) : Nat := if Dgt r 0 ∧ Dgt b 0 ∧ m = false then 1 else 0
theorem dN_le (r b : UInt64) (m : Bool) : dN r b m ≤ 1 := by unfold dN; split <;> omega
def isV (wh : Nat) (a b c : Bool) : Bool := if wh = 5 then a else if wh = 6 then b else c
def gV (wh mn : Nat) (M : Nat → Bool) (o b pr : Nat → UInt64) (k0 : Nat) : UInt64 := if wh = 0 then pr (k0 + 0) else if wh = 1 then pr (k0 + 1) else if wh = 2 then pr (k0 + 3) else if wh = 3 then sMean mn M o b k0 else if wh = 4 then FP.dmul (sMean mn M o b k0) (sMean mn M b o k0) else if wh = 8 then FP.i2d (nI (dN (o (k0 + 0)) (b (k0 + 0)) (M (k0 + 0)) + dN (o (k0 + 1)) (b (k0 + 1)) (M (k0 + 1)) + dN (o (k0 + 3)) (b (k0 + 3)) (M (k0 + 3)))) else if isV wh (M (k0 + 0)) (M (k0 + 1)) (M (k0 + 3)) = true then FP.dconst1 else 0
def BaseA (a : Int32) (zl zr : Nat → Nat) (had v : UInt64) : Prop := (a < 0 ∧ v = had) ∨ ∃ k, a = nI k ∧ k < 60 ∧ (zl k ≠ 0 → 1 ≤ zr k) ∧ v = if zl k = 0 then had else FP.ddiv (FP.i2d (nI (zl k))) (FP.i2d (nI (zr k)))
def pvF (pr : Nat → UInt64) (it o t : Nat) : UInt64 := if t = 0 then 0 else pr ((t - 1) * 48 + it * 4 + 0 + o)
theorem pvF_s {pr : Nat → UInt64} {it o t : Nat} : pvF pr it o (t + 1) = pr (t * 48 + it * 4 + 0 + o) := by
  unfold pvF
  rw [if_neg (by omega), Nat.add_sub_cancel]
/-- what the law's rows say of an item in a month, in the words of a series -/
def GK (wf : Bool) (zc zg zf zn zl zr : Nat → Nat) (it mn : Nat) (M : Nat → Bool) (o b pr : Nat → UInt64) (t : Nat) : Prop :=
  (∀ j, j < 3 → lRate wf zf zc zg (12 * t + 3 * it + j) = o (t * 48 + it * 4 + 0 + oo j) ∧ (lIts wf zf zc (12 * t + 3 * it + j) ≠ 0 → 1 ≤ zg (12 * t + 3 * it + j))) ∧
  (∀ j, j < 3 → BaseA (nI (12 * t + 3 * it + j) - nI 12) zl zr (pvF pr it (oo j) t) (b (t * 48 + it * 4 + 0 + oo j))) ∧
  (∀ j, j < 3 → M (t * 48 + it * 4 + 0 + oo j) = sIn (decide (zn (12 * t + 3 * it + j) = 1)) (o (t * 48 + it * 4 + 0 + oo j)) (b (t * 48 + it * 4 + 0 + oo j))) ∧
  M (t * 48 + it * 4 + 0 + 2) = false ∧
  (∀ j, j < 3 → pr (t * 48 + it * 4 + 0 + oo j) = rPrice M o b (sMean mn M o b (t * 48 + it * 4 + 0)) (t * 48 + it * 4 + 0 + oo j)) ∧
  (∀ j, j < 3 → P0 (o (t * 48 + it * 4 + 0 + oo j)) ∧ P0 (b (t * 48 + it * 4 + 0 + oo j)) ∧ nnIn (decide (zn (12 * t + 3 * it + j) = 1)) (o (t * 48 + it * 4 + 0 + oo j)) (b (t * 48 + it * 4 + 0 + oo j)) ∧ vf_n64 (FP.dmul (b (t * 48 + it * 4 + 0 + oo j)) (sMean mn M o b (t * 48 + it * 4 + 0)))) ∧
  nnMean mn M o b (t * 48 + it * 4 + 0) ∧ nnMean mn M b o (t * 48 + it * 4 + 0) ∧ P0 (sMean mn M o b (t * 48 + it * 4 + 0)) ∧ vf_n64 (FP.dmul (sMean mn M o b (t * 48 + it * 4 + 0)) (sMean mn M b o (t * 48 + it * 4 + 0)))
theorem mN_4 {M : Nat → Bool} {k0 : Nat} (h2 : M (k0 + 2) = false) : mN M k0 4 = bN (M (k0 + 0)) + bN (M (k0 + 1)) + bN (M (k0 + 3)) := by
  have st : ∀ j, mN M k0 (j + 1) = mN M k0 j + bN (M (k0 + j)) := fun j => by
    cases h : M (k0 + j)
    · rw [mN_f h, bN_f rfl]; rfl
    · rw [mN_t h, bN_t rfl]
  rw [st 3, st 2, st 1, st 0, h2]
  show 0 + _ + _ + 0 + _ = _
  omega
theorem mS_1t {M : Nat → Bool} {f : Nat → UInt64} {k0 : Nat} (h : M (k0 + 0) = true) : FP.dadd 0 (f (k0 + 0)) = mS M f k0 1 := (mS_t (j := 0) h).symm
theorem mS_1f {M : Nat → Bool} {f : Nat → UInt64} {k0 : Nat} (h : M (k0 + 0) = false) : 0 = mS M f k0 1 := (mS_f (j := 0) h).symm
theorem mS_2t {M : Nat → Bool} {f : Nat → UInt64} {k0 : Nat} (h : M (k0 + 1) = true) : FP.dadd (mS M f k0 1) (f (k0 + 1)) = mS M f k0 2 := (mS_t (j := 1) h).symm
theorem mS_2f {M : Nat → Bool} {f : Nat → UInt64} {k0 : Nat} (h : M (k0 + 1) = false) : mS M f k0 1 = mS M f k0 2 := (mS_f (j := 1) h).symm
theorem mS_23 {M : Nat → Bool} {f : Nat → UInt64} {k0 : Nat} (h2 : M (k0 + 2) = false) : mS M f k0 3 = mS M f k0 2 := mS_f (j := 2) h2
theorem mS_4t {M : Nat → Bool} {f : Nat → UInt64} {k0 : Nat} (h2 : M (k0 + 2) = false) (h : M (k0 + 3) = true) : FP.dadd (mS M f k0 2) (f (k0 + 3)) = mS M f k0 4 := by rw [← mS_23 h2]; exact (mS_t (j := 3) h).symm
theorem mS_4f {M : Nat → Bool} {f : Nat → UInt64} {k0 : Nat} (h2 : M (k0 + 2) = false) (h : M (k0 + 3) = false) : mS M f k0 2 = mS M f k0 4 := by rw [← mS_23 h2]; exact (mS_f (j := 3) h).symm
theorem fO_0 {o b : Nat → UInt64} : fO 0 o b = qF o b := by
  funext k
  show lOf 0 (o k) (b k) = _
  unfold lOf
  rw [if_pos rfl]; rfl
theorem fO_1 {o b : Nat → UInt64} : fO 1 o b = o := by
  funext k
  show lOf 1 (o k) (b k) = _
  unfold lOf
  rw [if_neg (by decide), if_pos rfl]
theorem fO_2 {mn : Nat} {o b : Nat → UInt64} (h0 : mn ≠ 0) (h1 : mn ≠ 1) : fO mn o b = vF o b := by
  funext k
  show lOf mn (o k) (b k) = _
  unfold lOf
  rw [if_neg h0, if_neg h1]; rfl
theorem sM_0 {mn : Nat} {M : Nat → Bool} {o b : Nat → UInt64} {k0 : Nat} (h : mN M k0 4 = 0) : 0 = sMean mn M o b k0 := by
  unfold sMean sRel
  rw [if_pos h]
theorem sM_1 {mn : Nat} {M : Nat → Bool} {o b : Nat → UInt64} {k0 : Nat} (h : mN M k0 4 ≠ 0) (h0 : mn = 0) : FP.ddiv (mS M (fO mn o b) k0 4) (FP.i2d (nI (mN M k0 4))) = sMean mn M o b k0 := by
  subst h0
  unfold sMean sRel
  rw [if_neg h, if_pos rfl, fO_0]
theorem sM_2 {mn : Nat} {M : Nat → Bool} {o b : Nat → UInt64} {k0 : Nat} (h : mN M k0 4 ≠ 0) (h1 : mn = 1) : FP.ddiv (mS M (fO mn o b) k0 4) (mS M b k0 4) = sMean mn M o b k0 := by
  subst h1
  unfold sMean sRel
  rw [if_neg h, if_neg (by decide), if_pos rfl, fO_1]
theorem sM_3 {mn : Nat} {M : Nat → Bool} {o b : Nat → UInt64} {k0 : Nat} (h : mN M k0 4 ≠ 0) (h0 : mn ≠ 0) (h1 : mn ≠ 1) : FP.ddiv (FP.i2d (nI (mN M k0 4))) (mS M (fO mn o b) k0 4) = sMean mn M o b k0 := by
  unfold sMean sRel
  rw [if_neg h, if_neg h0, if_neg h1, fO_2 h0 h1]
theorem nnR_1 {mn : Nat} {M : Nat → Bool} {o b : Nat → UInt64} {k0 : Nat} (hn : nnMean mn M o b k0) (h : mN M k0 4 ≠ 0) (h0 : mn = 0) : vf_n64 (FP.ddiv (mS M (fO mn o b) k0 4) (FP.i2d (nI (mN M k0 4)))) := by
  subst h0; rw [fO_0]; exact (hn.2 h).1 rfl
theorem nnR_2 {mn : Nat} {M : Nat → Bool} {o b : Nat → UInt64} {k0 : Nat} (hn : nnMean mn M o b k0) (h : mN M k0 4 ≠ 0) (h1 : mn = 1) : vf_n64 (FP.ddiv (mS M (fO mn o b) k0 4) (mS M b k0 4)) := by
  subst h1; rw [fO_1]; exact (hn.2 h).2.1 rfl
theorem nnR_3 {mn : Nat} {M : Nat → Bool} {o b : Nat → UInt64} {k0 : Nat} (hn : nnMean mn M o b k0) (h : mN M k0 4 ≠ 0) (h0 : mn ≠ 0) (h1 : mn ≠ 1) : vf_n64 (FP.ddiv (FP.i2d (nI (mN M k0 4))) (mS M (fO mn o b) k0 4)) := by
  rw [fO_2 h0 h1]; exact (hn.2 h).2.2 h0 h1
theorem nnA {mn : Nat} {M : Nat → Bool} {o b : Nat → UInt64} {k0 : Nat} (hn : nnMean mn M o b k0) {j : Nat} (hj : j < 4) (h : M (k0 + j) = true) : vf_n64 (FP.dadd (mS M (fO mn o b) k0 j) (fO mn o b (k0 + j))) := by
  obtain ⟨a1, a2, a3, a4, a5, a6⟩ := hn.1 j hj h
  by_cases h0 : mn = 0
  · subst h0; rw [fO_0]; exact a4
  · by_cases h1 : mn = 1
    · subst h1; rw [fO_1]; exact a1
    · rw [fO_2 h0 h1]; exact a6
theorem nnB {mn : Nat} {M : Nat → Bool} {o b : Nat → UInt64} {k0 : Nat} (hn : nnMean mn M o b k0) {j : Nat} (hj : j < 4) (h : M (k0 + j) = true) : vf_n64 (FP.dadd (mS M b k0 j) (b (k0 + j))) := (hn.1 j hj h).2.1
theorem nnA3 {mn : Nat} {M : Nat → Bool} {o b : Nat → UInt64} {k0 : Nat} (hn : nnMean mn M o b k0) (h2 : M (k0 + 2) = false) (h : M (k0 + 3) = true) : vf_n64 (FP.dadd (mS M (fO mn o b) k0 2) (fO mn o b (k0 + 3))) := by rw [← mS_23 h2]; exact nnA hn (j := 3) (by decide) h
theorem nnB3 {mn : Nat} {M : Nat → Bool} {o b : Nat → UInt64} {k0 : Nat} (hn : nnMean mn M o b k0) (h2 : M (k0 + 2) = false) (h : M (k0 + 3) = true) : vf_n64 (FP.dadd (mS M b k0 2) (b (k0 + 3))) := by rw [← mS_23 h2]; exact nnB hn (j := 3) (by decide) h
theorem nnQ {mn : Nat} {M : Nat → Bool} {o b : Nat → UInt64} {k0 : Nat} (hn : nnMean mn M o b k0) {j : Nat} (hj : j < 4) (h : M (k0 + j) = true) : vf_n64 (FP.ddiv (o (k0 + j)) (b (k0 + j))) ∧ vf_n64 (FP.ddiv FP.dconst1 (FP.ddiv (o (k0 + j)) (b (k0 + j)))) := ⟨(hn.1 j hj h).2.2.1, (hn.1 j hj h).2.2.2.2.1⟩
theorem sIn_m {r b : UInt64} {cf : Bool} (hr : P0 r) (h : ¬ Dgt r 0) : sIn cf r b = false := sIn_1 (by rw [hr.ngt h]; exact Or.inr dz0)
theorem sIn_n {r b : UInt64} {cf : Bool} (hb : P0 b) (h : ¬ Dgt b 0) : sIn cf r b = false := sIn_2 (by rw [hb.ngt h]; exact Or.inr dz0)
theorem Dgt_nle {x : UInt64} (h : Dgt x 0) : ¬ Dle x 0 := fun z => by
  rcases z with z | z <;> rw [h] at z <;> cases z
/-- the script read at a place, or what stands for it behind its end -/
def cellV (L : Nat) (xs : Nat → Int32) (k : Nat) : Int32 := if k < L then xs k else nI 51367 * (nI k + nI 163) + nI 1911647
set_option maxHeartbeats 4000000 in
set_option maxRecDepth 100000 in
theorem c_L_low (l : Launch) {D : va_G} {y : Nat → Nat} {ws : va_W}  {v : Int32} {n : Nat} (h0 : 0 < n) (hn : n < 2 ^ 31) : gMi l yL_low wsL_low ({ frames := 0, cells := 0, slots := 0, locals := 0 }) D y [.int (v), .int (nI (n))] ws (fun r (_ : Unit) => r = nI (lowN v % n)) (fun (_ : Unit) => ws) := by
  refine g_met_i (cc := cL_low) (maxL := 2) (by decide) rfl (Nat.le_of_ble_eq_true rfl) ?_
  intro p e s m below meth c A hx hb hml hr hts hown hnm hlocks hE hP hD hS hA ls hl
  have hown : s.vm.findClass RL = some m.cls := hown
  have hl : lv_has ls 2 [(0, .int (v)), (1, .int (nI (n)))] := hl
  refine lv_iload_n hx hb dL_low_0 rfl (lv_at hl 0 rfl) ?_
  refine lv_ldc (v := 2147483647) hx hb hown (hts (.constant RL 9 (2147483647)) (by decide +kernel)) dL_low_1 ?_
  rw [show (2147483647 : Int32) = nI 2147483647 from by decide]
  refine g_iand hx hb dL_low_3 (low_and v) ?_
  refine lv_iload_n hx hb dL_low_4 rfl (lv_at hl 1 rfl) ?_
  refine g_irem hx hb dL_low_5 (fun z => by have := (nI_eq hn (show 0 < 2 ^ 31 by decide)).mp (z.trans (show (0 : Int32) = nI 0 from rfl)); omega) (pk_rem (lowN_lt v) h0 hn) ?_
  refine g_iret hx hb hr hlocks () dL_low_6 hS hP hD ?_
  exact rfl

set_option maxHeartbeats 4000000 in
set_option maxRecDepth 100000 in
theorem c_L_outlet (l : Launch) {D : va_G} {y : Nat → Nat} {ws : va_W}  {j : Nat} (hj : j < 3) : gMi l yL_outlet wsL_outlet ({ frames := 0, cells := 0, slots := 0, locals := 0 }) D y [.int (nI (j))] ws (fun r (_ : Unit) => r = nI (oo j)) (fun (_ : Unit) => ws) := by
  refine g_met_i (cc := cL_outlet) (maxL := 1) (by decide) rfl (Nat.le_of_ble_eq_true rfl) ?_
  intro p e s m below meth c A hx hb hml hr hts hown hnm hlocks hE hP hD hS hA ls hl
  have hown : s.vm.findClass RL = some m.cls := hown
  have hl : lv_has ls 1 [(0, .int (nI (j)))] := hl
  refine lv_iload_n hx hb dL_outlet_0 rfl (lv_at hl 0 rfl) ?_
  refine lv_iconst (v := nI 2) hx hb dL_outlet_1 (by decide) ?_
  refine g_icmp_ne (tgt := 9) hx hb (by omega) (by omega) dL_outlet_2 (by decide) (fun c_2 => ?_) (fun c_2 => ?_)
  · refine lv_iload_n hx hb dL_outlet_9 rfl (lv_at hl 0 rfl) ?_
    refine g_iret hx hb hr hlocks () dL_outlet_10 hS hP hD ?_
    rw [oo, if_neg c_2]
  · refine lv_iconst (v := nI 3) hx hb dL_outlet_5 (by decide) ?_
    refine lv_goto (tgt := 10) hx hb dL_outlet_6 (by decide) ?_
    refine g_iret hx hb hr hlocks () dL_outlet_10 hS hP hD ?_
    show nI 3 = nI (oo j)
    rw [oo, if_pos c_2]

set_option maxHeartbeats 4000000 in
set_option maxRecDepth 100000 in
theorem c_L_rate (l : Launch) {D : va_G} {y : Nat → Nat} {ws : va_W} {p_zc p_zg p_zf a_zc a_zg a_zf : Nat} {zc : Nat → Nat} {zg : Nat → Nat} {zf : Nat → Nat} {at1 : Nat} {wf : Bool} (f0_zc : ws[p_zc]? = some (a_zc, eN y 60 zc)) (f0_zg : ws[p_zg]? = some (a_zg, eN y 60 zg)) (f0_zf : ws[p_zf]? = some (a_zf, eN y 60 zf)) (b_zc : ∀ k, zc k ≤ 100000) (b_zg : ∀ k, zg k ≤ 10000) (b_zf : ∀ k, zf k ≤ 100000) (hk : at1 < 60) (hg : lIts wf zf zc at1 ≠ 0 → 1 ≤ zg at1) : gMd l yL_rate wsL_rate ({ frames := 0, cells := 0, slots := 0, locals := 0 }) D y [.int (nI (at1)), .int (gb (wf)), .ref a_zc, .ref a_zg, .ref a_zf] ws (fun r (_ : Unit) => r = lRate wf zf zc zg at1) (fun (_ : Unit) => ws) := by
  refine g_met_d (cc := cL_rate) (maxL := 6) (by decide) rfl (Nat.le_of_ble_eq_true rfl) ?_
  intro p e s m below meth c A hx hb hml hr hts hown hnm hlocks hE hP hD hS hA ls hl
  have hown : s.vm.findClass RL = some m.cls := hown
  have hl : lv_has ls 6 [(0, .int (nI (at1))), (1, .int (gb (wf))), (2, .ref a_zc), (3, .ref a_zg), (4, .ref a_zf)] := hl
  refine lv_iload_n hx hb dL_rate_0 rfl (lv_at hl 1 rfl) ?_
  refine g_bif_eq (tgt := 18) hx hb dL_rate_1 (by decide) (fun c_1 => ?_) (fun c_1 => ?_)
  · refine lv_aload_n hx hb dL_rate_18 rfl (lv_at hl 2 rfl) ?_
    refine lv_iload_n hx hb dL_rate_19 rfl (lv_at hl 0 rfl) ?_
    refine g_nald hx hb hE hP _ f0_zc (by omega) (by decide) dL_rate_20 ?_
    have bd_20_1 := b_zc (at1)
    refine lv_istore (lv' := [(5, .int (nI (zc at1))), (0, .int (nI (at1))), (1, .int (gb (wf))), (2, .ref a_zc), (3, .ref a_zg), (4, .ref a_zf)]) hx hb dL_rate_21 hl (by decide) rfl (fun ls hl => ?_)
    refine lv_iload hx hb dL_rate_23 (lv_at hl 0 rfl) ?_
    refine lv_i2d hx hb dL_rate_25 ?_
    refine lv_iload hx hb dL_rate_26 (lv_at hl 0 rfl) ?_
    refine g_if_ne (tgt := 35) hx hb (by omega) dL_rate_28 (by decide) (fun c_28 => ?_) (fun c_28 => ?_)
    · refine lv_aload_n hx hb dL_rate_35 rfl (lv_at hl 4 rfl) ?_
      refine lv_iload_n hx hb dL_rate_36 rfl (lv_at hl 1 rfl) ?_
      refine g_nald hx hb hE hP _ f0_zg (by omega) (by decide) dL_rate_37 ?_
      have bd_37_2 := b_zg (at1)
      refine lv_i2d hx hb dL_rate_38 ?_
      refine lv_ddiv hx hb dL_rate_39 (fp_rate _ (by have := hg (by rw [lIts, if_neg (fun z => by rw [c_1] at z; exact absurd z.1 (by decide))]; omega); omega) (by have := b_zg at1; omega)) ?_
      refine g_dret hx hb hr hlocks () dL_rate_40 hS hP hD ?_
      have e9 : lIts wf zf zc at1 = zc at1 := if_neg (fun z => by rw [c_1] at z; exact absurd z.1 (by decide))
      unfold lRate
      rw [e9, if_neg (by omega)]
    · refine lv_iconst (v := nI 1) hx hb dL_rate_31 (by decide) ?_
      refine lv_goto (tgt := 38) hx hb dL_rate_32 (by decide) ?_
      refine lv_i2d hx hb dL_rate_38 ?_
      refine lv_ddiv hx hb dL_rate_39 (fp_rate _ (by decide) (by decide)) ?_
      refine g_dret hx hb hr hlocks () dL_rate_40 hS hP hD ?_
      have e9 : lIts wf zf zc at1 = zc at1 := if_neg (fun z => by rw [c_1] at z; exact absurd z.1 (by decide))
      unfold lRate
      rw [e9, if_pos c_28]
  · refine lv_aload hx hb dL_rate_4 (lv_at hl 4 rfl) ?_
    refine lv_iload_n hx hb dL_rate_6 rfl (lv_at hl 0 rfl) ?_
    refine g_nald hx hb hE hP _ f0_zf (by omega) (by decide) dL_rate_7 ?_
    have bd_7_3 := b_zf (at1)
    refine g_if_le (tgt := 18) hx hb (by omega) dL_rate_8 (by decide) (fun c_8 => ?_) (fun c_8 => ?_)
    · refine lv_aload_n hx hb dL_rate_18 rfl (lv_at hl 2 rfl) ?_
      refine lv_iload_n hx hb dL_rate_19 rfl (lv_at hl 0 rfl) ?_
      refine g_nald hx hb hE hP _ f0_zc (by omega) (by decide) dL_rate_20 ?_
      have bd_20_4 := b_zc (at1)
      refine lv_istore (lv' := [(5, .int (nI (zc at1))), (0, .int (nI (at1))), (1, .int (gb (wf))), (2, .ref a_zc), (3, .ref a_zg), (4, .ref a_zf)]) hx hb dL_rate_21 hl (by decide) rfl (fun ls hl => ?_)
      refine lv_iload hx hb dL_rate_23 (lv_at hl 0 rfl) ?_
      refine lv_i2d hx hb dL_rate_25 ?_
      refine lv_iload hx hb dL_rate_26 (lv_at hl 0 rfl) ?_
      refine g_if_ne (tgt := 35) hx hb (by omega) dL_rate_28 (by decide) (fun c_28 => ?_) (fun c_28 => ?_)
      · refine lv_aload_n hx hb dL_rate_35 rfl (lv_at hl 4 rfl) ?_
        refine lv_iload_n hx hb dL_rate_36 rfl (lv_at hl 1 rfl) ?_
        refine g_nald hx hb hE hP _ f0_zg (by omega) (by decide) dL_rate_37 ?_
        have bd_37_5 := b_zg (at1)
        refine lv_i2d hx hb dL_rate_38 ?_
        refine lv_ddiv hx hb dL_rate_39 (fp_rate _ (by have := hg (by rw [lIts, if_neg (fun z => by have := z.2; omega)]; omega); omega) (by have := b_zg at1; omega)) ?_
        refine g_dret hx hb hr hlocks () dL_rate_40 hS hP hD ?_
        have e9 : lIts wf zf zc at1 = zc at1 := if_neg (fun z => by have := z.2; omega)
        unfold lRate
        rw [e9, if_neg (by omega)]
      · refine lv_iconst (v := nI 1) hx hb dL_rate_31 (by decide) ?_
        refine lv_goto (tgt := 38) hx hb dL_rate_32 (by decide) ?_
        refine lv_i2d hx hb dL_rate_38 ?_
        refine lv_ddiv hx hb dL_rate_39 (fp_rate _ (by decide) (by decide)) ?_
        refine g_dret hx hb hr hlocks () dL_rate_40 hS hP hD ?_
        have e9 : lIts wf zf zc at1 = zc at1 := if_neg (fun z => by have := z.2; omega)
        unfold lRate
        rw [e9, if_pos c_28]
    · refine lv_aload hx hb dL_rate_11 (lv_at hl 4 rfl) ?_
      refine lv_iload_n hx hb dL_rate_13 rfl (lv_at hl 0 rfl) ?_
      refine g_nald hx hb hE hP _ f0_zf (by omega) (by decide) dL_rate_14 ?_
      have bd_14_6 := b_zf (at1)
      refine lv_goto (tgt := 21) hx hb dL_rate_15 (by decide) ?_
      refine lv_istore (lv' := [(5, .int (nI (zf at1))), (0, .int (nI (at1))), (1, .int (gb (wf))), (2, .ref a_zc), (3, .ref a_zg), (4, .ref a_zf)]) hx hb dL_rate_21 hl (by decide) rfl (fun ls hl => ?_)
      refine lv_iload hx hb dL_rate_23 (lv_at hl 0 rfl) ?_
      refine lv_i2d hx hb dL_rate_25 ?_
      refine lv_iload hx hb dL_rate_26 (lv_at hl 0 rfl) ?_
      refine g_if_ne (tgt := 35) hx hb (by omega) dL_rate_28 (by decide) (fun c_28 => ?_) (fun c_28 => ?_)
      · refine lv_aload_n hx hb dL_rate_35 rfl (lv_at hl 4 rfl) ?_
        refine lv_iload_n hx hb dL_rate_36 rfl (lv_at hl 1 rfl) ?_
        refine g_nald hx hb hE hP _ f0_zg (by omega) (by decide) dL_rate_37 ?_
        have bd_37_7 := b_zg (at1)
        refine lv_i2d hx hb dL_rate_38 ?_
        refine lv_ddiv hx hb dL_rate_39 (fp_rate _ (by have := hg (by rw [lIts, if_pos ⟨c_1, by omega⟩]; omega); omega) (by have := b_zg at1; omega)) ?_
        refine g_dret hx hb hr hlocks () dL_rate_40 hS hP hD ?_
        have e9 : lIts wf zf zc at1 = zf at1 := if_pos ⟨c_1, by omega⟩
        unfold lRate
        rw [e9, if_neg (by omega)]
      · refine lv_iconst (v := nI 1) hx hb dL_rate_31 (by decide) ?_
        refine lv_goto (tgt := 38) hx hb dL_rate_32 (by decide) ?_
        refine lv_i2d hx hb dL_rate_38 ?_
        refine lv_ddiv hx hb dL_rate_39 (fp_rate _ (by decide) (by decide)) ?_
        refine g_dret hx hb hr hlocks () dL_rate_40 hS hP hD ?_
        have e9 : lIts wf zf zc at1 = zf at1 := if_pos ⟨c_1, by omega⟩
        unfold lRate
        rw [e9, if_pos c_28]

set_option maxHeartbeats 4000000 in
set_option maxRecDepth 100000 in
theorem c_L_base (l : Launch) {D : va_G} {y : Nat → Nat} {ws : va_W} {p_zl p_zr a_zl a_zr : Nat} {zl : Nat → Nat} {zr : Nat → Nat} {av : Int32} {had v9 : UInt64} (f0_zl : ws[p_zl]? = some (a_zl, eN y 60 zl)) (f0_zr : ws[p_zr]? = some (a_zr, eN y 60 zr)) (b_zl : ∀ k, zl k ≤ 100000) (b_zr : ∀ k, zr k ≤ 10000) (ha : BaseA av zl zr had v9) : gMd l yL_base wsL_base ({ frames := 0, cells := 0, slots := 0, locals := 0 }) D y [.int (av), .double had, .ref a_zl, .ref a_zr] ws (fun r (_ : Unit) => r = v9) (fun (_ : Unit) => ws) := by
  refine g_met_d (cc := cL_base) (maxL := 5) (by decide) rfl (Nat.le_of_ble_eq_true rfl) ?_
  intro p e s m below meth c A hx hb hml hr hts hown hnm hlocks hE hP hD hS hA ls hl
  have hown : s.vm.findClass RL = some m.cls := hown
  have hl : lv_has ls 5 [(0, .int (av)), (1, .double had), (3, .ref a_zl), (4, .ref a_zr)] := hl
  refine lv_iload_n hx hb dL_base_0 rfl (lv_at hl 0 rfl) ?_
  skip
  rcases ha with ⟨ha, rfl⟩ | ⟨k9, rfl, hk9, hr9, rfl⟩
  · skip
    refine lv_if_lt (tgt := 23) hx hb dL_base_1 (by decide) (fun c_1 => ?_) (fun c_1 => absurd c_1 (fun z => z ha))
    refine lv_dload_n hx hb dL_base_23 rfl (lv_at hl 1 rfl) ?_
    refine g_dret hx hb hr hlocks () dL_base_24 hS hP hD ?_
    exact rfl
  · skip
    refine g_if_lt (tgt := 23) hx hb (by omega) dL_base_1 (by decide) ?_
    refine lv_aload_n hx hb dL_base_4 rfl (lv_at hl 2 rfl) ?_
    refine lv_iload_n hx hb dL_base_5 rfl (lv_at hl 0 rfl) ?_
    refine g_nald hx hb hE hP _ f0_zl (by omega) (by decide) dL_base_6 ?_
    have bd_6_1 := b_zl (k9)
    refine g_if_le (tgt := 23) hx hb (by omega) dL_base_7 (by decide) (fun c_7 => ?_) (fun c_7 => ?_)
    · refine lv_dload_n hx hb dL_base_23 rfl (lv_at hl 1 rfl) ?_
      refine g_dret hx hb hr hlocks () dL_base_24 hS hP hD ?_
      rw [if_pos (by omega)]
    · refine lv_aload_n hx hb dL_base_10 rfl (lv_at hl 2 rfl) ?_
      refine lv_iload_n hx hb dL_base_11 rfl (lv_at hl 0 rfl) ?_
      refine g_nald hx hb hE hP _ f0_zl (by omega) (by decide) dL_base_12 ?_
      have bd_12_2 := b_zl (k9)
      refine lv_i2d hx hb dL_base_13 ?_
      refine lv_aload hx hb dL_base_14 (lv_at hl 3 rfl) ?_
      refine lv_iload_n hx hb dL_base_16 rfl (lv_at hl 0 rfl) ?_
      refine g_nald hx hb hE hP _ f0_zr (by omega) (by decide) dL_base_17 ?_
      have bd_17_3 := b_zr (k9)
      refine lv_i2d hx hb dL_base_18 ?_
      refine lv_ddiv hx hb dL_base_19 (fp_rate _ (by have := hr9 (by omega); omega) (by have := b_zr k9; omega)) ?_
      refine lv_goto (tgt := 24) hx hb dL_base_20 (by decide) ?_
      refine g_dret hx hb hr hlocks () dL_base_24 hS hP hD ?_
      rw [if_neg (by omega)]

set_option maxHeartbeats 4000000 in
set_option maxRecDepth 100000 in
theorem c_L_matched (l : Launch) {D : va_G} {y : Nat → Nat} {ws : va_W} {p_zn a_zn : Nat} {zn : Nat → Nat} {at1 : Nat} {ra ba : UInt64} (f0_zn : ws[p_zn]? = some (a_zn, eN y 60 zn)) (b_zn : ∀ k, zn k ≤ 1) (hk : at1 < 60) (hra : P0 ra) (hb1 : P0 ba) (hnn : nnIn (decide (zn at1 = 1)) ra ba) : gMi l yL_matched wsL_matched ({ frames := 0, cells := 0, slots := 0, locals := 0 }) D y [.int (nI (at1)), .double ra, .double ba, .ref a_zn] ws (fun r (_ : Unit) => r = gb (sIn (decide (zn at1 = 1)) ra ba)) (fun (_ : Unit) => ws) := by
  refine g_met_z (cc := cL_matched) (maxL := 8) (by decide) rfl (Nat.le_of_ble_eq_true rfl) ?_
  intro p e s m below meth c A hx hb hml hr hts hown hnm hlocks hE hP hD hS hA ls hl
  have hown : s.vm.findClass RL = some m.cls := hown
  have hl : lv_has ls 8 [(0, .int (nI (at1))), (1, .double ra), (3, .double ba), (5, .ref a_zn)] := hl
  refine lv_aload hx hb dL_matched_0 (lv_at hl 3 rfl) ?_
  refine lv_iload_n hx hb dL_matched_2 rfl (lv_at hl 0 rfl) ?_
  refine g_nald hx hb hE hP _ f0_zn (by omega) (by decide) dL_matched_3 ?_
  have bd_3_1 := b_zn (at1)
  refine lv_iconst (v := nI 1) hx hb dL_matched_4 (by decide) ?_
  refine g_icmp_ne (tgt := 14) hx hb (by omega) (by omega) dL_matched_5 (by decide) (fun c_5 => ?_) (fun c_5 => ?_)
  · refine lv_ldc2d (v := 4613937818241073152) hx hb hown (hts (.constantDouble RL 41 (4613937818241073152)) (by decide +kernel)) dL_matched_14 ?_
    refine lv_dstore (lv' := [(6, .double 4613937818241073152), (0, .int (nI (at1))), (1, .double ra), (3, .double ba), (5, .ref a_zn)]) hx hb dL_matched_17 hl (by decide) rfl (fun ls hl => ?_)
    refine lv_dload_n hx hb dL_matched_19 rfl (lv_at hl 2 rfl) ?_
    refine g_dconst0 hx hb dL_matched_20 ?_
    refine g_dcmpl_le (tgt := 55) hx hb dL_matched_21 dL_matched_22 (by decide) (fun c_21 => ?_) (fun c_21 => ?_)
    · refine lv_iconst (v := nI 0) hx hb dL_matched_55 (by decide) ?_
      refine g_zret (r := (gb (false))) hx hb hr hlocks () dL_matched_56 (gb_narrow _) hS hP hD ?_
      rw [sIn_m hra c_21]
    · refine lv_dload_n hx hb dL_matched_25 rfl (lv_at hl 3 rfl) ?_
      refine g_dconst0 hx hb dL_matched_26 ?_
      refine g_dcmpl_le (tgt := 55) hx hb dL_matched_27 dL_matched_28 (by decide) (fun c_27 => ?_) (fun c_27 => ?_)
      · refine lv_iconst (v := nI 0) hx hb dL_matched_55 (by decide) ?_
        refine g_zret (r := (gb (false))) hx hb hr hlocks () dL_matched_56 (gb_narrow _) hS hP hD ?_
        rw [sIn_n hb1 c_27]
      · refine lv_dload_n hx hb dL_matched_31 rfl (lv_at hl 2 rfl) ?_
        refine lv_dload_n hx hb dL_matched_32 rfl (lv_at hl 3 rfl) ?_
        refine lv_ddiv hx hb dL_matched_33 (hnn (Dgt_nle c_21) (Dgt_nle c_27)).1 ?_
        refine lv_dload hx hb dL_matched_34 (lv_at hl 0 rfl) ?_
        refine g_dcmpg_gt (tgt := 55) hx hb dL_matched_36 dL_matched_37 (by decide) (fun c_36 => ?_) (fun c_36 => ?_)
        · refine lv_iconst (v := nI 0) hx hb dL_matched_55 (by decide) ?_
          refine g_zret (r := (gb (false))) hx hb hr hlocks () dL_matched_56 (gb_narrow _) hS hP hD ?_
          have hb9 : sBound (decide (zn at1 = 1)) = 4613937818241073152 := sB_f (decide_eq_false c_5)
          rw [sIn_3 hb9 c_36]
        · refine lv_dload_n hx hb dL_matched_40 rfl (lv_at hl 2 rfl) ?_
          refine lv_dload_n hx hb dL_matched_41 rfl (lv_at hl 3 rfl) ?_
          refine lv_ddiv hx hb dL_matched_42 (hnn (Dgt_nle c_21) (Dgt_nle c_27)).1 ?_
          refine lv_dload hx hb dL_matched_43 (lv_at hl 0 rfl) ?_
          refine lv_dmul hx hb dL_matched_45 (by have h9 := (hnn (Dgt_nle c_21) (Dgt_nle c_27)).2; rw [sB_f (decide_eq_false c_5)] at h9; exact h9) ?_
          refine lv_dconst1 hx hb dL_matched_46 ?_
          refine g_dcmpl_lt (tgt := 55) hx hb dL_matched_47 dL_matched_48 (by decide) (fun c_47 => ?_) (fun c_47 => ?_)
          · refine lv_iconst (v := nI 0) hx hb dL_matched_55 (by decide) ?_
            refine g_zret (r := (gb (false))) hx hb hr hlocks () dL_matched_56 (gb_narrow _) hS hP hD ?_
            have hb9 : sBound (decide (zn at1 = 1)) = 4613937818241073152 := sB_f (decide_eq_false c_5)
            rw [sIn_4 hb9 c_47]
          · refine lv_iconst (v := nI 1) hx hb dL_matched_51 (by decide) ?_
            refine lv_goto (tgt := 56) hx hb dL_matched_52 (by decide) ?_
            refine g_zret (r := (gb (true))) hx hb hr hlocks () dL_matched_56 (gb_narrow _) hS hP hD ?_
            have hb9 : sBound (decide (zn at1 = 1)) = 4613937818241073152 := sB_f (decide_eq_false c_5)
            rw [sIn_t hb9 (Dgt_nle c_21) (Dgt_nle c_27) c_36 c_47]
  · refine lv_ldc2d (v := 4629137466983448576) hx hb hown (hts (.constantDouble RL 39 (4629137466983448576)) (by decide +kernel)) dL_matched_8 ?_
    refine lv_goto (tgt := 17) hx hb dL_matched_11 (by decide) ?_
    refine lv_dstore (lv' := [(6, .double 4629137466983448576), (0, .int (nI (at1))), (1, .double ra), (3, .double ba), (5, .ref a_zn)]) hx hb dL_matched_17 hl (by decide) rfl (fun ls hl => ?_)
    refine lv_dload_n hx hb dL_matched_19 rfl (lv_at hl 2 rfl) ?_
    refine g_dconst0 hx hb dL_matched_20 ?_
    refine g_dcmpl_le (tgt := 55) hx hb dL_matched_21 dL_matched_22 (by decide) (fun c_21 => ?_) (fun c_21 => ?_)
    · refine lv_iconst (v := nI 0) hx hb dL_matched_55 (by decide) ?_
      refine g_zret (r := (gb (false))) hx hb hr hlocks () dL_matched_56 (gb_narrow _) hS hP hD ?_
      rw [sIn_m hra c_21]
    · refine lv_dload_n hx hb dL_matched_25 rfl (lv_at hl 3 rfl) ?_
      refine g_dconst0 hx hb dL_matched_26 ?_
      refine g_dcmpl_le (tgt := 55) hx hb dL_matched_27 dL_matched_28 (by decide) (fun c_27 => ?_) (fun c_27 => ?_)
      · refine lv_iconst (v := nI 0) hx hb dL_matched_55 (by decide) ?_
        refine g_zret (r := (gb (false))) hx hb hr hlocks () dL_matched_56 (gb_narrow _) hS hP hD ?_
        rw [sIn_n hb1 c_27]
      · refine lv_dload_n hx hb dL_matched_31 rfl (lv_at hl 2 rfl) ?_
        refine lv_dload_n hx hb dL_matched_32 rfl (lv_at hl 3 rfl) ?_
        refine lv_ddiv hx hb dL_matched_33 (hnn (Dgt_nle c_21) (Dgt_nle c_27)).1 ?_
        refine lv_dload hx hb dL_matched_34 (lv_at hl 0 rfl) ?_
        refine g_dcmpg_gt (tgt := 55) hx hb dL_matched_36 dL_matched_37 (by decide) (fun c_36 => ?_) (fun c_36 => ?_)
        · refine lv_iconst (v := nI 0) hx hb dL_matched_55 (by decide) ?_
          refine g_zret (r := (gb (false))) hx hb hr hlocks () dL_matched_56 (gb_narrow _) hS hP hD ?_
          have hb9 : sBound (decide (zn at1 = 1)) = 4629137466983448576 := sB_t (decide_eq_true c_5)
          rw [sIn_3 hb9 c_36]
        · refine lv_dload_n hx hb dL_matched_40 rfl (lv_at hl 2 rfl) ?_
          refine lv_dload_n hx hb dL_matched_41 rfl (lv_at hl 3 rfl) ?_
          refine lv_ddiv hx hb dL_matched_42 (hnn (Dgt_nle c_21) (Dgt_nle c_27)).1 ?_
          refine lv_dload hx hb dL_matched_43 (lv_at hl 0 rfl) ?_
          refine lv_dmul hx hb dL_matched_45 (by have h9 := (hnn (Dgt_nle c_21) (Dgt_nle c_27)).2; rw [sB_t (decide_eq_true c_5)] at h9; exact h9) ?_
          refine lv_dconst1 hx hb dL_matched_46 ?_
          refine g_dcmpl_lt (tgt := 55) hx hb dL_matched_47 dL_matched_48 (by decide) (fun c_47 => ?_) (fun c_47 => ?_)
          · refine lv_iconst (v := nI 0) hx hb dL_matched_55 (by decide) ?_
            refine g_zret (r := (gb (false))) hx hb hr hlocks () dL_matched_56 (gb_narrow _) hS hP hD ?_
            have hb9 : sBound (decide (zn at1 = 1)) = 4629137466983448576 := sB_t (decide_eq_true c_5)
            rw [sIn_4 hb9 c_47]
          · refine lv_iconst (v := nI 1) hx hb dL_matched_51 (by decide) ?_
            refine lv_goto (tgt := 56) hx hb dL_matched_52 (by decide) ?_
            refine g_zret (r := (gb (true))) hx hb hr hlocks () dL_matched_56 (gb_narrow _) hS hP hD ?_
            have hb9 : sBound (decide (zn at1 = 1)) = 4629137466983448576 := sB_t (decide_eq_true c_5)
            rw [sIn_t hb9 (Dgt_nle c_21) (Dgt_nle c_27) c_36 c_47]

set_option maxHeartbeats 4000000 in
set_option maxRecDepth 100000 in
theorem c_L_of (l : Launch) {D : va_G} {y : Nat → Nat} {ws : va_W}  {mn : Nat} {ra ba : UInt64} (hm : mn < 2 ^ 31) (h1 : vf_n64 (FP.ddiv ra ba)) (h2 : vf_n64 (FP.ddiv FP.dconst1 (FP.ddiv ra ba))) : gMd l yL_of wsL_of ({ frames := 0, cells := 0, slots := 0, locals := 0 }) D y [.int (nI (mn)), .double ra, .double ba] ws (fun r (_ : Unit) => r = lOf mn ra ba) (fun (_ : Unit) => ws) := by
  refine g_met_d (cc := cL_of) (maxL := 5) (by decide) rfl (Nat.le_of_ble_eq_true rfl) ?_
  intro p e s m below meth c A hx hb hml hr hts hown hnm hlocks hE hP hD hS hA ls hl
  have hown : s.vm.findClass RL = some m.cls := hown
  have hl : lv_has ls 5 [(0, .int (nI (mn))), (1, .double ra), (3, .double ba)] := hl
  refine lv_iload_n hx hb dL_of_0 rfl (lv_at hl 0 rfl) ?_
  refine g_if_ne (tgt := 10) hx hb (by omega) dL_of_1 (by decide) (fun c_1 => ?_) (fun c_1 => ?_)
  · refine lv_iload_n hx hb dL_of_10 rfl (lv_at hl 0 rfl) ?_
    refine lv_iconst (v := nI 1) hx hb dL_of_11 (by decide) ?_
    refine g_icmp_ne (tgt := 19) hx hb (by omega) (by omega) dL_of_12 (by decide) (fun c_12 => ?_) (fun c_12 => ?_)
    · refine lv_dconst1 hx hb dL_of_19 ?_
      refine lv_dload_n hx hb dL_of_20 rfl (lv_at hl 1 rfl) ?_
      refine lv_dload_n hx hb dL_of_21 rfl (lv_at hl 2 rfl) ?_
      refine lv_ddiv hx hb dL_of_22 (by assumption) ?_
      refine lv_ddiv hx hb dL_of_23 (by assumption) ?_
      refine g_dret hx hb hr hlocks () dL_of_24 hS hP hD ?_
      rw [lOf, if_neg (by omega), if_neg c_12]
    · refine lv_dload_n hx hb dL_of_15 rfl (lv_at hl 1 rfl) ?_
      refine lv_goto (tgt := 24) hx hb dL_of_16 (by decide) ?_
      refine g_dret hx hb hr hlocks () dL_of_24 hS hP hD ?_
      rw [lOf, if_neg (by omega), if_pos c_12]
  · refine lv_dload_n hx hb dL_of_4 rfl (lv_at hl 1 rfl) ?_
    refine lv_dload_n hx hb dL_of_5 rfl (lv_at hl 2 rfl) ?_
    refine lv_ddiv hx hb dL_of_6 (by assumption) ?_
    refine lv_goto (tgt := 24) hx hb dL_of_7 (by decide) ?_
    refine g_dret hx hb hr hlocks () dL_of_24 hS hP hD ?_
    rw [lOf, if_pos c_1]
