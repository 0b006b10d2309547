/-! the reference's prices, shares, months: values that are 0.0 or more, rows written in a half of a longer row -/
section GL4
variable {p : Program} {l : Launch} {e : Env} {R : Room} {s : State} {m : MethodId} {args : Array Value} {below : List Frame} {meth : Method} {c : Code} {H : Heap} {locs : List Loc} {cells slots : Nat} {Q : State → Prop} {pc : Nat} {ls : Array Slot} {rest : List Value}
theorem g_dv {v v' : UInt64} (h : v = v') (k : W p l e R s m args below meth c H locs cells slots Q (F0 m pc ls (.double v' :: rest))) : W p l e R s m args below meth c H locs cells slots Q (F0 m pc ls (.double v :: rest)) := h ▸ k
theorem g_iv {v v' : Int32} (h : v = v') (k : W p l e R s m args below meth c H locs cells slots Q (F0 m pc ls (.int v' :: rest))) : W p l e R s m args below meth c H locs cells slots Q (F0 m pc ls (.int v :: rest)) := h ▸ k
theorem g_lv {v v' : Int64} (h : v = v') (k : W p l e R s m args below meth c H locs cells slots Q (F0 m pc ls (.long v' :: rest))) : W p l e R s m args below meth c H locs cells slots Q (F0 m pc ls (.long v :: rest)) := h ▸ k
end GL4
def P0 (x : UInt64) : Prop := x = 0 ∨ Dgt x 0
theorem dz0 : Deq 0 0 := by decide +kernel
theorem P0.le0 {x : UInt64} (h : P0 x) (k : Dle x 0) : x = 0 := by
  rcases h with h | h
  · exact h
  · rcases k with q | q <;> rw [h] at q <;> cases q
theorem P0.de {x : UInt64} (h : P0 x) : Deq x 0 ↔ Dle x 0 := ⟨Or.inr, fun k => by rw [h.le0 k]; exact dz0⟩
theorem P0.ngt {x : UInt64} (h : P0 x) (k : ¬ Dgt x 0) : x = 0 := h.resolve_right k
theorem P0.gt {x : UInt64} (h : P0 x) (k : ¬ Dle x 0) : Dgt x 0 := h.resolve_left (fun z => k (Or.inr (by rw [z]; exact dz0)))
def bF (val : Nat → Bool) (b0 k0 : Nat) (c : Nat → Bool) : Nat → Nat → Bool
  | 0 => c
  | j + 1 => vf_upd (bF val b0 k0 c j) (b0 + (k0 + j)) (val (k0 + j))
theorem bF_in {val : Nat → Bool} {b0 k0 : Nat} {c : Nat → Bool} : ∀ {j m : Nat}, k0 ≤ m → m < k0 + j → bF val b0 k0 c j (b0 + m) = val m
  | 0, _, h1, h2 => absurd h2 (by omega)
  | j + 1, m, h1, h2 => by
    show vf_upd _ _ _ (b0 + m) = _
    unfold vf_upd
    by_cases e : m = k0 + j
    · rw [if_pos (by omega), e]
    · rw [if_neg (by omega)]; exact bF_in h1 (by omega)
theorem bF_out {val : Nat → Bool} {b0 k0 : Nat} {c : Nat → Bool} : ∀ {j m : Nat}, (m < b0 + k0 ∨ b0 + k0 + j ≤ m) → bF val b0 k0 c j m = c m
  | 0, _, _ => rfl
  | j + 1, m, h => by
    show vf_upd _ _ _ m = _
    unfold vf_upd
    rw [if_neg (by omega)]
    exact bF_out (by omega)
def dF (val : Nat → UInt64) (b0 k0 : Nat) (c : Nat → UInt64) : Nat → Nat → UInt64
  | 0 => c
  | j + 1 => vf_upd (dF val b0 k0 c j) (b0 + (k0 + j)) (val (k0 + j))
theorem dF_in {val : Nat → UInt64} {b0 k0 : Nat} {c : Nat → UInt64} : ∀ {j m : Nat}, k0 ≤ m → m < k0 + j → dF val b0 k0 c j (b0 + m) = val m
  | 0, _, h1, h2 => absurd h2 (by omega)
  | j + 1, m, h1, h2 => by
    show vf_upd _ _ _ (b0 + m) = _
    unfold vf_upd
    by_cases e : m = k0 + j
    · rw [if_pos (by omega), e]
    · rw [if_neg (by omega)]; exact dF_in h1 (by omega)
theorem dF_out {val : Nat → UInt64} {b0 k0 : Nat} {c : Nat → UInt64} : ∀ {j m : Nat}, (m < b0 + k0 ∨ b0 + k0 + j ≤ m) → dF val b0 k0 c j m = c m
  | 0, _, _ => rfl
  | j + 1, m, h => by
    show vf_upd _ _ _ m = _
    unfold vf_upd
    rw [if_neg (by omega)]
    exact dF_out (by omega)
theorem dF_prEq {val : Nat → UInt64} {b0 k0 t j : Nat} {pr pr0 : Nat → UInt64} (h : prEq t (fun k => pr (b0 + k)) pr0) (hk : t * 48 ≤ k0) : prEq t (fun k => dF val b0 k0 pr j (b0 + k)) pr0 := fun k hlt => (dF_out (Or.inl (by omega))).trans (h k hlt)
/-- the months' rows: item after item -/
def bO (val : Nat → Bool) (b0 t : Nat) (c : Nat → Bool) : Nat → Nat → Bool
  | 0 => c
  | j + 1 => bF val b0 (48 * t + 4 * j) (bO val b0 t c j) 4
def prO (val : Nat → Nat → UInt64) (b0 t : Nat) (c : Nat → UInt64) : Nat → Nat → UInt64
  | 0 => c
  | j + 1 => dF (val j) b0 (48 * t + 4 * j) (prO val b0 t c j) 4
theorem prO_prEq {val : Nat → Nat → UInt64} {b0 t : Nat} {pr pr0 : Nat → UInt64} (h : prEq t (fun k => pr (b0 + k)) pr0) : ∀ j, prEq t (fun k => prO val b0 t pr j (b0 + k)) pr0
  | 0 => h
  | j + 1 => dF_prEq (prO_prEq h j) (by omega)
def uF (f : Nat → UInt64) (k0 : Nat) (a : Nat → UInt64) : Nat → Nat → UInt64
  | 0 => a
  | j + 1 => vf_upd (uF f k0 a j) (k0 + j) (f j)
theorem uF_in {f : Nat → UInt64} {k0 : Nat} {a : Nat → UInt64} : ∀ {j m : Nat}, m < j → uF f k0 a j (k0 + m) = f m
  | 0, _, h => absurd h (by omega)
  | j + 1, m, h => by
    show vf_upd _ _ _ (k0 + m) = _
    unfold vf_upd
    by_cases e : m = j
    · rw [if_pos (by omega), e]
    · rw [if_neg (by omega)]; exact uF_in (by omega)
theorem uF_out {f : Nat → UInt64} {k0 : Nat} {a : Nat → UInt64} : ∀ {j m : Nat}, (m < k0 ∨ k0 + j ≤ m) → uF f k0 a j m = a m
  | 0, _, _ => rfl
  | j + 1, m, h => by
    show vf_upd _ _ _ m = _
    unfold vf_upd
    rw [if_neg (by omega)]
    exact uF_out (by omega)
theorem rP_1 {M : Nat → Bool} {r b : Nat → UInt64} {its : UInt64} {k : Nat} (h : M k = true) : r k = rPrice M r b its k := (if_pos (Or.inr h)).symm
theorem rP_2 {M : Nat → Bool} {r b : Nat → UInt64} {its : UInt64} {k : Nat} (h : Dle (b k) 0) : r k = rPrice M r b its k := (if_pos (Or.inl h)).symm
theorem rP_n {M : Nat → Bool} {b : Nat → UInt64} {k : Nat} (h : ¬ Dle (b k) 0) (hM : M k = false) : ¬ (Dle (b k) 0 ∨ M k = true) := fun z => z.elim h (fun w => by rw [hM] at w; cases w)
theorem rP_3 {M : Nat → Bool} {r b : Nat → UInt64} {its : UInt64} {k : Nat} (h : ¬ Dle (b k) 0) (hM : M k = false) (g : Dgt its 0) : FP.dmul (b k) its = rPrice M r b its k := by
  unfold rPrice
  rw [if_neg (rP_n h hM), if_pos g]
theorem rP_4 {M : Nat → Bool} {r b : Nat → UInt64} {its : UInt64} {k : Nat} (h : ¬ Dle (b k) 0) (hM : M k = false) (g : ¬ Dgt its 0) : b k = rPrice M r b its k := by
  unfold rPrice
  rw [if_neg (rP_n h hM), if_neg g]
theorem rK_0 {cf : Nat → Bool} {c g lc lg : Nat → Nat} {pr : Nat → UInt64} {k : Nat} (h : k < 48) : rK cf c g lc lg pr k = false := by
  refine sIn_2 (Or.inr ?_)
  unfold sBase
  rw [if_pos h]
  exact dz0
/-- the shares of a month, by what was adopted then -/
def mShr (ad : Nat → Nat) (kd g : Nat) : UInt64 := if kd = 0 then sShA ad g else if kd = 1 then sShM ad g else sShH ad (kd - 2) g
def mCt (kd h : Nat) : Bool := decide (kd < 2 ∨ kd = h + 2)
theorem mCt_1 {kd h : Nat} (k : kd < 2) : mCt kd h = true := decide_eq_true (Or.inl k)
theorem mCt_2 {kd h : Nat} (k : kd = h + 2) : mCt kd h = true := decide_eq_true (Or.inr k)
theorem mCt_3 {kd h : Nat} (k1 : 2 ≤ kd) (k2 : kd ≠ h + 2) : ¬ mCt kd h = true := fun z => (of_decide_eq_true z).elim (fun w => by omega) (fun w => k2 w)
def mAl (ad : Nat → Nat) (kd : Nat) : Nat → Nat
  | 0 => 0
  | j + 1 => mAl ad kd j + (if mCt kd j = true then uS ad (j * 4) 4 else 0)
def mPt (ad : Nat → Nat) (kd g : Nat) : Nat → Nat
  | 0 => 0
  | j + 1 => mPt ad kd g j + (if mCt kd j = true then ad (j * 4 + g) else 0)
theorem mAl_lo {ad : Nat → Nat} {kd : Nat} (h : kd < 2) : ∀ j, mAl ad kd j = wS ad j
  | 0 => rfl
  | j + 1 => by
    show mAl ad kd j + _ = wS ad j + _
    rw [mAl_lo h j, if_pos (mCt_1 h)]
theorem mPt_lo {ad : Nat → Nat} {kd g : Nat} (h : kd < 2) : ∀ j, mPt ad kd g j = vS ad g j
  | 0 => rfl
  | j + 1 => by
    show mPt ad kd g j + _ = vS ad g j + _
    rw [mPt_lo h j, if_pos (mCt_1 h)]
theorem mAl_hi {ad : Nat → Nat} {h : Nat} : ∀ j, mAl ad (h + 2) j = if h < j then uS ad (h * 4) 4 else 0
  | 0 => by rw [if_neg (by omega)]; rfl
  | j + 1 => by
    show mAl ad (h + 2) j + _ = _
    rw [mAl_hi j]
    by_cases e : h = j
    · subst e
      rw [if_neg (Nat.lt_irrefl h), if_pos (mCt_2 rfl), if_pos (Nat.lt_succ_self h), Nat.zero_add]
    · rw [if_neg (mCt_3 (by omega) (by omega)), Nat.add_zero]
      by_cases q : h < j
      · rw [if_pos q, if_pos (Nat.lt_succ_of_lt q)]
      · rw [if_neg q, if_neg (fun z : h < j + 1 => by omega)]
theorem mPt_hi {ad : Nat → Nat} {h g : Nat} : ∀ j, mPt ad (h + 2) g j = if h < j then ad (h * 4 + g) else 0
  | 0 => by rw [if_neg (by omega)]; rfl
  | j + 1 => by
    show mPt ad (h + 2) g j + _ = _
    rw [mPt_hi j]
    by_cases e : h = j
    · subst e
      rw [if_neg (Nat.lt_irrefl h), if_pos (mCt_2 rfl), if_pos (Nat.lt_succ_self h), Nat.zero_add]
    · rw [if_neg (mCt_3 (by omega) (by omega)), Nat.add_zero]
      by_cases q : h < j
      · rw [if_pos q, if_pos (Nat.lt_succ_of_lt q)]
      · rw [if_neg q, if_neg (fun z : h < j + 1 => by omega)]
theorem mAl_le {ad : Nat → Nat} {B : Nat} (h : ∀ k, ad k ≤ B) (kd : Nat) : ∀ j, mAl ad kd j ≤ j * (4 * B)
  | 0 => Nat.zero_le _
  | j + 1 => by
    have h1 := mAl_le h kd j
    have h2 := uS_le h (j * 4) 4
    show mAl ad kd j + _ ≤ _
    rw [Nat.succ_mul]
    split <;> omega
theorem mPt_le {ad : Nat → Nat} {B : Nat} (h : ∀ k, ad k ≤ B) (kd g : Nat) : ∀ j, mPt ad kd g j ≤ j * B
  | 0 => Nat.zero_le _
  | j + 1 => by
    have h1 := mPt_le h kd g j
    have h2 := h (j * 4 + g)
    show mPt ad kd g j + _ ≤ _
    rw [Nat.succ_mul]
    split <;> omega
theorem mhN_z {ad : Nat → Nat} : ∀ {j : Nat}, mhN ad j = 0 → ∀ h, h < j → uS ad (h * 4) 4 = 0
  | 0, _, h, hh => absurd hh (by omega)
  | j + 1, z, h, hh => by
    unfold mhN at z
    split at z
    · omega
    · rename_i q
      by_cases e : h = j
      · subst e; omega
      · exact mhN_z z h (by omega)
theorem mhN_zw {ad : Nat → Nat} : ∀ {j : Nat}, mhN ad j = 0 ↔ wS ad j = 0
  | 0 => ⟨fun _ => rfl, fun _ => rfl⟩
  | j + 1 => by
    unfold mhN wS
    have ih := mhN_zw (ad := ad) (j := j)
    split
    · rename_i q; constructor <;> intro z <;> omega
    · rename_i q; rw [ih]; omega
theorem i2d_lN {n : Nat} (h : n < 2 ^ 31) : FP.l2d (lN n) = FP.i2d (nI n) := ((FP.Core.i2d_l2d (nI n)).trans (congrArg FP.Core.l2d (nI_l h))).symm
/-- the share out of the reference's sums -/
theorem mShr_z {ad : Nat → Nat} {kd g : Nat} (hkd : kd < 5) (h : mAl ad kd 3 = 0) : mShr ad kd g = 4598175219545276416 := by
  unfold mShr
  by_cases h0 : kd = 0
  · rw [if_pos h0, sShA, if_neg (by rw [mAl_lo (by omega)] at h; omega)]
  · rw [if_neg h0]
    by_cases h1 : kd = 1
    · rw [if_pos h1, sShM, if_neg (by rw [mAl_lo (by omega)] at h; have := (mhN_zw (ad := ad) (j := 3)).mpr h; omega)]
    · rw [if_neg h1]
      obtain ⟨hh, rfl⟩ : ∃ hh, kd = hh + 2 := ⟨kd - 2, by omega⟩
      rw [mAl_hi, if_pos (by omega)] at h
      rw [Nat.add_sub_cancel, sShH, if_neg (by omega)]
theorem mShr_1 {ad : Nat → Nat} {kd g : Nat} (h1 : kd = 1) (h : mAl ad kd 3 ≠ 0) : mShr ad kd g = FP.ddiv (mhS ad g 3) (FP.i2d (nI (mhN ad 3))) := by
  subst h1
  unfold mShr
  rw [if_neg (by decide), if_pos rfl, sShM, if_pos]
  rw [mAl_lo (by omega)] at h
  have : mhN ad 3 ≠ 0 := fun z => h ((mhN_zw (ad := ad) (j := 3)).mp z)
  omega
theorem mShr_d {ad : Nat → Nat} {kd g : Nat} (hkd : kd < 5) (hb : ∀ k, ad k ≤ 1000000000) (h1 : kd ≠ 1) (h : mAl ad kd 3 ≠ 0) : mShr ad kd g = FP.ddiv (FP.l2d (lN (mPt ad kd g 3))) (FP.l2d (lN (mAl ad kd 3))) := by
  unfold mShr
  by_cases h0 : kd = 0
  · rw [mAl_lo (by omega)] at h ⊢
    rw [if_pos h0, sShA, if_pos (by omega), mPt_lo (by omega)]
  · rw [if_neg h0, if_neg h1]
    obtain ⟨hh, rfl⟩ : ∃ hh, kd = hh + 2 := ⟨kd - 2, by omega⟩
    rw [mAl_hi, if_pos (by omega)] at h ⊢
    rw [mPt_hi, if_pos (by omega), Nat.add_sub_cancel, sShH, if_pos (by omega), i2d_lN (n := ad (hh * 4 + g)) (by have := hb (hh * 4 + g); omega)]
theorem g_apE {w w' : va_W} {p : Nat} {x z : Nat × va_E} (e : w' = w ++ [z]) (h : w[p]? = some x) : w'[p]? = some x := by rw [e]; exact g_ap h
theorem gIt.appE {ws w' : va_W} {n cap : Nat} {q : Nat → Option Nat} {ad G M Sn : Nat → Nat} {z : Nat × va_E} (e : w' = ws ++ [z]) (h : gIt ws n cap q ad G M Sn) : gIt w' n cap q ad G M Sn := by rw [e]; exact h.app
theorem gCt.appE {ws w' : va_W} {n cap : Nat} {q : Nat → Option Nat} {ad pk fw lag trig : Nat → Nat} {fl : Nat → Bool} {fm : Nat → Nat} {cs : Nat → Nat × Nat × Nat × Nat} {z : Nat × va_E} (e : w' = ws ++ [z]) (h : gCt ws n cap q ad pk fw lag trig fl fm cs) : gCt w' n cap q ad pk fw lag trig fl fm cs := by rw [e]; exact h.app
