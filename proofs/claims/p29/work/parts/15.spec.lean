/-! what is reckoned, as functions: both the class and the reference are held against these -/
def sRel (mean n : Nat) (a b q v : UInt64) : UInt64 := if n = 0 then 0 else if mean = 0 then FP.ddiv q (FP.i2d (nI n)) else if mean = 1 then FP.ddiv a b else FP.ddiv (FP.i2d (nI n)) v
def sRate (c g : Nat → Nat) (k : Nat) : UInt64 := if g k = 0 then 0 else FP.ddiv (FP.i2d (nI (c k))) (FP.i2d (nI (g k)))
def sCw (wf : Bool) (cc cents : Nat → Nat) : Nat → Nat := if wf = true then cc else cents
def sBase (lc lg : Nat → Nat) (pr : Nat → UInt64) (k : Nat) : UInt64 := if k < 48 then 0 else if lc (k - 48) = 0 then pr (k - 48) else sRate lc lg (k - 48)
def sBound (cf : Bool) : UInt64 := if cf = true then 4629137466983448576 else 4613937818241073152
theorem sB_t {b : Bool} (h : b = true) : sBound b = 4629137466983448576 := by rw [h]; rfl
theorem sB_f {b : Bool} (h : b = false) : sBound b = 4613937818241073152 := by rw [h]; rfl
def sIn (cf : Bool) (r b : UInt64) : Bool := decide (¬ Dle r 0 ∧ ¬ Dle b 0 ∧ Dle (FP.ddiv r b) (sBound cf) ∧ Dge (FP.dmul (FP.ddiv r b) (sBound cf)) FP.dconst1)
theorem sIn_1 {cf : Bool} {r b : UInt64} (h : Dle r 0) : sIn cf r b = false := decide_eq_false (fun z => z.1 h)
theorem sIn_2 {cf : Bool} {r b : UInt64} (h : Dle b 0) : sIn cf r b = false := decide_eq_false (fun z => z.2.1 h)
theorem sIn_3 {cf : Bool} {r b v : UInt64} (hv : sBound cf = v) (h : ¬ Dle (FP.ddiv r b) v) : sIn cf r b = false := decide_eq_false (fun z => h (hv ▸ z.2.2.1))
theorem sIn_4 {cf : Bool} {r b v : UInt64} (hv : sBound cf = v) (h : ¬ Dge (FP.dmul (FP.ddiv r b) v) FP.dconst1) : sIn cf r b = false := decide_eq_false (fun z => h (hv ▸ z.2.2.2))
theorem sIn_t {cf : Bool} {r b v : UInt64} (hv : sBound cf = v) (h1 : ¬ Dle r 0) (h2 : ¬ Dle b 0) (h3 : Dle (FP.ddiv r b) v) (h4 : Dge (FP.dmul (FP.ddiv r b) v) FP.dconst1) : sIn cf r b = true := by
  subst hv
  exact decide_eq_true ⟨h1, h2, h3, h4⟩
def rK (cf : Nat → Bool) (c g lc lg : Nat → Nat) (pr : Nat → UInt64) (k : Nat) : Bool := sIn (cf k) (sRate c g k) (sBase lc lg pr k)
def mN (M : Nat → Bool) (k0 : Nat) : Nat → Nat
  | 0 => 0
  | j + 1 => if M (k0 + j) = true then mN M k0 j + 1 else mN M k0 j
def mS (M : Nat → Bool) (f : Nat → UInt64) (k0 : Nat) : Nat → UInt64
  | 0 => 0
  | j + 1 => if M (k0 + j) = true then FP.dadd (mS M f k0 j) (f (k0 + j)) else mS M f k0 j
theorem mN_t {M : Nat → Bool} {k0 j : Nat} (h : M (k0 + j) = true) : mN M k0 (j + 1) = mN M k0 j + 1 := if_pos h
theorem mN_f {M : Nat → Bool} {k0 j : Nat} (h : M (k0 + j) = false) : mN M k0 (j + 1) = mN M k0 j := if_neg (by rw [h]; decide)
theorem mS_t {M : Nat → Bool} {f : Nat → UInt64} {k0 j : Nat} (h : M (k0 + j) = true) : mS M f k0 (j + 1) = FP.dadd (mS M f k0 j) (f (k0 + j)) := if_pos h
theorem mS_f {M : Nat → Bool} {f : Nat → UInt64} {k0 j : Nat} (h : M (k0 + j) = false) : mS M f k0 (j + 1) = mS M f k0 j := if_neg (by rw [h]; decide)
theorem mN_le (M : Nat → Bool) (k0 : Nat) : ∀ j, mN M k0 j ≤ j
  | 0 => Nat.le_refl 0
  | j + 1 => by
    have h := mN_le M k0 j
    show (if M (k0 + j) = true then mN M k0 j + 1 else mN M k0 j) ≤ j + 1
    split <;> omega
def qF (o t : Nat → UInt64) (k : Nat) : UInt64 := FP.ddiv (o k) (t k)
def vF (o t : Nat → UInt64) (k : Nat) : UInt64 := FP.ddiv FP.dconst1 (FP.ddiv (o k) (t k))
def sMean (mean : Nat) (M : Nat → Bool) (o t : Nat → UInt64) (k0 : Nat) : UInt64 := sRel mean (mN M k0 4) (mS M o k0 4) (mS M t k0 4) (mS M (qF o t) k0 4) (mS M (vF o t) k0 4)
/-- the quotient, and the quotient times the bound, are numbers -/
def nnIn (cf : Bool) (r b : UInt64) : Prop := ¬ Dle r 0 → ¬ Dle b 0 → vf_n64 (FP.ddiv r b) ∧ vf_n64 (FP.dmul (FP.ddiv r b) (sBound cf))
/-- the sums that a mean is made of, by one outlet more -/
def nnAdd (a b q v r s : UInt64) : Prop := vf_n64 (FP.dadd a r) ∧ vf_n64 (FP.dadd b s) ∧ vf_n64 (FP.ddiv r s) ∧ vf_n64 (FP.dadd q (FP.ddiv r s)) ∧ vf_n64 (FP.ddiv FP.dconst1 (FP.ddiv r s)) ∧ vf_n64 (FP.dadd v (FP.ddiv FP.dconst1 (FP.ddiv r s)))
def nnRel (mean n : Nat) (a b q v : UInt64) : Prop := n ≠ 0 → (mean = 0 → vf_n64 (FP.ddiv q (FP.i2d (nI n)))) ∧ (mean = 1 → vf_n64 (FP.ddiv a b)) ∧ (mean ≠ 0 → mean ≠ 1 → vf_n64 (FP.ddiv (FP.i2d (nI n)) v))
def nnMean (mean : Nat) (M : Nat → Bool) (o t : Nat → UInt64) (k0 : Nat) : Prop := (∀ j, j < 4 → M (k0 + j) = true → nnAdd (mS M o k0 j) (mS M t k0 j) (mS M (qF o t) k0 j) (mS M (vF o t) k0 j) (o (k0 + j)) (t (k0 + j))) ∧ nnRel mean (mN M k0 4) (mS M o k0 4) (mS M t k0 4) (mS M (qF o t) k0 4) (mS M (vF o t) k0 4)
/-- the items of the list: their array, their objects -/
def gIt (ws : va_W) (n cap : Nat) (q : Nat → Option Nat) (ad G M Sn : Nat → Nat) : Prop := n ≤ cap ∧ cap < 2 ^ 31 ∧ (∀ i, i < n → q i = some (ad i)) ∧ ∀ i, i < n → ∃ p : Nat, ws[p]? = some (ad i, Sum.inr (2, [.int (nI (G i)), .int (nI (M i)), .int (nI (Sn i))]))
def rPrice (M : Nat → Bool) (r b : Nat → UInt64) (its : UInt64) (k : Nat) : UInt64 := if Dle (b k) 0 ∨ M k = true then r k else if Dgt its 0 then FP.dmul (b k) its else b k
/-- a row of four prices put, one after the other -/
def pF (val : Nat → UInt64) (k0 : Nat) (pr : Nat → UInt64) : Nat → Nat → UInt64
  | 0 => pr
  | j + 1 => vf_upd (pF val k0 pr j) (k0 + j) (val (k0 + j))
theorem pF_lo {val : Nat → UInt64} {k0 : Nat} {pr : Nat → UInt64} : ∀ {j m : Nat}, (m < k0 ∨ k0 + j ≤ m) → pF val k0 pr j m = pr m
  | 0, _, _ => rfl
  | j + 1, m, h => by
    show vf_upd _ _ _ m = _
    unfold vf_upd
    rw [if_neg (by omega)]
    exact pF_lo (by omega)
theorem pF_in {val : Nat → UInt64} {k0 : Nat} {pr : Nat → UInt64} : ∀ {j m : Nat}, k0 ≤ m → m < k0 + j → pF val k0 pr j m = val m
  | 0, _, h1, h2 => absurd h2 (by omega)
  | j + 1, m, h1, h2 => by
    show vf_upd _ _ _ m = _
    unfold vf_upd
    split
    · rename_i e; rw [e]
    · exact pF_in h1 (by omega)
/-- prices that agree below a month -/
def prEq (t : Nat) (pr pr0 : Nat → UInt64) : Prop := ∀ k, k < t * 48 → pr k = pr0 k
theorem sBase_eq {t k : Nat} {lc lg : Nat → Nat} {pr pr0 : Nat → UInt64} (h : prEq t pr pr0) (hk : k < t * 48 + 48) : sBase lc lg pr k = sBase lc lg pr0 k := by
  unfold sBase
  split
  · rfl
  · rw [h (k - 48) (by omega)]
theorem rK_eq {t k : Nat} {cf : Nat → Bool} {c g lc lg : Nat → Nat} {pr pr0 : Nat → UInt64} (h : prEq t pr pr0) (hk : k < t * 48 + 48) : rK cf c g lc lg pr k = rK cf c g lc lg pr0 k := by
  unfold rK
  rw [sBase_eq h hk]
theorem mN_eq {M M' : Nat → Bool} {k0 : Nat} : ∀ {j : Nat}, (∀ i, i < j → M (k0 + i) = M' (k0 + i)) → mN M k0 j = mN M' k0 j
  | 0, _ => rfl
  | j + 1, h => by
    show (if _ then _ else _) = (if _ then _ else _)
    rw [h j (by omega), mN_eq (fun i hi => h i (by omega))]
theorem mS_eq {M M' : Nat → Bool} {f f' : Nat → UInt64} {k0 : Nat} : ∀ {j : Nat}, (∀ i, i < j → M (k0 + i) = M' (k0 + i)) → (∀ i, i < j → f (k0 + i) = f' (k0 + i)) → mS M f k0 j = mS M' f' k0 j
  | 0, _, _ => rfl
  | j + 1, h, h2 => by
    show (if _ then _ else _) = (if _ then _ else _)
    rw [h j (by omega), h2 j (by omega), mS_eq (fun i hi => h i (by omega)) (fun i hi => h2 i (by omega))]
theorem sMean_eq {mean : Nat} {M M' : Nat → Bool} {o o' t t' : Nat → UInt64} {k0 : Nat} (h : ∀ i, i < 4 → M (k0 + i) = M' (k0 + i)) (ho : ∀ i, i < 4 → o (k0 + i) = o' (k0 + i)) (ht : ∀ i, i < 4 → t (k0 + i) = t' (k0 + i)) : sMean mean M o t k0 = sMean mean M' o' t' k0 := by
  unfold sMean
  rw [mN_eq h, mS_eq h ho, mS_eq h ht, mS_eq h (f := qF o t) (f' := qF o' t') (fun i hi => by unfold qF; rw [ho i hi, ht i hi]), mS_eq h (f := vF o t) (f' := vF o' t') (fun i hi => by unfold vF; rw [ho i hi, ht i hi])]
theorem nnMean_eq {mean : Nat} {M M' : Nat → Bool} {o o' t t' : Nat → UInt64} {k0 : Nat} (h : ∀ i, i < 4 → M (k0 + i) = M' (k0 + i)) (ho : ∀ i, i < 4 → o (k0 + i) = o' (k0 + i)) (ht : ∀ i, i < 4 → t (k0 + i) = t' (k0 + i)) (k : nnMean mean M o t k0) : nnMean mean M' o' t' k0 := by
  have q1 : ∀ i, i < 4 → qF o t (k0 + i) = qF o' t' (k0 + i) := fun i hi => by unfold qF; rw [ho i hi, ht i hi]
  have v1 : ∀ i, i < 4 → vF o t (k0 + i) = vF o' t' (k0 + i) := fun i hi => by unfold vF; rw [ho i hi, ht i hi]
  refine ⟨fun j hj hM => ?_, ?_⟩
  · have k2 := k.1 j hj ((h j hj).trans hM)
    rw [mS_eq (fun i hi => h i (by omega)) (fun i hi => ho i (by omega)), mS_eq (fun i hi => h i (by omega)) (fun i hi => ht i (by omega)), mS_eq (fun i hi => h i (by omega)) (fun i hi => q1 i (by omega)), mS_eq (fun i hi => h i (by omega)) (fun i hi => v1 i (by omega)), ho j hj, ht j hj] at k2
    exact k2
  · have k2 := k.2
    rw [mN_eq h, mS_eq h ho, mS_eq h ht, mS_eq h q1, mS_eq h v1] at k2
    exact k2
/-- the relative of an item in a month, and the price of a slot, out of the prices before -/
def sRelI (cf : Nat → Bool) (c g lc lg : Nat → Nat) (pr : Nat → UInt64) (mean t i : Nat) : UInt64 := sMean mean (rK cf c g lc lg pr) (sRate c g) (sBase lc lg pr) (t * 48 + i * 4 + 0)
/-- nothing is drawn when an item's month is reckoned -/
def nnItem (cf : Nat → Bool) (c g lc lg : Nat → Nat) (pr : Nat → UInt64) (mean t i : Nat) : Prop := (∀ j, j < 4 → nnIn (cf (t * 48 + i * 4 + 0 + j)) (sRate c g (t * 48 + i * 4 + 0 + j)) (sBase lc lg pr (t * 48 + i * 4 + 0 + j))) ∧ nnMean mean (rK cf c g lc lg pr) (sRate c g) (sBase lc lg pr) (t * 48 + i * 4 + 0) ∧ ∀ j, j < 4 → vf_n64 (FP.dmul (sBase lc lg pr (t * 48 + i * 4 + 0 + j)) (sRelI cf c g lc lg pr mean t i))
theorem sRelI_eq {cf : Nat → Bool} {c g lc lg : Nat → Nat} {pr pr0 : Nat → UInt64} {mean t i : Nat} (h : prEq t pr pr0) (hi : i < 12) : sRelI cf c g lc lg pr mean t i = sRelI cf c g lc lg pr0 mean t i :=
  sMean_eq (fun j hj => rK_eq h (by omega)) (fun _ _ => rfl) (fun j hj => sBase_eq h (by omega))
theorem nnItem_eq {cf : Nat → Bool} {c g lc lg : Nat → Nat} {pr pr0 : Nat → UInt64} {mean t i : Nat} (h : prEq t pr pr0) (hi : i < 12) (k : nnItem cf c g lc lg pr0 mean t i) : nnItem cf c g lc lg pr mean t i := by
  have h2 : prEq t pr0 pr := fun q hq => (h q hq).symm
  refine ⟨fun j hj => ?_, nnMean_eq (fun j hj => rK_eq h2 (by omega)) (fun _ _ => rfl) (fun j hj => sBase_eq h2 (by omega)) k.2.1, fun j hj => ?_⟩
  · rw [sBase_eq h (by omega)]; exact k.1 j hj
  · rw [sBase_eq h (by omega), sRelI_eq h hi]; exact k.2.2 j hj
theorem rPrice_eq {t k : Nat} {cf : Nat → Bool} {c g lc lg : Nat → Nat} {pr pr0 r : Nat → UInt64} {its : UInt64} (h : prEq t pr pr0) (hk : k < t * 48 + 48) : rPrice (rK cf c g lc lg pr) r (sBase lc lg pr) its k = rPrice (rK cf c g lc lg pr0) r (sBase lc lg pr0) its k := by
  unfold rPrice
  rw [rK_eq h hk, sBase_eq h hk]
theorem pF_prEq {val : Nat → UInt64} {t k0 j : Nat} {pr pr0 : Nat → UInt64} (h : prEq t pr pr0) (hk : t * 48 ≤ k0) : prEq t (pF val k0 pr j) pr0 := fun k hlt => (pF_lo (Or.inl (by omega))).trans (h k hlt)
def gM (G : Nat → Nat) (rel : Nat → UInt64) (g t k : Nat) : Bool := decide (G (k - t * 12) = g ∧ Dgt (rel k) 0)
theorem gM_t {G : Nat → Nat} {rel : Nat → UInt64} {g t j : Nat} (h : G j = g) (h2 : Dgt (rel (t * 12 + j)) 0) : gM G rel g t (t * 12 + j) = true := decide_eq_true ⟨by rw [Nat.add_sub_cancel_left]; exact h, h2⟩
theorem gM_f {G : Nat → Nat} {rel : Nat → UInt64} {g t j : Nat} (h : G j ≠ g ∨ ¬ Dgt (rel (t * 12 + j)) 0) : gM G rel g t (t * 12 + j) = false := decide_eq_false (fun z => h.elim (fun w => w (by have := z.1; rw [Nat.add_sub_cancel_left] at this; exact this)) (fun w => w z.2))
def sGrp (G : Nat → Nat) (rel : Nat → UInt64) (n g t : Nat) : UInt64 := if mN (gM G rel g t) (t * 12) n = 0 then FP.dconst1 else FP.ddiv (mS (gM G rel g t) rel (t * 12) n) (FP.i2d (nI (mN (gM G rel g t) (t * 12) n)))
def nnGrp (G : Nat → Nat) (rel : Nat → UInt64) (n g t : Nat) : Prop := (∀ j, j < n → gM G rel g t (t * 12 + j) = true → vf_n64 (FP.dadd (mS (gM G rel g t) rel (t * 12) j) (rel (t * 12 + j)))) ∧ (mN (gM G rel g t) (t * 12) n ≠ 0 → vf_n64 (FP.ddiv (mS (gM G rel g t) rel (t * 12) n) (FP.i2d (nI (mN (gM G rel g t) (t * 12) n)))))
def sStep (shr grp : Nat → UInt64) (kd t : Nat) : Nat → UInt64
  | 0 => 0
  | j + 1 => FP.dadd (sStep shr grp kd t j) (FP.dmul (shr ((t * 5 + kd) * 4 + j)) (grp (t * 4 + j)))
def nnStep (shr grp : Nat → UInt64) (kd t : Nat) : Prop := ∀ j, j < 4 → vf_n64 (FP.dmul (shr ((t * 5 + kd) * 4 + j)) (grp (t * 4 + j))) ∧ vf_n64 (FP.dadd (sStep shr grp kd t j) (FP.dmul (shr ((t * 5 + kd) * 4 + j)) (grp (t * 4 + j))))
/-- a month of a series: its relatives, prices, groups, indices, put one after the other -/
def sIts (cf : Nat → Bool) (c g lc lg : Nat → Nat) (pr : Nat → UInt64) (M : Nat → Nat) (t i : Nat) : UInt64 := sRelI cf c g lc lg pr (M i) t i
def sVal (cf : Nat → Bool) (c g lc lg : Nat → Nat) (pr : Nat → UInt64) (M : Nat → Nat) (t i : Nat) : Nat → UInt64 := rPrice (rK cf c g lc lg pr) (sRate c g) (sBase lc lg pr) (sRelI cf c g lc lg pr (M i) t i)
def relF (its : Nat → UInt64) (t : Nat) (rel : Nat → UInt64) : Nat → Nat → UInt64
  | 0 => rel
  | j + 1 => vf_upd (relF its t rel j) (t * 12 + j) (its j)
def prF (val : Nat → Nat → UInt64) (t : Nat) (pr : Nat → UInt64) : Nat → Nat → UInt64
  | 0 => pr
  | j + 1 => pF (val j) (t * 48 + j * 4 + 0) (prF val t pr j) 4
def grpF (G : Nat → Nat) (rel : Nat → UInt64) (n t : Nat) (grp : Nat → UInt64) : Nat → Nat → UInt64
  | 0 => grp
  | j + 1 => vf_upd (grpF G rel n t grp j) (t * 4 + j) (sGrp G rel n j t)
def ixV (shr grp idx : Nat → UInt64) (t k : Nat) : UInt64 := if t = 0 then 4636737291354636288 else FP.dmul (idx ((t - 1) * 5 + k)) (sStep shr grp k t 4)
def idxF (shr grp idx : Nat → UInt64) (t : Nat) : Nat → Nat → UInt64
  | 0 => idx
  | j + 1 => vf_upd (idxF shr grp idx t j) (t * 5 + j) (ixV shr grp idx t j)
theorem idxF_lo {shr grp idx : Nat → UInt64} {t : Nat} : ∀ {j m : Nat}, m < t * 5 → idxF shr grp idx t j m = idx m
  | 0, _, _ => rfl
  | j + 1, m, h => by
    show vf_upd _ _ _ m = _
    unfold vf_upd
    rw [if_neg (by omega)]
    exact idxF_lo h
theorem prF_prEq {val : Nat → Nat → UInt64} {t : Nat} {pr pr0 : Nat → UInt64} (h : prEq t pr pr0) : ∀ j, prEq t (prF val t pr j) pr0
  | 0 => h
  | j + 1 => pF_prEq (prF_prEq h j) (by omega)
/-- nothing is drawn when a month is reckoned -/
def nnMonth (cf : Nat → Bool) (c g lc lg : Nat → Nat) (pr0 : Nat → UInt64) (G M : Nat → Nat) (n t : Nat) (rel1 shr grp1 idx : Nat → UInt64) : Prop := (∀ i, i < n → nnItem cf c g lc lg pr0 (M i) t i) ∧ (∀ g, g < 4 → nnGrp G rel1 n g t) ∧ ∀ k, k < 5 → t ≠ 0 → nnStep shr grp1 k t ∧ vf_n64 (FP.dmul (idx ((t - 1) * 5 + k)) (sStep shr grp1 k t 4))
theorem gIt.set {ws : va_W} {n cap : Nat} {q : Nat → Option Nat} {ad G M Sn : Nat → Nat} {p : Nat} {x z : Nat × va_E} (h : gIt ws n cap q ad G M Sn) (h1 : ws[p]? = some z) (hk : gkd z.2 ≠ 12) : gIt (ws.set p x) n cap q ad G M Sn := by
  refine ⟨h.1, h.2.1, h.2.2.1, fun i hi => ?_⟩
  obtain ⟨p', h'⟩ := h.2.2.2 i hi
  refine ⟨p', g_ne (fun e => hk ?_) h'⟩
  rw [← e, h1] at h'
  rw [Option.some.inj h']
  rfl
/-- all months of a series redone -/
def reS (cf : Nat → Bool) (c g lc lg : Nat → Nat) (pr0 : Nat → UInt64) (M G : Nat → Nat) (n : Nat) (shr r p gr x : Nat → UInt64) : Nat → (Nat → UInt64) × (Nat → UInt64) × (Nat → UInt64) × (Nat → UInt64)
  | 0 => (r, p, gr, x)
  | m + 1 =>
    let s := reS cf c g lc lg pr0 M G n shr r p gr x m
    (relF (sIts cf c g lc lg pr0 M m) m s.1 n, prF (sVal cf c g lc lg pr0 M m) m s.2.1 n, grpF G (relF (sIts cf c g lc lg pr0 M m) m s.1 n) n m s.2.2.1 4, idxF shr (grpF G (relF (sIts cf c g lc lg pr0 M m) m s.1 n) n m s.2.2.1 4) s.2.2.2 m 5)
def nnRedo (cf : Nat → Bool) (c g lc lg : Nat → Nat) (pr0 : Nat → UInt64) (M G : Nat → Nat) (n : Nat) (shr r p gr x : Nat → UInt64) (m : Nat) : Prop := prEq m (reS cf c g lc lg pr0 M G n shr r p gr x m).2.1 pr0 ∧ nnMonth cf c g lc lg pr0 G M n m (reS cf c g lc lg pr0 M G n shr r p gr x (m + 1)).1 shr (reS cf c g lc lg pr0 M G n shr r p gr x (m + 1)).2.2.1 (reS cf c g lc lg pr0 M G n shr r p gr x m).2.2.2
/-- the core of a month -/
def gtF (gr : Nat → UInt64) (t : Nat) : Nat → Nat
  | 0 => 0
  | j + 1 => if Dgt (gr (t * 4 + (1 + j))) (gr (t * 4 + gtF gr t j)) then 1 + j else gtF gr t j
theorem gtF_le (gr : Nat → UInt64) (t : Nat) : ∀ j, gtF gr t j ≤ j
  | 0 => Nat.le_refl 0
  | j + 1 => by
    have h := gtF_le gr t j
    unfold gtF
    split <;> omega
def lsF (gr : Nat → UInt64) (t gt l0 : Nat) : Nat → Nat
  | 0 => l0
  | j + 1 => if l0 + 1 + j ≠ gt ∧ Dlt (gr (t * 4 + (l0 + 1 + j))) (gr (t * 4 + lsF gr t gt l0 j)) then l0 + 1 + j else lsF gr t gt l0 j
theorem lsF_le (gr : Nat → UInt64) (t gt l0 : Nat) : ∀ j, lsF gr t gt l0 j ≤ l0 + j
  | 0 => Nat.le_refl _
  | j + 1 => by
    have h := lsF_le gr t gt l0 j
    unfold lsF
    split <;> omega
def smF (gr : Nat → UInt64) (t gt ls : Nat) : Nat → UInt64
  | 0 => 0
  | j + 1 => if j ≠ gt ∧ j ≠ ls then FP.dadd (smF gr t gt ls j) (gr (t * 4 + j)) else smF gr t gt ls j
def coreL (gr : Nat → UInt64) (t l0 : Nat) : Nat := lsF gr t (gtF gr t 3) l0 (3 - l0)
def sCore (gr : Nat → UInt64) (t : Nat) : UInt64 := FP.ddiv (smF gr t (gtF gr t 3) (coreL gr t (if gtF gr t 3 = 0 then 1 else 0)) 4) 4611686018427387904
/-- the sum of two of the four relatives, and its half, are numbers -/
def nnCore (gr : Nat → UInt64) (t : Nat) : Prop := ∀ gt ls j, j < 4 → vf_n64 (FP.dadd (smF gr t gt ls j) (gr (t * 4 + j))) ∧ vf_n64 (FP.ddiv (smF gr t gt ls 4) 4611686018427387904)
/-- the direct index -/
def prodF (gr : Nat → UInt64) (g : Nat) : Nat → UInt64
  | 0 => FP.dconst1
  | j + 1 => FP.dmul (prodF gr g j) (gr ((1 + j) * 4 + g))
def drF (shr gr : Nat → UInt64) (t : Nat) : Nat → UInt64
  | 0 => 0
  | j + 1 => FP.dadd (drF shr gr t j) (FP.dmul (shr ((t * 5 + 0) * 4 + j)) (prodF gr j t))
def sDirect (shr gr : Nat → UInt64) (t : Nat) : UInt64 := FP.dmul 4636737291354636288 (drF shr gr t 4)
def nnDirect (shr gr : Nat → UInt64) (t : Nat) : Prop := (∀ g, g < 4 → ∀ j, j < t → vf_n64 (FP.dmul (prodF gr g j) (gr ((1 + j) * 4 + g)))) ∧ (∀ g, g < 4 → vf_n64 (FP.dmul (shr ((t * 5 + 0) * 4 + g)) (prodF gr g t)) ∧ vf_n64 (FP.dadd (drF shr gr t g) (FP.dmul (shr ((t * 5 + 0) * 4 + g)) (prodF gr g t)))) ∧ vf_n64 (FP.dmul 4636737291354636288 (drF shr gr t 4))
/-- doubts -/
def dbF (M : Nat → Bool) (c : Nat → Nat) (b : Nat → UInt64) (k0 : Nat) : Nat → Nat
  | 0 => 0
  | j + 1 => if 0 < c (k0 + j) ∧ Dgt (b (k0 + j)) 0 ∧ M (k0 + j) = false then dbF M c b k0 j + 1 else dbF M c b k0 j
theorem dbF_le (M : Nat → Bool) (c : Nat → Nat) (b : Nat → UInt64) (k0 : Nat) : ∀ j, dbF M c b k0 j ≤ j
  | 0 => Nat.le_refl 0
  | j + 1 => by
    have h := dbF_le M c b k0 j
    unfold dbF
    split <;> omega
