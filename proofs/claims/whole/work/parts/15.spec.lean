/-! what is reckoned, as functions: both the class and the reference are held against these -/
def sRel (mean n : Nat) (a b q v : UInt64) : UInt64 := if n = 0 then 0 else if mean = 0 then FP.ddiv q (FP.i2d (nI n)) else if mean = 1 then FP.ddiv a b else FP.ddiv (FP.i2d (nI n)) v
def sRate (c g : Nat → Nat) (k : Nat) : UInt64 := if g k = 0 then 0 else FP.ddiv (FP.i2d (nI (c k))) (FP.i2d (nI (g k)))
def sCw (wf : Bool) (cc cents : Nat → Nat) : Nat → Nat := if wf = true then cc else cents
def sBase (lc lg : Nat → Nat) (pr : Nat → UInt64) (k : Nat) : UInt64 := if k < 48 then 0 else if lc (k - 48) = 0 then pr (k - 48) else sRate lc lg (k - 48)
def sBound (cf : Bool) : UInt64 := if cf = true then 4629137466983448576 else 4613937818241073152
theorem sB_t {b : Bool} (h : b = true) : sBound b = 4629137466983448576 := by rw [h]; rfl
theorem sB_f {b : Bool} (h : b = false) : sBound b = 4613937818241073152 := by rw [h]; rfl
def sIn (cf : Bool) (r b : UInt64) : Bool := decide (¬ Dle r 0 ∧ ¬ Dle b 0 ∧ Dle (FP.ddiv r b) (sBound cf) ∧ Dge (FP.dmul (FP.ddiv r b) (sBound cf)) FP.dconst1)
theorem sIn_1 {cf : Bool} {r b : UInt64} (h : Dle r 0) : sIn cf r b = false := decide_eq_false (fun z => z.1 h)
theorem sIn_2 {cf : Bool} {r b : UInt64} (h : Dle b 0) : sIn cf r b = false := decide_eq_false (fun z => z.2.1 h)
theorem sIn_3 {cf : Bool} {r b v : UInt64} (hv : sBound cf = v) (h : ¬ Dle (FP.ddiv r b) v) : sIn cf r b = false := decide_eq_false (fun z => h (hv ▸ z.2.2.1))
theorem sIn_4 {cf : Bool} {r b v : UInt64} (hv : sBound cf = v) (h : ¬ Dge (FP.dmul (FP.ddiv r b) v) FP.dconst1) : sIn cf r b = false := decide_eq_false (fun z => h (hv ▸ z.2.2.2))
theorem sIn_t {cf : Bool} {r b v : UInt64} (hv : sBound cf = v) (h1 : ¬ Dle r 0) (h2 : ¬ Dle b 0) (h3 : Dle (FP.ddiv r b) v) (h4 : Dge (FP.dmul (FP.ddiv r b) v) FP.dconst1) : sIn cf r b = true := by
  subst hv
  exact decide_eq_true ⟨h1, h2, h3, h4⟩
def rK (cf : Nat → Bool) (c g lc lg : Nat → Nat) (pr : Nat → UInt64) (k : Nat) : Bool := sIn (cf k) (sRate c g k) (sBase lc lg pr k)
def mN (M : Nat → Bool) (k0 : Nat) : Nat → Nat
  | 0 => 0
  | j + 1 => if M (k0 + j) = true then mN M k0 j + 1 else mN M k0 j
def mS (M : Nat → Bool) (f : Nat → UInt64) (k0 : Nat) : Nat → UInt64
  | 0 => 0
  | j + 1 => if M (k0 + j) = true then FP.dadd (mS M f k0 j) (f (k0 + j)) else mS M f k0 j
theorem mN_t {M : Nat → Bool} {k0 j : Nat} (h : M (k0 + j) = true) : mN M k0 (j + 1) = mN M k0 j + 1 := if_pos h
theorem mN_f {M : Nat → Bool} {k0 j : Nat} (h : M (k0 + j) = false) : mN M k0 (j + 1) = mN M k0 j := if_neg (by rw [h]; decide)
theorem mS_t {M : Nat → Bool} {f : Nat → UInt64} {k0 j : Nat} (h : M (k0 + j) = true) : mS M f k0 (j + 1) = FP.dadd (mS M f k0 j) (f (k0 + j)) := if_pos h
theorem mS_f {M : Nat → Bool} {f : Nat → UInt64} {k0 j : Nat} (h : M (k0 + j) = false) : mS M f k0 (j + 1) = mS M f k0 j := if_neg (by rw [h]; decide)
theorem mN_le (M : Nat → Bool) (k0 : Nat) : ∀ j, mN M k0 j ≤ j
  | 0 => Nat.le_refl 0
  | j + 1 => by
    have h := mN_le M k0 j
    show (if M (k0 + j) = true then mN M k0 j + 1 else mN M k0 j) ≤ j + 1
    split <;> omega
def qF (o t : Nat → UInt64) (k : Nat) : UInt64 := FP.ddiv (o k) (t k)
def vF (o t : Nat → UInt64) (k : Nat) : UInt64 := FP.ddiv FP.dconst1 (FP.ddiv (o k) (t k))
def sMean (mean : Nat) (M : Nat → Bool) (o t : Nat → UInt64) (k0 : Nat) : UInt64 := sRel mean (mN M k0 4) (mS M o k0 4) (mS M t k0 4) (mS M (qF o t) k0 4) (mS M (vF o t) k0 4)
/-- the quotient, and the quotient times the bound, are numbers -/
def nnIn (cf : Bool) (r b : UInt64) : Prop := ¬ Dle r 0 → ¬ Dle b 0 → vf_n64 (FP.ddiv r b) ∧ vf_n64 (FP.dmul (FP.ddiv r b) (sBound cf))
/-- the sums that a mean is made of, by one outlet more -/
def nnAdd (a b q v r s : UInt64) : Prop := vf_n64 (FP.dadd a r) ∧ vf_n64 (FP.dadd b s) ∧ vf_n64 (FP.ddiv r s) ∧ vf_n64 (FP.dadd q (FP.ddiv r s)) ∧ vf_n64 (FP.ddiv FP.dconst1 (FP.ddiv r s)) ∧ vf_n64 (FP.dadd v (FP.ddiv FP.dconst1 (FP.ddiv r s)))
def nnRel (mean n : Nat) (a b q v : UInt64) : Prop := n ≠ 0 → (mean = 0 → vf_n64 (FP.ddiv q (FP.i2d (nI n)))) ∧ (mean = 1 → vf_n64 (FP.ddiv a b)) ∧ (mean ≠ 0 → mean ≠ 1 → vf_n64 (FP.ddiv (FP.i2d (nI n)) v))
def nnMean (mean : Nat) (M : Nat → Bool) (o t : Nat → UInt64) (k0 : Nat) : Prop := (∀ j, j < 4 → M (k0 + j) = true → nnAdd (mS M o k0 j) (mS M t k0 j) (mS M (qF o t) k0 j) (mS M (vF o t) k0 j) (o (k0 + j)) (t (k0 + j))) ∧ nnRel mean (mN M k0 4) (mS M o k0 4) (mS M t k0 4) (mS M (qF o t) k0 4) (mS M (vF o t) k0 4)
/-- the items of the list: their array, their objects -/
def gIt (ws : va_W) (n cap : Nat) (q : Nat → Option Nat) (ad G M Sn : Nat → Nat) : Prop := n ≤ cap ∧ cap < 2 ^ 31 ∧ (∀ i, i < n → q i = some (ad i)) ∧ ∀ i, i < n → ∃ p : Nat, ws[p]? = some (ad i, Sum.inr (2, [.int (nI (G i)), .int (nI (M i)), .int (nI (Sn i))]))
def rPrice (M : Nat → Bool) (r b : Nat → UInt64) (its : UInt64) (k : Nat) : UInt64 := if Dle (b k) 0 ∨ M k = true then r k else if Dgt its 0 then FP.dmul (b k) its else b k
