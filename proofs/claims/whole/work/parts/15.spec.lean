/-! what is reckoned, as functions: both the class and the reference are held against these -/
def sRel (mean n : Nat) (a b q v : UInt64) : UInt64 := if n = 0 then 0 else if mean = 0 then FP.ddiv q (FP.i2d (nI n)) else if mean = 1 then FP.ddiv a b else FP.ddiv (FP.i2d (nI n)) v
def sRate (c g : Nat → Nat) (k : Nat) : UInt64 := if g k = 0 then 0 else FP.ddiv (FP.i2d (nI (c k))) (FP.i2d (nI (g k)))
def sBase (lc lg : Nat → Nat) (pr : Nat → UInt64) (k : Nat) : UInt64 := if k < 48 then 0 else if lc (k - 48) = 0 then pr (k - 48) else sRate lc lg (k - 48)
def sBound (cf : Bool) : UInt64 := if cf = true then 4629137466983448576 else 4613937818241073152
def sIn (cf : Bool) (r b : UInt64) : Bool := decide (¬ Dle r 0 ∧ ¬ Dle b 0 ∧ Dle (FP.ddiv r b) (sBound cf) ∧ Dge (FP.dmul (FP.ddiv r b) (sBound cf)) FP.dconst1)
/-- an answer that draws nothing: a division of whole numbers -/
def nnRate (c g : Nat → Nat) : Prop := ∀ k, g k ≠ 0 → vf_n64 (FP.ddiv (FP.i2d (nI (c k))) (FP.i2d (nI (g k))))
/-- the quotient, and the quotient times the bound, are numbers -/
def nnIn (cf : Bool) (r b : UInt64) : Prop := ¬ Dle r 0 → ¬ Dle b 0 → vf_n64 (FP.ddiv r b) ∧ vf_n64 (FP.dmul (FP.ddiv r b) (sBound cf))
/-- the sums that a mean is made of, by one outlet more -/
def nnAdd (a b q v r s : UInt64) : Prop := vf_n64 (FP.dadd a r) ∧ vf_n64 (FP.dadd b s) ∧ vf_n64 (FP.ddiv r s) ∧ vf_n64 (FP.dadd q (FP.ddiv r s)) ∧ vf_n64 (FP.ddiv FP.dconst1 (FP.ddiv r s)) ∧ vf_n64 (FP.dadd v (FP.ddiv FP.dconst1 (FP.ddiv r s)))
def nnRel (mean n : Nat) (a b q v : UInt64) : Prop := n ≠ 0 → (mean = 0 → vf_n64 (FP.ddiv q (FP.i2d (nI n)))) ∧ (mean = 1 → vf_n64 (FP.ddiv a b)) ∧ (mean ≠ 0 → mean ≠ 1 → vf_n64 (FP.ddiv (FP.i2d (nI n)) v))
