/-! spendings and contracts, as functions -/
def uS (f : Nat → Nat) (k0 : Nat) : Nat → Nat
  | 0 => 0
  | j + 1 => uS f k0 j + f (k0 + j)
theorem uS_le {f : Nat → Nat} {B : Nat} (h : ∀ k, f k ≤ B) (k0 : Nat) : ∀ j, uS f k0 j ≤ j * B
  | 0 => Nat.zero_le _
  | j + 1 => by
    have h1 := uS_le h k0 j
    have h2 := h (k0 + j)
    show uS f k0 j + f (k0 + j) ≤ _
    rw [Nat.succ_mul]
    omega
def vS (f : Nat → Nat) (g : Nat) : Nat → Nat
  | 0 => 0
  | j + 1 => vS f g j + f (j * 4 + g)
def wS (f : Nat → Nat) : Nat → Nat
  | 0 => 0
  | j + 1 => wS f j + uS f (j * 4) 4
theorem wS_le {f : Nat → Nat} {B : Nat} (h : ∀ k, f k ≤ B) : ∀ j, wS f j ≤ j * (4 * B)
  | 0 => Nat.zero_le _
  | j + 1 => by
    have h1 := wS_le h j
    have h2 := uS_le h (j * 4) 4
    show wS f j + uS f (j * 4) 4 ≤ _
    rw [Nat.succ_mul]
    omega
def tS (f : Nat → Nat) : Nat → Nat
  | 0 => 0
  | j + 1 => tS f j + f j
def adF (f ad : Nat → Nat) : Nat → Nat → Nat
  | 0 => ad
  | j + 1 => vf_upd (adF f ad j) j (f j)
def sShH (ad : Nat → Nat) (h g : Nat) : UInt64 := if 0 < uS ad (h * 4) 4 then FP.ddiv (FP.i2d (nI (ad (h * 4 + g)))) (FP.l2d (lN (uS ad (h * 4) 4))) else 4598175219545276416
def sShA (ad : Nat → Nat) (g : Nat) : UInt64 := if 0 < wS ad 3 then FP.ddiv (FP.l2d (lN (vS ad g 3))) (FP.l2d (lN (wS ad 3))) else 4598175219545276416
def mhN (ad : Nat → Nat) : Nat → Nat
  | 0 => 0
  | j + 1 => if 0 < uS ad (j * 4) 4 then mhN ad j + 1 else mhN ad j
theorem mhN_le (ad : Nat → Nat) : ∀ j, mhN ad j ≤ j
  | 0 => Nat.le_refl 0
  | j + 1 => by
    have h := mhN_le ad j
    unfold mhN
    split <;> omega
def mhS (ad : Nat → Nat) (g : Nat) : Nat → UInt64
  | 0 => 0
  | j + 1 => if 0 < uS ad (j * 4) 4 then FP.dadd (mhS ad g j) (sShH ad j g) else mhS ad g j
def sShM (ad : Nat → Nat) (g : Nat) : UInt64 := if 0 < mhN ad 3 then FP.ddiv (mhS ad g 3) (FP.i2d (nI (mhN ad 3))) else 4598175219545276416
def nnShM (ad : Nat → Nat) (g : Nat) : Prop := (∀ j, j < 3 → vf_n64 (FP.dadd (mhS ad g j) (sShH ad j g))) ∧ (0 < mhN ad 3 → vf_n64 (FP.ddiv (mhS ad g 3) (FP.i2d (nI (mhN ad 3)))))
/-- the shares of a month put in their row -/
def hF (ad : Nat → Nat) (t g : Nat) (f : Nat → UInt64) : Nat → Nat → UInt64
  | 0 => f
  | h + 1 => vf_upd (hF ad t g f h) (t * 5 * 4 + g + (2 + h) * 4) (sShH ad h g)
def shF (ad : Nat → Nat) (t : Nat) (shr : Nat → UInt64) : Nat → Nat → UInt64
  | 0 => shr
  | g + 1 => hF ad t g (vf_upd (vf_upd (shF ad t shr g) (t * 5 * 4 + g) (sShA ad g)) (t * 5 * 4 + g + 4) (sShM ad g)) 3
/-- a wage tied anew -/
def tie (last trig : Nat) (fl : Bool) (n : Nat) : Bool := decide (1 ≤ last ∧ (last * (1000 + trig) ≤ n * 1000 ∨ (fl = false ∧ n * 1000 ≤ last * (1000 - trig))))
def pW (wage n last : Nat) : Nat := if 1000000000 < wage * n / last then 1000000000 else wage * n / last
theorem pW_le (wage n last : Nat) : pW wage n last ≤ 1000000000 := by unfold pW; split <;> omega
def payS (lag trig : Nat) (fl : Bool) (num : Nat → Nat) (t : Nat) (c : Nat × Nat × Nat × Nat) : Nat × Nat × Nat × Nat := if lag ≤ t ∧ c.2.2.1 < t - lag ∧ tie c.2.1 trig fl (num (t - lag)) = true then (pW c.1 (num (t - lag)) c.2.1, num (t - lag), t - lag, c.2.2.2 + pW c.1 (num (t - lag)) c.2.1) else (c.1, c.2.1, c.2.2.1, c.2.2.2 + c.1)
theorem pay_bd {w n : Nat} (hw : w ≤ 1000000000) (hn : n ≤ 2147483647) : w * n < 2 ^ 63 := by
  have := Nat.mul_le_mul hw hn
  omega
theorem tie_bd {a b : Nat} (ha : a ≤ 2147483647) (hb : b ≤ 1500) : a * b < 2 ^ 63 := by
  have := Nat.mul_le_mul ha hb
  omega
theorem g_negle {a b m : Nat} (h : a < b) (hb : b < 2 ^ 30) (hm : m < 2 ^ 31) : nI a - nI b ≤ nI m := by
  rw [Int32.le_iff_toInt_le, pk_sub_toInt (by omega) hb, nI_toInt hm]
  omega
theorem g_sh12 (m : Nat) (h : m < 12) : ((nI m &&& 31).toBitVec.smod 32).toNat = m := by
  have k : ∀ m, m < 12 → ((nI m &&& 31).toBitVec.smod 32).toNat = m := by decide +kernel
  exact k m h
/-- the number that is published for an index -/
def sNum (x : UInt64) : Int32 := if Dge (FP.dadd (FP.dmul x 4621819117588971520) 4602678819172646912) 4746794007244308480 then nI 2147483647 else if Dlt (FP.dadd (FP.dmul x 4621819117588971520) 4602678819172646912) FP.dconst1 then nI 1 else FP.d2i (FP.dadd (FP.dmul x 4621819117588971520) 4602678819172646912)
theorem payS_t {lag trig : Nat} {fl : Bool} {num : Nat → Nat} {t w n lm p : Nat} (h1 : lag ≤ t) (h2 : lm < t - lag) (h3 : tie n trig fl (num (t - lag)) = true) : payS lag trig fl num t (w, n, lm, p) = (pW w (num (t - lag)) n, num (t - lag), t - lag, p + pW w (num (t - lag)) n) := if_pos ⟨h1, h2, h3⟩
theorem payS_f {lag trig : Nat} {fl : Bool} {num : Nat → Nat} {t w n lm p : Nat} (h : t < lag ∨ t - lag ≤ lm ∨ tie n trig fl (num (t - lag)) = false) : payS lag trig fl num t (w, n, lm, p) = (w, n, lm, p + w) := if_neg (fun z => by
  have h1 : lag ≤ t := z.1
  have h2 : lm < t - lag := z.2.1
  have h3 : tie n trig fl (num (t - lag)) = true := z.2.2
  rcases h with q | q | q
  · omega
  · omega
  · rw [q] at h3; cases h3)
