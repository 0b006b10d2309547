/-! what stands behind the fixed places: the row of the items and the items, the row of the contracts and the contracts -/
theorem LW_sh {A B C rest : va_W} (hA : A.length = 30) (hB : B.length = 10) (hC : C.length = 2) (p : Nat) : (A ++ (B ++ (C ++ rest)))[42 + p]? = rest[p]? := by
  rw [List.getElem?_append_right (by omega), List.getElem?_append_right (by omega), List.getElem?_append_right (by omega)]
  congr 1; omega
def IRp (y : Nat → Nat) (e aita n : Nat) (G M Sn : Nat → Nat) (p : Nat) (rest : va_W) : Prop := (n = 0 ∧ aita = e) ∨ (0 < n ∧ ∃ (cap : Nat) (q : Nat → Option Nat) (iad : Nat → Nat), rest[p]? = some (aita, eQ y cap q) ∧ gIt rest n cap q iad G M Sn ∧ ((n ≤ 10 ∧ cap = 10) ∨ (10 < n ∧ n ≤ 15 ∧ cap = 15)))
def CRp (y : Nat → Nat) (e acta nc : Nat) (fw lag trig : Nat → Nat) (fl : Nat → Bool) (fm : Nat → Nat) (cs : Nat → Nat × Nat × Nat × Nat) (p : Nat) (rest : va_W) : Prop := (nc = 0 ∧ acta = e) ∨ (0 < nc ∧ ∃ (q : Nat → Option Nat) (adc pk : Nat → Nat), rest[p]? = some (acta, eQ y 10 q) ∧ gCt rest nc 10 q adc pk fw lag trig fl fm cs ∧ ∀ a b, a < nc → b < nc → pk a = pk b → a = b)
theorem gIt.zero {ws : va_W} {q : Nat → Option Nat} {G M Sn : Nat → Nat} : gIt ws 0 0 q (fun _ => 0) G M Sn := ⟨Nat.le_refl 0, by decide, fun _ h => absurd h (Nat.not_lt_zero _), fun _ h => absurd h (Nat.not_lt_zero _)⟩
theorem gCt.zero {ws : va_W} {q : Nat → Option Nat} {fw lag trig : Nat → Nat} {fl : Nat → Bool} {fm : Nat → Nat} {cs : Nat → Nat × Nat × Nat × Nat} : gCt ws 0 0 q (fun _ => 0) (fun _ => 0) fw lag trig fl fm cs := ⟨Nat.le_refl 0, by decide, fun _ h => absurd h (Nat.not_lt_zero _), fun _ h => absurd h (Nat.not_lt_zero _)⟩
/-- the items in the world -/
theorem IRp.w {y : Nat → Nat} {e aita n : Nat} {G M Sn : Nat → Nat} {p : Nat} {A B C rest : va_W} {qe : Nat → Option Nat} (h : IRp y e aita n G M Sn p rest) (hA : A.length = 30) (hB : B.length = 10) (hC : C.length = 2) (h0 : (A ++ (B ++ (C ++ rest)))[0]? = some (e, eQ y 0 qe)) : ∃ (p' cap : Nat) (q : Nat → Option Nat) (iad : Nat → Nat), (A ++ (B ++ (C ++ rest)))[p']? = some (aita, eQ y cap q) ∧ gIt (A ++ (B ++ (C ++ rest))) n cap q iad G M Sn := by
  rcases h with ⟨rfl, rfl⟩ | ⟨hn, cap, q, iad, h1, h2, h3⟩
  · exact ⟨0, 0, qe, _, h0, gIt.zero⟩
  · refine ⟨42 + p, cap, q, iad, (LW_sh hA hB hC p).trans h1, h2.1, h2.2.1, h2.2.2.1, fun i hi => ?_⟩
    obtain ⟨k, hk⟩ := h2.2.2.2 i hi
    exact ⟨42 + k, (LW_sh hA hB hC k).trans hk⟩
/-- the contracts in the world -/
theorem CRp.w {y : Nat → Nat} {e acta nc : Nat} {fw lag trig : Nat → Nat} {fl : Nat → Bool} {fm : Nat → Nat} {cs : Nat → Nat × Nat × Nat × Nat} {p : Nat} {A B C rest : va_W} {qe : Nat → Option Nat} (h : CRp y e acta nc fw lag trig fl fm cs p rest) (hA : A.length = 30) (hB : B.length = 10) (hC : C.length = 2) (h0 : (A ++ (B ++ (C ++ rest)))[0]? = some (e, eQ y 0 qe)) : ∃ (p' cap : Nat) (q : Nat → Option Nat) (adc pk : Nat → Nat), (A ++ (B ++ (C ++ rest)))[p']? = some (acta, eQ y cap q) ∧ gCt (A ++ (B ++ (C ++ rest))) nc cap q adc pk fw lag trig fl fm cs ∧ (∀ a b, a < nc → b < nc → pk a = pk b → a = b) := by
  rcases h with ⟨rfl, rfl⟩ | ⟨hn, q, adc, pk, h1, h2, h3⟩
  · exact ⟨0, 0, qe, _, _, h0, gCt.zero, fun a b ha => absurd ha (Nat.not_lt_zero _)⟩
  · exact ⟨42 + p, 10, q, adc, fun k => 42 + pk k, (LW_sh hA hB hC p).trans h1, ⟨h2.1, h2.2.1, h2.2.2.1, fun k hk => (LW_sh hA hB hC _).trans (h2.2.2.2 k hk)⟩, fun a b ha hb e => h3 a b ha hb (by have e9 : 42 + pk a = 42 + pk b := e; omega)⟩
theorem gCt.cs {ws : va_W} {n cap : Nat} {q : Nat → Option Nat} {ad pk fw lag trig : Nat → Nat} {fl : Nat → Bool} {fm : Nat → Nat} {cs cs' : Nat → Nat × Nat × Nat × Nat} (h : gCt ws n cap q ad pk fw lag trig fl fm cs) (hc : ∀ k, k < n → cs k = cs' k) : gCt ws n cap q ad pk fw lag trig fl fm cs' := ⟨h.1, h.2.1, h.2.2.1, fun k hk => by rw [← hc k hk]; exact h.2.2.2 k hk⟩
/-- more at the end -/
theorem IRp.app {y : Nat → Nat} {e aita n : Nat} {G M Sn : Nat → Nat} {p : Nat} {rest : va_W} {z : Nat × va_E} (h : IRp y e aita n G M Sn p rest) : IRp y e aita n G M Sn p (rest ++ [z]) := h.imp id (fun ⟨hn, cap, q, iad, h1, h2, h3⟩ => ⟨hn, cap, q, iad, g_ap h1, h2.app, h3⟩)
theorem CRp.app {y : Nat → Nat} {e acta nc : Nat} {fw lag trig : Nat → Nat} {fl : Nat → Bool} {fm : Nat → Nat} {cs : Nat → Nat × Nat × Nat × Nat} {p : Nat} {rest : va_W} {z : Nat × va_E} (h : CRp y e acta nc fw lag trig fl fm cs p rest) : CRp y e acta nc fw lag trig fl fm cs p (rest ++ [z]) := h.imp id (fun ⟨hn, q, adc, pk, h1, h2, h3⟩ => ⟨hn, q, adc, pk, g_ap h1, h2.app, h3⟩)
/-- a world that has what a list has begins with it -/
theorem pre_of {L u : va_W} (h : ∀ k, k < L.length → u[k]? = L[k]?) : ∃ rest, u = L ++ rest := by
  refine ⟨u.drop L.length, ?_⟩
  apply List.ext_getElem?
  intro k
  rcases Nat.lt_or_ge k L.length with q | q
  · rw [List.getElem?_append_left q]; exact h k q
  · rw [List.getElem?_append_right q, List.getElem?_drop]; congr 1; omega
/-- what is kept but at one place of the list, and maybe at places behind it -/
theorem keep_pre {L rest u : va_W} {ps : List Nat} {p : Nat} {v : Nat × va_E} (hk : gKeep (L ++ rest) u ps) (hps : ∀ q ∈ ps, q = p ∨ L.length ≤ q) (hv : u[p]? = some v) (hp : p < L.length) : ∃ rest', u = L.set p v ++ rest' ∧ ∀ (q : Nat) (x : Nat × va_E), L.length + q ∉ ps → rest[q]? = some x → rest'[q]? = some x := by
  have h1 : ∀ k, k < (L.set p v).length → u[k]? = (L.set p v)[k]? := fun k hk' => by
    rw [List.length_set] at hk'
    by_cases e : k = p
    · subst e; rw [hv, List.getElem?_set_self hp]
    · rw [List.getElem?_set_ne (fun z => e z.symm)]
      obtain ⟨x, hx⟩ : ∃ x, L[k]? = some x := ⟨L[k], List.getElem?_eq_getElem hk'⟩
      rw [hx]
      refine hk k x (fun z => ?_) (by rw [List.getElem?_append_left hk']; exact hx)
      rcases hps k z with q | q <;> omega
  obtain ⟨rest', rfl⟩ := pre_of h1
  refine ⟨rest', rfl, fun q x hq hx => ?_⟩
  have h2 := hk (L.length + q) x hq (by rw [List.getElem?_append_right (by omega), Nat.add_sub_cancel_left]; exact hx)
  rw [List.getElem?_append_right (by rw [List.length_set]; omega), List.length_set, Nat.add_sub_cancel_left] at h2
  exact h2
/-! an argument is in the range, or not -/
theorem ci_lt (x : Int32) {n : Nat} (hn : n < 2 ^ 31) : (x < 0 ∨ nI n ≤ x) ∨ ∃ i, i < n ∧ x = nI i := by
  by_cases h : x < 0 ∨ nI n ≤ x
  · exact Or.inl h
  · have h1 : ¬ x < 0 := fun z => h (Or.inl z)
    have h2 : ¬ nI n ≤ x := fun z => h (Or.inr z)
    rw [Int32.lt_iff_toInt_lt] at h1
    rw [Int32.le_iff_toInt_le, nI_toInt hn] at h2
    have h0 : (0 : Int32).toInt = 0 := rfl
    refine Or.inr ⟨x.toInt.toNat, by omega, Int32.toInt_inj.mp ?_⟩
    rw [nI_toInt (by omega)]; omega
theorem ci_rg (x : Int32) {lo hi : Nat} (h1 : lo < 2 ^ 31) (h2 : hi < 2 ^ 31) : (x < nI lo ∨ nI hi < x) ∨ ∃ v, lo ≤ v ∧ v ≤ hi ∧ x = nI v := by
  by_cases h : x < nI lo ∨ nI hi < x
  · exact Or.inl h
  · have h3 : ¬ x < nI lo := fun z => h (Or.inl z)
    have h4 : ¬ nI hi < x := fun z => h (Or.inr z)
    rw [Int32.lt_iff_toInt_lt, nI_toInt h1] at h3
    rw [Int32.lt_iff_toInt_lt, nI_toInt h2] at h4
    refine Or.inr ⟨x.toInt.toNat, by omega, by omega, Int32.toInt_inj.mp ?_⟩
    rw [nI_toInt (by omega)]; omega
