/-! items and contracts made, contracts paid: what stands behind the fixed places then -/
theorem ctW_sh {A B C rest : va_W} {pk ad : Nat → Nat} {E : Nat → va_E} (hA : A.length = 30) (hB : B.length = 10) (hC : C.length = 2) : ∀ j, ctW (A ++ (B ++ (C ++ rest))) (fun k => 42 + pk k) ad E j = A ++ (B ++ (C ++ ctW rest pk ad E j))
  | 0 => rfl
  | j + 1 => by
    show (ctW (A ++ (B ++ (C ++ rest))) (fun k => 42 + pk k) ad E j).set (42 + pk j) (ad j, E j) = A ++ (B ++ (C ++ (ctW rest pk ad E j).set (pk j) (ad j, E j)))
    rw [ctW_sh hA hB hC j, List.set_append_right _ _ (by omega), List.set_append_right _ _ (by omega), List.set_append_right _ _ (by omega)]
    rw [show 42 + pk j - A.length - B.length - C.length = pk j by omega]
theorem kd4 {y : Nat → Nat} {a n : Nat} {q : Nat → Option Nat} {k : Nat} (hk : 4 ≠ k) : gkd ((a, eQ y n q) : Nat × va_E).2 ≠ k := hk
/-- the contracts in the world, and their pay -/
theorem CRp.w3 {y : Nat → Nat} {e acta nc : Nat} {fw lag trig : Nat → Nat} {fl : Nat → Bool} {fm : Nat → Nat} {cs : Nat → Nat × Nat × Nat × Nat} {p : Nat} {rest : va_W} {qe : Nat → Option Nat} (h : CRp y e acta nc fw lag trig fl fm cs p rest) : ∃ (p' cap : Nat) (q : Nat → Option Nat) (adc pk : Nat → Nat), (∀ (A B C : va_W), A.length = 30 → B.length = 10 → C.length = 2 → (A ++ (B ++ (C ++ rest)))[0]? = some (e, eQ y 0 qe) → (A ++ (B ++ (C ++ rest)))[p']? = some (acta, eQ y cap q) ∧ gCt (A ++ (B ++ (C ++ rest))) nc cap q adc pk fw lag trig fl fm cs) ∧ (∀ a b, a < nc → b < nc → pk a = pk b → a = b) ∧
    ∀ (A B C : va_W) (v : Nat → Nat × Nat × Nat × Nat), A.length = 30 → B.length = 10 → C.length = 2 → ∃ rest', ctW (A ++ (B ++ (C ++ rest))) pk adc (ctE fw lag trig fl fm v) nc = A ++ (B ++ (C ++ rest')) ∧ CRp y e acta nc fw lag trig fl fm v p rest' ∧ ∀ {aita n : Nat} {G M Sn : Nat → Nat} {pi : Nat}, IRp y e aita n G M Sn pi rest → IRp y e aita n G M Sn pi rest' := by
  rcases h with ⟨rfl, rfl⟩ | ⟨hn, q, adc, pk, h1, h2, h3⟩
  · exact ⟨0, 0, qe, fun _ => 0, fun _ => 0, fun A B C _ _ _ h0 => ⟨h0, gCt.zero⟩, fun a b ha => absurd ha (Nat.not_lt_zero _), fun A B C v _ _ _ => ⟨rest, rfl, Or.inl ⟨rfl, rfl⟩, fun h => h⟩⟩
  · refine ⟨42 + p, 10, q, adc, fun k => 42 + pk k, fun A B C hA hB hC _ => ⟨(LW_sh hA hB hC p).trans h1, h2.1, h2.2.1, h2.2.2.1, fun k hk => (LW_sh hA hB hC _).trans (h2.2.2.2 k hk)⟩, fun a b ha hb e => h3 a b ha hb (by have e9 : 42 + pk a = 42 + pk b := e; omega), fun A B C v hA hB hC => ⟨ctW rest pk adc (ctE fw lag trig fl fm v) nc, ctW_sh hA hB hC nc, Or.inr ⟨hn, q, adc, pk, ctW_get h2.kinds h1 (kd4 (by decide)) nc (Nat.le_refl _), ⟨h2.1, h2.2.1, h2.2.2.1, fun k hk => ctW_at h3 (fun k hk => ⟨_, h2.2.2.2 k hk⟩) nc (Nat.le_refl _) k hk⟩, h3⟩, fun hI => ?_⟩⟩
    refine hI.imp id (fun ⟨hn', cap, q', iad, i1, i2, i3⟩ => ⟨hn', cap, q', iad, ctW_get h2.kinds i1 (kd4 (by decide)) nc (Nat.le_refl _), ⟨i2.1, i2.2.1, i2.2.2.1, fun i hi => ?_⟩, i3⟩)
    obtain ⟨k, hk⟩ := i2.2.2.2 i hi
    exact ⟨k, ctW_get h2.kinds hk (by show (12 : Nat) ≠ 11; decide) nc (Nat.le_refl _)⟩
/-- what is kept behind the fixed places, but at the place z -/
theorem CRp.keep {y : Nat → Nat} {e acta nc : Nat} {fw lag trig : Nat → Nat} {fl : Nat → Bool} {fm : Nat → Nat} {cs : Nat → Nat × Nat × Nat × Nat} {p z : Nat} {rest rest9 : va_W} (h : CRp y e acta nc fw lag trig fl fm cs p rest) (hk : ∀ (q : Nat) (x : Nat × va_E), q ≠ z → rest[q]? = some x → rest9[q]? = some x) (hp : 0 < nc → p ≠ z) (hz : ∀ x, rest[z]? = some x → gkd x.2 ≠ 11) : CRp y e acta nc fw lag trig fl fm cs p rest9 :=
  h.imp id (fun ⟨hn, q, adc, pk, h1, h2, h3⟩ => ⟨hn, q, adc, pk, hk _ _ (hp hn) h1, ⟨h2.1, h2.2.1, h2.2.2.1, fun k hk' => hk _ _ (fun e => hz _ (e ▸ h2.2.2.2 k hk') rfl) (h2.2.2.2 k hk')⟩, h3⟩)
theorem IRp.keep {y : Nat → Nat} {e aita n : Nat} {G M Sn : Nat → Nat} {p z : Nat} {rest rest9 : va_W} (h : IRp y e aita n G M Sn p rest) (hk : ∀ (q : Nat) (x : Nat × va_E), q ≠ z → rest[q]? = some x → rest9[q]? = some x) (hp : 0 < n → p ≠ z) (hz : ∀ x, rest[z]? = some x → gkd x.2 ≠ 12) : IRp y e aita n G M Sn p rest9 := by
  refine h.imp id (fun ⟨hn, cap, q, iad, h1, h2, h3⟩ => ⟨hn, cap, q, iad, hk _ _ (hp hn) h1, ⟨h2.1, h2.2.1, h2.2.2.1, fun i hi => ?_⟩, h3⟩)
  obtain ⟨k, hk'⟩ := h2.2.2.2 i hi
  exact ⟨k, hk _ _ (fun e => hz _ (e ▸ hk') rfl) hk'⟩
theorem W_len {A B C rest : va_W} (hA : A.length = 30) (hB : B.length = 10) (hC : C.length = 2) : (A ++ (B ++ (C ++ rest))).length = 42 + rest.length := by simp only [List.length_append]; omega
/-- a world that keeps the fixed places but one, p -/
theorem grow_rest {A B C rest u : va_W} {ps : List Nat} {p : Nat} {v : Nat × va_E} (hA : A.length = 30) (hB : B.length = 10) (hC : C.length = 2) (hk : gKeep (A ++ (B ++ (C ++ rest))) u ps) (hps : ∀ q ∈ ps, q = p ∨ 42 ≤ q) (hp : p < 30) (hv : u[p]? = some v) : ∃ rest9, u = A.set p v ++ (B ++ (C ++ rest9)) ∧ (∀ k, rest9[k]? = u[42 + k]?) ∧ ∀ (q : Nat) (x : Nat × va_E), 42 + q ∉ ps → rest[q]? = some x → rest9[q]? = some x := by
  have e1 : A ++ (B ++ (C ++ rest)) = (A ++ (B ++ C)) ++ rest := by rw [List.append_assoc, List.append_assoc]
  have hL : (A ++ (B ++ C)).length = 42 := by simp only [List.length_append]; omega
  rw [e1] at hk
  obtain ⟨rest9, h1, h2⟩ := keep_pre hk (fun q hq => (hps q hq).imp id (fun z => by omega)) hv (by omega)
  rw [List.set_append_left _ _ (by omega), List.append_assoc, List.append_assoc] at h1
  rw [hL] at h2
  refine ⟨rest9, h1, fun k => ?_, h2⟩
  rw [h1]
  exact (LW_sh (by rw [List.length_set]; exact hA) hB hC k).symm
theorem gIt.add {rest rest9 : va_W} {n cap cap9 : Nat} {q q9 : Nat → Option Nat} {iad G M Sn : Nat → Nat} {ait g mn sn k9 : Nat} (h : gIt rest n cap q iad G M Sn) (hk : ∀ i, i < n → ∀ (p : Nat) (x : Nat × va_E), rest[p]? = some x → gkd x.2 = 12 → rest9[p]? = some x) (hc : n + 1 ≤ cap9) (hc2 : cap9 < 2 ^ 31) (hq : ∀ i, i < n → q9 i = q i) (hq2 : q9 n = some ait) (h9 : rest9[k9]? = some (ait, .inr (2, [.int (nI g), .int (nI mn), .int (nI sn)]))) : gIt rest9 (n + 1) cap9 q9 (vf_upd iad n ait) (vf_upd G n g) (vf_upd M n mn) (vf_upd Sn n sn) := by
  refine ⟨hc, hc2, fun i hi => ?_, fun i hi => ?_⟩
  · by_cases e : i = n
    · rw [e, hq2, show vf_upd iad n ait n = ait from if_pos rfl]
    · rw [hq i (by omega), h.2.2.1 i (by omega), show vf_upd iad n ait i = iad i from if_neg e]
  · by_cases e : i = n
    · subst e
      refine ⟨k9, ?_⟩
      rw [show vf_upd iad i ait i = ait from if_pos rfl, show vf_upd G i g i = g from if_pos rfl, show vf_upd M i mn i = mn from if_pos rfl, show vf_upd Sn i sn i = sn from if_pos rfl]
      exact h9
    · obtain ⟨p, hp⟩ := h.2.2.2 i (by omega)
      refine ⟨p, ?_⟩
      rw [show vf_upd iad n ait i = iad i from if_neg e, show vf_upd G n g i = G i from if_neg e, show vf_upd M n mn i = M i from if_neg e, show vf_upd Sn n sn i = Sn i from if_neg e]
      exact hk i (by omega) p _ hp rfl
theorem gCt.add {rest rest9 : va_W} {n cap cap9 : Nat} {q q9 : Nat → Option Nat} {ad pk fw lag trig : Nat → Nat} {fl : Nat → Bool} {fm : Nat → Nat} {cs : Nat → Nat × Nat × Nat × Nat} {ac wg lg tr fm9 k9 : Nat} {bf : Bool} {c9 : Nat × Nat × Nat × Nat} (h : gCt rest n cap q ad pk fw lag trig fl fm cs) (hk : ∀ i, i < n → ∀ (p : Nat) (x : Nat × va_E), rest[p]? = some x → gkd x.2 = 11 → rest9[p]? = some x) (hc : n + 1 ≤ cap9) (hc2 : cap9 < 2 ^ 31) (hq : ∀ i, i < n → q9 i = q i) (hq2 : q9 n = some ac)
    (h9 : rest9[k9]? = some (ac, .inr (1, [.int (nI wg), .int (nI lg), .int (nI tr), .int (gb bf), .int (nI fm9), .long (lN c9.1), .long (lN c9.2.1), .int (nI c9.2.2.1), .long (lN c9.2.2.2)]))) : gCt rest9 (n + 1) cap9 q9 (vf_upd ad n ac) (vf_upd pk n k9) (vf_upd fw n wg) (vf_upd lag n lg) (vf_upd trig n tr) (vf_upd fl n bf) (vf_upd fm n fm9) (vf_upd cs n c9) := by
  have u1 : ∀ {α : Type} (f : Nat → α) (v : α), vf_upd f n v n = v := fun f v => if_pos rfl
  have u2 : ∀ {α : Type} (f : Nat → α) (v : α) (i : Nat), i ≠ n → vf_upd f n v i = f i := fun f v i e => if_neg e
  refine ⟨hc, hc2, fun i hi => ?_, fun i hi => ?_⟩
  · by_cases e : i = n
    · rw [e, hq2, u1]
    · rw [hq i (by omega), h.2.2.1 i (by omega), u2 _ _ _ e]
  · by_cases e : i = n
    · subst e
      rw [u1, u1, u1, u1, u1, u1, u1, u1]
      exact h9
    · rw [u2 _ _ _ e, u2 _ _ _ e, u2 _ _ _ e, u2 _ _ _ e, u2 _ _ _ e, u2 _ _ _ e, u2 _ _ _ e, u2 _ _ _ e]
      exact hk i (by omega) _ _ (h.2.2.2 i (by omega)) rfl
