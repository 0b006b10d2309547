/-! what holds between the office and the reference at the head of the loop; what each call does to it -/
theorem upd_ne {α : Type} {f : Nat → α} {k j : Nat} {x : α} (h : j ≠ k) : vf_upd f k x j = f j := if_neg h
theorem upd_eq {α : Type} {f : Nat → α} {k : Nat} {x : α} : vf_upd f k x k = x := if_pos rfl
theorem upd_bd {f : Nat → Nat} {k x B : Nat} (h : ∀ j, f j ≤ B) (hx : x ≤ B) : ∀ j, vf_upd f k x j ≤ B := fun j => by unfold vf_upd; split <;> first | exact hx | exact h j
theorem DatEq.upds {cf : Nat → Bool} {c g lc lg : Nat → Nat} {cf' : Nat → Bool} {c' g' lc' lg' : Nat → Nat} {T : Nat} (h : ∀ k, k < T * 48 → cf' k = cf k ∧ c' k = c k ∧ g' k = g k ∧ lc' k = lc k ∧ lg' k = lg k) : DatEq cf c g lc lg cf' c' g' lc' lg' T := fun k hk => by
  obtain ⟨h1, h2, h3, h4, h5⟩ := h k hk
  exact ⟨h1.symm, h2.symm, h3.symm, h4.symm, h5.symm⟩
theorem SerOK.upds {cf cf' : Nat → Bool} {c g lc lg c' g' lc' lg' M G : Nat → Nat} {shr rel pr grp idx : Nat → UInt64} {T : Nat} (h : SerOK cf c g lc lg M G shr rel pr grp idx T) (hd : ∀ k, k < T * 48 → cf' k = cf k ∧ c' k = c k ∧ g' k = g k ∧ lc' k = lc k ∧ lg' k = lg k) : SerOK cf' c' g' lc' lg' M G shr rel pr grp idx T :=
  h.congr (DatEq.upds hd) (fun _ _ => rfl) (fun _ _ => Or.inl ⟨rfl, rfl⟩)
theorem rK_upds {cf cf' : Nat → Bool} {c g lc lg c' g' lc' lg' : Nat → Nat} {pr : Nat → UInt64} {T k : Nat} (hk : k < T * 48) (hd : ∀ k, k < T * 48 → cf' k = cf k ∧ c' k = c k ∧ g' k = g k ∧ lc' k = lc k ∧ lg' k = lg k) : rK cf c g lc lg pr k = rK cf' c' g' lc' lg' pr k := by
  obtain ⟨h1, h2, h3, -, -⟩ := hd k hk
  refine rK_congr h1.symm h2.symm h3.symm (fun h48 => ?_)
  obtain ⟨-, -, -, h4, h5⟩ := hd (k - 48) (by omega)
  exact ⟨h4.symm, h5.symm, rfl⟩
theorem adF_le {f a : Nat → Nat} {B : Nat} (h1 : ∀ k, f k ≤ B) (h2 : ∀ k, a k ≤ B) : ∀ j k, adF f a j k ≤ B
  | 0 => h2
  | j + 1 => upd_bd (adF_le h1 h2 j) (h1 j)
