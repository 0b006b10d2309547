/-! a month published: what holds then -/
theorem hF_at {ad : Nat → Nat} {t g : Nat} {f : Nat → UInt64} : ∀ {m h : Nat}, h < m → hF ad t g f m (t * 5 * 4 + g + (2 + h) * 4) = sShH ad h g
  | 0, _, h => absurd h (Nat.not_lt_zero _)
  | m + 1, h, hh => by
    show vf_upd _ _ _ _ = _
    by_cases e : h = m
    · subst e; exact upd_eq
    · rw [upd_ne (by omega)]; exact hF_at (by omega)
theorem hF_out {ad : Nat → Nat} {t g : Nat} {f : Nat → UInt64} {k : Nat} : ∀ {m : Nat}, (∀ h, h < m → k ≠ t * 5 * 4 + g + (2 + h) * 4) → hF ad t g f m k = f k
  | 0, _ => rfl
  | m + 1, hh => by
    show vf_upd _ _ _ _ = _
    rw [upd_ne (hh m (by omega))]; exact hF_out (fun h q => hh h (by omega))
theorem shF_in {ad : Nat → Nat} {t : Nat} {shr : Nat → UInt64} {kd g : Nat} (hkd : kd < 5) : ∀ {m : Nat}, g < m → m ≤ 4 → shF ad t shr m ((t * 5 + kd) * 4 + g) = mShr ad kd g
  | 0, h, _ => absurd h (Nat.not_lt_zero _)
  | m + 1, h, hm => by
    show hF ad t m (vf_upd (vf_upd (shF ad t shr m) _ _) _ _) 3 _ = _
    by_cases e : g = m
    · subst e
      rcases (show kd = 0 ∨ kd = 1 ∨ ∃ h, h < 3 ∧ kd = 2 + h from by
        rcases (show kd = 0 ∨ kd = 1 ∨ 2 ≤ kd by omega) with q | q | q
        · exact Or.inl q
        · exact Or.inr (Or.inl q)
        · exact Or.inr (Or.inr ⟨kd - 2, by omega, by omega⟩)) with q | q | ⟨h', q1, q2⟩
      · subst q
        rw [hF_out (fun h hh => by omega), upd_ne (by omega), show (t * 5 + 0) * 4 + g = t * 5 * 4 + g by omega, upd_eq]
        rfl
      · subst q
        rw [hF_out (fun h hh => by omega), show (t * 5 + 1) * 4 + g = t * 5 * 4 + g + 4 by omega, upd_eq]
        rfl
      · subst q2
        rw [show (t * 5 + (2 + h')) * 4 + g = t * 5 * 4 + g + (2 + h') * 4 by omega, hF_at q1]
        unfold mShr
        rw [if_neg (by omega), if_neg (by omega), Nat.add_sub_cancel_left]
    · rw [hF_out (fun h hh => by omega), upd_ne (by omega), upd_ne (by omega)]
      exact shF_in hkd (by omega) (by omega)
theorem shF_out {ad : Nat → Nat} {t : Nat} {shr : Nat → UInt64} {k : Nat} (hk : k < t * 20 ∨ t * 20 + 20 ≤ k) : ∀ {m : Nat}, m ≤ 4 → shF ad t shr m k = shr k
  | 0, _ => rfl
  | m + 1, hm => by
    show hF ad t m (vf_upd (vf_upd (shF ad t shr m) _ _) _ _) 3 _ = _
    rw [hF_out (fun h hh => by omega), upd_ne (by omega), upd_ne (by omega)]
    exact shF_out hk (by omega)
theorem mShr_congr {ad ad' : Nat → Nat} (h : ∀ q, q < 12 → ad q = ad' q) {kd g : Nat} (hkd : kd < 5) (hg : g < 4) : mShr ad kd g = mShr ad' kd g := by
  have hu : ∀ j, j < 3 → uS ad (j * 4) 4 = uS ad' (j * 4) 4 := fun j hj => by
    rw [uS_4, uS_4, h _ (by omega), h _ (by omega), h _ (by omega), h _ (by omega)]
  have hw : wS ad 3 = wS ad' 3 := by rw [wS_3, wS_3, hu 0 (by decide), hu 1 (by decide), hu 2 (by decide)]
  have hv : vS ad g 3 = vS ad' g 3 := by rw [vS_3, vS_3, h _ (by omega), h _ (by omega), h _ (by omega)]
  have hH : ∀ j, j < 3 → sShH ad j g = sShH ad' j g := fun j hj => by unfold sShH; rw [hu j hj, h _ (by omega)]
  have hN : ∀ j, j ≤ 3 → mhN ad j = mhN ad' j ∧ mhS ad g j = mhS ad' g j := by
    intro j
    induction j with
    | zero => exact fun _ => ⟨rfl, rfl⟩
    | succ j ih =>
      intro hj
      obtain ⟨i1, i2⟩ := ih (by omega)
      constructor
      · show (if _ then _ else _) = (if _ then _ else _)
        rw [hu j (by omega), i1]
      · show (if _ then _ else _) = (if _ then _ else _)
        rw [hu j (by omega), i2, hH j (by omega)]
  unfold mShr
  by_cases h0 : kd = 0
  · rw [if_pos h0, if_pos h0]; unfold sShA; rw [hw, hv]
  · rw [if_neg h0, if_neg h0]
    by_cases h1 : kd = 1
    · rw [if_pos h1, if_pos h1]; unfold sShM; rw [(hN 3 (by decide)).1, (hN 3 (by decide)).2]
    · rw [if_neg h1, if_neg h1]; exact hH _ (by omega)
theorem payS_num {lag trig t : Nat} {fl : Bool} {num num' : Nat → Nat} {c : Nat × Nat × Nat × Nat} (h : num (t - lag) = num' (t - lag)) : payS lag trig fl num t c = payS lag trig fl num' t c := by unfold payS; rw [h]
theorem sCw_f (cc c : Nat → Nat) : sCw false cc c = c := rfl
theorem sCw_t (cc c : Nat → Nat) : sCw true cc c = cc := rfl
/-- shares that stand in the rows of shares -/
theorem ShB_of {shr : Nat → UInt64} {f : Nat → Nat → Nat} {T : Nat} (b : ∀ t q, f t q ≤ 1000000000) (h : ∀ t, t < T → ∀ kd, kd < 5 → ∀ g, g < 4 → mShr (f t) kd g = shr ((t * 5 + kd) * 4 + g)) : ShB shr T := fun t ht => by
  refine ⟨fun kd hkd j hj => by rw [← h t ht kd hkd j hj]; exact mShr_Ub (b t) hj, ?_⟩
  obtain ⟨g, hg, hr⟩ := (shA_all (b t)).2
  exact ⟨g, hg, by rw [← h t ht 0 (by decide) g hg]; exact hr⟩
theorem payS_nx {lag trig t : Nat} {fl : Bool} {num : Nat → Nat} {c : Nat × Nat × Nat × Nat} (hn : ∀ q, q ≤ t → 1 ≤ num q) (hl : 1 ≤ c.2.1) (hm : c.2.2.1 < t) : 1 ≤ (payS lag trig fl num t c).2.1 ∧ (payS lag trig fl num t c).2.2.1 < t + 1 := by
  unfold payS
  split
  · exact ⟨hn _ (by omega), by show t - lag < t + 1; omega⟩
  · exact ⟨hl, by show c.2.2.1 < t + 1; omega⟩
theorem payS_b2 {lag trig t : Nat} {fl : Bool} {num : Nat → Nat} {c : Nat × Nat × Nat × Nat} (hn : ∀ k, num k ≤ 2147483647) (ht : t < 24) (h1 : c.1 ≤ 1000000000) (h2 : c.2.1 ≤ 2147483647) (h3 : c.2.2.1 ≤ 23) : (payS lag trig fl num t c).1 ≤ 1000000000 ∧ (payS lag trig fl num t c).2.1 ≤ 2147483647 ∧ (payS lag trig fl num t c).2.2.1 ≤ 23 := by
  unfold payS
  split
  · exact ⟨pW_le _ _ _, hn _, by show t - lag ≤ 23; omega⟩
  · exact ⟨h1, h2, h3⟩
