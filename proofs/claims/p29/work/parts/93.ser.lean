/-! the rows of a series, month by month: what stands in them -/
def SerOK (cf : Nat → Bool) (c g lc lg M G : Nat → Nat) (shr rel pr grp idx : Nat → UInt64) (T : Nat) : Prop := ∀ t, t < T →
  (∀ i, i < 12 → rel (t * 12 + i) = sRelI cf c g lc lg pr (M i) t i) ∧
  (∀ i, i < 12 → ∀ j, j < 4 → pr (t * 48 + i * 4 + 0 + j) = rPrice (rK cf c g lc lg pr) (sRate c g) (sBase lc lg pr) (rel (t * 12 + i)) (t * 48 + i * 4 + 0 + j)) ∧
  (∀ q, q < 4 → grp (t * 4 + q) = sGrp G rel 12 q t) ∧ ∀ k, k < 5 → idx (t * 5 + k) = ixV shr grp idx t k
theorem sRate_congr {c g c' g' : Nat → Nat} {k : Nat} (h1 : c k = c' k) (h2 : g k = g' k) : sRate c g k = sRate c' g' k := by unfold sRate; rw [h1, h2]
theorem sBase_congr {lc lg lc' lg' : Nat → Nat} {pr pr' : Nat → UInt64} {k : Nat} (h : 48 ≤ k → lc (k - 48) = lc' (k - 48) ∧ lg (k - 48) = lg' (k - 48) ∧ pr (k - 48) = pr' (k - 48)) : sBase lc lg pr k = sBase lc' lg' pr' k := by
  unfold sBase
  by_cases hk : k < 48
  · rw [if_pos hk, if_pos hk]
  · obtain ⟨h1, h2, h3⟩ := h (by omega)
    rw [if_neg hk, if_neg hk, h1, h3, sRate_congr h1 h2]
theorem rK_congr {cf cf' : Nat → Bool} {c g lc lg c' g' lc' lg' : Nat → Nat} {pr pr' : Nat → UInt64} {k : Nat} (h0 : cf k = cf' k) (h1 : c k = c' k) (h2 : g k = g' k) (h : 48 ≤ k → lc (k - 48) = lc' (k - 48) ∧ lg (k - 48) = lg' (k - 48) ∧ pr (k - 48) = pr' (k - 48)) : rK cf c g lc lg pr k = rK cf' c' g' lc' lg' pr' k := by
  unfold rK; rw [h0, sRate_congr h1 h2, sBase_congr h]
/-- the same data below the month T -/
def DatEq (cf : Nat → Bool) (c g lc lg : Nat → Nat) (cf' : Nat → Bool) (c' g' lc' lg' : Nat → Nat) (T : Nat) : Prop := ∀ k, k < T * 48 → cf k = cf' k ∧ c k = c' k ∧ g k = g' k ∧ lc k = lc' k ∧ lg k = lg' k
theorem sRelI_congr {cf cf' : Nat → Bool} {c g lc lg c' g' lc' lg' : Nat → Nat} {pr pr' : Nat → UInt64} {mean t i : Nat} (h : DatEq cf c g lc lg cf' c' g' lc' lg' (t + 1)) (hp : prEq t pr pr') (hi : i < 12) : sRelI cf c g lc lg pr mean t i = sRelI cf' c' g' lc' lg' pr' mean t i := by
  refine sMean_eq (fun j hj => ?_) (fun j hj => ?_) (fun j hj => ?_)
  · have h1 := h (t * 48 + i * 4 + 0 + j) (by omega)
    exact rK_congr h1.1 h1.2.1 h1.2.2.1 (fun hk => by
      have h2 := h (t * 48 + i * 4 + 0 + j - 48) (by omega)
      exact ⟨h2.2.2.2.1, h2.2.2.2.2, hp _ (by omega)⟩)
  · have h1 := h (t * 48 + i * 4 + 0 + j) (by omega)
    exact sRate_congr h1.2.1 h1.2.2.1
  · exact sBase_congr (fun hk => by
      have h2 := h (t * 48 + i * 4 + 0 + j - 48) (by omega)
      exact ⟨h2.2.2.2.1, h2.2.2.2.2, hp _ (by omega)⟩)
theorem rPrice_congr {cf cf' : Nat → Bool} {c g lc lg c' g' lc' lg' : Nat → Nat} {pr pr' : Nat → UInt64} {its its' : UInt64} {t k : Nat} (h : DatEq cf c g lc lg cf' c' g' lc' lg' (t + 1)) (hp : prEq t pr pr') (hk : k < t * 48 + 48) (hi : its = its') : rPrice (rK cf c g lc lg pr) (sRate c g) (sBase lc lg pr) its k = rPrice (rK cf' c' g' lc' lg' pr') (sRate c' g') (sBase lc' lg' pr') its' k := by
  subst hi
  have h1 := h k (by omega)
  have hb : 48 ≤ k → lc (k - 48) = lc' (k - 48) ∧ lg (k - 48) = lg' (k - 48) ∧ pr (k - 48) = pr' (k - 48) := fun hk' => by
    have h2 := h (k - 48) (by omega)
    exact ⟨h2.2.2.2.1, h2.2.2.2.2, hp _ (by omega)⟩
  unfold rPrice
  rw [sBase_congr hb, rK_congr h1.1 h1.2.1 h1.2.2.1 hb, sRate_congr h1.2.1 h1.2.2.1]
theorem sGrp_congr {G G' : Nat → Nat} {rel rel' : Nat → UInt64} {q t : Nat} : ∀ {n : Nat}, (∀ i, i < n → rel (t * 12 + i) = rel' (t * 12 + i) ∧ (G i = G' i ∨ rel (t * 12 + i) = 0)) → sGrp G rel n q t = sGrp G' rel' n q t := by
  intro n h
  have hM : ∀ i, i < n → gM G rel q t (t * 12 + i) = gM G' rel' q t (t * 12 + i) := fun i hi => by
    obtain ⟨h1, h2⟩ := h i hi
    unfold gM
    rw [Nat.add_sub_cancel_left, h1]
    rcases h2 with h2 | h2
    · rw [h2]
    · rw [h1] at h2
      rw [h2]
      have hz : ¬ Dgt 0 0 := by decide +kernel
      rw [decide_eq_false (fun z => hz z.2), decide_eq_false (fun z => hz z.2)]
  unfold sGrp
  rw [mN_eq hM, mS_eq hM (fun i hi => (h i hi).1)]
/-- nothing is added by items behind the n-th -/
theorem sGrp_more {G : Nat → Nat} {rel : Nat → UInt64} {n q t : Nat} : ∀ d : Nat, (∀ i, n ≤ i → i < n + d → rel (t * 12 + i) = 0) → sGrp G rel (n + d) q t = sGrp G rel n q t
  | 0, _ => rfl
  | d + 1, h => by
    rw [← sGrp_more d (fun i h1 h2 => h i h1 (by omega))]
    have hf : gM G rel q t (t * 12 + (n + d)) = false := gM_f (Or.inr (by rw [h (n + d) (by omega) (by omega)]; decide +kernel))
    unfold sGrp
    rw [show n + (d + 1) = (n + d) + 1 by omega, mN_f hf, mS_f hf]
theorem sStep_congr {shr shr' grp grp' : Nat → UInt64} {kd t : Nat} : ∀ {j : Nat}, (∀ i, i < j → shr ((t * 5 + kd) * 4 + i) = shr' ((t * 5 + kd) * 4 + i) ∧ grp (t * 4 + i) = grp' (t * 4 + i)) → sStep shr grp kd t j = sStep shr' grp' kd t j
  | 0, _ => rfl
  | j + 1, h => by
    show FP.dadd (sStep shr grp kd t j) (FP.dmul _ _) = FP.dadd (sStep shr' grp' kd t j) (FP.dmul _ _)
    rw [sStep_congr (fun i hi => h i (by omega)), (h j (by omega)).1, (h j (by omega)).2]
theorem ixV_congr {shr shr' grp grp' idx idx' : Nat → UInt64} {t k : Nat} (h : ∀ i, i < 4 → shr ((t * 5 + k) * 4 + i) = shr' ((t * 5 + k) * 4 + i) ∧ grp (t * 4 + i) = grp' (t * 4 + i)) (hx : t ≠ 0 → idx ((t - 1) * 5 + k) = idx' ((t - 1) * 5 + k)) : ixV shr grp idx t k = ixV shr' grp' idx' t k := by
  unfold ixV
  by_cases ht : t = 0
  · rw [if_pos ht, if_pos ht]
  · rw [if_neg ht, if_neg ht, hx ht, sStep_congr h]
/-- two rows that agree below the month T -/
def SerAg (rel pr grp idx rel' pr' grp' idx' : Nat → UInt64) (T : Nat) : Prop := prEq T pr pr' ∧ (∀ k, k < T * 12 → rel k = rel' k) ∧ (∀ k, k < T * 4 → grp k = grp' k) ∧ ∀ k, k < T * 5 → idx k = idx' k
/-- data, means, groups and shares that make the same rows -/
def InEq (cf : Nat → Bool) (c g lc lg M G : Nat → Nat) (shr : Nat → UInt64) (cf' : Nat → Bool) (c' g' lc' lg' M' G' : Nat → Nat) (shr' rel : Nat → UInt64) (T : Nat) : Prop := DatEq cf c g lc lg cf' c' g' lc' lg' T ∧ (∀ k, k < T * 20 → shr k = shr' k) ∧ ∀ i, i < 12 → (M i = M' i ∧ G i = G' i) ∨ ∀ t, t < T → (∀ m, sRelI cf c g lc lg (fun _ => 0) m t i = 0) ∧ rel (t * 12 + i) = 0
theorem SerOK.unique {cf : Nat → Bool} {c g lc lg M G : Nat → Nat} {shr rel pr grp idx rel' pr' grp' idx' : Nat → UInt64} : ∀ {T : Nat}, SerOK cf c g lc lg M G shr rel pr grp idx T → SerOK cf c g lc lg M G shr rel' pr' grp' idx' T → SerAg rel pr grp idx rel' pr' grp' idx' T
  | 0, _, _ => ⟨fun k hk => absurd hk (by omega), fun k hk => absurd hk (by omega), fun k hk => absurd hk (by omega), fun k hk => absurd hk (by omega)⟩
  | T + 1, h, h' => by
    obtain ⟨a1, a2, a3, a4⟩ := SerOK.unique (T := T) (fun t ht => h t (by omega)) (fun t ht => h' t (by omega))
    obtain ⟨r1, p1, g1, x1⟩ := h T (by omega)
    obtain ⟨r2, p2, g2, x2⟩ := h' T (by omega)
    have hr : ∀ i, i < 12 → rel (T * 12 + i) = rel' (T * 12 + i) := fun i hi => by rw [r1 i hi, r2 i hi]; exact sRelI_eq a1 hi
    have hg : ∀ q, q < 4 → grp (T * 4 + q) = grp' (T * 4 + q) := fun q hq => by rw [g1 q hq, g2 q hq]; exact sGrp_congr (fun i hi => ⟨hr i hi, Or.inl rfl⟩)
    refine ⟨fun k hk => ?_, fun k hk => ?_, fun k hk => ?_, fun k hk => ?_⟩
    · rcases Nat.lt_or_ge k (T * 48) with q | q
      · exact a1 k q
      · have e : k = T * 48 + (k - T * 48) / 4 * 4 + 0 + (k - T * 48) % 4 := by omega
        rw [e, p1 _ (by omega) _ (by omega), p2 _ (by omega) _ (by omega), hr _ (by omega)]
        exact rPrice_eq a1 (by omega)
    · rcases Nat.lt_or_ge k (T * 12) with q | q
      · exact a2 k q
      · have e : k = T * 12 + (k - T * 12) := by omega
        rw [e]; exact hr _ (by omega)
    · rcases Nat.lt_or_ge k (T * 4) with q | q
      · exact a3 k q
      · have e : k = T * 4 + (k - T * 4) := by omega
        rw [e]; exact hg _ (by omega)
    · rcases Nat.lt_or_ge k (T * 5) with q | q
      · exact a4 k q
      · have e : k = T * 5 + (k - T * 5) := by omega
        rw [e, x1 _ (by omega), x2 _ (by omega)]
        exact ixV_congr (fun i hi => ⟨rfl, hg i hi⟩) (fun h0 => a4 _ (by omega))
/-- what stands in a month written anew, and what stays -/
def Mth (cf : Nat → Bool) (c g lc lg M G : Nat → Nat) (n : Nat) (shr pr0 rel pr grp idx rel' pr' grp' idx' : Nat → UInt64) (T : Nat) : Prop :=
  (∀ i, i < n → rel' (T * 12 + i) = sRelI cf c g lc lg pr0 (M i) T i) ∧
  (∀ i, n ≤ i → i < 12 → rel' (T * 12 + i) = rel (T * 12 + i)) ∧
  (∀ k, k < T * 12 → rel' k = rel k) ∧
  (∀ i, i < n → ∀ j, j < 4 → pr' (T * 48 + i * 4 + 0 + j) = rPrice (rK cf c g lc lg pr0) (sRate c g) (sBase lc lg pr0) (sRelI cf c g lc lg pr0 (M i) T i) (T * 48 + i * 4 + 0 + j)) ∧
  (∀ i, n ≤ i → i < 12 → ∀ j, j < 4 → pr' (T * 48 + i * 4 + 0 + j) = pr (T * 48 + i * 4 + 0 + j)) ∧
  (∀ k, k < T * 48 → pr' k = pr k) ∧
  (∀ q, q < 4 → grp' (T * 4 + q) = sGrp G rel' n q T) ∧
  (∀ k, k < T * 4 → grp' k = grp k) ∧
  (∀ k, k < 5 → idx' (T * 5 + k) = ixV shr grp' idx T k) ∧
  (∀ k, k < T * 5 → idx' k = idx k)
theorem Mth.r1 {cf : Nat → Bool} {c g lc lg M G : Nat → Nat} {n : Nat} {shr pr0 rel pr grp idx rel' pr' grp' idx' : Nat → UInt64} {T : Nat} (h : Mth cf c g lc lg M G n shr pr0 rel pr grp idx rel' pr' grp' idx' T) : ∀ i, i < n → rel' (T * 12 + i) = sRelI cf c g lc lg pr0 (M i) T i := h.1
theorem Mth.r2 {cf : Nat → Bool} {c g lc lg M G : Nat → Nat} {n : Nat} {shr pr0 rel pr grp idx rel' pr' grp' idx' : Nat → UInt64} {T : Nat} (h : Mth cf c g lc lg M G n shr pr0 rel pr grp idx rel' pr' grp' idx' T) : ∀ i, n ≤ i → i < 12 → rel' (T * 12 + i) = rel (T * 12 + i) := h.2.1
theorem Mth.r3 {cf : Nat → Bool} {c g lc lg M G : Nat → Nat} {n : Nat} {shr pr0 rel pr grp idx rel' pr' grp' idx' : Nat → UInt64} {T : Nat} (h : Mth cf c g lc lg M G n shr pr0 rel pr grp idx rel' pr' grp' idx' T) : ∀ k, k < T * 12 → rel' k = rel k := h.2.2.1
theorem Mth.p1 {cf : Nat → Bool} {c g lc lg M G : Nat → Nat} {n : Nat} {shr pr0 rel pr grp idx rel' pr' grp' idx' : Nat → UInt64} {T : Nat} (h : Mth cf c g lc lg M G n shr pr0 rel pr grp idx rel' pr' grp' idx' T) : ∀ i, i < n → ∀ j, j < 4 → pr' (T * 48 + i * 4 + 0 + j) = rPrice (rK cf c g lc lg pr0) (sRate c g) (sBase lc lg pr0) (sRelI cf c g lc lg pr0 (M i) T i) (T * 48 + i * 4 + 0 + j) := h.2.2.2.1
theorem Mth.p2 {cf : Nat → Bool} {c g lc lg M G : Nat → Nat} {n : Nat} {shr pr0 rel pr grp idx rel' pr' grp' idx' : Nat → UInt64} {T : Nat} (h : Mth cf c g lc lg M G n shr pr0 rel pr grp idx rel' pr' grp' idx' T) : ∀ i, n ≤ i → i < 12 → ∀ j, j < 4 → pr' (T * 48 + i * 4 + 0 + j) = pr (T * 48 + i * 4 + 0 + j) := h.2.2.2.2.1
theorem Mth.p3 {cf : Nat → Bool} {c g lc lg M G : Nat → Nat} {n : Nat} {shr pr0 rel pr grp idx rel' pr' grp' idx' : Nat → UInt64} {T : Nat} (h : Mth cf c g lc lg M G n shr pr0 rel pr grp idx rel' pr' grp' idx' T) : ∀ k, k < T * 48 → pr' k = pr k := h.2.2.2.2.2.1
theorem Mth.g1 {cf : Nat → Bool} {c g lc lg M G : Nat → Nat} {n : Nat} {shr pr0 rel pr grp idx rel' pr' grp' idx' : Nat → UInt64} {T : Nat} (h : Mth cf c g lc lg M G n shr pr0 rel pr grp idx rel' pr' grp' idx' T) : ∀ q, q < 4 → grp' (T * 4 + q) = sGrp G rel' n q T := h.2.2.2.2.2.2.1
theorem Mth.g3 {cf : Nat → Bool} {c g lc lg M G : Nat → Nat} {n : Nat} {shr pr0 rel pr grp idx rel' pr' grp' idx' : Nat → UInt64} {T : Nat} (h : Mth cf c g lc lg M G n shr pr0 rel pr grp idx rel' pr' grp' idx' T) : ∀ k, k < T * 4 → grp' k = grp k := h.2.2.2.2.2.2.2.1
theorem Mth.x1 {cf : Nat → Bool} {c g lc lg M G : Nat → Nat} {n : Nat} {shr pr0 rel pr grp idx rel' pr' grp' idx' : Nat → UInt64} {T : Nat} (h : Mth cf c g lc lg M G n shr pr0 rel pr grp idx rel' pr' grp' idx' T) : ∀ k, k < 5 → idx' (T * 5 + k) = ixV shr grp' idx T k := h.2.2.2.2.2.2.2.2.1
theorem Mth.x3 {cf : Nat → Bool} {c g lc lg M G : Nat → Nat} {n : Nat} {shr pr0 rel pr grp idx rel' pr' grp' idx' : Nat → UInt64} {T : Nat} (h : Mth cf c g lc lg M G n shr pr0 rel pr grp idx rel' pr' grp' idx' T) : ∀ k, k < T * 5 → idx' k = idx k := h.2.2.2.2.2.2.2.2.2
/-- of the items behind the n-th nothing is told -/
def DatZ (c g lc : Nat → Nat) (n : Nat) : Prop := ∀ t i, n ≤ i → i < 12 → ∀ j, j < 4 → c (t * 48 + i * 4 + 0 + j) = 0 ∧ g (t * 48 + i * 4 + 0 + j) = 0 ∧ lc (t * 48 + i * 4 + 0 + j) = 0
/-- of the items behind the n-th nothing stands in the rows -/
def RowZ (rel pr : Nat → UInt64) (n : Nat) : Prop := ∀ t, t < 24 → ∀ i, n ≤ i → i < 12 → rel (t * 12 + i) = 0 ∧ ∀ j, j < 4 → pr (t * 48 + i * 4 + 0 + j) = 0
theorem sIn_00 (cf : Bool) (b : UInt64) : sIn cf 0 b = false := sIn_1 (Or.inr dz0)
theorem sMean_none {mean : Nat} {M : Nat → Bool} {o t : Nat → UInt64} {k0 : Nat} (h : ∀ j, j < 4 → M (k0 + j) = false) : sMean mean M o t k0 = 0 := by
  have e : mN M k0 4 = 0 := by
    rw [mN_f (h 3 (by decide)), mN_f (h 2 (by decide)), mN_f (h 1 (by decide)), mN_f (h 0 (by decide))]; rfl
  unfold sMean sRel
  rw [if_pos e]
theorem rel_Z {cf : Nat → Bool} {c g lc lg : Nat → Nat} {pr : Nat → UInt64} {mean t i : Nat} (h : ∀ j, j < 4 → g (t * 48 + i * 4 + 0 + j) = 0) : sRelI cf c g lc lg pr mean t i = 0 := sMean_none fun j hj => by
  unfold rK
  rw [show sRate c g (t * 48 + i * 4 + 0 + j) = 0 from if_pos (h j hj)]
  exact sIn_00 _ _
theorem base_Z {lc lg : Nat → Nat} {pr : Nat → UInt64} {t i j : Nat} (hj : j < 4) (hl : ∀ t', lc (t' * 48 + i * 4 + 0 + j) = 0) (hp : 1 ≤ t → pr ((t - 1) * 48 + i * 4 + 0 + j) = 0) (hi : i < 12) : sBase lc lg pr (t * 48 + i * 4 + 0 + j) = 0 := by
  unfold sBase
  by_cases hk : t * 48 + i * 4 + 0 + j < 48
  · rw [if_pos hk]
  · have e : t * 48 + i * 4 + 0 + j - 48 = (t - 1) * 48 + i * 4 + 0 + j := by omega
    rw [if_neg hk, e, if_pos (hl _)]
    exact hp (by omega)
theorem price_Z {M : Nat → Bool} {r b : Nat → UInt64} {its : UInt64} {k : Nat} (hr : r k = 0) (hb : b k = 0) : rPrice M r b its k = 0 := by
  unfold rPrice
  rw [if_pos (Or.inl (by rw [hb]; exact Or.inr dz0))]
  exact hr
/-- a month more -/
theorem SerOK.step {cf : Nat → Bool} {c g lc lg M G : Nat → Nat} {n : Nat} {shr pr0 rel pr grp idx rel' pr' grp' idx' : Nat → UInt64} {T : Nat} (hn : n ≤ 12) (hT : T < 24) (h : SerOK cf c g lc lg M G shr rel pr grp idx T) (hp : prEq T pr pr0) (hd : DatZ c g lc n) (hz : RowZ rel pr n) (hm : Mth cf c g lc lg M G n shr pr0 rel pr grp idx rel' pr' grp' idx' T) : SerOK cf c g lc lg M G shr rel' pr' grp' idx' (T + 1) := by
  have hpp : prEq T pr' pr := fun k hk => hm.p3 k hk
  have hp0 : prEq T pr' pr0 := fun k hk => (hm.p3 k hk).trans (hp k hk)
  have hrel : ∀ i, i < 12 → rel' (T * 12 + i) = sRelI cf c g lc lg pr' (M i) T i := fun i hi => by
    rcases Nat.lt_or_ge i n with q | q
    · rw [hm.r1 i q]; exact (sRelI_eq hp0 hi).symm
    · rw [hm.r2 i q hi, (hz T hT i q hi).1]
      exact (rel_Z (fun j hj => (hd T i q hi j hj).2.1)).symm
  have hgr : ∀ t, t < T + 1 → ∀ i, n ≤ i → i < 12 → rel' (t * 12 + i) = 0 := fun t ht i q hi => by
    rcases Nat.lt_or_ge t T with z | z
    · rw [hm.r3 _ (by omega)]; exact (hz t (by omega) i q hi).1
    · have e : t = T := by omega
      rw [e, hm.r2 i q hi]; exact (hz T hT i q hi).1
  intro t ht
  rcases Nat.lt_or_ge t T with q | q
  · obtain ⟨r, p, gg, x⟩ := h t q
    have e1 : prEq t pr' pr := fun k hk => hpp k (by omega)
    have hr2 : ∀ i, i < 12 → rel' (t * 12 + i) = rel (t * 12 + i) := fun i hi => hm.r3 _ (by omega)
    refine ⟨fun i hi => ?_, fun i hi j hj => ?_, fun qq hq => ?_, fun k hk => ?_⟩
    · rw [hr2 i hi, r i hi]; exact (sRelI_eq e1 hi).symm
    · rw [hr2 i hi, hm.p3 _ (by omega), p i hi j hj]; exact (rPrice_eq e1 (by omega)).symm
    · rw [hm.g3 _ (by omega), gg qq hq]; exact sGrp_congr (fun i hi => ⟨(hr2 i hi).symm, Or.inl rfl⟩)
    · rw [hm.x3 _ (by omega), x k hk]
      exact ixV_congr (fun i hi => ⟨rfl, (hm.g3 _ (by omega)).symm⟩) (fun h0 => (hm.x3 _ (by omega)).symm)
  · have e : t = T := by omega
    subst e
    refine ⟨hrel, fun i hi j hj => ?_, fun qq hq => ?_, fun k hk => ?_⟩
    · rcases Nat.lt_or_ge i n with z | z
      · rw [hm.p1 i z j hj, hm.r1 i z]; exact (rPrice_eq hp0 (by omega)).symm
      · rw [hm.p2 i z hi j hj, (hz t hT i z hi).2 j hj]
        refine (price_Z (if_pos (hd t i z hi j hj).2.1) (base_Z hj (fun t' => (hd t' i z hi j hj).2.2) (fun h1 => ?_) hi)).symm
        rw [hm.p3 _ (by omega)]
        exact (hz (t - 1) (by omega) i z hi).2 j hj
    · have e2 := sGrp_more (G := G) (rel := rel') (n := n) (q := qq) (t := t) (12 - n) (fun i h1 h2 => hgr t (by omega) i h1 (by omega))
      rw [show n + (12 - n) = 12 by omega] at e2
      rw [hm.g1 qq hq, e2]
    · rw [hm.x1 k hk]
      exact ixV_congr (fun i hi => ⟨rfl, rfl⟩) (fun h0 => (hm.x3 _ (by omega)).symm)
theorem RowZ.step {cf : Nat → Bool} {c g lc lg M G : Nat → Nat} {n : Nat} {shr pr0 rel pr grp idx rel' pr' grp' idx' : Nat → UInt64} {T : Nat} (hz : RowZ rel pr n) (hm : Mth cf c g lc lg M G n shr pr0 rel pr grp idx rel' pr' grp' idx' T) (h4 : ∀ k, (T + 1) * 12 ≤ k → rel' k = rel k) (h5 : ∀ k, (T + 1) * 48 ≤ k → pr' k = pr k) : RowZ rel' pr' n := by
  intro t ht i h1 h2
  obtain ⟨z1, z2⟩ := hz t ht i h1 h2
  rcases Nat.lt_trichotomy t T with q | q | q
  · exact ⟨by rw [hm.r3 _ (by omega)]; exact z1, fun j hj => by rw [hm.p3 _ (by omega)]; exact z2 j hj⟩
  · subst q; exact ⟨by rw [hm.r2 i h1 h2]; exact z1, fun j hj => by rw [hm.p2 i h1 h2 j hj]; exact z2 j hj⟩
  · exact ⟨by rw [h4 _ (by omega)]; exact z1, fun j hj => by rw [h5 _ (by omega)]; exact z2 j hj⟩
/-- other data that make the same rows below the month T -/
theorem SerOK.congr {cf cf' : Nat → Bool} {c g lc lg c' g' lc' lg' M G M' G' : Nat → Nat} {shr shr' rel pr grp idx : Nat → UInt64} {T : Nat} (h : SerOK cf c g lc lg M G shr rel pr grp idx T) (hd : DatEq cf c g lc lg cf' c' g' lc' lg' T) (hs : ∀ k, k < T * 20 → shr k = shr' k) (hM : ∀ i, i < 12 → (M i = M' i ∧ G i = G' i) ∨ ∀ t, t < T → rel (t * 12 + i) = 0 ∧ ∀ j, j < 4 → g' (t * 48 + i * 4 + 0 + j) = 0) : SerOK cf' c' g' lc' lg' M' G' shr' rel pr grp idx T := by
  intro t ht
  obtain ⟨r, p, gg, x⟩ := h t ht
  have hd' : DatEq cf c g lc lg cf' c' g' lc' lg' (t + 1) := fun k hk => hd k (by omega)
  refine ⟨fun i hi => ?_, fun i hi j hj => ?_, fun q hq => ?_, fun k hk => ?_⟩
  · rcases hM i hi with ⟨m1, -⟩ | m1
    · rw [r i hi, m1]; exact sRelI_congr hd' (fun _ _ => rfl) hi
    · rw [(m1 t ht).1]; exact (rel_Z (m1 t ht).2).symm
  · rw [p i hi j hj]; exact rPrice_congr hd' (fun _ _ => rfl) (by omega) rfl
  · rw [gg q hq]
    exact sGrp_congr (fun i hi => ⟨rfl, (hM i hi).imp (fun z => z.2) (fun z => (z t ht).1)⟩)
  · rw [x k hk]
    exact ixV_congr (fun i hi => ⟨hs _ (by omega), rfl⟩) (fun _ => rfl)
