/-! the rows of a series: their bounds, a month that makes nothing that is no number, the months redone -/
def DatB (c g lc lg : Nat → Nat) : Prop := (∀ k, c k ≤ 100000) ∧ (∀ k, g k ≤ 10000) ∧ (∀ k, lc k ≤ 100000) ∧ ∀ k, lg k ≤ 10000
def ShB (shr : Nat → UInt64) (T : Nat) : Prop := ∀ t, t < T → (∀ kd, kd < 5 → ∀ j, j < 4 → Ub 1023 (shr ((t * 5 + kd) * 4 + j))) ∧ ∃ j0, j0 < 4 ∧ Rg 1021 1023 (shr ((t * 5 + 0) * 4 + j0))
def SerB (rel pr grp idx : Nat → UInt64) (t : Nat) : Prop := (∀ i, i < 12 → ∀ j, j < 4 → PB t (pr (t * 48 + i * 4 + 0 + j))) ∧ (∀ i, i < 12 → RZ 1015 1031 (rel (t * 12 + i))) ∧ (∀ q, q < 4 → Rg 1015 1031 (grp (t * 4 + q))) ∧ (∀ k, k < 5 → Ub (1030 + 10 * t) (idx (t * 5 + k))) ∧ Rg (1029 - 10 * t) (1030 + 10 * t) (idx (t * 5 + 0))
theorem SerB.prev {rel pr grp idx : Nat → UInt64} {t q : Nat} (h : SerB rel pr grp idx t) (h1 : t * 48 ≤ q) (h2 : q < t * 48 + 48) : PB t (pr q) := by
  have e : q = t * 48 + (q - t * 48) / 4 * 4 + 0 + (q - t * 48) % 4 := by omega
  rw [e]; exact h.1 _ (by omega) _ (by omega)
theorem SerOK.bounds {cf : Nat → Bool} {c g lc lg M G : Nat → Nat} {shr rel pr grp idx : Nat → UInt64} {T : Nat} (hb : DatB c g lc lg) (hs : ShB shr T) (hT : T ≤ 24) (h : SerOK cf c g lc lg M G shr rel pr grp idx T) : ∀ t, t < T → SerB rel pr grp idx t := by
  intro t
  induction t with
  | zero =>
    intro ht
    obtain ⟨r, p, gg, x⟩ := h 0 ht
    obtain ⟨s1, j0, s2, s3⟩ := hs 0 ht
    have hi := fun i (hi : i < 12) => item_all (cf := cf) (pr := pr) (mean := M i) hb.1 hb.2.1 hb.2.2.1 hb.2.2.2 (t := 0) (by decide) hi (fun q h1 _ => absurd h1 (by omega))
    have hr : ∀ i, i < 12 → RZ 1015 1031 (rel (0 * 12 + i)) := fun i k => by rw [r i k]; exact (hi i k).2.1
    have hg : ∀ q, q < 4 → Rg 1015 1031 (grp (0 * 4 + q)) := fun q hq => by rw [gg q hq]; exact (grp_all (by decide) hr).2
    refine ⟨fun i k j hj => ?_, hr, hg, fun k hk => ?_, ?_⟩
    · rw [p i k j hj, r i k]; exact (hi i k).2.2 j hj
    · rw [x k hk]; exact (ix_all (by decide) (s1 k hk) hg (fun h => absurd rfl h)).2
    · rw [x 0 (by decide)]; exact ix_lo (by decide) (s1 0 (by decide)) hg s2 s3 (fun h => absurd rfl h)
  | succ t ih =>
    intro ht
    have hpv := ih (by omega)
    obtain ⟨r, p, gg, x⟩ := h (t + 1) ht
    obtain ⟨s1, j0, s2, s3⟩ := hs (t + 1) ht
    have hi := fun i (hi : i < 12) => item_all (cf := cf) (pr := pr) (mean := M i) hb.1 hb.2.1 hb.2.2.1 hb.2.2.2 (t := t + 1) (by omega) hi (fun q h1 h2 => hpv.prev (by rw [show t + 1 - 1 = t from rfl] at h2; omega) (by omega))
    have hr : ∀ i, i < 12 → RZ 1015 1031 (rel ((t + 1) * 12 + i)) := fun i k => by rw [r i k]; exact (hi i k).2.1
    have hg : ∀ q, q < 4 → Rg 1015 1031 (grp ((t + 1) * 4 + q)) := fun q hq => by rw [gg q hq]; exact (grp_all (by decide) hr).2
    refine ⟨fun i k j hj => ?_, hr, hg, fun k hk => ?_, ?_⟩
    · rw [p i k j hj, r i k]; exact (hi i k).2.2 j hj
    · rw [x k hk]; exact (ix_all (by omega) (s1 k hk) hg (fun _ => hpv.2.2.2.1 k hk)).2
    · rw [x 0 (by decide)]; exact ix_lo (by omega) (s1 0 (by decide)) hg s2 s3 (fun _ => hpv.2.2.2.2)
theorem SerB.ag {rel pr grp idx rel' pr' grp' idx' : Nat → UInt64} {t T : Nat} (h : SerB rel pr grp idx t) (ha : SerAg rel pr grp idx rel' pr' grp' idx' T) (ht : t < T) : SerB rel' pr' grp' idx' t := by
  obtain ⟨a1, a2, a3, a4⟩ := ha
  refine ⟨fun i hi j hj => ?_, fun i hi => ?_, fun q hq => ?_, fun k hk => ?_, ?_⟩
  · rw [← a1 _ (by omega)]; exact h.1 i hi j hj
  · rw [← a2 _ (by omega)]; exact h.2.1 i hi
  · rw [← a3 _ (by omega)]; exact h.2.2.1 q hq
  · rw [← a4 _ (by omega)]; exact h.2.2.2.1 k hk
  · rw [← a4 _ (by omega)]; exact h.2.2.2.2
theorem pos_of {c g lc lg : Nat → Nat} {pr0 rel pr grp idx : Nat → UInt64} {T : Nat} (hb : DatB c g lc lg) (hT : T < 24) (hp : prEq T pr pr0) (hpv : T ≠ 0 → SerB rel pr grp idx (T - 1)) : (∀ q, q < T * 48 → (T - 1) * 48 ≤ q → PB (T - 1) (pr0 q)) ∧ ∀ k, T * 48 ≤ k → k < T * 48 + 48 → P0 (sRate c g k) ∧ P0 (sBase lc lg pr0 k) := by
  have h0 : ∀ q, q < T * 48 → (T - 1) * 48 ≤ q → PB (T - 1) (pr0 q) := fun q h1 h2 => by
    rw [← hp q h1]
    exact (hpv (by omega)).prev h2 (by omega)
  exact ⟨h0, fun k h1 h2 => ⟨(sRate_RZ (hb.1 _) (hb.2.1 _)).p0, RZ.p0 (sBase_BB hb.2.2.1 hb.2.2.2 h1 h2 (fun q hq => h0 q (by omega) (by omega)) hT)⟩⟩
/-- nothing that is no number is made in a month -/
theorem month_nn {cf : Nat → Bool} {c g lc lg M G : Nat → Nat} {n : Nat} {shr pr0 rel pr grp idx rel' pr' grp' idx' : Nat → UInt64} {T : Nat} (hn : n ≤ 12) (hb : DatB c g lc lg) (hs : ShB shr (T + 1)) (hT : T < 24) (hp : prEq T pr pr0) (hpv : T ≠ 0 → SerB rel pr grp idx (T - 1)) (h' : SerB rel' pr' grp' idx' T) :
    (∀ i, i < n → nnItem cf c g lc lg pr0 (M i) T i) ∧ (∀ q, q < 4 → nnGrp G rel' n q T) ∧ (∀ k, k < 5 → nnStep shr grp' k T) ∧ (∀ k, k < 5 → T ≠ 0 → vf_n64 (FP.dmul (idx ((T - 1) * 5 + k)) (sStep shr grp' k T 4))) ∧ nnNum (idx' (T * 5 + 0)) ∧ 1 ≤ sNumN (idx' (T * 5 + 0)) := by
  obtain ⟨s1, -⟩ := hs T (by omega)
  have hnum := num_all (by omega) (by omega) (h'.2.2.2.1 0 (by decide))
  exact ⟨fun i hi => (item_all hb.1 hb.2.1 hb.2.2.1 hb.2.2.2 hT (by omega) (pos_of hb hT hp hpv).1).1, fun q hq => (grp_all hn (fun i hi => h'.2.1 i (by omega))).1, fun k hk => (step_all (s1 k hk) h'.2.2.1).1, fun k hk h0 => (ix_all hT (s1 k hk) h'.2.2.1 (fun h => (hpv h).2.2.2.1 k hk)).1 h0, hnum.1, hnum.2⟩
theorem relF_in {its : Nat → UInt64} {t : Nat} {rel : Nat → UInt64} : ∀ {n i : Nat}, i < n → relF its t rel n (t * 12 + i) = its i
  | 0, _, h => absurd h (Nat.not_lt_zero _)
  | n + 1, i, h => by
    show vf_upd _ _ _ _ = _
    unfold vf_upd
    by_cases e : t * 12 + i = t * 12 + n
    · rw [if_pos e, show i = n by omega]
    · rw [if_neg e]; exact relF_in (by omega)
theorem relF_out {its : Nat → UInt64} {t : Nat} {rel : Nat → UInt64} : ∀ {n k : Nat}, (k < t * 12 ∨ t * 12 + n ≤ k) → relF its t rel n k = rel k
  | 0, _, _ => rfl
  | n + 1, k, h => by
    show vf_upd _ _ _ _ = _
    unfold vf_upd
    rw [if_neg (by omega)]; exact relF_out (by omega)
theorem prF_in {val : Nat → Nat → UInt64} {t : Nat} {pr : Nat → UInt64} : ∀ {n i j : Nat}, i < n → j < 4 → prF val t pr n (t * 48 + i * 4 + 0 + j) = val i (t * 48 + i * 4 + 0 + j)
  | 0, _, _, h, _ => absurd h (Nat.not_lt_zero _)
  | n + 1, i, j, h, hj => by
    show pF _ _ _ _ _ = _
    by_cases e : i = n
    · subst e; exact pF_in (by omega) (by omega)
    · rw [pF_lo (by omega)]; exact prF_in (by omega) hj
theorem prF_out {val : Nat → Nat → UInt64} {t : Nat} {pr : Nat → UInt64} : ∀ {n k : Nat}, (k < t * 48 ∨ t * 48 + n * 4 ≤ k) → prF val t pr n k = pr k
  | 0, _, _ => rfl
  | n + 1, k, h => by
    show pF _ _ _ _ _ = _
    rw [pF_lo (by omega)]; exact prF_out (by omega)
theorem grpF_in {G : Nat → Nat} {rel : Nat → UInt64} {n t : Nat} {grp : Nat → UInt64} : ∀ {m q : Nat}, q < m → grpF G rel n t grp m (t * 4 + q) = sGrp G rel n q t
  | 0, _, h => absurd h (Nat.not_lt_zero _)
  | m + 1, q, h => by
    show vf_upd _ _ _ _ = _
    unfold vf_upd
    by_cases e : t * 4 + q = t * 4 + m
    · rw [if_pos e, show q = m by omega]
    · rw [if_neg e]; exact grpF_in (by omega)
theorem grpF_out {G : Nat → Nat} {rel : Nat → UInt64} {n t : Nat} {grp : Nat → UInt64} : ∀ {m k : Nat}, (k < t * 4 ∨ t * 4 + m ≤ k) → grpF G rel n t grp m k = grp k
  | 0, _, _ => rfl
  | m + 1, k, h => by
    show vf_upd _ _ _ _ = _
    unfold vf_upd
    rw [if_neg (by omega)]; exact grpF_out (by omega)
theorem idxF_in {shr grp idx : Nat → UInt64} {t : Nat} : ∀ {m k : Nat}, k < m → idxF shr grp idx t m (t * 5 + k) = ixV shr grp idx t k
  | 0, _, h => absurd h (Nat.not_lt_zero _)
  | m + 1, k, h => by
    show vf_upd _ _ _ _ = _
    unfold vf_upd
    by_cases e : t * 5 + k = t * 5 + m
    · rw [if_pos e, show k = m by omega]
    · rw [if_neg e]; exact idxF_in (by omega)
theorem idxF_out {shr grp idx : Nat → UInt64} {t : Nat} : ∀ {m k : Nat}, (k < t * 5 ∨ t * 5 + m ≤ k) → idxF shr grp idx t m k = idx k
  | 0, _, _ => rfl
  | m + 1, k, h => by
    show vf_upd _ _ _ _ = _
    unfold vf_upd
    rw [if_neg (by omega)]; exact idxF_out (by omega)
theorem Mth_F {cf : Nat → Bool} {c g lc lg M G : Nat → Nat} {n : Nat} {shr pr0 rel pr grp idx : Nat → UInt64} {T : Nat} : Mth cf c g lc lg M G n shr pr0 rel pr grp idx (relF (sIts cf c g lc lg pr0 M T) T rel n) (prF (sVal cf c g lc lg pr0 M T) T pr n) (grpF G (relF (sIts cf c g lc lg pr0 M T) T rel n) n T grp 4) (idxF shr (grpF G (relF (sIts cf c g lc lg pr0 M T) T rel n) n T grp 4) idx T 5) T :=
  ⟨fun i hi => relF_in hi, fun i h1 h2 => relF_out (by omega), fun k hk => relF_out (Or.inl hk), fun i hi j hj => prF_in hi hj, fun i h1 h2 j hj => prF_out (by omega), fun k hk => prF_out (Or.inl hk), fun q hq => grpF_in hq, fun k hk => grpF_out (Or.inl hk), fun k hk => idxF_in hk, fun k hk => idxF_out (Or.inl hk)⟩
theorem DatZ_12 (c g lc : Nat → Nat) : DatZ c g lc 12 := fun _ _ h1 h2 => absurd h2 (by omega)
theorem RowZ_12 (rel pr : Nat → UInt64) : RowZ rel pr 12 := fun _ _ _ h1 h2 => absurd h2 (by omega)
/-- there are such rows -/
theorem SerOK.ex (cf : Nat → Bool) (c g lc lg M G : Nat → Nat) (shr : Nat → UInt64) : ∀ T, T ≤ 24 → ∃ rel pr grp idx : Nat → UInt64, SerOK cf c g lc lg M G shr rel pr grp idx T
  | 0, _ => ⟨fun _ => 0, fun _ => 0, fun _ => 0, fun _ => 0, fun t ht => absurd ht (Nat.not_lt_zero _)⟩
  | T + 1, hT => by
    obtain ⟨rel, pr, grp, idx, h⟩ := SerOK.ex cf c g lc lg M G shr T (by omega)
    exact ⟨_, _, _, _, SerOK.step (n := 12) (pr0 := pr) (Nat.le_refl 12) (by omega) h (fun _ _ => rfl) (DatZ_12 c g lc) (RowZ_12 rel pr) Mth_F⟩
/-- the months redone by the office -/
theorem reS_ok {cf : Nat → Bool} {c g lc lg M G : Nat → Nat} {n : Nat} {shr relC pr0 grpC idxC r p gr x : Nat → UInt64} {T : Nat} (hn : n ≤ 12) (hT : T ≤ 24) (hC : SerOK cf c g lc lg M G shr relC pr0 grpC idxC T) (hd : DatZ c g lc n) (hz : RowZ r p n) : ∀ m, m ≤ T → SerOK cf c g lc lg M G shr (reS cf c g lc lg pr0 M G n shr r p gr x m).1 (reS cf c g lc lg pr0 M G n shr r p gr x m).2.1 (reS cf c g lc lg pr0 M G n shr r p gr x m).2.2.1 (reS cf c g lc lg pr0 M G n shr r p gr x m).2.2.2 m ∧ RowZ (reS cf c g lc lg pr0 M G n shr r p gr x m).1 (reS cf c g lc lg pr0 M G n shr r p gr x m).2.1 n
  | 0, _ => ⟨fun t ht => absurd ht (Nat.not_lt_zero _), hz⟩
  | m + 1, hm => by
    obtain ⟨i1, i2⟩ := reS_ok hn hT hC hd hz m (by omega)
    have ag := SerOK.unique i1 (fun t ht => hC t (by omega))
    have hM := Mth_F (cf := cf) (c := c) (g := g) (lc := lc) (lg := lg) (M := M) (G := G) (n := n) (shr := shr) (pr0 := pr0) (rel := (reS cf c g lc lg pr0 M G n shr r p gr x m).1) (pr := (reS cf c g lc lg pr0 M G n shr r p gr x m).2.1) (grp := (reS cf c g lc lg pr0 M G n shr r p gr x m).2.2.1) (idx := (reS cf c g lc lg pr0 M G n shr r p gr x m).2.2.2) (T := m)
    exact ⟨SerOK.step hn (by omega) i1 ag.1 hd i2 hM, RowZ.step i2 hM (fun k hk => relF_out (Or.inr (by omega))) (fun k hk => prF_out (Or.inr (by omega)))⟩
theorem reS_nn {cf : Nat → Bool} {c g lc lg M G : Nat → Nat} {n : Nat} {shr relC pr0 grpC idxC r p gr x : Nat → UInt64} {T : Nat} (hn : n ≤ 12) (hT : T ≤ 24) (hb : DatB c g lc lg) (hs : ShB shr T) (hC : SerOK cf c g lc lg M G shr relC pr0 grpC idxC T) (hd : DatZ c g lc n) (hz : RowZ r p n) : ∀ m, m < T → nnRedo cf c g lc lg pr0 M G n shr r p gr x m := fun m hm => by
  obtain ⟨i1, i2⟩ := reS_ok (gr := gr) (x := x) hn hT hC hd hz m (by omega)
  obtain ⟨k1, k2⟩ := reS_ok (gr := gr) (x := x) hn hT hC hd hz (m + 1) (by omega)
  have ag := SerOK.unique i1 (fun t ht => hC t (by omega))
  have hs' : ShB shr (m + 1) := fun t ht => hs t (by omega)
  obtain ⟨a1, a2, a3, a4, -⟩ := month_nn (cf := cf) (M := M) (G := G) hn hb hs' (by omega) ag.1 (fun h0 => SerOK.bounds hb (fun t ht => hs t (by omega)) (by omega) i1 (m - 1) (by omega)) (SerOK.bounds hb hs' (by omega) k1 m (by omega))
  exact ⟨ag.1, a1, a2, fun k hk h0 => ⟨a3 k hk, a4 k hk h0⟩⟩
/-- the months of the reference, in a half of its rows -/
theorem prO_in {val : Nat → Nat → UInt64} {b0 t : Nat} {c : Nat → UInt64} : ∀ {n i j : Nat}, i < n → j < 4 → prO val b0 t c n (b0 + (t * 48 + i * 4 + 0 + j)) = val i (t * 48 + i * 4 + 0 + j)
  | 0, _, _, h, _ => absurd h (Nat.not_lt_zero _)
  | n + 1, i, j, h, hj => by
    show dF _ _ _ _ _ _ = _
    by_cases e : i = n
    · subst e; exact dF_in (by omega) (by omega)
    · rw [dF_out (by omega)]; exact prO_in (by omega) hj
theorem prO_out {val : Nat → Nat → UInt64} {b0 t : Nat} {c : Nat → UInt64} : ∀ {n k : Nat}, (k < b0 + t * 48 ∨ b0 + t * 48 + n * 4 ≤ k) → prO val b0 t c n k = c k
  | 0, _, _ => rfl
  | n + 1, k, h => by
    show dF _ _ _ _ _ _ = _
    rw [dF_out (by omega)]; exact prO_out (by omega)
theorem bO_in {val : Nat → Bool} {b0 t : Nat} {c : Nat → Bool} : ∀ {n i j : Nat}, i < n → j < 4 → bO val b0 t c n (b0 + (t * 48 + i * 4 + 0 + j)) = val (t * 48 + i * 4 + 0 + j)
  | 0, _, _, h, _ => absurd h (Nat.not_lt_zero _)
  | n + 1, i, j, h, hj => by
    show bF _ _ _ _ _ _ = _
    by_cases e : i = n
    · subst e; exact bF_in (by omega) (by omega)
    · rw [bF_out (by omega)]; exact bO_in (by omega) hj
theorem bO_out {val : Nat → Bool} {b0 t : Nat} {c : Nat → Bool} : ∀ {n k : Nat}, (k < b0 + t * 48 ∨ b0 + t * 48 + n * 4 ≤ k) → bO val b0 t c n k = c k
  | 0, _, _ => rfl
  | n + 1, k, h => by
    show bF _ _ _ _ _ _ = _
    rw [bF_out (by omega)]; exact bO_out (by omega)
theorem uF_at {f : Nat → UInt64} {a : Nat → UInt64} {k0 n i m : Nat} (hi : i < n) (e : m = k0 + i) : uF f k0 a n m = f i := by rw [e]; exact uF_in hi
