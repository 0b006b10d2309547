/-! what is asked of the office and of the reference: equal answers, and no answer that is no number -/
theorem base_at {c g lc lg : Nat → Nat} {rel pr grp idx : Nat → UInt64} {T : Nat} (hb : DatB c g lc lg) (hs : ∀ t, t < T → SerB rel pr grp idx t) (hT : T ≤ 24) {t k : Nat} (ht : t < T) (h1 : t * 48 ≤ k) (h2 : k < t * 48 + 48) : RZ 833 1216 (sBase lc lg pr k) :=
  (sBase_BB hb.2.2.1 hb.2.2.2 h1 h2 (fun q hq => (hs (t - 1) (by omega)).prev (by omega) (by omega)) (by omega)).wide (by omega)
theorem nnIn_at {cf : Nat → Bool} {c g lc lg : Nat → Nat} {rel pr grp idx : Nat → UInt64} {T : Nat} (hb : DatB c g lc lg) (hs : ∀ t, t < T → SerB rel pr grp idx t) (hT : T ≤ 24) {k : Nat} (hk : k < T * 48) : nnIn (cf k) (sRate c g k) (sBase lc lg pr k) :=
  nnIn_of (sRate_RZ (hb.1 _) (hb.2.1 _)) (base_at hb hs hT (t := k / 48) (by omega) (by omega) (by omega))
theorem mul_0 {x : UInt64} (h : NF x) : FP.dmul 0 x = 0 := by
  have h1 := mul_le NF_zero h (m := 0) (by rw [uN_zero, Nat.zero_mul]; exact Nat.zero_le _)
  exact UInt64.toNat.inj (by rw [show (0 : UInt64).toNat = 0 from rfl]; omega)
theorem bounce_at {cf : Nat → Bool} {c g lc lg : Nat → Nat} {rel pr grp idx : Nat → UInt64} {T mean : Nat} (hb : DatB c g lc lg) (hs : ∀ t, t < T → SerB rel pr grp idx t) (hT : T ≤ 24) {t i : Nat} (ht : t < T) (hi : i < 12) : nnMean mean (rK cf c g lc lg pr) (sBase lc lg pr) (sRate c g) (t * 48 + i * 4 + 0) ∧ NF (sMean mean (rK cf c g lc lg pr) (sBase lc lg pr) (sRate c g) (t * 48 + i * 4 + 0)) := by
  obtain ⟨h1, h2⟩ := mean_all (mean := mean) (MK_of (cf := cf) hb.1 hb.2.1 hb.2.2.1 hb.2.2.2 (t := t) (by omega) hi (fun q h1 h2 => (hs (t - 1) (by omega)).prev (by omega) (by omega))).swap
  exact ⟨h1, RZ.nf h2⟩
theorem gtF_congr {gr gr' : Nat → UInt64} {t : Nat} (h : ∀ j, j < 4 → gr (t * 4 + j) = gr' (t * 4 + j)) : ∀ j, j ≤ 3 → gtF gr t j = gtF gr' t j
  | 0, _ => rfl
  | j + 1, hj => by
    have ih := gtF_congr h j (by omega)
    have hl := gtF_le gr' t j
    show (if Dgt (gr (t * 4 + (1 + j))) (gr (t * 4 + gtF gr t j)) then 1 + j else gtF gr t j) = (if Dgt (gr' (t * 4 + (1 + j))) (gr' (t * 4 + gtF gr' t j)) then 1 + j else gtF gr' t j)
    rw [ih, h (1 + j) (by omega), h (gtF gr' t j) (by omega)]
theorem lsF_congr {gr gr' : Nat → UInt64} {t gt l0 : Nat} (h : ∀ j, j < 4 → gr (t * 4 + j) = gr' (t * 4 + j)) (h0 : l0 < 4) : ∀ j, l0 + j ≤ 3 → lsF gr t gt l0 j = lsF gr' t gt l0 j
  | 0, _ => rfl
  | j + 1, hj => by
    have ih := lsF_congr (gt := gt) h h0 j (by omega)
    have hl := lsF_le gr' t gt l0 j
    show (if l0 + 1 + j ≠ gt ∧ Dlt (gr (t * 4 + (l0 + 1 + j))) (gr (t * 4 + lsF gr t gt l0 j)) then l0 + 1 + j else lsF gr t gt l0 j) = (if l0 + 1 + j ≠ gt ∧ Dlt (gr' (t * 4 + (l0 + 1 + j))) (gr' (t * 4 + lsF gr' t gt l0 j)) then l0 + 1 + j else lsF gr' t gt l0 j)
    rw [ih, h (l0 + 1 + j) (by omega), h (lsF gr' t gt l0 j) (by omega)]
theorem smF_congr {gr gr' : Nat → UInt64} {t gt ls : Nat} (h : ∀ j, j < 4 → gr (t * 4 + j) = gr' (t * 4 + j)) : ∀ j, j ≤ 4 → smF gr t gt ls j = smF gr' t gt ls j
  | 0, _ => rfl
  | j + 1, hj => by
    show (if j ≠ gt ∧ j ≠ ls then FP.dadd (smF gr t gt ls j) (gr (t * 4 + j)) else smF gr t gt ls j) = (if j ≠ gt ∧ j ≠ ls then FP.dadd (smF gr' t gt ls j) (gr' (t * 4 + j)) else smF gr' t gt ls j)
    rw [smF_congr h j (by omega), h j (by omega)]
theorem sCore_congr {gr gr' : Nat → UInt64} {t : Nat} (h : ∀ j, j < 4 → gr (t * 4 + j) = gr' (t * 4 + j)) : sCore gr t = sCore gr' t := by
  have e1 := gtF_congr h 3 (by omega)
  have e2 : ∀ l0, l0 < 2 → coreL gr t l0 = coreL gr' t l0 := fun l0 hl => by
    show lsF gr t (gtF gr t 3) l0 (3 - l0) = lsF gr' t (gtF gr' t 3) l0 (3 - l0)
    rw [e1]; exact lsF_congr h (by omega) _ (by omega)
  unfold sCore
  rw [e1, e2 _ (by split <;> omega), smF_congr h 4 (by omega)]
theorem prodF_congr {gr gr' : Nat → UInt64} {g : Nat} : ∀ {t : Nat}, (∀ j, j < t → gr ((1 + j) * 4 + g) = gr' ((1 + j) * 4 + g)) → prodF gr g t = prodF gr' g t
  | 0, _ => rfl
  | j + 1, h => by
    show FP.dmul (prodF gr g j) _ = FP.dmul (prodF gr' g j) _
    rw [prodF_congr (fun i hi => h i (by omega)), h j (by omega)]
theorem sDirect_congr {shr gr gr' : Nat → UInt64} {t : Nat} (h : ∀ j, j < t → ∀ g, g < 4 → gr ((1 + j) * 4 + g) = gr' ((1 + j) * 4 + g)) : sDirect shr gr t = sDirect shr gr' t := by
  have hd : ∀ j, j ≤ 4 → drF shr gr t j = drF shr gr' t j := by
    intro j
    induction j with
    | zero => exact fun _ => rfl
    | succ j ih =>
      intro hj
      show FP.dadd (drF shr gr t j) _ = FP.dadd (drF shr gr' t j) _
      rw [ih (by omega), prodF_congr (fun i hi => h i hi j (by omega))]
  unfold sDirect
  rw [hd 4 (by decide)]
theorem dbF_congr {M M' : Nat → Bool} {c : Nat → Nat} {b b' : Nat → UInt64} {k0 : Nat} : ∀ {j : Nat}, (∀ i, i < j → M (k0 + i) = M' (k0 + i) ∧ b (k0 + i) = b' (k0 + i)) → dbF M c b k0 j = dbF M' c b' k0 j
  | 0, _ => rfl
  | j + 1, h => by
    show (if 0 < c (k0 + j) ∧ Dgt (b (k0 + j)) 0 ∧ M (k0 + j) = false then dbF M c b k0 j + 1 else dbF M c b k0 j) = (if 0 < c (k0 + j) ∧ Dgt (b' (k0 + j)) 0 ∧ M' (k0 + j) = false then dbF M' c b' k0 j + 1 else dbF M' c b' k0 j)
    rw [(h j (by omega)).1, (h j (by omega)).2, dbF_congr (fun i hi => h i (by omega))]
theorem dbF_more {M : Nat → Bool} {c : Nat → Nat} {b : Nat → UInt64} {k0 n : Nat} : ∀ d : Nat, (∀ i, n ≤ i → i < n + d → c (k0 + i) = 0) → dbF M c b k0 (n + d) = dbF M c b k0 n
  | 0, _ => rfl
  | d + 1, h => by
    rw [← dbF_more d (fun i h1 h2 => h i h1 (by omega))]
    show (if 0 < c (k0 + (n + d)) ∧ _ then _ else _) = _
    rw [if_neg (fun z => by have := z.1; rw [h (n + d) (by omega) (by omega)] at this; omega)]
    rfl
theorem grow_eq {x x' : Nat → UInt64} {t : Nat} (h1 : x (t * 5 + 0) = x' (t * 5 + 0)) (h2 : x ((t - 12) * 5 + 0) = x' ((t - 12) * 5 + 0)) : sGrow x t = sGrow x' t ∧ (nnGrow x t → nnGrow x' t) := by
  unfold sGrow nnGrow
  rw [h1, h2]
  exact ⟨rfl, id⟩
theorem paR_congr {fw lag trig fm nw : Nat} {fl : Bool} {num num' : Nat → Nat} (h : ∀ q, q < nw → num q = num' q) (hf : fm < nw) : ∀ d, d ≤ nw - (fm + 1) → paR fw lag trig fl fm num d = paR fw lag trig fl fm num' d
  | 0, _ => by show (fw, num fm, fm, 0) = (fw, num' fm, fm, 0); rw [h fm hf]
  | d + 1, hd => by
    show payS lag trig fl num (fm + 1 + d) (paR fw lag trig fl fm num d) = payS lag trig fl num' (fm + 1 + d) (paR fw lag trig fl fm num' d)
    rw [paR_congr h hf d (by omega)]
    exact payS_num (h _ (by omega))
