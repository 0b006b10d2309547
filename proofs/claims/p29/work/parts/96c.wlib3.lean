/-! an item made, a contract made: the three ways of each row's room -/
theorem CRp.all {y : Nat → Nat} {e acta nc : Nat} {fw lag trig : Nat → Nat} {fl : Nat → Bool} {fm : Nat → Nat} {cs : Nat → Nat × Nat × Nat × Nat} {p : Nat} {rest rest9 : va_W} (h : CRp y e acta nc fw lag trig fl fm cs p rest) (hk : ∀ (q : Nat) (x : Nat × va_E), rest[q]? = some x → rest9[q]? = some x) : CRp y e acta nc fw lag trig fl fm cs p rest9 :=
  h.imp id (fun ⟨hn, q, adc, pk, h1, h2, h3⟩ => ⟨hn, q, adc, pk, hk _ _ h1, ⟨h2.1, h2.2.1, h2.2.2.1, fun k hk' => hk _ _ (h2.2.2.2 k hk')⟩, h3⟩)
theorem IRp.all {y : Nat → Nat} {e aita n : Nat} {G M Sn : Nat → Nat} {p : Nat} {rest rest9 : va_W} (h : IRp y e aita n G M Sn p rest) (hk : ∀ (q : Nat) (x : Nat × va_E), rest[q]? = some x → rest9[q]? = some x) : IRp y e aita n G M Sn p rest9 := by
  refine h.imp id (fun ⟨hn, cap, q, iad, h1, h2, h3⟩ => ⟨hn, cap, q, iad, hk _ _ h1, ⟨h2.1, h2.2.1, h2.2.2.1, fun i hi => ?_⟩, h3⟩)
  obtain ⟨k, hk'⟩ := h2.2.2.2 i hi
  exact ⟨k, hk _ _ hk'⟩
theorem CRp.lt {y : Nat → Nat} {e acta nc : Nat} {fw lag trig : Nat → Nat} {fl : Nat → Bool} {fm : Nat → Nat} {cs : Nat → Nat × Nat × Nat × Nat} {p : Nat} {rest : va_W} (h : CRp y e acta nc fw lag trig fl fm cs p rest) : nc = 0 ∨ p < rest.length := h.imp And.left (fun ⟨_, _, _, _, h1, _⟩ => g_lt h1)
theorem IRp.lt {y : Nat → Nat} {e aita n : Nat} {G M Sn : Nat → Nat} {p : Nat} {rest : va_W} (h : IRp y e aita n G M Sn p rest) : n = 0 ∨ p < rest.length := h.imp And.left (fun ⟨_, _, _, _, h1, _⟩ => g_lt h1)
theorem CRp.cs {y : Nat → Nat} {e acta nc : Nat} {fw lag trig : Nat → Nat} {fl : Nat → Bool} {fm : Nat → Nat} {cs cs' : Nat → Nat × Nat × Nat × Nat} {p : Nat} {rest : va_W} (h : CRp y e acta nc fw lag trig fl fm cs p rest) (hc : ∀ k, k < nc → cs k = cs' k) : CRp y e acta nc fw lag trig fl fm cs' p rest := h.imp id (fun ⟨hn, q, adc, pk, h1, h2, h3⟩ => ⟨hn, q, adc, pk, h1, h2.cs hc, h3⟩)
theorem kd_ne {rest : va_W} {p p' k : Nat} {z x : Nat × va_E} (h1 : rest[p]? = some z) (hz : gkd z.2 ≠ k) (hx : rest[p']? = some x) (hk : gkd x.2 = k) : p' ≠ p := fun e => by
  subst e
  rw [h1] at hx
  rw [Option.some.inj hx] at hz
  exact hz hk
theorem m1 {q p : Nat} (h : q ≠ p) : 42 + q ∉ [3, 42 + p] := by simp only [List.mem_cons, List.not_mem_nil, or_false]; omega
theorem m2 {q p : Nat} (h : q ≠ p) : 42 + q ∉ [29, 42 + p] := by simp only [List.mem_cons, List.not_mem_nil, or_false]; omega
theorem m3 {q : Nat} : 42 + q ∉ [3] := by simp only [List.mem_cons, List.not_mem_nil, or_false]; omega
theorem m4 {q : Nat} : 42 + q ∉ [29] := by simp only [List.mem_cons, List.not_mem_nil, or_false]; omega
theorem item_A {A B C rest u : va_W} {y : Nat → Nat} {e aita n nc acta cap ait g mn sn : Nat} {G M Sn : Nat → Nat} {pi pc : Nat} {q : Nat → Option Nat} {iad : Nat → Nat} {v : Nat × va_E} {fw lag trig : Nat → Nat} {fl : Nat → Bool} {fm : Nat → Nat} {cs : Nat → Nat × Nat × Nat × Nat} (hA : A.length = 30) (hB : B.length = 10) (hC : C.length = 2) (h0 : 0 < n) (h1 : rest[pi]? = some (aita, eQ y cap q)) (h2 : gIt rest n cap q iad G M Sn) (h3 : (n + 1 ≤ 10 ∧ cap = 10) ∨ (10 < n + 1 ∧ n + 1 ≤ 15 ∧ cap = 15)) (hCR : CRp y e acta nc fw lag trig fl fm cs pc rest) (hne : n = 0 ∨ nc = 0 ∨ pi ≠ pc)
    (k1 : gKeep (A ++ (B ++ (C ++ rest))) u [3, 42 + pi]) (k4 : u[3]? = some v) (k5 : u[42 + pi]? = some (aita, eQ y cap (va_up q n (some ait)))) (k6 : u[(A ++ (B ++ (C ++ rest))).length + 0]? = some (ait, .inr (2, [.int (nI g), .int (nI mn), .int (nI sn)]))) : ∃ rest9, u = A.set 3 v ++ (B ++ (C ++ rest9)) ∧ IRp y e aita (n + 1) (vf_upd G n g) (vf_upd M n mn) (vf_upd Sn n sn) pi rest9 ∧ CRp y e acta nc fw lag trig fl fm cs pc rest9 ∧ (n + 1 = 0 ∨ nc = 0 ∨ pi ≠ pc) := by
  obtain ⟨rest9, e1, e2, e3⟩ := grow_rest hA hB hC k1 (fun q hq => by simp only [List.mem_cons, List.not_mem_nil, or_false] at hq; omega) (by decide) k4
  have e4 : ∀ (q : Nat) (x : Nat × va_E), q ≠ pi → rest[q]? = some x → rest9[q]? = some x := fun q x hq => e3 q x (m1 hq)
  rw [W_len hA hB hC] at k6
  refine ⟨rest9, e1, Or.inr ⟨Nat.succ_pos _, cap, va_up q n (some ait), vf_upd iad n ait, (e2 pi).trans k5, gIt.add h2 (fun i hi p x hx hk => e4 p x (kd_ne h1 (kd4 (by decide)) hx hk) hx) (by omega) h2.2.1 (fun i hi => va_up_ne _ _ (by omega)) (va_up_self _ _ _) ((e2 rest.length).trans k6), h3⟩, hCR.keep e4 (fun hc => ?_) (fun x hx => ?_), ?_⟩
  · rcases hne with z | z | z
    · omega
    · omega
    · exact fun w => z w.symm
  · rw [h1] at hx
    rw [← Option.some.inj hx]
    exact kd4 (by decide)
  · rcases hne with z | z | z
    · omega
    · exact Or.inr (Or.inl z)
    · exact Or.inr (Or.inr z)
theorem item_B {A B C rest u : va_W} {y : Nat → Nat} {e nc acta a9 cap ait g mn sn : Nat} {G M Sn : Nat → Nat} {pi pc : Nat} {q : Nat → Option Nat} {iad : Nat → Nat} {v : Nat × va_E} {fw lag trig : Nat → Nat} {fl : Nat → Bool} {fm : Nat → Nat} {cs : Nat → Nat × Nat × Nat × Nat} (hA : A.length = 30) (hB : B.length = 10) (hC : C.length = 2) (h2 : gIt rest 10 cap q iad G M Sn) (hCR : CRp y e acta nc fw lag trig fl fm cs pc rest)
    (k1 : gKeep (A ++ (B ++ (C ++ rest))) u [3]) (k4 : u[3]? = some v) (k6 : u[(A ++ (B ++ (C ++ rest))).length + 0]? = some (ait, .inr (2, [.int (nI g), .int (nI mn), .int (nI sn)]))) (k5 : u[(A ++ (B ++ (C ++ rest))).length + 1]? = some (a9, eQ y 15 (va_up (va_cpy q (fun _ => none) 0 0 10) 10 (some ait)))) : ∃ rest9, u = A.set 3 v ++ (B ++ (C ++ rest9)) ∧ IRp y e a9 (10 + 1) (vf_upd G 10 g) (vf_upd M 10 mn) (vf_upd Sn 10 sn) (rest.length + 1) rest9 ∧ CRp y e acta nc fw lag trig fl fm cs pc rest9 ∧ (10 + 1 = 0 ∨ nc = 0 ∨ rest.length + 1 ≠ pc) := by
  obtain ⟨rest9, e1, e2, e3⟩ := grow_rest hA hB hC k1 (fun q hq => by simp only [List.mem_cons, List.not_mem_nil, or_false] at hq; omega) (by decide) k4
  have e4 : ∀ (q : Nat) (x : Nat × va_E), rest[q]? = some x → rest9[q]? = some x := fun q x => e3 q x m3
  rw [W_len hA hB hC] at k6 k5
  refine ⟨rest9, e1, Or.inr ⟨by decide, 15, _, vf_upd iad 10 ait, (e2 (rest.length + 1)).trans k5, gIt.add h2 (fun i hi p x hx hk => e4 p x hx) (by decide) (by decide) (fun i hi => ?_) (va_up_self _ _ _) ((e2 rest.length).trans k6), Or.inr ⟨by decide, by decide, rfl⟩⟩, hCR.all e4, ?_⟩
  · rw [va_up_ne _ _ (by omega)]
    unfold va_cpy
    rw [if_pos ⟨Nat.zero_le _, by omega⟩, Nat.zero_add, Nat.sub_zero]
  · exact Or.inr (hCR.lt.imp id (fun z => by omega))
theorem item_C {A B C rest u : va_W} {y : Nat → Nat} {e nc acta a9 ait g mn sn : Nat} {G M Sn : Nat → Nat} {pi pc : Nat} {v : Nat × va_E} {fw lag trig : Nat → Nat} {fl : Nat → Bool} {fm : Nat → Nat} {cs : Nat → Nat × Nat × Nat × Nat} (hA : A.length = 30) (hB : B.length = 10) (hC : C.length = 2) (hCR : CRp y e acta nc fw lag trig fl fm cs pc rest)
    (k1 : gKeep (A ++ (B ++ (C ++ rest))) u [3]) (k4 : u[3]? = some v) (k6 : u[(A ++ (B ++ (C ++ rest))).length + 0]? = some (ait, .inr (2, [.int (nI g), .int (nI mn), .int (nI sn)]))) (k5 : u[(A ++ (B ++ (C ++ rest))).length + 1]? = some (a9, eQ y 10 (va_up (fun _ => none) 0 (some ait)))) : ∃ rest9, u = A.set 3 v ++ (B ++ (C ++ rest9)) ∧ IRp y e a9 (0 + 1) (vf_upd G 0 g) (vf_upd M 0 mn) (vf_upd Sn 0 sn) (rest.length + 1) rest9 ∧ CRp y e acta nc fw lag trig fl fm cs pc rest9 ∧ (0 + 1 = 0 ∨ nc = 0 ∨ rest.length + 1 ≠ pc) := by
  obtain ⟨rest9, e1, e2, e3⟩ := grow_rest hA hB hC k1 (fun q hq => by simp only [List.mem_cons, List.not_mem_nil, or_false] at hq; omega) (by decide) k4
  have e4 : ∀ (q : Nat) (x : Nat × va_E), rest[q]? = some x → rest9[q]? = some x := fun q x => e3 q x m3
  rw [W_len hA hB hC] at k6 k5
  exact ⟨rest9, e1, Or.inr ⟨by decide, 10, _, vf_upd (fun _ => 0) 0 ait, (e2 (rest.length + 1)).trans k5, gIt.add (gIt.zero (ws := rest) (q := fun _ => none)) (fun i hi p x hx hk => e4 p x hx) (by decide) (by decide) (fun i hi => absurd hi (Nat.not_lt_zero _)) (va_up_self _ _ _) ((e2 rest.length).trans k6), Or.inl ⟨by decide, rfl⟩⟩, hCR.all e4, Or.inr (hCR.lt.imp id (fun z => by omega))⟩
theorem con_A {A B C rest u : va_W} {y : Nat → Nat} {e aita n nc acta ac wg lg tr fm9 : Nat} {bf : Bool} {c9 : Nat × Nat × Nat × Nat} {G M Sn : Nat → Nat} {pi pc : Nat} {q : Nat → Option Nat} {adc pk : Nat → Nat} {v : Nat × va_E} {fw lag trig : Nat → Nat} {fl : Nat → Bool} {fm : Nat → Nat} {cs : Nat → Nat × Nat × Nat × Nat} (hA : A.length = 30) (hB : B.length = 10) (hC : C.length = 2) (h0 : 0 < nc) (hnc : nc < 10) (h1 : rest[pc]? = some (acta, eQ y 10 q)) (h2 : gCt rest nc 10 q adc pk fw lag trig fl fm cs) (h3 : ∀ a b, a < nc → b < nc → pk a = pk b → a = b) (hI : IRp y e aita n G M Sn pi rest) (hne : n = 0 ∨ nc = 0 ∨ pi ≠ pc)
    (k1 : gKeep (A ++ (B ++ (C ++ rest))) u [29, 42 + pc]) (k4 : u[29]? = some v) (k5 : u[42 + pc]? = some (acta, eQ y 10 (va_up q nc (some ac)))) (k6 : u[(A ++ (B ++ (C ++ rest))).length + 0]? = some (ac, .inr (1, [.int (nI wg), .int (nI lg), .int (nI tr), .int (gb bf), .int (nI fm9), .long (lN c9.1), .long (lN c9.2.1), .int (nI c9.2.2.1), .long (lN c9.2.2.2)]))) : ∃ rest9, u = A.set 29 v ++ (B ++ (C ++ rest9)) ∧ CRp y e acta (nc + 1) (vf_upd fw nc wg) (vf_upd lag nc lg) (vf_upd trig nc tr) (vf_upd fl nc bf) (vf_upd fm nc fm9) (vf_upd cs nc c9) pc rest9 ∧ IRp y e aita n G M Sn pi rest9 ∧ (n = 0 ∨ nc + 1 = 0 ∨ pi ≠ pc) := by
  obtain ⟨rest9, e1, e2, e3⟩ := grow_rest hA hB hC k1 (fun q hq => by simp only [List.mem_cons, List.not_mem_nil, or_false] at hq; omega) (by decide) k4
  have e4 : ∀ (q : Nat) (x : Nat × va_E), q ≠ pc → rest[q]? = some x → rest9[q]? = some x := fun q x hq => e3 q x (m2 hq)
  rw [W_len hA hB hC] at k6
  refine ⟨rest9, e1, Or.inr ⟨Nat.succ_pos _, va_up q nc (some ac), vf_upd adc nc ac, vf_upd pk nc rest.length, (e2 pc).trans k5, gCt.add h2 (fun i hi p x hx hk => e4 p x (kd_ne h1 (kd4 (by decide)) hx hk) hx) (by omega) (by decide) (fun i hi => va_up_ne _ _ (by omega)) (va_up_self _ _ _) ((e2 rest.length).trans k6), fun a b ha hb hab => ?_⟩, hI.keep e4 (fun hc => ?_) (fun x hx => ?_), ?_⟩
  · unfold vf_upd at hab
    by_cases ea : a = nc
    · by_cases eb : b = nc
      · omega
      · rw [if_pos ea, if_neg eb] at hab
        have := g_lt (h2.2.2.2 b (by omega)); omega
    · by_cases eb : b = nc
      · rw [if_neg ea, if_pos eb] at hab
        have := g_lt (h2.2.2.2 a (by omega)); omega
      · rw [if_neg ea, if_neg eb] at hab
        exact h3 a b (by omega) (by omega) hab
  · rcases hne with z | z | z
    · omega
    · omega
    · exact z
  · rw [h1] at hx
    rw [← Option.some.inj hx]
    exact kd4 (by decide)
  · rcases hne with z | z | z
    · exact Or.inl z
    · omega
    · exact Or.inr (Or.inr z)
theorem con_C {A B C rest u : va_W} {y : Nat → Nat} {e aita n a9 ac wg lg tr fm9 : Nat} {bf : Bool} {c9 : Nat × Nat × Nat × Nat} {G M Sn : Nat → Nat} {pi : Nat} {v : Nat × va_E} {fw lag trig : Nat → Nat} {fl : Nat → Bool} {fm : Nat → Nat} {cs : Nat → Nat × Nat × Nat × Nat} (hA : A.length = 30) (hB : B.length = 10) (hC : C.length = 2) (hI : IRp y e aita n G M Sn pi rest)
    (k1 : gKeep (A ++ (B ++ (C ++ rest))) u [29]) (k4 : u[29]? = some v) (k6 : u[(A ++ (B ++ (C ++ rest))).length + 0]? = some (ac, .inr (1, [.int (nI wg), .int (nI lg), .int (nI tr), .int (gb bf), .int (nI fm9), .long (lN c9.1), .long (lN c9.2.1), .int (nI c9.2.2.1), .long (lN c9.2.2.2)]))) (k5 : u[(A ++ (B ++ (C ++ rest))).length + 1]? = some (a9, eQ y 10 (va_up (fun _ => none) 0 (some ac)))) : ∃ rest9, u = A.set 29 v ++ (B ++ (C ++ rest9)) ∧ CRp y e a9 (0 + 1) (vf_upd fw 0 wg) (vf_upd lag 0 lg) (vf_upd trig 0 tr) (vf_upd fl 0 bf) (vf_upd fm 0 fm9) (vf_upd cs 0 c9) (rest.length + 1) rest9 ∧ IRp y e aita n G M Sn pi rest9 ∧ (n = 0 ∨ 0 + 1 = 0 ∨ pi ≠ rest.length + 1) := by
  obtain ⟨rest9, e1, e2, e3⟩ := grow_rest hA hB hC k1 (fun q hq => by simp only [List.mem_cons, List.not_mem_nil, or_false] at hq; omega) (by decide) k4
  have e4 : ∀ (q : Nat) (x : Nat × va_E), rest[q]? = some x → rest9[q]? = some x := fun q x => e3 q x m4
  rw [W_len hA hB hC] at k6 k5
  exact ⟨rest9, e1, Or.inr ⟨by decide, _, vf_upd (fun _ => 0) 0 ac, vf_upd (fun _ => 0) 0 rest.length, (e2 (rest.length + 1)).trans k5, gCt.add (gCt.zero (ws := rest) (q := fun _ => none)) (fun i hi p x hx hk => e4 p x hx) (by decide) (by decide) (fun i hi => absurd hi (Nat.not_lt_zero _)) (va_up_self _ _ _) ((e2 rest.length).trans k6), fun a b ha hb _ => by omega⟩, hI.all e4, hI.lt.imp id (fun z => Or.inr (by omega))⟩
