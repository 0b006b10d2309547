/-! worlds of which the empty rows say nothing: the row that all empty lists share is the JDK's, and what its cell bears beside its class and its length is not said -/
def gs (q : Nat × va_E) : Bool := match q.2 with
  | .inl x => x.2.1 != 0
  | .inr _ => true
def gvS (ws : va_W) : va_W := ws.filter gs
def gvP (D : va_G) (cl : List vw_C) (ws : va_W) (H : Heap) : Prop := va_P D cl (gvS ws) H
def gvD (A : Nat → Prop) (ws : va_W) : Prop := va_D A (gvS ws)
def gvA (ws : va_W) (sz : Nat) : Nat → Prop := va_A (gvS ws) sz
theorem gs_of {a : Nat} {cA : ClassId} {n : Nat} {f : (Nat → Int32) ⊕ (Nat → Int64) ⊕ (Nat → UInt32) ⊕ (Nat → UInt64) ⊕ (Nat → Option Nat)} (h : 0 < n) : gs (a, .inl (cA, n, f)) = true := by
  show (n != 0) = true
  exact bne_iff_ne.mpr (by omega)
theorem gs_in {a : Nat} {cA : ClassId} {n : Nat} {f : (Nat → Int32) ⊕ (Nat → Int64) ⊕ (Nat → UInt32) ⊕ (Nat → UInt64) ⊕ (Nat → Option Nat)} {i : Int32} (h : vp_in i n) : gs (a, .inl (cA, n, f)) = true := by
  refine gs_of ?_
  rcases Nat.eq_zero_or_pos n with rfl | q
  · exact absurd (Or.inr (Nat.zero_le _)) h
  · exact q
theorem gvS_at : ∀ {ws : va_W} {k : Nat} {q : Nat × va_E}, ws[k]? = some q → gs q = true → ∃ k' : Nat, (gvS ws)[k']? = some q ∧ ∀ v : Nat × va_E, gs v = true → gvS (ws.set k v) = (gvS ws).set k' v
  | [], k, q, h, _ => by simp at h
  | x :: ws, 0, q, h, hq => by
    have e : x = q := by simpa using h
    subst e
    refine ⟨0, by simp [gvS, hq], fun v hv => ?_⟩
    simp [gvS, hq, hv]
  | x :: ws, k + 1, q, h, hq => by
    obtain ⟨k', h1, h2⟩ := gvS_at (ws := ws) (k := k) (q := q) (by simpa using h) hq
    cases hx : gs x with
    | true =>
      refine ⟨k' + 1, by simpa [gvS, hx] using h1, fun v hv => ?_⟩
      have := h2 v hv
      simp only [gvS] at this
      simp [gvS, hx, this]
    | false =>
      refine ⟨k', by simpa [gvS, hx] using h1, fun v hv => ?_⟩
      have := h2 v hv
      simp only [gvS] at this
      simp [gvS, hx, this]
theorem gvS_app {ws : va_W} {z : Nat × va_E} (h : gs z = true) : gvS (ws ++ [z]) = gvS ws ++ [z] := by simp [gvS, h]
theorem gvD.weaken {A B : Nat → Prop} {ws : va_W} (h : gvD A ws) (hAB : ∀ (k : Nat) (q : Nat × va_E), (gvS ws)[k]? = some q → A q.1 → B q.1) : gvD B ws := va_D.weaken h hAB
theorem gvD.self {ws : va_W} {sz : Nat} {A : Nat → Prop} (h : gvD A ws) : gvD (gvA ws sz) ws := va_D.self h
theorem gvD.nil {A : Nat → Prop} : gvD A [] := ⟨fun i j p q h => by simp [gvS] at h, fun k q h => by simp [gvS] at h⟩
theorem gvP.nil {D : va_G} {cl : List vw_C} {H : Heap} : gvP D cl [] H := fun k q h => by simp [gvS] at h
/-- an empty row in front says nothing -/
theorem gvP.weak {D : va_G} {cl : List vw_C} {H : Heap} {z : Nat × va_E} (h : gs z = false) : gvP D cl [z] H := fun k q hq => by simp [gvS, h] at hq
theorem gvD.weak {A : Nat → Prop} {z : Nat × va_E} (h : gs z = false) : gvD A [z] := ⟨fun i j p q hq => by simp [gvS, h] at hq, fun k q hq => by simp [gvS, h] at hq⟩
theorem gv_recv {s : State} {H : Heap} {D : va_G} {cl : List vw_C} {a q0 ci : Nat} {q : vw_C} {fs : List Value} {ws : va_W} {tys : List (ClassId × FieldType)} (hK : va_K D cl tys s) (hP : gvP D cl ws H) (hc : cl[ci]? = some q) (he : ws[q0]? = some (a, .inr (ci, fs))) : ∃ cell : Cell, H[a]? = some cell ∧ cell.vm.isStatics = false ∧ s.vm.findClass q.1 = some cell.cls := by
  obtain ⟨k', h1, -⟩ := gvS_at he rfl
  exact va_recv hK hP hc h1
/-- one place of the world, alone -/
theorem gv1 {D : va_G} {cl : List vw_C} {ws : va_W} {H : Heap} {k a : Nat} {o : Nat × List Value} (h : gvP D cl ws H) (f : ws[k]? = some (a, .inr o)) : va_P D cl [(a, .inr o)] H := by
  obtain ⟨k', h1, -⟩ := gvS_at f rfl
  intro j q hq
  cases j with
  | zero =>
    have e : (a, (Sum.inr o : va_E)) = q := by simpa using hq
    subst e
    exact h k' _ h1
  | succ j => simp at hq
/-- a step that writes at one place, in the world that says nothing of empty rows -/
theorem gv_set {D : va_G} {cl : List vw_C} {A : Nat → Prop} {ws : va_W} {H0 : Heap} {k : Nat} {q v : Nat × va_E} {G : Prop} {F : Heap → List Loc → Prop} (f : ws[k]? = some q) (hq : gs q = true) (hv : gs v = true)
    (step : ∀ k' : Nat, (gvS ws)[k']? = some q → (∀ (H1 : Heap) (locs1 : List Loc), va_P D cl ((gvS ws).set k' v) H1 → va_D A ((gvS ws).set k' v) → va_S A H0 H1 locs1 → F H1 locs1) → G)
    (kk : ∀ (H1 : Heap) (locs1 : List Loc), gvP D cl (ws.set k v) H1 → gvD A (ws.set k v) → va_S A H0 H1 locs1 → F H1 locs1) : G := by
  obtain ⟨k', h1, h2⟩ := gvS_at f hq
  refine step k' h1 (fun H1 locs1 a1 a2 a3 => kk H1 locs1 ?_ ?_ a3)
  · unfold gvP; rw [h2 v hv]; exact a1
  · unfold gvD; rw [h2 v hv]; exact a2
/-- a step that makes a cell -/
theorem gv_add {D : va_G} {cl : List vw_C} {A : Nat → Prop} {ws : va_W} {H0 : Heap} {locs : List Loc} {z : Nat → Nat × va_E} {G : Prop} {F : Nat → Heap → Prop} (hz : ∀ q, gs (z q) = true)
    (step : (∀ (q : Nat) (H1 : Heap), va_P D cl (gvS ws ++ [z q]) H1 → va_D A (gvS ws ++ [z q]) → va_S A H0 H1 locs → F q H1) → G)
    (kk : ∀ (q : Nat) (H1 : Heap), gvP D cl (ws ++ [z q]) H1 → gvD A (ws ++ [z q]) → va_S A H0 H1 locs → F q H1) : G := by
  refine step (fun q H1 a1 a2 a3 => kk q H1 ?_ ?_ a3)
  · unfold gvP; rw [gvS_app (hz q)]; exact a1
  · unfold gvD; rw [gvS_app (hz q)]; exact a2
theorem gvP.of_set {D : va_G} {cl : List vw_C} {ws : va_W} {H : Heap} {k k' : Nat} {v : Nat × va_E} (e : gvS (ws.set k v) = (gvS ws).set k' v) (h : va_P D cl ((gvS ws).set k' v) H) : gvP D cl (ws.set k v) H := by
  unfold gvP; rw [e]; exact h
theorem gvD.of_set {A : Nat → Prop} {ws : va_W} {k k' : Nat} {v : Nat × va_E} (e : gvS (ws.set k v) = (gvS ws).set k' v) (h : va_D A ((gvS ws).set k' v)) : gvD A (ws.set k v) := by
  unfold gvD; rw [e]; exact h
theorem gvP.of_app {D : va_G} {cl : List vw_C} {ws : va_W} {H : Heap} {z : Nat × va_E} (h : va_P D cl (gvS ws ++ [z]) H) : gvP D cl (ws ++ [z]) H := by
  unfold gvP
  cases hz : gs z with
  | true => rw [gvS_app hz]; exact h
  | false =>
    have e : gvS (ws ++ [z]) = gvS ws := by simp [gvS, hz]
    rw [e]
    exact fun k q hk => h k q (by rw [List.getElem?_append_left (List.getElem?_eq_some_iff.mp hk).1]; exact hk)
theorem gvD.of_app {A : Nat → Prop} {ws : va_W} {z : Nat × va_E} (h : va_D A (gvS ws ++ [z])) : gvD A (ws ++ [z]) := by
  unfold gvD
  cases hz : gs z with
  | true => rw [gvS_app hz]; exact h
  | false =>
    have e : gvS (ws ++ [z]) = gvS ws := by simp [gvS, hz]
    have g : ∀ (k : Nat) (q : Nat × va_E), (gvS ws)[k]? = some q → (gvS ws ++ [z])[k]? = some q := fun k q hk => by
      rw [List.getElem?_append_left (List.getElem?_eq_some_iff.mp hk).1]; exact hk
    rw [e]
    exact ⟨fun i j p q h1 h2 h3 => h.1 i j p q (g i p h1) (g j q h2) h3, fun k q hk => h.2 k q (g k q hk)⟩
