section GL2
variable {p : Program} {l : Launch} {e : Env} {R : Room} {s : State} {m : MethodId} {args : Array Value} {below : List Frame} {meth : Method} {c : Code} {H : Heap} {locs : List Loc} {cells slots : Nat} {Q : State → Prop}
variable {cc : ByteArray} {pc : Nat} {ls : Array Slot} {rest : List Value} {D : va_G} {y : Nat → Nat} {A : Nat → Prop} {a : Nat} {ws : va_W} {H0 : Heap}
theorem g_iald (hexec : p.tables.exec = Jvm.exec) (hb : c.code = cc) (hE : gE D y s) (hP : gvP D vwCl ws H) (q0 : Nat) {n k : Nat} {f : Nat → Int32} (ha : ws[q0]? = some (a, eI y n f)) (hk : k < n) (hn : n < 2 ^ 31) (hdg : decode cc pc = .ok (.iaload, 1)) (kk : W p l e R s m args below meth c H locs cells slots Q (F0 m (pc + 1) ls (.int (f k) :: rest))) : W p l e R s m args below meth c H locs cells slots Q (F0 m pc ls (.int (nI k) :: .ref a :: rest)) := by
  obtain ⟨q9, ha9, -⟩ := gvS_at ha (gs_of (Nat.lt_of_le_of_lt (Nat.zero_le _) hk))
  refine va_iald hexec hb hE.1 hP q9 0 ha9 rfl (vp_in_nI hk hn) hdg ?_
  rw [nI_clamp (by omega)]
  exact kk
theorem g_iast (hexec : p.tables.exec = Jvm.exec) (hb : c.code = cc) (hE : gE D y s) (hP : gvP D vwCl ws H) (hD : gvD A ws) (hS : va_S A H0 H locs) (q0 : Nat) {n k : Nat} {f : Nat → Int32} {x : Int32} (ha : ws[q0]? = some (a, eI y n f)) (hk : k < n) (hn : n < 2 ^ 31) (hdg : decode cc pc = .ok (.iastore, 1)) (kk : ∀ (H1 : Heap) (locs1 : List Loc), gvP D vwCl (ws.set q0 (a, eI y n (vf_upd f k x))) H1 → gvD A (ws.set q0 (a, eI y n (vf_upd f k x))) → va_S A H0 H1 locs1 → W p l e R s m args below meth c H1 locs1 cells slots Q (F0 m (pc + 1) ls rest)) : W p l e R s m args below meth c H locs cells slots Q (F0 m pc ls (.int x :: .int (nI k) :: .ref a :: rest)) := by
  obtain ⟨q9, ha9, hs9⟩ := gvS_at ha (gs_of (Nat.lt_of_le_of_lt (Nat.zero_le _) hk))
  refine va_iast hexec hb hE.1 hP hD hS q9 0 ha9 rfl (vp_in_nI hk hn) hdg ?_
  intro H1 locs1 h1 h2 h3
  rw [nI_clamp (by omega)] at h1 h2
  have e : upd f k x = vf_upd f k x := rfl
  rw [e] at h1 h2
  exact kk H1 locs1 (gvP.of_set (hs9 _ (gs_of (Nat.lt_of_le_of_lt (Nat.zero_le _) hk))) h1) (gvD.of_set (hs9 _ (gs_of (Nat.lt_of_le_of_lt (Nat.zero_le _) hk))) h2) h3
theorem g_zald (hexec : p.tables.exec = Jvm.exec) (hb : c.code = cc) (hE : gE D y s) (hP : gvP D vwCl ws H) (q0 : Nat) {n k : Nat} {f : Nat → Bool} (ha : ws[q0]? = some (a, eZ y n f)) (hk : k < n) (hn : n < 2 ^ 31) (hdg : decode cc pc = .ok (.baload, 1)) (kk : W p l e R s m args below meth c H locs cells slots Q (F0 m (pc + 1) ls (.int (gb (f k)) :: rest))) : W p l e R s m args below meth c H locs cells slots Q (F0 m pc ls (.int (nI k) :: .ref a :: rest)) := by
  obtain ⟨q9, ha9, -⟩ := gvS_at ha (gs_of (Nat.lt_of_le_of_lt (Nat.zero_le _) hk))
  refine va_zald hexec hb hE.1 hP q9 1 ha9 rfl (vp_in_nI hk hn) hdg ?_
  rw [nI_clamp (by omega)]
  exact kk
theorem g_zast (hexec : p.tables.exec = Jvm.exec) (hb : c.code = cc) (hE : gE D y s) (hP : gvP D vwCl ws H) (hD : gvD A ws) (hS : va_S A H0 H locs) (q0 : Nat) {n k : Nat} {f : Nat → Bool} {x : Bool} (ha : ws[q0]? = some (a, eZ y n f)) (hk : k < n) (hn : n < 2 ^ 31) (hdg : decode cc pc = .ok (.bastore, 1)) (kk : ∀ (H1 : Heap) (locs1 : List Loc), gvP D vwCl (ws.set q0 (a, eZ y n (vf_upd f k x))) H1 → gvD A (ws.set q0 (a, eZ y n (vf_upd f k x))) → va_S A H0 H1 locs1 → W p l e R s m args below meth c H1 locs1 cells slots Q (F0 m (pc + 1) ls rest)) : W p l e R s m args below meth c H locs cells slots Q (F0 m pc ls (.int (gb x) :: .int (nI k) :: .ref a :: rest)) := by
  obtain ⟨q9, ha9, hs9⟩ := gvS_at ha (gs_of (Nat.lt_of_le_of_lt (Nat.zero_le _) hk))
  refine va_zast hexec hb hE.1 hP hD hS q9 1 ha9 rfl (vp_in_nI hk hn) hdg ?_
  intro H1 locs1 h1 h2 h3
  rw [nI_clamp (by omega)] at h1 h2
  rw [gb_nar] at h1 h2
  have e : (upd (fun k => gb (f k)) k (gb x)) = (fun j => gb (vf_upd f k x j)) := by funext j; unfold upd vf_upd; split <;> rfl
  rw [e] at h1 h2
  exact kk H1 locs1 (gvP.of_set (hs9 _ (gs_of (Nat.lt_of_le_of_lt (Nat.zero_le _) hk))) h1) (gvD.of_set (hs9 _ (gs_of (Nat.lt_of_le_of_lt (Nat.zero_le _) hk))) h2) h3
theorem g_dald (hexec : p.tables.exec = Jvm.exec) (hb : c.code = cc) (hE : gE D y s) (hP : gvP D vwCl ws H) (q0 : Nat) {n k : Nat} {f : Nat → UInt64} (ha : ws[q0]? = some (a, eD y n f)) (hk : k < n) (hn : n < 2 ^ 31) (hdg : decode cc pc = .ok (.daload, 1)) (kk : W p l e R s m args below meth c H locs cells slots Q (F0 m (pc + 1) ls (.double (f k) :: rest))) : W p l e R s m args below meth c H locs cells slots Q (F0 m pc ls (.int (nI k) :: .ref a :: rest)) := by
  obtain ⟨q9, ha9, -⟩ := gvS_at ha (gs_of (Nat.lt_of_le_of_lt (Nat.zero_le _) hk))
  refine va_dald hexec hb hE.1 hP q9 2 ha9 rfl (vp_in_nI hk hn) hdg ?_
  rw [nI_clamp (by omega)]
  exact kk
theorem g_dast (hexec : p.tables.exec = Jvm.exec) (hb : c.code = cc) (hE : gE D y s) (hP : gvP D vwCl ws H) (hD : gvD A ws) (hS : va_S A H0 H locs) (q0 : Nat) {n k : Nat} {f : Nat → UInt64} {x : UInt64} (ha : ws[q0]? = some (a, eD y n f)) (hk : k < n) (hn : n < 2 ^ 31) (hdg : decode cc pc = .ok (.dastore, 1)) (kk : ∀ (H1 : Heap) (locs1 : List Loc), gvP D vwCl (ws.set q0 (a, eD y n (vf_upd f k x))) H1 → gvD A (ws.set q0 (a, eD y n (vf_upd f k x))) → va_S A H0 H1 locs1 → W p l e R s m args below meth c H1 locs1 cells slots Q (F0 m (pc + 1) ls rest)) : W p l e R s m args below meth c H locs cells slots Q (F0 m pc ls (.double x :: .int (nI k) :: .ref a :: rest)) := by
  obtain ⟨q9, ha9, hs9⟩ := gvS_at ha (gs_of (Nat.lt_of_le_of_lt (Nat.zero_le _) hk))
  refine va_dast hexec hb hE.1 hP hD hS q9 2 ha9 rfl (vp_in_nI hk hn) hdg ?_
  intro H1 locs1 h1 h2 h3
  rw [nI_clamp (by omega)] at h1 h2
  have e : vf_upd f k x = vf_upd f k x := rfl
  rw [e] at h1 h2
  exact kk H1 locs1 (gvP.of_set (hs9 _ (gs_of (Nat.lt_of_le_of_lt (Nat.zero_le _) hk))) h1) (gvD.of_set (hs9 _ (gs_of (Nat.lt_of_le_of_lt (Nat.zero_le _) hk))) h2) h3
theorem g_nald (hexec : p.tables.exec = Jvm.exec) (hb : c.code = cc) (hE : gE D y s) (hP : gvP D vwCl ws H) (q0 : Nat) {n k : Nat} {f : Nat → Nat} (ha : ws[q0]? = some (a, eN y n f)) (hk : k < n) (hn : n < 2 ^ 31) (hdg : decode cc pc = .ok (.iaload, 1)) (kk : W p l e R s m args below meth c H locs cells slots Q (F0 m (pc + 1) ls (.int (nI (f k)) :: rest))) : W p l e R s m args below meth c H locs cells slots Q (F0 m pc ls (.int (nI k) :: .ref a :: rest)) := by
  obtain ⟨q9, ha9, -⟩ := gvS_at ha (gs_of (Nat.lt_of_le_of_lt (Nat.zero_le _) hk))
  refine va_iald hexec hb hE.1 hP q9 0 ha9 rfl (vp_in_nI hk hn) hdg ?_
  rw [nI_clamp (by omega)]
  exact kk
theorem g_nast (hexec : p.tables.exec = Jvm.exec) (hb : c.code = cc) (hE : gE D y s) (hP : gvP D vwCl ws H) (hD : gvD A ws) (hS : va_S A H0 H locs) (q0 : Nat) {n k : Nat} {f : Nat → Nat} {x : Nat} (ha : ws[q0]? = some (a, eN y n f)) (hk : k < n) (hn : n < 2 ^ 31) (hdg : decode cc pc = .ok (.iastore, 1)) (kk : ∀ (H1 : Heap) (locs1 : List Loc), gvP D vwCl (ws.set q0 (a, eN y n (vf_upd f k x))) H1 → gvD A (ws.set q0 (a, eN y n (vf_upd f k x))) → va_S A H0 H1 locs1 → W p l e R s m args below meth c H1 locs1 cells slots Q (F0 m (pc + 1) ls rest)) : W p l e R s m args below meth c H locs cells slots Q (F0 m pc ls (.int (nI x) :: .int (nI k) :: .ref a :: rest)) := by
  obtain ⟨q9, ha9, hs9⟩ := gvS_at ha (gs_of (Nat.lt_of_le_of_lt (Nat.zero_le _) hk))
  refine va_iast hexec hb hE.1 hP hD hS q9 0 ha9 rfl (vp_in_nI hk hn) hdg ?_
  intro H1 locs1 h1 h2 h3
  rw [nI_clamp (by omega)] at h1 h2
  have e : (upd (fun k => nI (f k)) k (nI x)) = (fun j => nI (vf_upd f k x j)) := by funext j; unfold upd vf_upd; split <;> rfl
  rw [e] at h1 h2
  exact kk H1 locs1 (gvP.of_set (hs9 _ (gs_of (Nat.lt_of_le_of_lt (Nat.zero_le _) hk))) h1) (gvD.of_set (hs9 _ (gs_of (Nat.lt_of_le_of_lt (Nat.zero_le _) hk))) h2) h3
theorem g_Lald (hexec : p.tables.exec = Jvm.exec) (hb : c.code = cc) (hE : gE D y s) (hP : gvP D vwCl ws H) (q0 : Nat) {n k : Nat} {f : Nat → Nat} (ha : ws[q0]? = some (a, eL y n f)) (hk : k < n) (hn : n < 2 ^ 31) (hdg : decode cc pc = .ok (.laload, 1)) (kk : W p l e R s m args below meth c H locs cells slots Q (F0 m (pc + 1) ls (.long (lN (f k)) :: rest))) : W p l e R s m args below meth c H locs cells slots Q (F0 m pc ls (.int (nI k) :: .ref a :: rest)) := by
  obtain ⟨q9, ha9, -⟩ := gvS_at ha (gs_of (Nat.lt_of_le_of_lt (Nat.zero_le _) hk))
  refine va_lald hexec hb hE.1 hP q9 3 ha9 rfl (vp_in_nI hk hn) hdg ?_
  rw [nI_clamp (by omega)]
  exact kk
theorem g_Last (hexec : p.tables.exec = Jvm.exec) (hb : c.code = cc) (hE : gE D y s) (hP : gvP D vwCl ws H) (hD : gvD A ws) (hS : va_S A H0 H locs) (q0 : Nat) {n k : Nat} {f : Nat → Nat} {x : Nat} (ha : ws[q0]? = some (a, eL y n f)) (hk : k < n) (hn : n < 2 ^ 31) (hdg : decode cc pc = .ok (.lastore, 1)) (kk : ∀ (H1 : Heap) (locs1 : List Loc), gvP D vwCl (ws.set q0 (a, eL y n (vf_upd f k x))) H1 → gvD A (ws.set q0 (a, eL y n (vf_upd f k x))) → va_S A H0 H1 locs1 → W p l e R s m args below meth c H1 locs1 cells slots Q (F0 m (pc + 1) ls rest)) : W p l e R s m args below meth c H locs cells slots Q (F0 m pc ls (.long (lN x) :: .int (nI k) :: .ref a :: rest)) := by
  obtain ⟨q9, ha9, hs9⟩ := gvS_at ha (gs_of (Nat.lt_of_le_of_lt (Nat.zero_le _) hk))
  refine va_last hexec hb hE.1 hP hD hS q9 3 ha9 rfl (vp_in_nI hk hn) hdg ?_
  intro H1 locs1 h1 h2 h3
  rw [nI_clamp (by omega)] at h1 h2
  have e : (vp_updL (fun k => lN (f k)) k (lN x)) = (fun j => lN (vf_upd f k x j)) := by funext j; unfold vp_updL vf_upd; split <;> rfl
  rw [e] at h1 h2
  exact kk H1 locs1 (gvP.of_set (hs9 _ (gs_of (Nat.lt_of_le_of_lt (Nat.zero_le _) hk))) h1) (gvD.of_set (hs9 _ (gs_of (Nat.lt_of_le_of_lt (Nat.zero_le _) hk))) h2) h3
theorem g_lald (hexec : p.tables.exec = Jvm.exec) (hb : c.code = cc) (hE : gE D y s) (hP : gvP D vwCl ws H) (q0 : Nat) {n k : Nat} {f : Nat → Int64} (ha : ws[q0]? = some (a, eJ y n f)) (hk : k < n) (hn : n < 2 ^ 31) (hdg : decode cc pc = .ok (.laload, 1)) (kk : W p l e R s m args below meth c H locs cells slots Q (F0 m (pc + 1) ls (.long (f k) :: rest))) : W p l e R s m args below meth c H locs cells slots Q (F0 m pc ls (.int (nI k) :: .ref a :: rest)) := by
  obtain ⟨q9, ha9, -⟩ := gvS_at ha (gs_of (Nat.lt_of_le_of_lt (Nat.zero_le _) hk))
  refine va_lald hexec hb hE.1 hP q9 3 ha9 rfl (vp_in_nI hk hn) hdg ?_
  rw [nI_clamp (by omega)]
  exact kk
theorem g_last (hexec : p.tables.exec = Jvm.exec) (hb : c.code = cc) (hE : gE D y s) (hP : gvP D vwCl ws H) (hD : gvD A ws) (hS : va_S A H0 H locs) (q0 : Nat) {n k : Nat} {f : Nat → Int64} {x : Int64} (ha : ws[q0]? = some (a, eJ y n f)) (hk : k < n) (hn : n < 2 ^ 31) (hdg : decode cc pc = .ok (.lastore, 1)) (kk : ∀ (H1 : Heap) (locs1 : List Loc), gvP D vwCl (ws.set q0 (a, eJ y n (vf_upd f k x))) H1 → gvD A (ws.set q0 (a, eJ y n (vf_upd f k x))) → va_S A H0 H1 locs1 → W p l e R s m args below meth c H1 locs1 cells slots Q (F0 m (pc + 1) ls rest)) : W p l e R s m args below meth c H locs cells slots Q (F0 m pc ls (.long x :: .int (nI k) :: .ref a :: rest)) := by
  obtain ⟨q9, ha9, hs9⟩ := gvS_at ha (gs_of (Nat.lt_of_le_of_lt (Nat.zero_le _) hk))
  refine va_last hexec hb hE.1 hP hD hS q9 3 ha9 rfl (vp_in_nI hk hn) hdg ?_
  intro H1 locs1 h1 h2 h3
  rw [nI_clamp (by omega)] at h1 h2
  have e : vp_updL f k x = vf_upd f k x := rfl
  rw [e] at h1 h2
  exact kk H1 locs1 (gvP.of_set (hs9 _ (gs_of (Nat.lt_of_le_of_lt (Nat.zero_le _) hk))) h1) (gvD.of_set (hs9 _ (gs_of (Nat.lt_of_le_of_lt (Nat.zero_le _) hk))) h2) h3
theorem g_qald (hexec : p.tables.exec = Jvm.exec) (hb : c.code = cc) (hE : gE D y s) (hP : gvP D vwCl ws H) (q0 : Nat) {n k v : Nat} {f : Nat → Option Nat} (ha : ws[q0]? = some (a, eQ y n f)) (hk : k < n) (hn : n < 2 ^ 31) (hv : f k = some v) (hdg : decode cc pc = .ok (.aaload, 1)) (kk : W p l e R s m args below meth c H locs cells slots Q (F0 m (pc + 1) ls (.ref v :: rest))) : W p l e R s m args below meth c H locs cells slots Q (F0 m pc ls (.int (nI k) :: .ref a :: rest)) := by
  obtain ⟨q9, ha9, -⟩ := gvS_at ha (gs_of (Nat.lt_of_le_of_lt (Nat.zero_le _) hk))
  refine va_aldq hexec hb hE.1 hP q9 4 ha9 rfl (vp_in_nI hk hn) hdg ?_
  rw [nI_clamp (by omega), hv]
  exact kk
theorem g_lgc {a b : Nat} (ha : a < 2 ^ 63) (hb : b < 2 ^ 63) : lg_cmp (lN a) (lN b) = if b < a then 1 else if a = b then 0 else (-1) := by
  unfold lg_cmp
  have h1 : lN a > lN b ↔ b < a := pk_lLT hb ha
  have h2 := pk_lEQ ha hb
  simp only [h1, h2]
theorem g_lcmp_eq (hexec : p.tables.exec = Jvm.exec) (hb : c.code = cc) {a b : Nat} {off : Int} {tgt : Nat} (ha : a < 2 ^ 63) (hb2 : b < 2 ^ 63) (hdg : decode cc pc = .ok (.lcmp, 1)) (hdh : decode cc (pc + 1) = .ok (.ifCond .eq off, 3)) (ht : ((pc + 1 : Nat) : Int) + off = (tgt : Int)) (kt : a = b → W p l e R s m args below meth c H locs cells slots Q (F0 m tgt ls rest)) (kf : a ≠ b → W p l e R s m args below meth c H locs cells slots Q (F0 m (pc + 1 + 3) ls rest)) : W p l e R s m args below meth c H locs cells slots Q (F0 m pc ls (.long (lN b) :: .long (lN a) :: rest)) := by
  refine W.lcmp hexec hb hdg ?_
  rw [g_lgc ha hb2]
  refine lv_if_eq hexec hb hdh ht (fun h => kt ?_) (fun h => kf ?_) <;> revert h <;> split <;> (try split) <;> intro h <;> first | omega | (exact absurd h (by decide)) | (exact absurd rfl h) | (exact absurd (by decide) h)
theorem g_lcmp_ne (hexec : p.tables.exec = Jvm.exec) (hb : c.code = cc) {a b : Nat} {off : Int} {tgt : Nat} (ha : a < 2 ^ 63) (hb2 : b < 2 ^ 63) (hdg : decode cc pc = .ok (.lcmp, 1)) (hdh : decode cc (pc + 1) = .ok (.ifCond .ne off, 3)) (ht : ((pc + 1 : Nat) : Int) + off = (tgt : Int)) (kt : a ≠ b → W p l e R s m args below meth c H locs cells slots Q (F0 m tgt ls rest)) (kf : a = b → W p l e R s m args below meth c H locs cells slots Q (F0 m (pc + 1 + 3) ls rest)) : W p l e R s m args below meth c H locs cells slots Q (F0 m pc ls (.long (lN b) :: .long (lN a) :: rest)) := by
  refine W.lcmp hexec hb hdg ?_
  rw [g_lgc ha hb2]
  refine lv_if_ne hexec hb hdh ht (fun h => kt ?_) (fun h => kf ?_) <;> revert h <;> split <;> (try split) <;> intro h <;> first | omega | (exact absurd h (by decide)) | (exact absurd rfl h) | (exact absurd (by decide) h)
theorem g_lcmp_lt (hexec : p.tables.exec = Jvm.exec) (hb : c.code = cc) {a b : Nat} {off : Int} {tgt : Nat} (ha : a < 2 ^ 63) (hb2 : b < 2 ^ 63) (hdg : decode cc pc = .ok (.lcmp, 1)) (hdh : decode cc (pc + 1) = .ok (.ifCond .lt off, 3)) (ht : ((pc + 1 : Nat) : Int) + off = (tgt : Int)) (kt : a < b → W p l e R s m args below meth c H locs cells slots Q (F0 m tgt ls rest)) (kf : b ≤ a → W p l e R s m args below meth c H locs cells slots Q (F0 m (pc + 1 + 3) ls rest)) : W p l e R s m args below meth c H locs cells slots Q (F0 m pc ls (.long (lN b) :: .long (lN a) :: rest)) := by
  refine W.lcmp hexec hb hdg ?_
  rw [g_lgc ha hb2]
  refine lv_if_lt hexec hb hdh ht (fun h => kt ?_) (fun h => kf ?_) <;> revert h <;> split <;> (try split) <;> intro h <;> first | omega | (exact absurd h (by decide)) | (exact absurd rfl h) | (exact absurd (by decide) h)
theorem g_lcmp_ge (hexec : p.tables.exec = Jvm.exec) (hb : c.code = cc) {a b : Nat} {off : Int} {tgt : Nat} (ha : a < 2 ^ 63) (hb2 : b < 2 ^ 63) (hdg : decode cc pc = .ok (.lcmp, 1)) (hdh : decode cc (pc + 1) = .ok (.ifCond .ge off, 3)) (ht : ((pc + 1 : Nat) : Int) + off = (tgt : Int)) (kt : b ≤ a → W p l e R s m args below meth c H locs cells slots Q (F0 m tgt ls rest)) (kf : a < b → W p l e R s m args below meth c H locs cells slots Q (F0 m (pc + 1 + 3) ls rest)) : W p l e R s m args below meth c H locs cells slots Q (F0 m pc ls (.long (lN b) :: .long (lN a) :: rest)) := by
  refine W.lcmp hexec hb hdg ?_
  rw [g_lgc ha hb2]
  refine lv_if_ge hexec hb hdh ht (fun h => kt ?_) (fun h => kf ?_) <;> revert h <;> split <;> (try split) <;> intro h <;> first | omega | (exact absurd h (by decide)) | (exact absurd rfl h) | (exact absurd (by decide) h)
theorem g_lcmp_gt (hexec : p.tables.exec = Jvm.exec) (hb : c.code = cc) {a b : Nat} {off : Int} {tgt : Nat} (ha : a < 2 ^ 63) (hb2 : b < 2 ^ 63) (hdg : decode cc pc = .ok (.lcmp, 1)) (hdh : decode cc (pc + 1) = .ok (.ifCond .gt off, 3)) (ht : ((pc + 1 : Nat) : Int) + off = (tgt : Int)) (kt : b < a → W p l e R s m args below meth c H locs cells slots Q (F0 m tgt ls rest)) (kf : a ≤ b → W p l e R s m args below meth c H locs cells slots Q (F0 m (pc + 1 + 3) ls rest)) : W p l e R s m args below meth c H locs cells slots Q (F0 m pc ls (.long (lN b) :: .long (lN a) :: rest)) := by
  refine W.lcmp hexec hb hdg ?_
  rw [g_lgc ha hb2]
  refine lv_if_gt hexec hb hdh ht (fun h => kt ?_) (fun h => kf ?_) <;> revert h <;> split <;> (try split) <;> intro h <;> first | omega | (exact absurd h (by decide)) | (exact absurd rfl h) | (exact absurd (by decide) h)
theorem g_lcmp_le (hexec : p.tables.exec = Jvm.exec) (hb : c.code = cc) {a b : Nat} {off : Int} {tgt : Nat} (ha : a < 2 ^ 63) (hb2 : b < 2 ^ 63) (hdg : decode cc pc = .ok (.lcmp, 1)) (hdh : decode cc (pc + 1) = .ok (.ifCond .le off, 3)) (ht : ((pc + 1 : Nat) : Int) + off = (tgt : Int)) (kt : a ≤ b → W p l e R s m args below meth c H locs cells slots Q (F0 m tgt ls rest)) (kf : b < a → W p l e R s m args below meth c H locs cells slots Q (F0 m (pc + 1 + 3) ls rest)) : W p l e R s m args below meth c H locs cells slots Q (F0 m pc ls (.long (lN b) :: .long (lN a) :: rest)) := by
  refine W.lcmp hexec hb hdg ?_
  rw [g_lgc ha hb2]
  refine lv_if_le hexec hb hdh ht (fun h => kt ?_) (fun h => kf ?_) <;> revert h <;> split <;> (try split) <;> intro h <;> first | omega | (exact absurd h (by decide)) | (exact absurd rfl h) | (exact absurd (by decide) h)
theorem g_dconst0 (hexec : p.tables.exec = Jvm.exec) (hb : c.code = cc) (hdg : decode cc pc = .ok (.dconst 0, 1)) (k : W p l e R s m args below meth c H locs cells slots Q (F0 m (pc + 1) ls (.double 0 :: rest))) : W p l e R s m args below meth c H locs cells slots Q (F0 m pc ls rest) := lv_dconst0 hexec hb hdg k
end GL2
def gkd (e : va_E) : Nat := match e with
  | .inr o => 10 + o.1
  | .inl (_, _, .inl _) => 0
  | .inl (_, _, .inr (.inl _)) => 1
  | .inl (_, _, .inr (.inr (.inl _))) => 2
  | .inl (_, _, .inr (.inr (.inr (.inl _)))) => 3
  | .inl (_, _, .inr (.inr (.inr (.inr _)))) => 4
theorem g_kne {ws : va_W} {p q : Nat} {x z : Nat × va_E} (h1 : ws[p]? = some x) (h2 : ws[q]? = some z) (h : gkd x.2 ≠ gkd z.2) : p ≠ q := by
  intro e
  rw [e] at h1
  exact h (by rw [Option.some.inj (h1.symm.trans h2)])
theorem g_same {ws : va_W} {p : Nat} {x : Nat × va_E} (h : ws[p]? = some x) : ws = ws.set p x := by
  obtain ⟨h1, h2⟩ := List.getElem?_eq_some_iff.mp h
  rw [← h2, List.set_getElem_self]
theorem g_trP {D : va_G} {cl : List vw_C} {w w' : va_W} {H : Heap} (h : w = w') (k : gvP D cl w H) : gvP D cl w' H := h ▸ k
theorem g_trD {A : Nat → Prop} {w w' : va_W} (h : w = w') (k : gvD A w) : gvD A w' := h ▸ k
theorem g_ss {l : va_W} {i : Nat} {a b : Nat × va_E} : (l.set i a).set i b = l.set i b := List.set_set ..
theorem g_sc {l l' : va_W} {i j : Nat} {a b : Nat × va_E} (h : i ≠ j) (k : l.set j b = l') : (l.set i a).set j b = l'.set i a := by rw [List.set_comm _ _ h, k]
theorem g_c {l l' : va_W} {i : Nat} {a : Nat × va_E} (h : l = l') : l.set i a = l'.set i a := by rw [h]
theorem gN.same {u U : State} (h : u.vm = U.vm) (hN : gN u) : gN U := by
  intro w hw
  refine va_Nw.same ?_ h (hN w hw)
  have k : ∀ w ∈ gNest, w.onTables = true := by decide +kernel
  exact k w hw
theorem gE.calling {D : va_G} {y : Nat → Nat} {U : State} {g : JFrame} {mk : MethodId} {a : Array Value} (h : gE D y U) : gE D y (U.calling g mk a) := ⟨va_K.moved (u := U) (U := U.calling g mk a) (Vm.Alike.refl U.vm) h.1, gN.same (u := U) (U := U.calling g mk a) rfl h.2⟩
theorem gE.warm {D : va_G} {y : Nat → Nat} {s U : State} (hW : s.WarmedH U.vm) (h : gE D y s) : gE D y U := ⟨va_K.moved hW.alike h.1, gN.warm hW h.2⟩
theorem gFree {A : Nat → Prop} {ws : va_W} {H0 H : Heap} {locs : List Loc} (hD : gvD A ws) (hS : va_S A H0 H locs) (hA : ∀ q, H0.size ≤ q → A q) : ∀ q, gvA ws H.size q → A q := by
  intro q h
  rcases h with ⟨k, e, h⟩ | h
  · exact hD.2 k (q, e) h
  · exact hA q (Nat.le_trans hS.1 h)
def gPre (D : va_G) (y : Nat → Nat) (ws : va_W) (sz : Nat) : State → Prop := fun U => U.heap.size = sz ∧ gvP D vwCl ws U.heap ∧ gE D y U ∧ gvD (fun _ => True) ws
def gPost (D : va_G) (A : Nat → Prop) (ws : va_W) : State → Prop := fun t => gvP D vwCl ws t.heap ∧ gvD A ws
theorem gBlind {D : va_G} {y : Nat → Nat} {ws : va_W} {sz : Nat} {av : List Value} : FrameBlind (va_Pc av (gPre D y ws sz)) := fun _ _ _ _ q => ⟨q.1, q.2.1, q.2.2.1, q.2.2.2.1.calling, q.2.2.2.2⟩
theorem gHere {D : va_G} {y : Nat → Nat} {ws : va_W} {av : List Value} {A : Nat → Prop} {s U : State} {H : Heap} (hP : gvP D vwCl ws H) (hD : gvD A ws) (hE : gE D y s) (hU : U.heap = H) (hW : s.WarmedH U.vm) : va_Pc av (gPre D y ws H.size) av.toArray U := ⟨rfl, by rw [hU], by rw [hU]; exact hP, hE.warm hW, hD.weaken (fun _ _ _ _ => trivial)⟩
def gMr {S : Type} (l : Launch) (yy : MethodName) (wsy : List Cond) (rm : Room) (D : va_G) (y : Nat → Nat) (av : List Value) (ws : va_W) (post : Nat → S → Prop) (ws' : S → va_W) : Prop := ∀ sz : Nat, Met l yy wsy rm (va_Pc av (gPre D y ws sz)) (va_Qr (fun _ => True) (fun u r t => post r u ∧ gPost D (gvA ws sz) (ws' u) t) (gvA ws sz)) rm.cells rm.slots (gvA ws sz)
theorem g_met_r {S : Type} {l : Launch} {yy : MethodName} {wsy wst : List Cond} {rm : Room} {D : va_G} {y : Nat → Nat} {av : List Value} {ws : va_W} {post : Nat → S → Prop} {ws' : S → va_W} {cc : ByteArray} {maxL : Nat} {rt : FieldType} (hy : plainName yy.cls = true) (hw : wsy = Cond.code yy cc maxL (some rt) :: wst) (hlen : (lg_sl av).length ≤ maxL)
    (body : ∀ (p : Program) (e : Env) (s : State) (m : MethodId) (below : List Frame) (meth : Method) (c : Code) (A : Nat → Prop), p.tables.exec = Jvm.exec → c.code = cc → c.maxLocals = maxL → meth.sig.returnType = some rt → (∀ w ∈ wsy, w.before av.toArray s = true) → s.vm.findClass yy.cls = some m.cls → meth.name = yy.name → meth.locks = false → gE D y s → gvP D vwCl ws s.heap → gvD A ws → va_S A s.heap s.heap [] → (∀ q : Nat, s.heap.size ≤ q → A q) → ∀ ls : Array Slot, lv_has ls maxL (lv_args 0 av) →
      W p l e rm s m av.toArray below meth c s.heap [] 0 0 (MQ below (va_Qr (fun _ => True) (fun u r t => post r u ∧ gPost D A (ws' u) t) A) av.toArray s rm.cells rm.slots A) (F0 m 0 ls [])) : gMr l yy wsy rm D y av ws post ws' := by
  intro sz
  refine Met.ofW (cc := cc) (maxL := maxL) (ret := some rt) hy hw ?_
  intro p e s m args below meth c s₁ B hml hv
  obtain ⟨rfl, hsz, hP, hE, hD0⟩ := hv
  subst hsz
  have hl := lv_entry av (n := maxL) hlen
  rw [lg_entry_eq]
  exact body p e s m below meth c (gvA ws s.heap.size) B.exec B.bytes hml B.returns (atoms_spec (ws := wsy) B.pre) (findClass_of_methodNamed B.named) (name_of_methodNamed B.named B.method).1 B.notSynchronized hE hP hD0.self va_S.rf (fun q h => Or.inr h) _ hl
def gMd {S : Type} (l : Launch) (yy : MethodName) (wsy : List Cond) (rm : Room) (D : va_G) (y : Nat → Nat) (av : List Value) (ws : va_W) (post : UInt64 → S → Prop) (ws' : S → va_W) : Prop := ∀ sz : Nat, Met l yy wsy rm (va_Pc av (gPre D y ws sz)) (va_Qd post (fun u => gPost D (gvA ws sz) (ws' u)) (gvA ws sz)) rm.cells rm.slots (gvA ws sz)
def gMi {S : Type} (l : Launch) (yy : MethodName) (wsy : List Cond) (rm : Room) (D : va_G) (y : Nat → Nat) (av : List Value) (ws : va_W) (post : Int32 → S → Prop) (ws' : S → va_W) : Prop := ∀ sz : Nat, Met l yy wsy rm (va_Pc av (gPre D y ws sz)) (va_Qi post (fun u => gPost D (gvA ws sz) (ws' u)) (gvA ws sz)) rm.cells rm.slots (gvA ws sz)
def gMl {S : Type} (l : Launch) (yy : MethodName) (wsy : List Cond) (rm : Room) (D : va_G) (y : Nat → Nat) (av : List Value) (ws : va_W) (post : Int64 → S → Prop) (ws' : S → va_W) : Prop := ∀ sz : Nat, Met l yy wsy rm (va_Pc av (gPre D y ws sz)) (va_Ql post (fun u => gPost D (gvA ws sz) (ws' u)) (gvA ws sz)) rm.cells rm.slots (gvA ws sz)
def gMf {S : Type} (l : Launch) (yy : MethodName) (wsy : List Cond) (rm : Room) (D : va_G) (y : Nat → Nat) (av : List Value) (ws : va_W) (post : UInt32 → S → Prop) (ws' : S → va_W) : Prop := ∀ sz : Nat, Met l yy wsy rm (va_Pc av (gPre D y ws sz)) (va_Qf post (fun u => gPost D (gvA ws sz) (ws' u)) (gvA ws sz)) rm.cells rm.slots (gvA ws sz)
def gMv {S : Type} (l : Launch) (yy : MethodName) (wsy : List Cond) (rm : Room) (D : va_G) (y : Nat → Nat) (av : List Value) (ws : va_W) (post : S → Prop) (ws' : S → va_W) : Prop := ∀ sz : Nat, Met l yy wsy rm (va_Pc av (gPre D y ws sz)) (va_Qv post (fun u => gPost D (gvA ws sz) (ws' u)) (gvA ws sz)) rm.cells rm.slots (gvA ws sz)
theorem g_met_d {S : Type} {l : Launch} {yy : MethodName} {wsy wst : List Cond} {rm : Room} {D : va_G} {y : Nat → Nat} {av : List Value} {ws : va_W} {post : UInt64 → S → Prop} {ws' : S → va_W} {cc : ByteArray} {maxL : Nat} (hy : plainName yy.cls = true) (hw : wsy = Cond.code yy cc maxL (some .double) :: wst) (hlen : (lg_sl av).length ≤ maxL)
    (body : ∀ (p : Program) (e : Env) (s : State) (m : MethodId) (below : List Frame) (meth : Method) (c : Code) (A : Nat → Prop), p.tables.exec = Jvm.exec → c.code = cc → c.maxLocals = maxL → meth.sig.returnType = some .double → (∀ w ∈ wsy, w.before av.toArray s = true) → s.vm.findClass yy.cls = some m.cls → meth.name = yy.name → meth.locks = false → gE D y s → gvP D vwCl ws s.heap → gvD A ws → va_S A s.heap s.heap [] → (∀ q : Nat, s.heap.size ≤ q → A q) → ∀ ls : Array Slot, lv_has ls maxL (lv_args 0 av) →
      W p l e rm s m av.toArray below meth c s.heap [] 0 0 (MQ below (va_Qd post (fun u => gPost D A (ws' u)) A) av.toArray s rm.cells rm.slots A) (F0 m 0 ls [])) : gMd l yy wsy rm D y av ws post ws' := by
  intro sz
  refine Met.ofW (cc := cc) (maxL := maxL) (ret := some .double) hy hw ?_
  intro p e s m args below meth c s₁ B hml hv
  obtain ⟨rfl, hsz, hP, hE, hD0⟩ := hv
  subst hsz
  have hl := lv_entry av (n := maxL) hlen
  rw [lg_entry_eq]
  exact body p e s m below meth c (gvA ws s.heap.size) B.exec B.bytes hml B.returns (atoms_spec (ws := wsy) B.pre) (findClass_of_methodNamed B.named) (name_of_methodNamed B.named B.method).1 B.notSynchronized hE hP hD0.self va_S.rf (fun q h => Or.inr h) _ hl
theorem g_met_i {S : Type} {l : Launch} {yy : MethodName} {wsy wst : List Cond} {rm : Room} {D : va_G} {y : Nat → Nat} {av : List Value} {ws : va_W} {post : Int32 → S → Prop} {ws' : S → va_W} {cc : ByteArray} {maxL : Nat} (hy : plainName yy.cls = true) (hw : wsy = Cond.code yy cc maxL (some .int) :: wst) (hlen : (lg_sl av).length ≤ maxL)
    (body : ∀ (p : Program) (e : Env) (s : State) (m : MethodId) (below : List Frame) (meth : Method) (c : Code) (A : Nat → Prop), p.tables.exec = Jvm.exec → c.code = cc → c.maxLocals = maxL → meth.sig.returnType = some .int → (∀ w ∈ wsy, w.before av.toArray s = true) → s.vm.findClass yy.cls = some m.cls → meth.name = yy.name → meth.locks = false → gE D y s → gvP D vwCl ws s.heap → gvD A ws → va_S A s.heap s.heap [] → (∀ q : Nat, s.heap.size ≤ q → A q) → ∀ ls : Array Slot, lv_has ls maxL (lv_args 0 av) →
      W p l e rm s m av.toArray below meth c s.heap [] 0 0 (MQ below (va_Qi post (fun u => gPost D A (ws' u)) A) av.toArray s rm.cells rm.slots A) (F0 m 0 ls [])) : gMi l yy wsy rm D y av ws post ws' := by
  intro sz
  refine Met.ofW (cc := cc) (maxL := maxL) (ret := some .int) hy hw ?_
  intro p e s m args below meth c s₁ B hml hv
  obtain ⟨rfl, hsz, hP, hE, hD0⟩ := hv
  subst hsz
  have hl := lv_entry av (n := maxL) hlen
  rw [lg_entry_eq]
  exact body p e s m below meth c (gvA ws s.heap.size) B.exec B.bytes hml B.returns (atoms_spec (ws := wsy) B.pre) (findClass_of_methodNamed B.named) (name_of_methodNamed B.named B.method).1 B.notSynchronized hE hP hD0.self va_S.rf (fun q h => Or.inr h) _ hl
theorem g_met_l {S : Type} {l : Launch} {yy : MethodName} {wsy wst : List Cond} {rm : Room} {D : va_G} {y : Nat → Nat} {av : List Value} {ws : va_W} {post : Int64 → S → Prop} {ws' : S → va_W} {cc : ByteArray} {maxL : Nat} (hy : plainName yy.cls = true) (hw : wsy = Cond.code yy cc maxL (some .long) :: wst) (hlen : (lg_sl av).length ≤ maxL)
    (body : ∀ (p : Program) (e : Env) (s : State) (m : MethodId) (below : List Frame) (meth : Method) (c : Code) (A : Nat → Prop), p.tables.exec = Jvm.exec → c.code = cc → c.maxLocals = maxL → meth.sig.returnType = some .long → (∀ w ∈ wsy, w.before av.toArray s = true) → s.vm.findClass yy.cls = some m.cls → meth.name = yy.name → meth.locks = false → gE D y s → gvP D vwCl ws s.heap → gvD A ws → va_S A s.heap s.heap [] → (∀ q : Nat, s.heap.size ≤ q → A q) → ∀ ls : Array Slot, lv_has ls maxL (lv_args 0 av) →
      W p l e rm s m av.toArray below meth c s.heap [] 0 0 (MQ below (va_Ql post (fun u => gPost D A (ws' u)) A) av.toArray s rm.cells rm.slots A) (F0 m 0 ls [])) : gMl l yy wsy rm D y av ws post ws' := by
  intro sz
  refine Met.ofW (cc := cc) (maxL := maxL) (ret := some .long) hy hw ?_
  intro p e s m args below meth c s₁ B hml hv
  obtain ⟨rfl, hsz, hP, hE, hD0⟩ := hv
  subst hsz
  have hl := lv_entry av (n := maxL) hlen
  rw [lg_entry_eq]
  exact body p e s m below meth c (gvA ws s.heap.size) B.exec B.bytes hml B.returns (atoms_spec (ws := wsy) B.pre) (findClass_of_methodNamed B.named) (name_of_methodNamed B.named B.method).1 B.notSynchronized hE hP hD0.self va_S.rf (fun q h => Or.inr h) _ hl
theorem g_met_f {S : Type} {l : Launch} {yy : MethodName} {wsy wst : List Cond} {rm : Room} {D : va_G} {y : Nat → Nat} {av : List Value} {ws : va_W} {post : UInt32 → S → Prop} {ws' : S → va_W} {cc : ByteArray} {maxL : Nat} (hy : plainName yy.cls = true) (hw : wsy = Cond.code yy cc maxL (some .float) :: wst) (hlen : (lg_sl av).length ≤ maxL)
    (body : ∀ (p : Program) (e : Env) (s : State) (m : MethodId) (below : List Frame) (meth : Method) (c : Code) (A : Nat → Prop), p.tables.exec = Jvm.exec → c.code = cc → c.maxLocals = maxL → meth.sig.returnType = some .float → (∀ w ∈ wsy, w.before av.toArray s = true) → s.vm.findClass yy.cls = some m.cls → meth.name = yy.name → meth.locks = false → gE D y s → gvP D vwCl ws s.heap → gvD A ws → va_S A s.heap s.heap [] → (∀ q : Nat, s.heap.size ≤ q → A q) → ∀ ls : Array Slot, lv_has ls maxL (lv_args 0 av) →
      W p l e rm s m av.toArray below meth c s.heap [] 0 0 (MQ below (va_Qf post (fun u => gPost D A (ws' u)) A) av.toArray s rm.cells rm.slots A) (F0 m 0 ls [])) : gMf l yy wsy rm D y av ws post ws' := by
  intro sz
  refine Met.ofW (cc := cc) (maxL := maxL) (ret := some .float) hy hw ?_
  intro p e s m args below meth c s₁ B hml hv
  obtain ⟨rfl, hsz, hP, hE, hD0⟩ := hv
  subst hsz
  have hl := lv_entry av (n := maxL) hlen
  rw [lg_entry_eq]
  exact body p e s m below meth c (gvA ws s.heap.size) B.exec B.bytes hml B.returns (atoms_spec (ws := wsy) B.pre) (findClass_of_methodNamed B.named) (name_of_methodNamed B.named B.method).1 B.notSynchronized hE hP hD0.self va_S.rf (fun q h => Or.inr h) _ hl
theorem g_met_z {S : Type} {l : Launch} {yy : MethodName} {wsy wst : List Cond} {rm : Room} {D : va_G} {y : Nat → Nat} {av : List Value} {ws : va_W} {post : Int32 → S → Prop} {ws' : S → va_W} {cc : ByteArray} {maxL : Nat} (hy : plainName yy.cls = true) (hw : wsy = Cond.code yy cc maxL (some .boolean) :: wst) (hlen : (lg_sl av).length ≤ maxL)
    (body : ∀ (p : Program) (e : Env) (s : State) (m : MethodId) (below : List Frame) (meth : Method) (c : Code) (A : Nat → Prop), p.tables.exec = Jvm.exec → c.code = cc → c.maxLocals = maxL → meth.sig.returnType = some .boolean → (∀ w ∈ wsy, w.before av.toArray s = true) → s.vm.findClass yy.cls = some m.cls → meth.name = yy.name → meth.locks = false → gE D y s → gvP D vwCl ws s.heap → gvD A ws → va_S A s.heap s.heap [] → (∀ q : Nat, s.heap.size ≤ q → A q) → ∀ ls : Array Slot, lv_has ls maxL (lv_args 0 av) →
      W p l e rm s m av.toArray below meth c s.heap [] 0 0 (MQ below (va_Qi post (fun u => gPost D A (ws' u)) A) av.toArray s rm.cells rm.slots A) (F0 m 0 ls [])) : gMi l yy wsy rm D y av ws post ws' := by
  intro sz
  refine Met.ofW (cc := cc) (maxL := maxL) (ret := some .boolean) hy hw ?_
  intro p e s m args below meth c s₁ B hml hv
  obtain ⟨rfl, hsz, hP, hE, hD0⟩ := hv
  subst hsz
  have hl := lv_entry av (n := maxL) hlen
  rw [lg_entry_eq]
  exact body p e s m below meth c (gvA ws s.heap.size) B.exec B.bytes hml B.returns (atoms_spec (ws := wsy) B.pre) (findClass_of_methodNamed B.named) (name_of_methodNamed B.named B.method).1 B.notSynchronized hE hP hD0.self va_S.rf (fun q h => Or.inr h) _ hl
theorem g_met_v {S : Type} {l : Launch} {yy : MethodName} {wsy wst : List Cond} {rm : Room} {D : va_G} {y : Nat → Nat} {av : List Value} {ws : va_W} {post : S → Prop} {ws' : S → va_W} {cc : ByteArray} {maxL : Nat} (hy : plainName yy.cls = true) (hw : wsy = Cond.code yy cc maxL (none) :: wst) (hlen : (lg_sl av).length ≤ maxL)
    (body : ∀ (p : Program) (e : Env) (s : State) (m : MethodId) (below : List Frame) (meth : Method) (c : Code) (A : Nat → Prop), p.tables.exec = Jvm.exec → c.code = cc → c.maxLocals = maxL → meth.sig.returnType = none → (∀ w ∈ wsy, w.before av.toArray s = true) → s.vm.findClass yy.cls = some m.cls → meth.name = yy.name → meth.locks = false → gE D y s → gvP D vwCl ws s.heap → gvD A ws → va_S A s.heap s.heap [] → (∀ q : Nat, s.heap.size ≤ q → A q) → ∀ ls : Array Slot, lv_has ls maxL (lv_args 0 av) →
      W p l e rm s m av.toArray below meth c s.heap [] 0 0 (MQ below (va_Qv post (fun u => gPost D A (ws' u)) A) av.toArray s rm.cells rm.slots A) (F0 m 0 ls [])) : gMv l yy wsy rm D y av ws post ws' := by
  intro sz
  refine Met.ofW (cc := cc) (maxL := maxL) (ret := none) hy hw ?_
  intro p e s m args below meth c s₁ B hml hv
  obtain ⟨rfl, hsz, hP, hE, hD0⟩ := hv
  subst hsz
  have hl := lv_entry av (n := maxL) hlen
  rw [lg_entry_eq]
  exact body p e s m below meth c (gvA ws s.heap.size) B.exec B.bytes hml B.returns (atoms_spec (ws := wsy) B.pre) (findClass_of_methodNamed B.named) (name_of_methodNamed B.named B.method).1 B.notSynchronized hE hP hD0.self va_S.rf (fun q h => Or.inr h) _ hl
section GL3
variable {p : Program} {l : Launch} {e : Env} {R : Room} {s : State} {m : MethodId} {args : Array Value} {below : List Frame} {meth : Method} {c : Code} {H : Heap} {locs : List Loc} {cells slots : Nat} {Q : State → Prop}
variable {cc : ByteArray} {pc : Nat} {ls : Array Slot} {rest : List Value} {D : va_G} {y : Nat → Nat} {A : Nat → Prop} {a : Nat} {ws : va_W} {H0 : Heap}
theorem g_dret (hexec : p.tables.exec = Jvm.exec) (hb : c.code = cc) (hr : meth.sig.returnType = some .double) (hlocks : meth.locks = false) {S : Type} {post : UInt64 → S → Prop} {ws' : S → va_W} {r : UInt64} (u : S) (hdg : decode cc pc = .ok (.dreturn, 1)) (hS : va_S A s.heap H locs) (hP : gvP D vwCl (ws' u) H) (hD : gvD A (ws' u)) (hp : post r u) : W p l e R s m args below meth c H locs cells slots (MQ below (va_Qd post (fun u => gPost D A (ws' u)) A) args s cells slots A) (F0 m pc ls [.double r]) := W.dret hexec hb hr (fun t ht hW => ⟨⟨r, u, rfl, hp, by rw [ht]; exact hP, hD⟩, hS.F ht⟩) hS.2.2 hdg hlocks
theorem g_iret (hexec : p.tables.exec = Jvm.exec) (hb : c.code = cc) (hr : meth.sig.returnType = some .int) (hlocks : meth.locks = false) {S : Type} {post : Int32 → S → Prop} {ws' : S → va_W} {r : Int32} (u : S) (hdg : decode cc pc = .ok (.ireturn, 1)) (hS : va_S A s.heap H locs) (hP : gvP D vwCl (ws' u) H) (hD : gvD A (ws' u)) (hp : post r u) : W p l e R s m args below meth c H locs cells slots (MQ below (va_Qi post (fun u => gPost D A (ws' u)) A) args s cells slots A) (F0 m pc ls [.int r]) := W.iret hexec hb hr (fun t ht hW => ⟨⟨r, u, rfl, hp, by rw [ht]; exact hP, hD⟩, hS.F ht⟩) hS.2.2 hdg hlocks
theorem g_lret (hexec : p.tables.exec = Jvm.exec) (hb : c.code = cc) (hr : meth.sig.returnType = some .long) (hlocks : meth.locks = false) {S : Type} {post : Int64 → S → Prop} {ws' : S → va_W} {r : Int64} (u : S) (hdg : decode cc pc = .ok (.lreturn, 1)) (hS : va_S A s.heap H locs) (hP : gvP D vwCl (ws' u) H) (hD : gvD A (ws' u)) (hp : post r u) : W p l e R s m args below meth c H locs cells slots (MQ below (va_Ql post (fun u => gPost D A (ws' u)) A) args s cells slots A) (F0 m pc ls [.long r]) := W.lret hexec hb hr (fun t ht hW => ⟨⟨r, u, rfl, hp, by rw [ht]; exact hP, hD⟩, hS.F ht⟩) hS.2.2 hdg hlocks
theorem g_fret (hexec : p.tables.exec = Jvm.exec) (hb : c.code = cc) (hr : meth.sig.returnType = some .float) (hlocks : meth.locks = false) {S : Type} {post : UInt32 → S → Prop} {ws' : S → va_W} {r : UInt32} (u : S) (hdg : decode cc pc = .ok (.freturn, 1)) (hS : va_S A s.heap H locs) (hP : gvP D vwCl (ws' u) H) (hD : gvD A (ws' u)) (hp : post r u) : W p l e R s m args below meth c H locs cells slots (MQ below (va_Qf post (fun u => gPost D A (ws' u)) A) args s cells slots A) (F0 m pc ls [.float r]) := W.fret hexec hb hr (fun t ht hW => ⟨⟨r, u, rfl, hp, by rw [ht]; exact hP, hD⟩, hS.F ht⟩) hS.2.2 hdg hlocks
theorem g_zret (hexec : p.tables.exec = Jvm.exec) (hb : c.code = cc) (hr : meth.sig.returnType = some .boolean) (hlocks : meth.locks = false) {S : Type} {post : Int32 → S → Prop} {ws' : S → va_W} {r : Int32} (u : S) (hdg : decode cc pc = .ok (.ireturn, 1)) (hn : narrow .boolean (.int r) = .int r) (hS : va_S A s.heap H locs) (hP : gvP D vwCl (ws' u) H) (hD : gvD A (ws' u)) (hp : post r u) : W p l e R s m args below meth c H locs cells slots (MQ below (va_Qi post (fun u => gPost D A (ws' u)) A) args s cells slots A) (F0 m pc ls [.int r]) := W.zret hexec hb hr hn (fun t ht hW => ⟨⟨r, u, rfl, hp, by rw [ht]; exact hP, hD⟩, hS.F ht⟩) hS.2.2 hdg hlocks
theorem g_vret (hexec : p.tables.exec = Jvm.exec) (hb : c.code = cc) (hr : meth.sig.returnType = none) (hlocks : meth.locks = false) {S : Type} {post : S → Prop} {ws' : S → va_W} (u : S) (hdg : decode cc pc = .ok (.return_, 1)) (hS : va_S A s.heap H locs) (hP : gvP D vwCl (ws' u) H) (hD : gvD A (ws' u)) (hp : post u) : W p l e R s m args below meth c H locs cells slots (MQ below (va_Qv post (fun u => gPost D A (ws' u)) A) args s cells slots A) (F0 m pc ls []) := W.vret hexec hb hr (fun t ht hW => ⟨⟨u, rfl, hp, by rw [ht]; exact hP, hD⟩, hS.F ht⟩) hS.2.2 hdg hlocks
theorem g_mmin (hexec : p.tables.exec = Jvm.exec) (hb : c.code = cc) (hml : c.maxLocals = ls.size) {own : String} {index : Nat} (hown : s.vm.findClass own = some m.cls) (hlink : (Cond.methodLink own index Lib.MathLoose.min_long.x).before args s = true) (hstat : (Cond.static Lib.MathLoose.min_long.x).before args s = true) (hini : (Cond.initialized "java/lang/Math").before args s = true) (hcode : (Cond.code Lib.MathLoose.min_long.x Lib.MathLoose.min_long.code 4 (some .long)).before args s = true) (hframes : 1 ≤ R.frames) (hlocals : (rest.map fun v => v.category).sum + 15 ≤ R.locals) (hc : cells ≤ R.cells) (hs : slots ≤ R.slots) {a b : Nat} (ha : a < 2 ^ 63) (hb2 : b < 2 ^ 63) (hdg : decode cc pc = .ok (.invokestatic index, 3)) (kk : W p l e R s m args below meth c H locs cells slots Q (F0 m (pc + 3) ls (.long (lN (if b < a then b else a)) :: rest))) : W p l e R s m args below meth c H locs cells slots Q (F0 m pc ls (.long (lN b) :: .long (lN a) :: rest)) := by
  refine va_mmin_long hexec hb hml hown hlink hstat hini hcode hframes hlocals hc hs hdg ?_
  have e : (if lN b < lN a then lN b else lN a) = lN (if b < a then b else a) := by
    have h := pk_lLT hb2 ha
    by_cases q : b < a
    · rw [if_pos (h.mpr q), if_pos q]
    · rw [if_neg (fun z => q (h.mp z)), if_neg q]
  rw [e]
  exact kk
theorem g_rret (hexec : p.tables.exec = Jvm.exec) (hb : c.code = cc) {rt : FieldType} (hr : meth.sig.returnType = some rt) (hlocks : meth.locks = false) (hrt : (∃ n, rt = .object n) ∨ ∃ t, rt = .array t) {S : Type} {post : Nat → S → Prop} {ws' : S → va_W} {r : Nat} (u : S) (hdg : decode cc pc = .ok (.areturn, 1)) (hS : va_S A s.heap H locs) (hP : gvP D vwCl (ws' u) H) (hD : gvD A (ws' u)) (hp : post r u) : W p l e R s m args below meth c H locs cells slots (MQ below (va_Qr (fun _ => True) (fun u r t => post r u ∧ gPost D A (ws' u) t) A) args s cells slots A) (F0 m pc ls [.ref r]) := W.aret hexec hb hr hrt (Or.inr ⟨_, rfl⟩) (fun t ht hW => ⟨⟨u, r, rfl, trivial, hp, by rw [ht]; exact hP, hD⟩, hS.F ht⟩) hS.2.2 hdg hlocks
theorem g_if_lt (hexec : p.tables.exec = Jvm.exec) (hb : c.code = cc) {a : Nat} (ha : a < 2 ^ 31) {off : Int} {tgt : Nat} (hdg : decode cc pc = .ok (.ifCond .lt off, 3)) (ht : (pc : Int) + off = (tgt : Int)) (kf : W p l e R s m args below meth c H locs cells slots Q (F0 m (pc + 3) ls rest)) : W p l e R s m args below meth c H locs cells slots Q (F0 m pc ls (.int (nI a) :: rest)) := lv_if_lt hexec hb hdg ht (fun h => absurd h (nI_pos ha)) (fun _ => kf)
theorem g_if_ge (hexec : p.tables.exec = Jvm.exec) (hb : c.code = cc) {a : Nat} (ha : a < 2 ^ 31) {off : Int} {tgt : Nat} (hdg : decode cc pc = .ok (.ifCond .ge off, 3)) (ht : (pc : Int) + off = (tgt : Int)) (kt : W p l e R s m args below meth c H locs cells slots Q (F0 m tgt ls rest)) : W p l e R s m args below meth c H locs cells slots Q (F0 m pc ls (.int (nI a) :: rest)) := lv_if_ge hexec hb hdg ht (fun _ => kt) (fun h => absurd (nI_pos' ha) h)
theorem g_forX {X : Type} (Wd : Nat → X → va_W) (Lv : Nat → List (Nat × Value)) (N j0 : Nat) (x0 : X) {nL : Nat} {st : List Value} (h0 : j0 ≤ N)
    (hx : ∀ (x : X) (H : Heap) (locs : List Loc) (ls : Array Slot), gvP D vwCl (Wd N x) H → gvD A (Wd N x) → va_S A H0 H locs → lv_has ls nL (Lv N) → W p l e R s m args below meth c H locs cells slots Q (F0 m pc ls st))
    (hs : ∀ j, j < N → (∀ (x : X) (H : Heap) (locs : List Loc) (ls : Array Slot), gvP D vwCl (Wd (j + 1) x) H → gvD A (Wd (j + 1) x) → va_S A H0 H locs → lv_has ls nL (Lv (j + 1)) → W p l e R s m args below meth c H locs cells slots Q (F0 m pc ls st)) → ∀ (x : X) (H : Heap) (locs : List Loc) (ls : Array Slot), gvP D vwCl (Wd j x) H → gvD A (Wd j x) → va_S A H0 H locs → lv_has ls nL (Lv j) → W p l e R s m args below meth c H locs cells slots Q (F0 m pc ls st))
    (hP : gvP D vwCl (Wd j0 x0) H) (hD : gvD A (Wd j0 x0)) (hS : va_S A H0 H locs) (hl : lv_has ls nL (Lv j0)) : W p l e R s m args below meth c H locs cells slots Q (F0 m pc ls st) :=
  g_down (P := fun j => ∀ (x : X) (H : Heap) (locs : List Loc) (ls : Array Slot), gvP D vwCl (Wd j x) H → gvD A (Wd j x) → va_S A H0 H locs → lv_has ls nL (Lv j) → W p l e R s m args below meth c H locs cells slots Q (F0 m pc ls st)) N hx hs j0 h0 x0 H locs ls hP hD hS hl
theorem g_for (Wd : Nat → va_W) (Lv : Nat → List (Nat × Value)) (N j0 : Nat) {nL : Nat} {st : List Value} (h0 : j0 ≤ N)
    (hx : ∀ (H : Heap) (locs : List Loc) (ls : Array Slot), gvP D vwCl (Wd N) H → gvD A (Wd N) → va_S A H0 H locs → lv_has ls nL (Lv N) → W p l e R s m args below meth c H locs cells slots Q (F0 m pc ls st))
    (hs : ∀ j, j < N → (∀ (H : Heap) (locs : List Loc) (ls : Array Slot), gvP D vwCl (Wd (j + 1)) H → gvD A (Wd (j + 1)) → va_S A H0 H locs → lv_has ls nL (Lv (j + 1)) → W p l e R s m args below meth c H locs cells slots Q (F0 m pc ls st)) → ∀ (H : Heap) (locs : List Loc) (ls : Array Slot), gvP D vwCl (Wd j) H → gvD A (Wd j) → va_S A H0 H locs → lv_has ls nL (Lv j) → W p l e R s m args below meth c H locs cells slots Q (F0 m pc ls st))
    (hP : gvP D vwCl (Wd j0) H) (hD : gvD A (Wd j0)) (hS : va_S A H0 H locs) (hl : lv_has ls nL (Lv j0)) : W p l e R s m args below meth c H locs cells slots Q (F0 m pc ls st) :=
  g_down (P := fun j => ∀ (H : Heap) (locs : List Loc) (ls : Array Slot), gvP D vwCl (Wd j) H → gvD A (Wd j) → va_S A H0 H locs → lv_has ls nL (Lv j) → W p l e R s m args below meth c H locs cells slots Q (F0 m pc ls st)) N hx hs j0 h0 H locs ls hP hD hS hl
theorem gc_V_d {S : Type} {yy : MethodName} {bytes : ByteArray} {maxL nL n index : Nat} {ret : Option FieldType} {wsy : List Cond} {rm : Room} {Ts : List Cond} {own C : String} {b : Nat} {As st0 : List Value} {post : UInt64 → S → Prop} {ws' : S → va_W} (hM : gMd l yy wsy rm D y (.ref b :: As) ws post ws') (F : CallFix p m c cc nL s args Ts own) (cw : CallW R s args own C index yy bytes maxL ret wsy rm rm.cells rm.slots n) (hE : gE D y s) (hP : gvP D vwCl ws H) (hD : gvD A ws) (hS : va_S A H0 H locs) (hA : ∀ q : Nat, H0.size ≤ q → A q) (q0 : Nat) {ci : Nat} {fs : List Value} {cq : vw_C} (he : ws[q0]? = some (b, .inr (ci, fs))) (hc : vwCl[ci]? = some cq) (hC : cq.1 = C) (hst : st0 = As.reverse ++ .ref b :: rest) (hn : As.length = n) (hl : ls.size = nL) (hW : (rest.map fun v => v.category).sum ≤ 8) (hdg : decode cc pc = .ok (.invokevirtual index, 3)) (hf : cells + rm.cells ≤ R.cells ∧ slots + rm.slots ≤ R.slots)
    (kk : ∀ (r : UInt64) (u : S) (H1 : Heap) (locs1 : List Loc), gvP D vwCl (ws' u) H1 → gvD A (ws' u) → va_S A H0 H1 locs1 → post r u → W p l e R s m args below meth c H1 locs1 (cells + rm.cells) (slots + rm.slots) Q (F0 m (pc + 3) ls (.double r :: rest))) : W p l e R s m args below meth c H locs cells slots Q (F0 m pc ls st0) := by
  have hF := gFree hD hS hA
  refine va_calld (va_runV (As := As) (rest := rest) F (hM H.size) cw ⟨gBlind, (by rw [← hC]; exact gv_recv hE.1 hP hc he), fun U hU hW => gHere hP hD hE hU hW⟩ rfl hn hl hst (lv_room (pc := pc) (m := m) (ls := ls) (rest := st0) hW) hdg hf) hS (fun q _ h => hF q h) hF ?_
  intro r u t H1 locs1 ht hvm hp hB hz hk hS1
  obtain ⟨hP1, hD1⟩ := hB
  rw [ht] at hP1
  exact kk r u H1 locs1 hP1 (hD1.weaken (fun _ _ _ h => hF _ h)) hS1 hp
theorem gc_V_i {S : Type} {yy : MethodName} {bytes : ByteArray} {maxL nL n index : Nat} {ret : Option FieldType} {wsy : List Cond} {rm : Room} {Ts : List Cond} {own C : String} {b : Nat} {As st0 : List Value} {post : Int32 → S → Prop} {ws' : S → va_W} (hM : gMi l yy wsy rm D y (.ref b :: As) ws post ws') (F : CallFix p m c cc nL s args Ts own) (cw : CallW R s args own C index yy bytes maxL ret wsy rm rm.cells rm.slots n) (hE : gE D y s) (hP : gvP D vwCl ws H) (hD : gvD A ws) (hS : va_S A H0 H locs) (hA : ∀ q : Nat, H0.size ≤ q → A q) (q0 : Nat) {ci : Nat} {fs : List Value} {cq : vw_C} (he : ws[q0]? = some (b, .inr (ci, fs))) (hc : vwCl[ci]? = some cq) (hC : cq.1 = C) (hst : st0 = As.reverse ++ .ref b :: rest) (hn : As.length = n) (hl : ls.size = nL) (hW : (rest.map fun v => v.category).sum ≤ 8) (hdg : decode cc pc = .ok (.invokevirtual index, 3)) (hf : cells + rm.cells ≤ R.cells ∧ slots + rm.slots ≤ R.slots)
    (kk : ∀ (r : Int32) (u : S) (H1 : Heap) (locs1 : List Loc), gvP D vwCl (ws' u) H1 → gvD A (ws' u) → va_S A H0 H1 locs1 → post r u → W p l e R s m args below meth c H1 locs1 (cells + rm.cells) (slots + rm.slots) Q (F0 m (pc + 3) ls (.int r :: rest))) : W p l e R s m args below meth c H locs cells slots Q (F0 m pc ls st0) := by
  have hF := gFree hD hS hA
  refine va_calli (va_runV (As := As) (rest := rest) F (hM H.size) cw ⟨gBlind, (by rw [← hC]; exact gv_recv hE.1 hP hc he), fun U hU hW => gHere hP hD hE hU hW⟩ rfl hn hl hst (lv_room (pc := pc) (m := m) (ls := ls) (rest := st0) hW) hdg hf) hS (fun q _ h => hF q h) hF ?_
  intro r u t H1 locs1 ht hvm hp hB hz hk hS1
  obtain ⟨hP1, hD1⟩ := hB
  rw [ht] at hP1
  exact kk r u H1 locs1 hP1 (hD1.weaken (fun _ _ _ h => hF _ h)) hS1 hp
theorem gc_V_l {S : Type} {yy : MethodName} {bytes : ByteArray} {maxL nL n index : Nat} {ret : Option FieldType} {wsy : List Cond} {rm : Room} {Ts : List Cond} {own C : String} {b : Nat} {As st0 : List Value} {post : Int64 → S → Prop} {ws' : S → va_W} (hM : gMl l yy wsy rm D y (.ref b :: As) ws post ws') (F : CallFix p m c cc nL s args Ts own) (cw : CallW R s args own C index yy bytes maxL ret wsy rm rm.cells rm.slots n) (hE : gE D y s) (hP : gvP D vwCl ws H) (hD : gvD A ws) (hS : va_S A H0 H locs) (hA : ∀ q : Nat, H0.size ≤ q → A q) (q0 : Nat) {ci : Nat} {fs : List Value} {cq : vw_C} (he : ws[q0]? = some (b, .inr (ci, fs))) (hc : vwCl[ci]? = some cq) (hC : cq.1 = C) (hst : st0 = As.reverse ++ .ref b :: rest) (hn : As.length = n) (hl : ls.size = nL) (hW : (rest.map fun v => v.category).sum ≤ 8) (hdg : decode cc pc = .ok (.invokevirtual index, 3)) (hf : cells + rm.cells ≤ R.cells ∧ slots + rm.slots ≤ R.slots)
    (kk : ∀ (r : Int64) (u : S) (H1 : Heap) (locs1 : List Loc), gvP D vwCl (ws' u) H1 → gvD A (ws' u) → va_S A H0 H1 locs1 → post r u → W p l e R s m args below meth c H1 locs1 (cells + rm.cells) (slots + rm.slots) Q (F0 m (pc + 3) ls (.long r :: rest))) : W p l e R s m args below meth c H locs cells slots Q (F0 m pc ls st0) := by
  have hF := gFree hD hS hA
  refine va_calll (va_runV (As := As) (rest := rest) F (hM H.size) cw ⟨gBlind, (by rw [← hC]; exact gv_recv hE.1 hP hc he), fun U hU hW => gHere hP hD hE hU hW⟩ rfl hn hl hst (lv_room (pc := pc) (m := m) (ls := ls) (rest := st0) hW) hdg hf) hS (fun q _ h => hF q h) hF ?_
  intro r u t H1 locs1 ht hvm hp hB hz hk hS1
  obtain ⟨hP1, hD1⟩ := hB
  rw [ht] at hP1
  exact kk r u H1 locs1 hP1 (hD1.weaken (fun _ _ _ h => hF _ h)) hS1 hp
theorem gc_V_f {S : Type} {yy : MethodName} {bytes : ByteArray} {maxL nL n index : Nat} {ret : Option FieldType} {wsy : List Cond} {rm : Room} {Ts : List Cond} {own C : String} {b : Nat} {As st0 : List Value} {post : UInt32 → S → Prop} {ws' : S → va_W} (hM : gMf l yy wsy rm D y (.ref b :: As) ws post ws') (F : CallFix p m c cc nL s args Ts own) (cw : CallW R s args own C index yy bytes maxL ret wsy rm rm.cells rm.slots n) (hE : gE D y s) (hP : gvP D vwCl ws H) (hD : gvD A ws) (hS : va_S A H0 H locs) (hA : ∀ q : Nat, H0.size ≤ q → A q) (q0 : Nat) {ci : Nat} {fs : List Value} {cq : vw_C} (he : ws[q0]? = some (b, .inr (ci, fs))) (hc : vwCl[ci]? = some cq) (hC : cq.1 = C) (hst : st0 = As.reverse ++ .ref b :: rest) (hn : As.length = n) (hl : ls.size = nL) (hW : (rest.map fun v => v.category).sum ≤ 8) (hdg : decode cc pc = .ok (.invokevirtual index, 3)) (hf : cells + rm.cells ≤ R.cells ∧ slots + rm.slots ≤ R.slots)
    (kk : ∀ (r : UInt32) (u : S) (H1 : Heap) (locs1 : List Loc), gvP D vwCl (ws' u) H1 → gvD A (ws' u) → va_S A H0 H1 locs1 → post r u → W p l e R s m args below meth c H1 locs1 (cells + rm.cells) (slots + rm.slots) Q (F0 m (pc + 3) ls (.float r :: rest))) : W p l e R s m args below meth c H locs cells slots Q (F0 m pc ls st0) := by
  have hF := gFree hD hS hA
  refine va_callf (va_runV (As := As) (rest := rest) F (hM H.size) cw ⟨gBlind, (by rw [← hC]; exact gv_recv hE.1 hP hc he), fun U hU hW => gHere hP hD hE hU hW⟩ rfl hn hl hst (lv_room (pc := pc) (m := m) (ls := ls) (rest := st0) hW) hdg hf) hS (fun q _ h => hF q h) hF ?_
  intro r u t H1 locs1 ht hvm hp hB hz hk hS1
  obtain ⟨hP1, hD1⟩ := hB
  rw [ht] at hP1
  exact kk r u H1 locs1 hP1 (hD1.weaken (fun _ _ _ h => hF _ h)) hS1 hp
theorem gc_V_v {S : Type} {yy : MethodName} {bytes : ByteArray} {maxL nL n index : Nat} {ret : Option FieldType} {wsy : List Cond} {rm : Room} {Ts : List Cond} {own C : String} {b : Nat} {As st0 : List Value} {post : S → Prop} {ws' : S → va_W} (hM : gMv l yy wsy rm D y (.ref b :: As) ws post ws') (F : CallFix p m c cc nL s args Ts own) (cw : CallW R s args own C index yy bytes maxL ret wsy rm rm.cells rm.slots n) (hE : gE D y s) (hP : gvP D vwCl ws H) (hD : gvD A ws) (hS : va_S A H0 H locs) (hA : ∀ q : Nat, H0.size ≤ q → A q) (q0 : Nat) {ci : Nat} {fs : List Value} {cq : vw_C} (he : ws[q0]? = some (b, .inr (ci, fs))) (hc : vwCl[ci]? = some cq) (hC : cq.1 = C) (hst : st0 = As.reverse ++ .ref b :: rest) (hn : As.length = n) (hl : ls.size = nL) (hW : (rest.map fun v => v.category).sum ≤ 8) (hdg : decode cc pc = .ok (.invokevirtual index, 3)) (hf : cells + rm.cells ≤ R.cells ∧ slots + rm.slots ≤ R.slots)
    (kk : ∀ (u : S) (H1 : Heap) (locs1 : List Loc), gvP D vwCl (ws' u) H1 → gvD A (ws' u) → va_S A H0 H1 locs1 → post u → W p l e R s m args below meth c H1 locs1 (cells + rm.cells) (slots + rm.slots) Q (F0 m (pc + 3) ls (rest))) : W p l e R s m args below meth c H locs cells slots Q (F0 m pc ls st0) := by
  have hF := gFree hD hS hA
  refine va_callv (va_runV (As := As) (rest := rest) F (hM H.size) cw ⟨gBlind, (by rw [← hC]; exact gv_recv hE.1 hP hc he), fun U hU hW => gHere hP hD hE hU hW⟩ rfl hn hl hst (lv_room (pc := pc) (m := m) (ls := ls) (rest := st0) hW) hdg hf) hS (fun q _ h => hF q h) hF ?_
  intro u t H1 locs1 ht hvm hp hB hz hk hS1
  obtain ⟨hP1, hD1⟩ := hB
  rw [ht] at hP1
  exact kk u H1 locs1 hP1 (hD1.weaken (fun _ _ _ h => hF _ h)) hS1 hp
theorem gc_S_d {S : Type} {yy : MethodName} {bytes : ByteArray} {maxL nL n index : Nat} {ret : Option FieldType} {wsy : List Cond} {rm : Room} {Ts : List Cond} {own : String} {As st0 : List Value} {post : UInt64 → S → Prop} {ws' : S → va_W} (hM : gMd l yy wsy rm D y As ws post ws') (F : CallFix p m c cc nL s args Ts own) (cw : CallB R s args own index yy bytes maxL ret wsy rm rm.cells rm.slots n ∧ (Cond.static yy).before args s = true) (hE : gE D y s) (hP : gvP D vwCl ws H) (hD : gvD A ws) (hS : va_S A H0 H locs) (hA : ∀ q : Nat, H0.size ≤ q → A q) (hst : st0 = As.reverse ++ rest) (hn : As.length = n) (hl : ls.size = nL) (hW : (rest.map fun v => v.category).sum ≤ 8) (hdg : decode cc pc = .ok (.invokestatic index, 3)) (hf : cells + rm.cells ≤ R.cells ∧ slots + rm.slots ≤ R.slots)
    (kk : ∀ (r : UInt64) (u : S) (H1 : Heap) (locs1 : List Loc), gvP D vwCl (ws' u) H1 → gvD A (ws' u) → va_S A H0 H1 locs1 → post r u → W p l e R s m args below meth c H1 locs1 (cells + rm.cells) (slots + rm.slots) Q (F0 m (pc + 3) ls (.double r :: rest))) : W p l e R s m args below meth c H locs cells slots Q (F0 m pc ls st0) := by
  have hF := gFree hD hS hA
  refine va_calld (va_runS (As := As) (rest := rest) F (hM H.size) cw ⟨gBlind, fun U hU hW => gHere hP hD hE hU hW⟩ rfl hn hl hst (lv_room (pc := pc) (m := m) (ls := ls) (rest := st0) hW) hdg hf) hS (fun q _ h => hF q h) hF ?_
  intro r u t H1 locs1 ht hvm hp hB hz hk hS1
  obtain ⟨hP1, hD1⟩ := hB
  rw [ht] at hP1
  exact kk r u H1 locs1 hP1 (hD1.weaken (fun _ _ _ h => hF _ h)) hS1 hp
theorem gc_S_i {S : Type} {yy : MethodName} {bytes : ByteArray} {maxL nL n index : Nat} {ret : Option FieldType} {wsy : List Cond} {rm : Room} {Ts : List Cond} {own : String} {As st0 : List Value} {post : Int32 → S → Prop} {ws' : S → va_W} (hM : gMi l yy wsy rm D y As ws post ws') (F : CallFix p m c cc nL s args Ts own) (cw : CallB R s args own index yy bytes maxL ret wsy rm rm.cells rm.slots n ∧ (Cond.static yy).before args s = true) (hE : gE D y s) (hP : gvP D vwCl ws H) (hD : gvD A ws) (hS : va_S A H0 H locs) (hA : ∀ q : Nat, H0.size ≤ q → A q) (hst : st0 = As.reverse ++ rest) (hn : As.length = n) (hl : ls.size = nL) (hW : (rest.map fun v => v.category).sum ≤ 8) (hdg : decode cc pc = .ok (.invokestatic index, 3)) (hf : cells + rm.cells ≤ R.cells ∧ slots + rm.slots ≤ R.slots)
    (kk : ∀ (r : Int32) (u : S) (H1 : Heap) (locs1 : List Loc), gvP D vwCl (ws' u) H1 → gvD A (ws' u) → va_S A H0 H1 locs1 → post r u → W p l e R s m args below meth c H1 locs1 (cells + rm.cells) (slots + rm.slots) Q (F0 m (pc + 3) ls (.int r :: rest))) : W p l e R s m args below meth c H locs cells slots Q (F0 m pc ls st0) := by
  have hF := gFree hD hS hA
  refine va_calli (va_runS (As := As) (rest := rest) F (hM H.size) cw ⟨gBlind, fun U hU hW => gHere hP hD hE hU hW⟩ rfl hn hl hst (lv_room (pc := pc) (m := m) (ls := ls) (rest := st0) hW) hdg hf) hS (fun q _ h => hF q h) hF ?_
  intro r u t H1 locs1 ht hvm hp hB hz hk hS1
  obtain ⟨hP1, hD1⟩ := hB
  rw [ht] at hP1
  exact kk r u H1 locs1 hP1 (hD1.weaken (fun _ _ _ h => hF _ h)) hS1 hp
theorem gc_S_l {S : Type} {yy : MethodName} {bytes : ByteArray} {maxL nL n index : Nat} {ret : Option FieldType} {wsy : List Cond} {rm : Room} {Ts : List Cond} {own : String} {As st0 : List Value} {post : Int64 → S → Prop} {ws' : S → va_W} (hM : gMl l yy wsy rm D y As ws post ws') (F : CallFix p m c cc nL s args Ts own) (cw : CallB R s args own index yy bytes maxL ret wsy rm rm.cells rm.slots n ∧ (Cond.static yy).before args s = true) (hE : gE D y s) (hP : gvP D vwCl ws H) (hD : gvD A ws) (hS : va_S A H0 H locs) (hA : ∀ q : Nat, H0.size ≤ q → A q) (hst : st0 = As.reverse ++ rest) (hn : As.length = n) (hl : ls.size = nL) (hW : (rest.map fun v => v.category).sum ≤ 8) (hdg : decode cc pc = .ok (.invokestatic index, 3)) (hf : cells + rm.cells ≤ R.cells ∧ slots + rm.slots ≤ R.slots)
    (kk : ∀ (r : Int64) (u : S) (H1 : Heap) (locs1 : List Loc), gvP D vwCl (ws' u) H1 → gvD A (ws' u) → va_S A H0 H1 locs1 → post r u → W p l e R s m args below meth c H1 locs1 (cells + rm.cells) (slots + rm.slots) Q (F0 m (pc + 3) ls (.long r :: rest))) : W p l e R s m args below meth c H locs cells slots Q (F0 m pc ls st0) := by
  have hF := gFree hD hS hA
  refine va_calll (va_runS (As := As) (rest := rest) F (hM H.size) cw ⟨gBlind, fun U hU hW => gHere hP hD hE hU hW⟩ rfl hn hl hst (lv_room (pc := pc) (m := m) (ls := ls) (rest := st0) hW) hdg hf) hS (fun q _ h => hF q h) hF ?_
  intro r u t H1 locs1 ht hvm hp hB hz hk hS1
  obtain ⟨hP1, hD1⟩ := hB
  rw [ht] at hP1
  exact kk r u H1 locs1 hP1 (hD1.weaken (fun _ _ _ h => hF _ h)) hS1 hp
theorem gc_S_f {S : Type} {yy : MethodName} {bytes : ByteArray} {maxL nL n index : Nat} {ret : Option FieldType} {wsy : List Cond} {rm : Room} {Ts : List Cond} {own : String} {As st0 : List Value} {post : UInt32 → S → Prop} {ws' : S → va_W} (hM : gMf l yy wsy rm D y As ws post ws') (F : CallFix p m c cc nL s args Ts own) (cw : CallB R s args own index yy bytes maxL ret wsy rm rm.cells rm.slots n ∧ (Cond.static yy).before args s = true) (hE : gE D y s) (hP : gvP D vwCl ws H) (hD : gvD A ws) (hS : va_S A H0 H locs) (hA : ∀ q : Nat, H0.size ≤ q → A q) (hst : st0 = As.reverse ++ rest) (hn : As.length = n) (hl : ls.size = nL) (hW : (rest.map fun v => v.category).sum ≤ 8) (hdg : decode cc pc = .ok (.invokestatic index, 3)) (hf : cells + rm.cells ≤ R.cells ∧ slots + rm.slots ≤ R.slots)
    (kk : ∀ (r : UInt32) (u : S) (H1 : Heap) (locs1 : List Loc), gvP D vwCl (ws' u) H1 → gvD A (ws' u) → va_S A H0 H1 locs1 → post r u → W p l e R s m args below meth c H1 locs1 (cells + rm.cells) (slots + rm.slots) Q (F0 m (pc + 3) ls (.float r :: rest))) : W p l e R s m args below meth c H locs cells slots Q (F0 m pc ls st0) := by
  have hF := gFree hD hS hA
  refine va_callf (va_runS (As := As) (rest := rest) F (hM H.size) cw ⟨gBlind, fun U hU hW => gHere hP hD hE hU hW⟩ rfl hn hl hst (lv_room (pc := pc) (m := m) (ls := ls) (rest := st0) hW) hdg hf) hS (fun q _ h => hF q h) hF ?_
  intro r u t H1 locs1 ht hvm hp hB hz hk hS1
  obtain ⟨hP1, hD1⟩ := hB
  rw [ht] at hP1
  exact kk r u H1 locs1 hP1 (hD1.weaken (fun _ _ _ h => hF _ h)) hS1 hp
theorem gc_S_v {S : Type} {yy : MethodName} {bytes : ByteArray} {maxL nL n index : Nat} {ret : Option FieldType} {wsy : List Cond} {rm : Room} {Ts : List Cond} {own : String} {As st0 : List Value} {post : S → Prop} {ws' : S → va_W} (hM : gMv l yy wsy rm D y As ws post ws') (F : CallFix p m c cc nL s args Ts own) (cw : CallB R s args own index yy bytes maxL ret wsy rm rm.cells rm.slots n ∧ (Cond.static yy).before args s = true) (hE : gE D y s) (hP : gvP D vwCl ws H) (hD : gvD A ws) (hS : va_S A H0 H locs) (hA : ∀ q : Nat, H0.size ≤ q → A q) (hst : st0 = As.reverse ++ rest) (hn : As.length = n) (hl : ls.size = nL) (hW : (rest.map fun v => v.category).sum ≤ 8) (hdg : decode cc pc = .ok (.invokestatic index, 3)) (hf : cells + rm.cells ≤ R.cells ∧ slots + rm.slots ≤ R.slots)
    (kk : ∀ (u : S) (H1 : Heap) (locs1 : List Loc), gvP D vwCl (ws' u) H1 → gvD A (ws' u) → va_S A H0 H1 locs1 → post u → W p l e R s m args below meth c H1 locs1 (cells + rm.cells) (slots + rm.slots) Q (F0 m (pc + 3) ls (rest))) : W p l e R s m args below meth c H locs cells slots Q (F0 m pc ls st0) := by
  have hF := gFree hD hS hA
  refine va_callv (va_runS (As := As) (rest := rest) F (hM H.size) cw ⟨gBlind, fun U hU hW => gHere hP hD hE hU hW⟩ rfl hn hl hst (lv_room (pc := pc) (m := m) (ls := ls) (rest := st0) hW) hdg hf) hS (fun q _ h => hF q h) hF ?_
  intro u t H1 locs1 ht hvm hp hB hz hk hS1
  obtain ⟨hP1, hD1⟩ := hB
  rw [ht] at hP1
  exact kk u H1 locs1 hP1 (hD1.weaken (fun _ _ _ h => hF _ h)) hS1 hp
theorem gc_VN_d {S : Type} {yy : MethodName} {bytes : ByteArray} {maxL nL n index : Nat} {ret : Option FieldType} {wsy : List Cond} {rm : Room} {Ts : List Cond} {own C : String} {host : String} {b : Nat} {As st0 : List Value} {post : UInt64 → S → Prop} {ws' : S → va_W} (hM : gMd l yy wsy rm D y (.ref b :: As) ws post ws') (F : CallFix p m c cc nL s args Ts own) (cw : va_CN R s args own index yy host bytes maxL ret wsy rm rm.cells rm.slots n ∧ (Cond.instanceMethod yy).before args s = true ∧ (Cond.selects C yy yy).before args s = true) (hE : gE D y s) (hP : gvP D vwCl ws H) (hD : gvD A ws) (hS : va_S A H0 H locs) (hA : ∀ q : Nat, H0.size ≤ q → A q) (q0 : Nat) {ci : Nat} {fs : List Value} {cq : vw_C} (he : ws[q0]? = some (b, .inr (ci, fs))) (hc : vwCl[ci]? = some cq) (hC : cq.1 = C) (hst : st0 = As.reverse ++ .ref b :: rest) (hn : As.length = n) (hl : ls.size = nL) (hW : (rest.map fun v => v.category).sum ≤ 8) (hdg : decode cc pc = .ok (.invokevirtual index, 3)) (hf : cells + rm.cells ≤ R.cells ∧ slots + rm.slots ≤ R.slots)
    (kk : ∀ (r : UInt64) (u : S) (H1 : Heap) (locs1 : List Loc), gvP D vwCl (ws' u) H1 → gvD A (ws' u) → va_S A H0 H1 locs1 → post r u → W p l e R s m args below meth c H1 locs1 (cells + rm.cells) (slots + rm.slots) Q (F0 m (pc + 3) ls (.double r :: rest))) : W p l e R s m args below meth c H locs cells slots Q (F0 m pc ls st0) := by
  have hF := gFree hD hS hA
  refine va_calld (va_runVN (As := As) (rest := rest) F (hM H.size) cw ⟨gBlind, (by rw [← hC]; exact gv_recv hE.1 hP hc he), fun U hU hW => gHere hP hD hE hU hW⟩ rfl hn hl hst (lv_room (pc := pc) (m := m) (ls := ls) (rest := st0) hW) hdg hf) hS (fun q _ h => hF q h) hF ?_
  intro r u t H1 locs1 ht hvm hp hB hz hk hS1
  obtain ⟨hP1, hD1⟩ := hB
  rw [ht] at hP1
  exact kk r u H1 locs1 hP1 (hD1.weaken (fun _ _ _ h => hF _ h)) hS1 hp
theorem gc_VN_i {S : Type} {yy : MethodName} {bytes : ByteArray} {maxL nL n index : Nat} {ret : Option FieldType} {wsy : List Cond} {rm : Room} {Ts : List Cond} {own C : String} {host : String} {b : Nat} {As st0 : List Value} {post : Int32 → S → Prop} {ws' : S → va_W} (hM : gMi l yy wsy rm D y (.ref b :: As) ws post ws') (F : CallFix p m c cc nL s args Ts own) (cw : va_CN R s args own index yy host bytes maxL ret wsy rm rm.cells rm.slots n ∧ (Cond.instanceMethod yy).before args s = true ∧ (Cond.selects C yy yy).before args s = true) (hE : gE D y s) (hP : gvP D vwCl ws H) (hD : gvD A ws) (hS : va_S A H0 H locs) (hA : ∀ q : Nat, H0.size ≤ q → A q) (q0 : Nat) {ci : Nat} {fs : List Value} {cq : vw_C} (he : ws[q0]? = some (b, .inr (ci, fs))) (hc : vwCl[ci]? = some cq) (hC : cq.1 = C) (hst : st0 = As.reverse ++ .ref b :: rest) (hn : As.length = n) (hl : ls.size = nL) (hW : (rest.map fun v => v.category).sum ≤ 8) (hdg : decode cc pc = .ok (.invokevirtual index, 3)) (hf : cells + rm.cells ≤ R.cells ∧ slots + rm.slots ≤ R.slots)
    (kk : ∀ (r : Int32) (u : S) (H1 : Heap) (locs1 : List Loc), gvP D vwCl (ws' u) H1 → gvD A (ws' u) → va_S A H0 H1 locs1 → post r u → W p l e R s m args below meth c H1 locs1 (cells + rm.cells) (slots + rm.slots) Q (F0 m (pc + 3) ls (.int r :: rest))) : W p l e R s m args below meth c H locs cells slots Q (F0 m pc ls st0) := by
  have hF := gFree hD hS hA
  refine va_calli (va_runVN (As := As) (rest := rest) F (hM H.size) cw ⟨gBlind, (by rw [← hC]; exact gv_recv hE.1 hP hc he), fun U hU hW => gHere hP hD hE hU hW⟩ rfl hn hl hst (lv_room (pc := pc) (m := m) (ls := ls) (rest := st0) hW) hdg hf) hS (fun q _ h => hF q h) hF ?_
  intro r u t H1 locs1 ht hvm hp hB hz hk hS1
  obtain ⟨hP1, hD1⟩ := hB
  rw [ht] at hP1
  exact kk r u H1 locs1 hP1 (hD1.weaken (fun _ _ _ h => hF _ h)) hS1 hp
theorem gc_VN_l {S : Type} {yy : MethodName} {bytes : ByteArray} {maxL nL n index : Nat} {ret : Option FieldType} {wsy : List Cond} {rm : Room} {Ts : List Cond} {own C : String} {host : String} {b : Nat} {As st0 : List Value} {post : Int64 → S → Prop} {ws' : S → va_W} (hM : gMl l yy wsy rm D y (.ref b :: As) ws post ws') (F : CallFix p m c cc nL s args Ts own) (cw : va_CN R s args own index yy host bytes maxL ret wsy rm rm.cells rm.slots n ∧ (Cond.instanceMethod yy).before args s = true ∧ (Cond.selects C yy yy).before args s = true) (hE : gE D y s) (hP : gvP D vwCl ws H) (hD : gvD A ws) (hS : va_S A H0 H locs) (hA : ∀ q : Nat, H0.size ≤ q → A q) (q0 : Nat) {ci : Nat} {fs : List Value} {cq : vw_C} (he : ws[q0]? = some (b, .inr (ci, fs))) (hc : vwCl[ci]? = some cq) (hC : cq.1 = C) (hst : st0 = As.reverse ++ .ref b :: rest) (hn : As.length = n) (hl : ls.size = nL) (hW : (rest.map fun v => v.category).sum ≤ 8) (hdg : decode cc pc = .ok (.invokevirtual index, 3)) (hf : cells + rm.cells ≤ R.cells ∧ slots + rm.slots ≤ R.slots)
    (kk : ∀ (r : Int64) (u : S) (H1 : Heap) (locs1 : List Loc), gvP D vwCl (ws' u) H1 → gvD A (ws' u) → va_S A H0 H1 locs1 → post r u → W p l e R s m args below meth c H1 locs1 (cells + rm.cells) (slots + rm.slots) Q (F0 m (pc + 3) ls (.long r :: rest))) : W p l e R s m args below meth c H locs cells slots Q (F0 m pc ls st0) := by
  have hF := gFree hD hS hA
  refine va_calll (va_runVN (As := As) (rest := rest) F (hM H.size) cw ⟨gBlind, (by rw [← hC]; exact gv_recv hE.1 hP hc he), fun U hU hW => gHere hP hD hE hU hW⟩ rfl hn hl hst (lv_room (pc := pc) (m := m) (ls := ls) (rest := st0) hW) hdg hf) hS (fun q _ h => hF q h) hF ?_
  intro r u t H1 locs1 ht hvm hp hB hz hk hS1
  obtain ⟨hP1, hD1⟩ := hB
  rw [ht] at hP1
  exact kk r u H1 locs1 hP1 (hD1.weaken (fun _ _ _ h => hF _ h)) hS1 hp
theorem gc_VN_f {S : Type} {yy : MethodName} {bytes : ByteArray} {maxL nL n index : Nat} {ret : Option FieldType} {wsy : List Cond} {rm : Room} {Ts : List Cond} {own C : String} {host : String} {b : Nat} {As st0 : List Value} {post : UInt32 → S → Prop} {ws' : S → va_W} (hM : gMf l yy wsy rm D y (.ref b :: As) ws post ws') (F : CallFix p m c cc nL s args Ts own) (cw : va_CN R s args own index yy host bytes maxL ret wsy rm rm.cells rm.slots n ∧ (Cond.instanceMethod yy).before args s = true ∧ (Cond.selects C yy yy).before args s = true) (hE : gE D y s) (hP : gvP D vwCl ws H) (hD : gvD A ws) (hS : va_S A H0 H locs) (hA : ∀ q : Nat, H0.size ≤ q → A q) (q0 : Nat) {ci : Nat} {fs : List Value} {cq : vw_C} (he : ws[q0]? = some (b, .inr (ci, fs))) (hc : vwCl[ci]? = some cq) (hC : cq.1 = C) (hst : st0 = As.reverse ++ .ref b :: rest) (hn : As.length = n) (hl : ls.size = nL) (hW : (rest.map fun v => v.category).sum ≤ 8) (hdg : decode cc pc = .ok (.invokevirtual index, 3)) (hf : cells + rm.cells ≤ R.cells ∧ slots + rm.slots ≤ R.slots)
    (kk : ∀ (r : UInt32) (u : S) (H1 : Heap) (locs1 : List Loc), gvP D vwCl (ws' u) H1 → gvD A (ws' u) → va_S A H0 H1 locs1 → post r u → W p l e R s m args below meth c H1 locs1 (cells + rm.cells) (slots + rm.slots) Q (F0 m (pc + 3) ls (.float r :: rest))) : W p l e R s m args below meth c H locs cells slots Q (F0 m pc ls st0) := by
  have hF := gFree hD hS hA
  refine va_callf (va_runVN (As := As) (rest := rest) F (hM H.size) cw ⟨gBlind, (by rw [← hC]; exact gv_recv hE.1 hP hc he), fun U hU hW => gHere hP hD hE hU hW⟩ rfl hn hl hst (lv_room (pc := pc) (m := m) (ls := ls) (rest := st0) hW) hdg hf) hS (fun q _ h => hF q h) hF ?_
  intro r u t H1 locs1 ht hvm hp hB hz hk hS1
  obtain ⟨hP1, hD1⟩ := hB
  rw [ht] at hP1
  exact kk r u H1 locs1 hP1 (hD1.weaken (fun _ _ _ h => hF _ h)) hS1 hp
theorem gc_VN_v {S : Type} {yy : MethodName} {bytes : ByteArray} {maxL nL n index : Nat} {ret : Option FieldType} {wsy : List Cond} {rm : Room} {Ts : List Cond} {own C : String} {host : String} {b : Nat} {As st0 : List Value} {post : S → Prop} {ws' : S → va_W} (hM : gMv l yy wsy rm D y (.ref b :: As) ws post ws') (F : CallFix p m c cc nL s args Ts own) (cw : va_CN R s args own index yy host bytes maxL ret wsy rm rm.cells rm.slots n ∧ (Cond.instanceMethod yy).before args s = true ∧ (Cond.selects C yy yy).before args s = true) (hE : gE D y s) (hP : gvP D vwCl ws H) (hD : gvD A ws) (hS : va_S A H0 H locs) (hA : ∀ q : Nat, H0.size ≤ q → A q) (q0 : Nat) {ci : Nat} {fs : List Value} {cq : vw_C} (he : ws[q0]? = some (b, .inr (ci, fs))) (hc : vwCl[ci]? = some cq) (hC : cq.1 = C) (hst : st0 = As.reverse ++ .ref b :: rest) (hn : As.length = n) (hl : ls.size = nL) (hW : (rest.map fun v => v.category).sum ≤ 8) (hdg : decode cc pc = .ok (.invokevirtual index, 3)) (hf : cells + rm.cells ≤ R.cells ∧ slots + rm.slots ≤ R.slots)
    (kk : ∀ (u : S) (H1 : Heap) (locs1 : List Loc), gvP D vwCl (ws' u) H1 → gvD A (ws' u) → va_S A H0 H1 locs1 → post u → W p l e R s m args below meth c H1 locs1 (cells + rm.cells) (slots + rm.slots) Q (F0 m (pc + 3) ls (rest))) : W p l e R s m args below meth c H locs cells slots Q (F0 m pc ls st0) := by
  have hF := gFree hD hS hA
  refine va_callv (va_runVN (As := As) (rest := rest) F (hM H.size) cw ⟨gBlind, (by rw [← hC]; exact gv_recv hE.1 hP hc he), fun U hU hW => gHere hP hD hE hU hW⟩ rfl hn hl hst (lv_room (pc := pc) (m := m) (ls := ls) (rest := st0) hW) hdg hf) hS (fun q _ h => hF q h) hF ?_
  intro u t H1 locs1 ht hvm hp hB hz hk hS1
  obtain ⟨hP1, hD1⟩ := hB
  rw [ht] at hP1
  exact kk u H1 locs1 hP1 (hD1.weaken (fun _ _ _ h => hF _ h)) hS1 hp
theorem gc_SN_d {S : Type} {yy : MethodName} {bytes : ByteArray} {maxL nL n index : Nat} {ret : Option FieldType} {wsy : List Cond} {rm : Room} {Ts : List Cond} {own : String} {host : String} {As st0 : List Value} {post : UInt64 → S → Prop} {ws' : S → va_W} (hM : gMd l yy wsy rm D y As ws post ws') (F : CallFix p m c cc nL s args Ts own) (cw : va_CN R s args own index yy host bytes maxL ret wsy rm rm.cells rm.slots n ∧ (Cond.static yy).before args s = true ∧ True) (hE : gE D y s) (hP : gvP D vwCl ws H) (hD : gvD A ws) (hS : va_S A H0 H locs) (hA : ∀ q : Nat, H0.size ≤ q → A q) (hst : st0 = As.reverse ++ rest) (hn : As.length = n) (hl : ls.size = nL) (hW : (rest.map fun v => v.category).sum ≤ 8) (hdg : decode cc pc = .ok (.invokestatic index, 3)) (hf : cells + rm.cells ≤ R.cells ∧ slots + rm.slots ≤ R.slots)
    (kk : ∀ (r : UInt64) (u : S) (H1 : Heap) (locs1 : List Loc), gvP D vwCl (ws' u) H1 → gvD A (ws' u) → va_S A H0 H1 locs1 → post r u → W p l e R s m args below meth c H1 locs1 (cells + rm.cells) (slots + rm.slots) Q (F0 m (pc + 3) ls (.double r :: rest))) : W p l e R s m args below meth c H locs cells slots Q (F0 m pc ls st0) := by
  have hF := gFree hD hS hA
  refine va_calld (va_runSN (As := As) (rest := rest) F (hM H.size) cw ⟨gBlind, fun U hU hW => gHere hP hD hE hU hW⟩ rfl hn hl hst (lv_room (pc := pc) (m := m) (ls := ls) (rest := st0) hW) hdg hf) hS (fun q _ h => hF q h) hF ?_
  intro r u t H1 locs1 ht hvm hp hB hz hk hS1
  obtain ⟨hP1, hD1⟩ := hB
  rw [ht] at hP1
  exact kk r u H1 locs1 hP1 (hD1.weaken (fun _ _ _ h => hF _ h)) hS1 hp
theorem gc_SN_i {S : Type} {yy : MethodName} {bytes : ByteArray} {maxL nL n index : Nat} {ret : Option FieldType} {wsy : List Cond} {rm : Room} {Ts : List Cond} {own : String} {host : String} {As st0 : List Value} {post : Int32 → S → Prop} {ws' : S → va_W} (hM : gMi l yy wsy rm D y As ws post ws') (F : CallFix p m c cc nL s args Ts own) (cw : va_CN R s args own index yy host bytes maxL ret wsy rm rm.cells rm.slots n ∧ (Cond.static yy).before args s = true ∧ True) (hE : gE D y s) (hP : gvP D vwCl ws H) (hD : gvD A ws) (hS : va_S A H0 H locs) (hA : ∀ q : Nat, H0.size ≤ q → A q) (hst : st0 = As.reverse ++ rest) (hn : As.length = n) (hl : ls.size = nL) (hW : (rest.map fun v => v.category).sum ≤ 8) (hdg : decode cc pc = .ok (.invokestatic index, 3)) (hf : cells + rm.cells ≤ R.cells ∧ slots + rm.slots ≤ R.slots)
    (kk : ∀ (r : Int32) (u : S) (H1 : Heap) (locs1 : List Loc), gvP D vwCl (ws' u) H1 → gvD A (ws' u) → va_S A H0 H1 locs1 → post r u → W p l e R s m args below meth c H1 locs1 (cells + rm.cells) (slots + rm.slots) Q (F0 m (pc + 3) ls (.int r :: rest))) : W p l e R s m args below meth c H locs cells slots Q (F0 m pc ls st0) := by
  have hF := gFree hD hS hA
  refine va_calli (va_runSN (As := As) (rest := rest) F (hM H.size) cw ⟨gBlind, fun U hU hW => gHere hP hD hE hU hW⟩ rfl hn hl hst (lv_room (pc := pc) (m := m) (ls := ls) (rest := st0) hW) hdg hf) hS (fun q _ h => hF q h) hF ?_
  intro r u t H1 locs1 ht hvm hp hB hz hk hS1
  obtain ⟨hP1, hD1⟩ := hB
  rw [ht] at hP1
  exact kk r u H1 locs1 hP1 (hD1.weaken (fun _ _ _ h => hF _ h)) hS1 hp
theorem gc_SN_l {S : Type} {yy : MethodName} {bytes : ByteArray} {maxL nL n index : Nat} {ret : Option FieldType} {wsy : List Cond} {rm : Room} {Ts : List Cond} {own : String} {host : String} {As st0 : List Value} {post : Int64 → S → Prop} {ws' : S → va_W} (hM : gMl l yy wsy rm D y As ws post ws') (F : CallFix p m c cc nL s args Ts own) (cw : va_CN R s args own index yy host bytes maxL ret wsy rm rm.cells rm.slots n ∧ (Cond.static yy).before args s = true ∧ True) (hE : gE D y s) (hP : gvP D vwCl ws H) (hD : gvD A ws) (hS : va_S A H0 H locs) (hA : ∀ q : Nat, H0.size ≤ q → A q) (hst : st0 = As.reverse ++ rest) (hn : As.length = n) (hl : ls.size = nL) (hW : (rest.map fun v => v.category).sum ≤ 8) (hdg : decode cc pc = .ok (.invokestatic index, 3)) (hf : cells + rm.cells ≤ R.cells ∧ slots + rm.slots ≤ R.slots)
    (kk : ∀ (r : Int64) (u : S) (H1 : Heap) (locs1 : List Loc), gvP D vwCl (ws' u) H1 → gvD A (ws' u) → va_S A H0 H1 locs1 → post r u → W p l e R s m args below meth c H1 locs1 (cells + rm.cells) (slots + rm.slots) Q (F0 m (pc + 3) ls (.long r :: rest))) : W p l e R s m args below meth c H locs cells slots Q (F0 m pc ls st0) := by
  have hF := gFree hD hS hA
  refine va_calll (va_runSN (As := As) (rest := rest) F (hM H.size) cw ⟨gBlind, fun U hU hW => gHere hP hD hE hU hW⟩ rfl hn hl hst (lv_room (pc := pc) (m := m) (ls := ls) (rest := st0) hW) hdg hf) hS (fun q _ h => hF q h) hF ?_
  intro r u t H1 locs1 ht hvm hp hB hz hk hS1
  obtain ⟨hP1, hD1⟩ := hB
  rw [ht] at hP1
  exact kk r u H1 locs1 hP1 (hD1.weaken (fun _ _ _ h => hF _ h)) hS1 hp
theorem gc_SN_f {S : Type} {yy : MethodName} {bytes : ByteArray} {maxL nL n index : Nat} {ret : Option FieldType} {wsy : List Cond} {rm : Room} {Ts : List Cond} {own : String} {host : String} {As st0 : List Value} {post : UInt32 → S → Prop} {ws' : S → va_W} (hM : gMf l yy wsy rm D y As ws post ws') (F : CallFix p m c cc nL s args Ts own) (cw : va_CN R s args own index yy host bytes maxL ret wsy rm rm.cells rm.slots n ∧ (Cond.static yy).before args s = true ∧ True) (hE : gE D y s) (hP : gvP D vwCl ws H) (hD : gvD A ws) (hS : va_S A H0 H locs) (hA : ∀ q : Nat, H0.size ≤ q → A q) (hst : st0 = As.reverse ++ rest) (hn : As.length = n) (hl : ls.size = nL) (hW : (rest.map fun v => v.category).sum ≤ 8) (hdg : decode cc pc = .ok (.invokestatic index, 3)) (hf : cells + rm.cells ≤ R.cells ∧ slots + rm.slots ≤ R.slots)
    (kk : ∀ (r : UInt32) (u : S) (H1 : Heap) (locs1 : List Loc), gvP D vwCl (ws' u) H1 → gvD A (ws' u) → va_S A H0 H1 locs1 → post r u → W p l e R s m args below meth c H1 locs1 (cells + rm.cells) (slots + rm.slots) Q (F0 m (pc + 3) ls (.float r :: rest))) : W p l e R s m args below meth c H locs cells slots Q (F0 m pc ls st0) := by
  have hF := gFree hD hS hA
  refine va_callf (va_runSN (As := As) (rest := rest) F (hM H.size) cw ⟨gBlind, fun U hU hW => gHere hP hD hE hU hW⟩ rfl hn hl hst (lv_room (pc := pc) (m := m) (ls := ls) (rest := st0) hW) hdg hf) hS (fun q _ h => hF q h) hF ?_
  intro r u t H1 locs1 ht hvm hp hB hz hk hS1
  obtain ⟨hP1, hD1⟩ := hB
  rw [ht] at hP1
  exact kk r u H1 locs1 hP1 (hD1.weaken (fun _ _ _ h => hF _ h)) hS1 hp
theorem gc_SN_v {S : Type} {yy : MethodName} {bytes : ByteArray} {maxL nL n index : Nat} {ret : Option FieldType} {wsy : List Cond} {rm : Room} {Ts : List Cond} {own : String} {host : String} {As st0 : List Value} {post : S → Prop} {ws' : S → va_W} (hM : gMv l yy wsy rm D y As ws post ws') (F : CallFix p m c cc nL s args Ts own) (cw : va_CN R s args own index yy host bytes maxL ret wsy rm rm.cells rm.slots n ∧ (Cond.static yy).before args s = true ∧ True) (hE : gE D y s) (hP : gvP D vwCl ws H) (hD : gvD A ws) (hS : va_S A H0 H locs) (hA : ∀ q : Nat, H0.size ≤ q → A q) (hst : st0 = As.reverse ++ rest) (hn : As.length = n) (hl : ls.size = nL) (hW : (rest.map fun v => v.category).sum ≤ 8) (hdg : decode cc pc = .ok (.invokestatic index, 3)) (hf : cells + rm.cells ≤ R.cells ∧ slots + rm.slots ≤ R.slots)
    (kk : ∀ (u : S) (H1 : Heap) (locs1 : List Loc), gvP D vwCl (ws' u) H1 → gvD A (ws' u) → va_S A H0 H1 locs1 → post u → W p l e R s m args below meth c H1 locs1 (cells + rm.cells) (slots + rm.slots) Q (F0 m (pc + 3) ls (rest))) : W p l e R s m args below meth c H locs cells slots Q (F0 m pc ls st0) := by
  have hF := gFree hD hS hA
  refine va_callv (va_runSN (As := As) (rest := rest) F (hM H.size) cw ⟨gBlind, fun U hU hW => gHere hP hD hE hU hW⟩ rfl hn hl hst (lv_room (pc := pc) (m := m) (ls := ls) (rest := st0) hW) hdg hf) hS (fun q _ h => hF q h) hF ?_
  intro u t H1 locs1 ht hvm hp hB hz hk hS1
  obtain ⟨hP1, hD1⟩ := hB
  rw [ht] at hP1
  exact kk u H1 locs1 hP1 (hD1.weaken (fun _ _ _ h => hF _ h)) hS1 hp
theorem gc_I_v {S : Type} {yy : MethodName} {bytes : ByteArray} {maxL nL n index : Nat} {wsy : List Cond} {rm : Room} {Ts : List Cond} {own : String} {b : Nat} {As st0 : List Value} {post : S → Prop} {ws' : S → va_W} (hM : gMv l yy wsy rm D y (.ref b :: As) ws post ws') (F : CallFix p m c cc nL s args Ts own) (cw : CallB R s args own index yy bytes maxL none wsy rm rm.cells rm.slots n ∧ yy.name = "<init>" ∧ (Cond.instanceMethod yy).before args s = true) (hE : gE D y s) (hP : gvP D vwCl ws H) (hD : gvD A ws) (hS : va_S A H0 H locs) (hA : ∀ q : Nat, H0.size ≤ q → A q) (hst : st0 = As.reverse ++ .ref b :: rest) (hn : As.length = n) (hl : ls.size = nL) (hW : (rest.map fun v => v.category).sum ≤ 8) (hdg : decode cc pc = .ok (.invokespecial index, 3)) (hf : cells + rm.cells ≤ R.cells ∧ slots + rm.slots ≤ R.slots)
    (kk : ∀ (u : S) (H1 : Heap) (locs1 : List Loc), gvP D vwCl (ws' u) H1 → gvD A (ws' u) → va_S A H0 H1 locs1 → post u → W p l e R s m args below meth c H1 locs1 (cells + rm.cells) (slots + rm.slots) Q (F0 m (pc + 3) ls (rest))) : W p l e R s m args below meth c H locs cells slots Q (F0 m pc ls st0) := by
  have hF := gFree hD hS hA
  refine va_callv (va_runI (As := As) (rest := rest) F (hM H.size) cw ⟨gBlind, fun U hU hW => gHere hP hD hE hU hW⟩ rfl hn hl hst (lv_room (pc := pc) (m := m) (ls := ls) (rest := st0) hW) hdg hf) hS (fun q _ h => hF q h) hF ?_
  intro u t H1 locs1 ht hvm hp hB hz hk hS1
  obtain ⟨hP1, hD1⟩ := hB
  rw [ht] at hP1
  exact kk u H1 locs1 hP1 (hD1.weaken (fun _ _ _ h => hF _ h)) hS1 hp
theorem gc_IN_v {S : Type} {yy : MethodName} {bytes : ByteArray} {maxL nL n index : Nat} {wsy : List Cond} {rm : Room} {Ts : List Cond} {own : String} {host : String} {b : Nat} {As st0 : List Value} {post : S → Prop} {ws' : S → va_W} (hM : gMv l yy wsy rm D y (.ref b :: As) ws post ws') (F : CallFix p m c cc nL s args Ts own) (cw : va_CN R s args own index yy host bytes maxL none wsy rm rm.cells rm.slots n ∧ yy.name = "<init>" ∧ (Cond.instanceMethod yy).before args s = true) (hE : gE D y s) (hP : gvP D vwCl ws H) (hD : gvD A ws) (hS : va_S A H0 H locs) (hA : ∀ q : Nat, H0.size ≤ q → A q) (hst : st0 = As.reverse ++ .ref b :: rest) (hn : As.length = n) (hl : ls.size = nL) (hW : (rest.map fun v => v.category).sum ≤ 8) (hdg : decode cc pc = .ok (.invokespecial index, 3)) (hf : cells + rm.cells ≤ R.cells ∧ slots + rm.slots ≤ R.slots)
    (kk : ∀ (u : S) (H1 : Heap) (locs1 : List Loc), gvP D vwCl (ws' u) H1 → gvD A (ws' u) → va_S A H0 H1 locs1 → post u → W p l e R s m args below meth c H1 locs1 (cells + rm.cells) (slots + rm.slots) Q (F0 m (pc + 3) ls (rest))) : W p l e R s m args below meth c H locs cells slots Q (F0 m pc ls st0) := by
  have hF := gFree hD hS hA
  refine va_callv (va_runIN (As := As) (rest := rest) F (hM H.size) cw ⟨gBlind, fun U hU hW => gHere hP hD hE hU hW⟩ rfl hn hl hst (lv_room (pc := pc) (m := m) (ls := ls) (rest := st0) hW) hdg hf) hS (fun q _ h => hF q h) hF ?_
  intro u t H1 locs1 ht hvm hp hB hz hk hS1
  obtain ⟨hP1, hD1⟩ := hB
  rw [ht] at hP1
  exact kk u H1 locs1 hP1 (hD1.weaken (fun _ _ _ h => hF _ h)) hS1 hp
theorem gc_V_r {S : Type} {yy : MethodName} {bytes : ByteArray} {maxL nL n index : Nat} {ret : Option FieldType} {wsy : List Cond} {rm : Room} {Ts : List Cond} {own C : String} {b : Nat} {As st0 : List Value} {post : Nat → S → Prop} {ws' : S → va_W} (hM : gMr l yy wsy rm D y (.ref b :: As) ws post ws') (F : CallFix p m c cc nL s args Ts own) (cw : CallW R s args own C index yy bytes maxL ret wsy rm rm.cells rm.slots n) (hE : gE D y s) (hP : gvP D vwCl ws H) (hD : gvD A ws) (hS : va_S A H0 H locs) (hA : ∀ q : Nat, H0.size ≤ q → A q) (q0 : Nat) {ci : Nat} {fs : List Value} {cq : vw_C} (he : ws[q0]? = some (b, .inr (ci, fs))) (hc : vwCl[ci]? = some cq) (hC : cq.1 = C) (hst : st0 = As.reverse ++ .ref b :: rest) (hn : As.length = n) (hl : ls.size = nL) (hW : (rest.map fun v => v.category).sum ≤ 8) (hdg : decode cc pc = .ok (.invokevirtual index, 3)) (hf : cells + rm.cells ≤ R.cells ∧ slots + rm.slots ≤ R.slots)
    (kk : ∀ (r : Nat) (u : S) (H1 : Heap) (locs1 : List Loc), gvP D vwCl (ws' u) H1 → gvD A (ws' u) → va_S A H0 H1 locs1 → post r u → W p l e R s m args below meth c H1 locs1 (cells + rm.cells) (slots + rm.slots) Q (F0 m (pc + 3) ls (.ref r :: rest))) : W p l e R s m args below meth c H locs cells slots Q (F0 m pc ls st0) := by
  have hF := gFree hD hS hA
  refine va_callr (va_runV (As := As) (rest := rest) F (hM H.size) cw ⟨gBlind, (by rw [← hC]; exact gv_recv hE.1 hP hc he), fun U hU hW => gHere hP hD hE hU hW⟩ rfl hn hl hst (lv_room (pc := pc) (m := m) (ls := ls) (rest := st0) hW) hdg hf) hS (fun q _ h => hF q h) hF ?_
  intro u r t H1 locs1 ht hvm hp hB hz hk hS1
  obtain ⟨hq, hP1, hD1⟩ := hB
  rw [ht] at hP1
  exact kk r u H1 locs1 hP1 (hD1.weaken (fun _ _ _ h => hF _ h)) hS1 hq
theorem gc_S_r {S : Type} {yy : MethodName} {bytes : ByteArray} {maxL nL n index : Nat} {ret : Option FieldType} {wsy : List Cond} {rm : Room} {Ts : List Cond} {own : String} {As st0 : List Value} {post : Nat → S → Prop} {ws' : S → va_W} (hM : gMr l yy wsy rm D y As ws post ws') (F : CallFix p m c cc nL s args Ts own) (cw : CallB R s args own index yy bytes maxL ret wsy rm rm.cells rm.slots n ∧ (Cond.static yy).before args s = true) (hE : gE D y s) (hP : gvP D vwCl ws H) (hD : gvD A ws) (hS : va_S A H0 H locs) (hA : ∀ q : Nat, H0.size ≤ q → A q) (hst : st0 = As.reverse ++ rest) (hn : As.length = n) (hl : ls.size = nL) (hW : (rest.map fun v => v.category).sum ≤ 8) (hdg : decode cc pc = .ok (.invokestatic index, 3)) (hf : cells + rm.cells ≤ R.cells ∧ slots + rm.slots ≤ R.slots)
    (kk : ∀ (r : Nat) (u : S) (H1 : Heap) (locs1 : List Loc), gvP D vwCl (ws' u) H1 → gvD A (ws' u) → va_S A H0 H1 locs1 → post r u → W p l e R s m args below meth c H1 locs1 (cells + rm.cells) (slots + rm.slots) Q (F0 m (pc + 3) ls (.ref r :: rest))) : W p l e R s m args below meth c H locs cells slots Q (F0 m pc ls st0) := by
  have hF := gFree hD hS hA
  refine va_callr (va_runS (As := As) (rest := rest) F (hM H.size) cw ⟨gBlind, fun U hU hW => gHere hP hD hE hU hW⟩ rfl hn hl hst (lv_room (pc := pc) (m := m) (ls := ls) (rest := st0) hW) hdg hf) hS (fun q _ h => hF q h) hF ?_
  intro u r t H1 locs1 ht hvm hp hB hz hk hS1
  obtain ⟨hq, hP1, hD1⟩ := hB
  rw [ht] at hP1
  exact kk r u H1 locs1 hP1 (hD1.weaken (fun _ _ _ h => hF _ h)) hS1 hq
theorem gc_VN_r {S : Type} {yy : MethodName} {bytes : ByteArray} {maxL nL n index : Nat} {ret : Option FieldType} {wsy : List Cond} {rm : Room} {Ts : List Cond} {own C : String} {host : String} {b : Nat} {As st0 : List Value} {post : Nat → S → Prop} {ws' : S → va_W} (hM : gMr l yy wsy rm D y (.ref b :: As) ws post ws') (F : CallFix p m c cc nL s args Ts own) (cw : va_CN R s args own index yy host bytes maxL ret wsy rm rm.cells rm.slots n ∧ (Cond.instanceMethod yy).before args s = true ∧ (Cond.selects C yy yy).before args s = true) (hE : gE D y s) (hP : gvP D vwCl ws H) (hD : gvD A ws) (hS : va_S A H0 H locs) (hA : ∀ q : Nat, H0.size ≤ q → A q) (q0 : Nat) {ci : Nat} {fs : List Value} {cq : vw_C} (he : ws[q0]? = some (b, .inr (ci, fs))) (hc : vwCl[ci]? = some cq) (hC : cq.1 = C) (hst : st0 = As.reverse ++ .ref b :: rest) (hn : As.length = n) (hl : ls.size = nL) (hW : (rest.map fun v => v.category).sum ≤ 8) (hdg : decode cc pc = .ok (.invokevirtual index, 3)) (hf : cells + rm.cells ≤ R.cells ∧ slots + rm.slots ≤ R.slots)
    (kk : ∀ (r : Nat) (u : S) (H1 : Heap) (locs1 : List Loc), gvP D vwCl (ws' u) H1 → gvD A (ws' u) → va_S A H0 H1 locs1 → post r u → W p l e R s m args below meth c H1 locs1 (cells + rm.cells) (slots + rm.slots) Q (F0 m (pc + 3) ls (.ref r :: rest))) : W p l e R s m args below meth c H locs cells slots Q (F0 m pc ls st0) := by
  have hF := gFree hD hS hA
  refine va_callr (va_runVN (As := As) (rest := rest) F (hM H.size) cw ⟨gBlind, (by rw [← hC]; exact gv_recv hE.1 hP hc he), fun U hU hW => gHere hP hD hE hU hW⟩ rfl hn hl hst (lv_room (pc := pc) (m := m) (ls := ls) (rest := st0) hW) hdg hf) hS (fun q _ h => hF q h) hF ?_
  intro u r t H1 locs1 ht hvm hp hB hz hk hS1
  obtain ⟨hq, hP1, hD1⟩ := hB
  rw [ht] at hP1
  exact kk r u H1 locs1 hP1 (hD1.weaken (fun _ _ _ h => hF _ h)) hS1 hq
theorem gc_SN_r {S : Type} {yy : MethodName} {bytes : ByteArray} {maxL nL n index : Nat} {ret : Option FieldType} {wsy : List Cond} {rm : Room} {Ts : List Cond} {own : String} {host : String} {As st0 : List Value} {post : Nat → S → Prop} {ws' : S → va_W} (hM : gMr l yy wsy rm D y As ws post ws') (F : CallFix p m c cc nL s args Ts own) (cw : va_CN R s args own index yy host bytes maxL ret wsy rm rm.cells rm.slots n ∧ (Cond.static yy).before args s = true ∧ True) (hE : gE D y s) (hP : gvP D vwCl ws H) (hD : gvD A ws) (hS : va_S A H0 H locs) (hA : ∀ q : Nat, H0.size ≤ q → A q) (hst : st0 = As.reverse ++ rest) (hn : As.length = n) (hl : ls.size = nL) (hW : (rest.map fun v => v.category).sum ≤ 8) (hdg : decode cc pc = .ok (.invokestatic index, 3)) (hf : cells + rm.cells ≤ R.cells ∧ slots + rm.slots ≤ R.slots)
    (kk : ∀ (r : Nat) (u : S) (H1 : Heap) (locs1 : List Loc), gvP D vwCl (ws' u) H1 → gvD A (ws' u) → va_S A H0 H1 locs1 → post r u → W p l e R s m args below meth c H1 locs1 (cells + rm.cells) (slots + rm.slots) Q (F0 m (pc + 3) ls (.ref r :: rest))) : W p l e R s m args below meth c H locs cells slots Q (F0 m pc ls st0) := by
  have hF := gFree hD hS hA
  refine va_callr (va_runSN (As := As) (rest := rest) F (hM H.size) cw ⟨gBlind, fun U hU hW => gHere hP hD hE hU hW⟩ rfl hn hl hst (lv_room (pc := pc) (m := m) (ls := ls) (rest := st0) hW) hdg hf) hS (fun q _ h => hF q h) hF ?_
  intro u r t H1 locs1 ht hvm hp hB hz hk hS1
  obtain ⟨hq, hP1, hD1⟩ := hB
  rw [ht] at hP1
  exact kk r u H1 locs1 hP1 (hD1.weaken (fun _ _ _ h => hF _ h)) hS1 hq
end GL3
