/-! the law's turn: what a case stands on and what it leaves -/
def LWB (p : Program) (s : State) (m : MethodId) (c : Code) (meth : Method) (b L : Nat) (xs : Nat → Int32) (D : va_G) (y : Nat → Nat) (e9 mi : Nat) (A : Nat → Prop) : Prop :=
  p.tables.exec = Jvm.exec ∧ c.code = cL_law ∧ c.maxLocals = 26 ∧ (∀ w ∈ wsL_law, w.before #[Value.ref b] s = true) ∧ s.vm.findClass RL = some m.cls ∧ gE D y s ∧ gZ e9 mi A s s.heap ∧ va_X b L xs s s.heap ∧ b < s.heap.size ∧ ¬ A b ∧ (∀ q : Nat, s.heap.size ≤ q → A q) ∧ L ≤ 2560
abbrev lC (ad : Nat → Nat) (b tn : Nat) (vv yv : Int32) (act : Nat) (zv : Int32) : List (Nat × Value) := [(14, .int (nI 1)), (15, .int (nI (tn))), (16, .int vv), (17, .int yv), (18, .int (nI (act))), (19, .int zv), (0, .ref b), (1, .ref (ad 1)), (2, .ref (ad 30)), (3, .ref (ad 31)), (4, .ref (ad 32)), (5, .ref (ad 33)), (6, .ref (ad 34)), (7, .ref (ad 35)), (8, .ref (ad 36)), (9, .ref (ad 37)), (10, .ref (ad 38)), (11, .ref (ad 39)), (12, .ref (ad 40)), (13, .ref (ad 41))]
abbrev lJ (ad : Nat → Nat) (b tn : Nat) (zv : Int32) : List (Nat × Value) := [(14, .int (nI 1)), (15, .int (nI (tn))), (19, .int zv), (0, .ref b), (1, .ref (ad 1)), (2, .ref (ad 30)), (3, .ref (ad 31)), (4, .ref (ad 32)), (5, .ref (ad 33)), (6, .ref (ad 34)), (7, .ref (ad 35)), (8, .ref (ad 36)), (9, .ref (ad 37)), (10, .ref (ad 38)), (11, .ref (ad 39)), (12, .ref (ad 40)), (13, .ref (ad 41))]
theorem tS_congr {f g : Nat → Nat} : ∀ j, (∀ k, k < j → f k = g k) → tS f j = tS g j
  | 0, _ => rfl
  | j + 1, h => by
    show tS f j + f j = tS g j + g j
    rw [tS_congr j (fun k hk => h k (by omega)), h j (Nat.lt_succ_self j)]
def lSe (v : Int32) : Nat := if lowN (v >>> (nI 5 &&& 31)) % 4 = 0 then 1 + lowN (v >>> (nI 6 &&& 31)) % 4095 else 4095
theorem lSe_b (v : Int32) : 1 ≤ lSe v ∧ lSe v ≤ 4095 := by
  have h1 := Nat.mod_lt (lowN (v >>> (nI 6 &&& 31))) (show 0 < 4095 by decide)
  unfold lSe
  split <;> omega
def lSp (z v : Int32) : Nat := if lowN (z >>> (nI 4 &&& 31)) % 3 = 0 then 0 else lowN v % 5000
theorem lSp_b (z v : Int32) : lSp z v ≤ 5000 := by
  have h1 := Nat.mod_lt (lowN v) (show 0 < 5000 by decide)
  unfold lSp
  split <;> omega
def lFx (v : Int32) : Nat := if lowN v % 4 = 0 then 1 + lowN (v >>> (nI 3 &&& 31)) % 100000 else 70 + lowN (v >>> (nI 3 &&& 31)) % 80
theorem lFx_b (v : Int32) : 1 ≤ lFx v ∧ lFx v ≤ 100000 := by
  have h1 := Nat.mod_lt (lowN (v >>> (nI 3 &&& 31))) (show 0 < 100000 by decide)
  have h2 := Nat.mod_lt (lowN (v >>> (nI 3 &&& 31))) (show 0 < 80 by decide)
  unfold lFx
  split <;> omega
def lWm (v : Int32) : Nat := if lowN v % 3 = 0 then 1000000000 else 5000
theorem lWm_b (v : Int32) : 0 < lWm v ∧ lWm v ≤ 1000000000 := by
  unfold lWm
  split <;> omega
def lTr (v : Int32) : Nat := if lowN (v >>> (nI 4 &&& 31)) % 3 = 0 then 0 else lowN (v >>> (nI 5 &&& 31)) % 60
theorem lTr_b (v : Int32) : lTr v ≤ 60 := by
  have h1 := Nat.mod_lt (lowN (v >>> (nI 5 &&& 31))) (show 0 < 60 by decide)
  unfold lTr
  split <;> omega
/-- a counted loop over worlds that spends nothing -/
theorem g_forWk {p : Program} {l : Launch} {e : Env} {R : Room} {s : State} {m : MethodId} {args : Array Value} {below : List Frame} {meth : Method} {c : Code} {H H0 : Heap} {locs : List Loc} {cells slots pc : Nat} {ls : Array Slot} {Q : State → Prop} {D : va_G} {A : Nat → Prop} {ws : va_W} (Pr : Nat → va_W → Prop) (Lv : Nat → List (Nat × Value)) (N j0 : Nat) {nL : Nat} {st : List Value} (h0 : j0 ≤ N)
    (hx : ∀ w, Pr N w → ∀ (H : Heap) (locs : List Loc) (ls : Array Slot), gvP D vwCl w H → gvD A w → va_S A H0 H locs → lv_has ls nL (Lv N) → W p l e R s m args below meth c H locs cells slots Q (F0 m pc ls st))
    (hs : ∀ j, j < N → (∀ w, Pr (j + 1) w → ∀ (H : Heap) (locs : List Loc) (ls : Array Slot), gvP D vwCl w H → gvD A w → va_S A H0 H locs → lv_has ls nL (Lv (j + 1)) → W p l e R s m args below meth c H locs cells slots Q (F0 m pc ls st)) → ∀ w, Pr j w → ∀ (H : Heap) (locs : List Loc) (ls : Array Slot), gvP D vwCl w H → gvD A w → va_S A H0 H locs → lv_has ls nL (Lv j) → W p l e R s m args below meth c H locs cells slots Q (F0 m pc ls st))
    (hp : Pr j0 ws) (hP : gvP D vwCl ws H) (hD : gvD A ws) (hS : va_S A H0 H locs) (hl : lv_has ls nL (Lv j0)) : W p l e R s m args below meth c H locs cells slots Q (F0 m pc ls st) :=
  g_down (P := fun j => ∀ w, Pr j w → ∀ (H : Heap) (locs : List Loc) (ls : Array Slot), gvP D vwCl w H → gvD A w → va_S A H0 H locs → lv_has ls nL (Lv j) → W p l e R s m args below meth c H locs cells slots Q (F0 m pc ls st)) N hx hs j0 h0 ws hp H locs ls hP hD hS hl
theorem g_zv {p : Program} {l : Launch} {e : Env} {R : Room} {s : State} {m : MethodId} {args : Array Value} {below : List Frame} {meth : Method} {c : Code} {H : Heap} {locs : List Loc} {cells slots pc : Nat} {ls : Array Slot} {rest : List Value} {Q : State → Prop} {x v' : Int32} (hx : x = v') (kk : W p l e R s m args below meth c H locs cells slots Q (F0 m pc ls (.int v' :: rest))) : W p l e R s m args below meth c H locs cells slots Q (F0 m pc ls (.int x :: rest)) := by rw [hx]; exact kk
