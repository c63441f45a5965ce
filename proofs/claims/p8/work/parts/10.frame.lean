/-! THE JUDGEMENT J: a method under way over a pool of cells (L the addresses, F what each holds); E the fixed things -/
abbrev jE : Type := Program × Launch × Env × Room × State × MethodId × Array Value × List Frame × Method × Code × (State → Prop) × va_G × (Nat → Prop) × Nat
def jT (G : Nat → ClassId) (i : Nat) : Nat := G (100 + i)
def jty (G : Nat → ClassId) : List (ClassId × FieldType) := [(G 0, .byte), (G 1, .int), (G 2, .long), (G 3, .boolean), (G 4, .object RX0), (G 5, .object RX3), (G 6, .object RX5), (G 7, .object RX6)]
def jF (L : List Nat) (F : Nat → va_E) (a : Nat) (c : va_E) : Prop := a ∈ L ∧ F a = c
def jX (L : List Nat) (sz : Nat) : Nat → Prop := fun q => q ∈ L ∨ sz ≤ q
def jq (ci : Nat) : vw_C := vwCl.getD ci ("", fun _ => ("", "", "", false), 0)
def jSTART : List Int32 := [0x6a09e667, 0xbb67ae85, 0x3c6ef372, 0xa54ff53a, 0x510e527f, 0x9b05688c, 0x1f83d9ab, 0x5be0cd19]
def jROUND : List Int32 := [
  0x428a2f98, 0x71374491, 0xb5c0fbcf, 0xe9b5dba5, 0x3956c25b, 0x59f111f1, 0x923f82a4, 0xab1c5ed5, 0xd807aa98, 0x12835b01, 0x243185be, 0x550c7dc3, 0x72be5d74, 0x80deb1fe, 0x9bdc06a7, 0xc19bf174,
  0xe49b69c1, 0xefbe4786, 0x0fc19dc6, 0x240ca1cc, 0x2de92c6f, 0x4a7484aa, 0x5cb0a9dc, 0x76f988da, 0x983e5152, 0xa831c66d, 0xb00327c8, 0xbf597fc7, 0xc6e00bf3, 0xd5a79147, 0x06ca6351, 0x14292967,
  0x27b70a85, 0x2e1b2138, 0x4d2c6dfc, 0x53380d13, 0x650a7354, 0x766a0abb, 0x81c2c92e, 0x92722c85, 0xa2bfe8a1, 0xa81a664b, 0xc24b8b70, 0xc76c51a3, 0xd192e819, 0xd6990624, 0xf40e3585, 0x106aa070,
  0x19a4c116, 0x1e376c08, 0x2748774c, 0x34b0bcb5, 0x391c0cb3, 0x4ed8aa4a, 0x5b9cca4f, 0x682e6ff3, 0x748f82ee, 0x78a5636f, 0x84c87814, 0x8cc70208, 0x90befffa, 0xa4506ceb, 0xbef9a3f7, 0xc67178f2]
def jNN : List Int64 := [0xd0364141, 0xbfd25e8c, 0xaf48a03b, 0xbaaedce6, 0xfffffffe, 0xffffffff, 0xffffffff, 0xffffffff]
def jGAP : List Int64 := [0x2fc9bebf, 0x402da173, 0x50b75fc4, 0x45512319, 1]
def jTx : List String := ["BIP0340/aux", "BIP0340/nonce", "BIP0340/challenge", "KeyAgg list", "KeyAgg coefficient", "MuSig/aux", "MuSig/nonce", "MuSig/noncecoef", ""]
def jTb : List (List Int32) := jTx.map (fun t => t.toList.map (fun ch => nI ch.toNat))
def jTn : List Nat := jTb.map List.length
def jNw : List (String × Nat × MethodName) := [(RX11, 24, yX9_init), (RX2, 9, yX6_init), (RX6, 9, yX1_init), (RX2, 22, yX7_init), (RX7, 9, yX1_init), (RX2, 29, yX1_init), (RX10, 9, yX8_init), (RX10, 42, yX6_init), (RX10, 52, yX1_init), (RX4, 46, yX8_init), (RX4, 65, yX6_init), (RX4, 94, yX5_init), (RX5, 20, yX6_init), (RX5, 27, yX8_init), (RX11, 63, yX3_init), (RX3, 28, yX8_init), (RX3, 38, yX6_init)]
/-- what the launch gives besides the pool: four static arrays, the tags' texts, a static of String -/
def jSt (T : Nat → Nat) (A : Nat → Prop) (U : State) (H : Heap) : Prop :=
  va_Z RX9 "START" "[I" (.ref (T 0)) A U H ∧ va_T .int (T 0) 8 (fun j => .int (jSTART.getD j 0)) A U H ∧
  va_Z RX9 "ROUND" "[I" (.ref (T 1)) A U H ∧ va_T .int (T 1) 64 (fun j => .int (jROUND.getD j 0)) A U H ∧
  va_Z RX8 "N" "[J" (.ref (T 2)) A U H ∧ va_T .long (T 2) 8 (fun j => .long (jNN.getD j 0)) A U H ∧
  va_Z RX8 "GAP" "[J" (.ref (T 3)) A U H ∧ va_T .long (T 3) 5 (fun j => .long (jGAP.getD j 0)) A U H ∧
  va_Z "java/lang/String" "COMPACT_STRINGS" "Z" (.int 1) A U H ∧
  vk_S 9 jTn jTb (fun i => T (10 + i)) (fun i => T (20 + i)) A U H ∧ (∀ i, i < 9 → vk_R RX9 (29 + 2 * i) (jTx.getD i "") (T (10 + i)) U) ∧ ((∀ C, C ∈ [RX0, RX3, RX5, RX6] → va_AO C U) ∧ ∀ x, x ∈ jNw → va_Nw (.methodLinkNest x.1 x.2.1 x.2.2 RX11) U) ∧ (∃ rf : Option Nat, va_Z "jdk/internal/util/Preconditions" "SIOOBE_FORMATTER" "Ljava/util/function/BiFunction;" (va_rf rf) A U H)
theorem jSt.to {T : Nat → Nat} {A A' : Nat → Prop} {u U : State} {H H1 : Heap} (h : jSt T A u H) (hvm : u.vm.Alike U.vm) (hr : ∀ (i : Nat), i < 9 → vk_R RX9 (29 + 2 * i) (jTx.getD i "") (T (10 + i)) u → vk_R RX9 (29 + 2 * i) (jTx.getD i "") (T (10 + i)) U) (hn : ∀ (a : String) (i : Nat) (y : MethodName) (b : String), va_Nw (.methodLinkNest a i y b) u → va_Nw (.methodLinkNest a i y b) U) (hq : ∀ a : Nat, a < H.size → ¬ A a → H1[a]? = H[a]?) (hAB : ∀ q, A' q → A q) : jSt T A' U H1 := by
  obtain ⟨h1, h2, h3, h4, h5, h6, h7, h8, h9, h10, h11, h12, rf, h13⟩ := h
  exact ⟨((h1.moved hvm).kept hq).narrow hAB, ((h2.moved hvm).kept hq).narrow hAB, ((h3.moved hvm).kept hq).narrow hAB, ((h4.moved hvm).kept hq).narrow hAB, ((h5.moved hvm).kept hq).narrow hAB, ((h6.moved hvm).kept hq).narrow hAB, ((h7.moved hvm).kept hq).narrow hAB, ((h8.moved hvm).kept hq).narrow hAB, ((h9.moved hvm).kept hq).narrow hAB, ((h10.moved hvm).kept hq).narrow hAB, fun i hi => hr i hi (h11 i hi), ⟨fun C hC => (h12.1 C hC).moved hvm, fun x hx => hn _ _ _ _ (h12.2 x hx)⟩, rf, ((h13.moved hvm).kept hq).narrow hAB⟩
theorem jSt.blind {T : Nat → Nat} {A : Nat → Prop} {U : State} (h : jSt T A U U.heap) (g : JFrame) (mk : MethodId) (a : Array Value) : jSt T A (U.calling g mk a) (U.calling g mk a).heap :=
  h.to (Vm.Alike.refl U.vm) (fun _ _ q => vk_R.same rfl q) (fun _ _ _ _ q => va_Nw.same rfl rfl q) (fun _ _ _ => rfl) (fun _ q => q)
/-! pools -/
theorem jpl_mem {L : List Nat} {F : Nat → va_E} {k : Nat} {q : Nat × va_E} (h : (va_pl L F)[k]? = some q) : q.1 ∈ L ∧ L[k]? = some q.1 := by
  unfold va_pl at h
  rw [List.getElem?_map] at h
  cases hk : L[k]? with
  | none => rw [hk] at h; cases h
  | some a =>
    rw [hk] at h
    cases h
    exact ⟨List.mem_of_getElem? hk, rfl⟩
theorem jD_in {A : Nat → Prop} {L : List Nat} {F : Nat → va_E} (h : va_D A (va_pl L F)) {a : Nat} (ha : a ∈ L) : A a := by
  obtain ⟨k, hk⟩ := va_pl_get (X := []) (f := F) ha
  exact h.2 k _ hk
theorem jD_to {A B : Nat → Prop} {L : List Nat} {F F' : Nat → va_E} (h : va_D A (va_pl L F)) (hB : ∀ a ∈ L, B a) : va_D B (va_pl L F') := by
  refine ⟨fun i j p q hi hj hpq => ?_, fun k q hk => hB _ (jpl_mem hk).1⟩
  have h1 := (jpl_mem hi).2
  have h2 := (jpl_mem hj).2
  refine h.1 i j (p.1, F p.1) (q.1, F q.1) ?_ ?_ hpq
  · show (va_pl L F)[i]? = _
    unfold va_pl
    rw [List.getElem?_map, h1]; rfl
  · show (va_pl L F)[j]? = _
    unfold va_pl
    rw [List.getElem?_map, h2]; rfl
theorem jF.at {L : List Nat} {F : Nat → va_E} {a : Nat} {c : va_E} (h : jF L F a c) : ∃ k : Nat, (va_pl L F)[k]? = some (a, c) := by
  obtain ⟨k, hk⟩ := va_pl_get (X := []) (f := F) h.1
  exact ⟨k, by rw [← h.2]; exact hk⟩
theorem jpl_set {A : Nat → Prop} {L : List Nat} {F : Nat → va_E} {a k : Nat} {c : va_E} (hD : va_D A (va_pl L F)) (h : jF L F a c) (hk : (va_pl L F)[k]? = some (a, c)) (e : va_E) : (va_pl L F).set k (a, e) = va_pl L (va_up F a e) := by
  have := va_pl_set (X := []) (e := e) hD h.1 (by rw [h.2]; exact hk)
  simpa using this
/-- facts under writing -/
theorem jF.fr {L : List Nat} {F F' : Nat → va_E} {a : Nat} {c : va_E} (h : jF L F a c) (he : F' a = F a) : jF L F' a c := ⟨h.1, he.trans h.2⟩
theorem jF.inj {L : List Nat} {F : Nat → va_E} {a : Nat} {c c' : va_E} (h : jF L F a c) (h' : jF L F a c') : c = c' := h.2.symm.trans h'.2
/-- kinds: an object by its class, an array by what it holds -/
def jk (c : va_E) : Nat := match c with
  | .inr (ci, _) => ci + 10
  | .inl (_, _, .inl _) => 0
  | .inl (_, _, .inr (.inl _)) => 1
  | .inl (_, _, .inr (.inr (.inl _))) => 2
  | .inl (_, _, .inr (.inr (.inr (.inl _)))) => 3
  | .inl (_, _, .inr (.inr (.inr (.inr _)))) => 4
theorem jF.ne {L : List Nat} {F : Nat → va_E} {a b : Nat} {c c' : va_E} (h : jF L F a c) (h' : jF L F b c') (hk : jk c ≠ jk c') : a ≠ b := by
  intro e
  subst e
  exact hk (by rw [h.inj h'])
/-- a fact at another address than the one that was written -/
theorem jF.up {L : List Nat} {F F' : Nat → va_E} {a b : Nat} {c : va_E} (h : jF L F a c) (hu : ∀ x, x ≠ b → F' x = F x) (hn : a ≠ b) : jF L F' a c := h.fr (hu a hn)
theorem jF.upk {L : List Nat} {F F' : Nat → va_E} {a b : Nat} {c c' : va_E} (h : jF L F a c) (hu : ∀ x, x ≠ b → F' x = F x) (hb : jF L F b c') (hk : jk c ≠ jk c') : jF L F' a c := h.fr (hu a (h.ne hb hk))
theorem jn {x : Nat} {l W : List Nat} (hn : l.Nodup) (i : Nat) (is : List Nat) (hi : l[i]? = some x) (hW : is.map (fun j => l[j]?) = W.map some) (h : i ∉ is) : x ∉ W := by
  intro hx
  obtain ⟨k, hk⟩ := List.mem_iff_getElem?.mp hx
  have h1 : (is.map (fun j => l[j]?))[k]? = some (some x) := by rw [hW, List.getElem?_map, hk]; rfl
  rw [List.getElem?_map] at h1
  cases hj : is[k]? with
  | none => rw [hj] at h1; cases h1
  | some j =>
    rw [hj] at h1
    have h2 : l[j]? = some x := by simpa using h1
    have hlt : i < l.length := (List.getElem?_eq_some_iff.mp hi).1
    have e : i = j := (List.getElem?_inj hlt hn).mp (hi.trans h2.symm)
    exact h (e ▸ List.mem_of_getElem? hj)
theorem jn2 {x y : Nat} {l : List Nat} (hn : l.Nodup) (i j : Nat) (hi : l[i]? = some x) (hj : l[j]? = some y) (h : i ≠ j) : x ≠ y := by
  intro e
  subst e
  exact h ((List.getElem?_inj (List.getElem?_eq_some_iff.mp hi).1 hn).mp (hi.trans hj.symm))
/-! the tables of the classes -/
theorem jtab (ci : Nat) (hc : vwCl[ci]? = some (jq ci)) : ∃ ty0 : Nat → FieldType, (∀ k, k < (jq ci).2.2 → parseFieldDescriptor ((jq ci).2.1 k).2.2.1 = some (ty0 k)) ∧ ∀ a, a < (jq ci).2.2 → ∀ b, b < (jq ci).2.2 → a ≠ b → ((jq ci).2.1 a).2.1 ≠ ((jq ci).2.1 b).2.1 := by
  match ci, hc with
  | 0, _ => exact ⟨tyX0, tyX0_ok, nmX0⟩
  | 1, _ => exact ⟨tyX1, tyX1_ok, nmX1⟩
  | 2, _ => exact ⟨tyX2, tyX2_ok, nmX2⟩
  | 3, _ => exact ⟨tyX3, tyX3_ok, nmX3⟩
  | 4, _ => exact ⟨tyX4, tyX4_ok, nmX4⟩
  | 5, _ => exact ⟨tyX5, tyX5_ok, nmX5⟩
  | 6, _ => exact ⟨tyX6, tyX6_ok, nmX6⟩
  | 7, _ => exact ⟨tyX7, tyX7_ok, nmX7⟩
  | 8, _ => exact ⟨tyX8, tyX8_ok, nmX8⟩
  | 9, _ => exact ⟨tyX9, tyX9_ok, nmX9⟩
  | 10, _ => exact ⟨tyX10, tyX10_ok, nmX10⟩
  | 11, _ => exact ⟨tyX11, tyX11_ok, nmX11⟩
  | 12, _ => exact ⟨tyX12, tyX12_ok, nmX12⟩
  | n + 13, h => simp [vwCl] at h
def jFl (own : String) (Ts : List Cond) (index ci k : Nat) : Prop := vwCl[ci]? = some (jq ci) ∧ k < (jq ci).2.2 ∧ (∀ w ∈ u_ws (jq ci).1 (jq ci).2.1 (jq ci).2.2, w ∈ Ts) ∧ Cond.fieldLink own index ((jq ci).2.1 k).1 ((jq ci).2.1 k).2.1 ((jq ci).2.1 k).2.2.1 ∈ Ts
/-! the judgement -/
def J (E : jE) (L : List Nat) (F : Nat → va_E) (cs ss pc : Nat) (lv : List (Nat × Value)) (st : List Value) : Prop :=
  match E with
  | (p, l, e, R, s, m, args, below, meth, c, Q, D, A, nL) => ∀ (H : Heap) (locs : List Loc) (ls : Array Slot), va_P D vwCl (va_pl L F) H → va_D A (va_pl L F) → va_S A s.heap H locs → lv_has ls nL lv → W p l e R s m args below meth c H locs cs ss Q (F0 m pc ls st)
def jOk (E : jE) (G : Nat → ClassId) (rm : Room) (cc : ByteArray) (nL : Nat) (own : String) (Ts : List Cond) : Prop :=
  match E with
  | (p, l, e, R, s, m, args, below, meth, c, Q, D, A, nL0) => nL0 = nL ∧ R = rm ∧ p.tables.exec = Jvm.exec ∧ c.code = cc ∧ c.maxLocals = nL0 ∧ s.vm.findClass own = some m.cls ∧ (∀ w ∈ Ts, w.before args s = true) ∧ va_K D vwCl (jty G) s ∧ jSt (jT G) A s s.heap ∧ (∀ q, s.heap.size ≤ q → A q) ∧ meth.locks = false
def jRi (E : jE) (cc : ByteArray) (rt : FieldType) (mc ms : Nat) (po : Int32 → List Nat → (Nat → va_E) → Prop) : Prop := ∀ (L : List Nat) (F : Nat → va_E) (v : Int32) (pc : Nat) (lv : List (Nat × Value)), decode cc pc = .ok (.ireturn, 1) → narrow rt (.int v) = .int v → po v L F → J E L F mc ms pc lv [.int v]
def jRl (E : jE) (cc : ByteArray) (mc ms : Nat) (po : Int64 → List Nat → (Nat → va_E) → Prop) : Prop := ∀ (L : List Nat) (F : Nat → va_E) (v : Int64) (pc : Nat) (lv : List (Nat × Value)), decode cc pc = .ok (.lreturn, 1) → po v L F → J E L F mc ms pc lv [.long v]
def jRv (E : jE) (cc : ByteArray) (mc ms : Nat) (po : List Nat → (Nat → va_E) → Prop) : Prop := ∀ (L : List Nat) (F : Nat → va_E) (pc : Nat) (lv : List (Nat × Value)), decode cc pc = .ok (.return_, 1) → po L F → J E L F mc ms pc lv []
/-! contracts -/
abbrev jPc (G : Nat → ClassId) (av : List Value) (D : va_G) (L : List Nat) (F : Nat → va_E) (sz : Nat) : Array Value → State → Prop := va_Pc av (fun U => U.heap.size = sz ∧ va_P D vwCl (va_pl L F) U.heap ∧ va_K D vwCl (jty G) U ∧ jSt (jT G) (jX L sz) U U.heap ∧ va_D (fun _ => True) (va_pl L F))
abbrev jB (D : va_G) (L : List Nat) (sz : Nat) : List Nat × (Nat → va_E) → State → Prop := fun u t => va_P D vwCl (va_pl u.1 u.2) t.heap ∧ va_D (jX L sz) (va_pl u.1 u.2)
def jCi (l : Launch) (y : MethodName) (ws : List Cond) (rm : Room) (mc ms : Nat) (G : Nat → ClassId) (av : List Value) (pre : List Nat → (Nat → va_E) → Prop) (po : List Nat → (Nat → va_E) → Int32 → List Nat → (Nat → va_E) → Prop) : Prop :=
  ∀ (D : va_G) (L : List Nat) (F : Nat → va_E) (sz : Nat), pre L F → Met l y ws rm (jPc G av D L F sz) (va_Qi (S := List Nat × (Nat → va_E)) (fun r u => po L F r u.1 u.2) (jB D L sz) (jX L sz)) mc ms (jX L sz)
def jCl (l : Launch) (y : MethodName) (ws : List Cond) (rm : Room) (mc ms : Nat) (G : Nat → ClassId) (av : List Value) (pre : List Nat → (Nat → va_E) → Prop) (po : List Nat → (Nat → va_E) → Int64 → List Nat → (Nat → va_E) → Prop) : Prop :=
  ∀ (D : va_G) (L : List Nat) (F : Nat → va_E) (sz : Nat), pre L F → Met l y ws rm (jPc G av D L F sz) (va_Ql (S := List Nat × (Nat → va_E)) (fun r u => po L F r u.1 u.2) (jB D L sz) (jX L sz)) mc ms (jX L sz)
def jCv (l : Launch) (y : MethodName) (ws : List Cond) (rm : Room) (mc ms : Nat) (G : Nat → ClassId) (av : List Value) (pre : List Nat → (Nat → va_E) → Prop) (po : List Nat → (Nat → va_E) → List Nat → (Nat → va_E) → Prop) : Prop :=
  ∀ (D : va_G) (L : List Nat) (F : Nat → va_E) (sz : Nat), pre L F → Met l y ws rm (jPc G av D L F sz) (va_Qv (S := List Nat × (Nat → va_E)) (fun u => po L F u.1 u.2) (jB D L sz) (jX L sz)) mc ms (jX L sz)
theorem jblind (G : Nat → ClassId) (av : List Value) (D : va_G) (L : List Nat) (F : Nat → va_E) (sz : Nat) : FrameBlind (jPc G av D L F sz) := fun a U g mk q => by
  obtain ⟨q0, q1, qP, qK, qT, qD⟩ := q
  exact ⟨q0, q1, qP, va_K.moved (u := U) (U := U.calling g mk a) (Vm.Alike.refl U.vm) qK, qT.blind g mk a, qD⟩
theorem jpre {G : Nat → ClassId} {av : List Value} {D : va_G} {L : List Nat} {F : Nat → va_E} {A : Nat → Prop} {s : State} {H : Heap} {locs : List Loc} (hK : va_K D vwCl (jty G) s) (hT : jSt (jT G) A s s.heap) (hA : ∀ q, s.heap.size ≤ q → A q) (hP : va_P D vwCl (va_pl L F) H) (hD : va_D A (va_pl L F)) (hS : va_S A s.heap H locs) : ∀ U : State, U.heap = H → s.WarmedH U.vm → jPc G av D L F H.size av.toArray U := by
  intro U hU hW
  refine ⟨rfl, by rw [hU], by rw [hU]; exact hP, va_K.moved hW.alike hK, ?_, hD.weaken (fun _ _ _ _ => trivial)⟩
  rw [hU]
  refine hT.to hW.alike (fun _ _ q => vk_R.warm hW q) (fun _ _ _ _ q => va_Nw.warmM hW q) hS.2.1 (fun q hq => ?_)
  rcases hq with h | h
  · exact jD_in hD h
  · exact hA q (Nat.le_trans hS.1 h)
theorem jfree {A : Nat → Prop} {L : List Nat} {F : Nat → va_E} {s : State} {H : Heap} {locs : List Loc} (hA : ∀ q, s.heap.size ≤ q → A q) (hD : va_D A (va_pl L F)) (hS : va_S A s.heap H locs) : ∀ q, jX L H.size q → A q := by
  intro q hq
  rcases hq with h | h
  · exact jD_in hD h
  · exact hA q (Nat.le_trans hS.1 h)

theorem jr_callVi {E : jE} {G : Nat → ClassId} {rm rm' : Room} {cc bytes : ByteArray} {nL maxL mc ms n index cs ss pc : Nat} {own : String} {Ts ws ws' : List Cond} {y : MethodName} {ret : Option FieldType} {L : List Nat} {F : Nat → va_E} {lv : List (Nat × Value)} {b ci : Nat} {fs : List Value} {As rest st : List Value} {pre : List Nat → (Nat → va_E) → Prop} {po : List Nat → (Nat → va_E) → Int32 → List Nat → (Nat → va_E) → Prop}
    (hE : jOk E G rm cc nL own Ts) (hdg : decode cc pc = .ok (.invokevirtual index, 3)) (hM : ∀ l, jCi l y ws rm' mc ms G (.ref b :: As) pre po) (hg : GoodIn Ts (wsV own index (jq ci).1 y ws)) (hw : ws = Cond.code y bytes maxL ret :: ws') (hb0 : jF L F b (.inr (ci, fs))) (hc : vwCl[ci]? = some (jq ci)) (hd : y.cls = (jq ci).1 ∧ y.cls ≠ "java/lang/invoke/MethodHandle" ∧ y.cls ≠ "java/lang/invoke/VarHandle" ∧ (parseMethodDescriptor y.desc).map (fun d => d.parameters.length) = some n)
    (hrm : rm'.cells = mc ∧ rm'.slots = ms ∧ rm'.frames + 1 ≤ rm.frames ∧ 8 + (maxL + 11) + rm'.locals ≤ rm.locals) (hcap : cs + mc ≤ rm.cells ∧ ss + ms ≤ rm.slots) (hn : As.length = n) (hst : st = As.reverse ++ .ref b :: rest) (hW : (rest.map fun v => v.category).sum ≤ 8) (hpre : pre L F)
    (kk : ∀ (r : Int32) (L1 : List Nat) (F1 : Nat → va_E), po L F r L1 F1 → J E L1 F1 (cs + mc) (ss + ms) (pc + 3) lv (.int r :: rest)) : J E L F cs ss pc lv st := by
  obtain ⟨p, l, e, R, s, m, args, below, meth, c, Q, D, A, nL0⟩ := E
  obtain ⟨rfl, rfl, hx, hb, hml, hown, hts, hK, hT, hA, hlk⟩ := hE
  intro H locs ls hP hD hS hl
  obtain ⟨q0, hq0⟩ := hb0.at
  refine va_calli (va_runV (As := As) (rest := rest) ⟨hx, hb, hml, hown, hts⟩ (hM l D L F H.size hpre) (cwV n hts hg hw hrm.1 hrm.2.1 hd hrm.2.2) ⟨jblind _ _ _ _ _ _, va_recv hK hP hc hq0, jpre hK hT hA hP hD hS⟩ rfl hn hl.1 hst (lv_room hW) hdg hcap) hS (fun q _ h => jfree hA hD hS q h) (jfree hA hD hS) (fun r u t H1 locs1 ht hvm hw1 hB hz1 hk1 hS1 => ?_)
  obtain ⟨L1, F1⟩ := u
  obtain ⟨hP1, hD1⟩ := hB
  rw [ht] at hP1
  exact kk r L1 F1 hw1 H1 locs1 ls hP1 (hD1.weaken (fun _ q _ h => jfree hA hD hS _ h)) hS1 hl
theorem jr_callSi {E : jE} {G : Nat → ClassId} {rm rm' : Room} {cc bytes : ByteArray} {nL maxL mc ms n index cs ss pc : Nat} {own : String} {Ts ws ws' : List Cond} {y : MethodName} {ret : Option FieldType} {L : List Nat} {F : Nat → va_E} {lv : List (Nat × Value)} {As rest st : List Value} {pre : List Nat → (Nat → va_E) → Prop} {po : List Nat → (Nat → va_E) → Int32 → List Nat → (Nat → va_E) → Prop}
    (hE : jOk E G rm cc nL own Ts) (hdg : decode cc pc = .ok (.invokestatic index, 3)) (hM : ∀ l, jCi l y ws rm' mc ms G As pre po) (hg : GoodIn Ts (wsS own index y ws)) (hw : ws = Cond.code y bytes maxL ret :: ws') (hd : y.cls = own ∧ y.cls ≠ "java/lang/invoke/MethodHandle" ∧ y.cls ≠ "java/lang/invoke/VarHandle" ∧ (parseMethodDescriptor y.desc).map (fun d => d.parameters.length) = some n)
    (hrm : rm'.cells = mc ∧ rm'.slots = ms ∧ rm'.frames + 1 ≤ rm.frames ∧ 8 + (maxL + 11) + rm'.locals ≤ rm.locals) (hcap : cs + mc ≤ rm.cells ∧ ss + ms ≤ rm.slots) (hn : As.length = n) (hst : st = As.reverse ++ rest) (hW : (rest.map fun v => v.category).sum ≤ 8) (hpre : pre L F)
    (kk : ∀ (r : Int32) (L1 : List Nat) (F1 : Nat → va_E), po L F r L1 F1 → J E L1 F1 (cs + mc) (ss + ms) (pc + 3) lv (.int r :: rest)) : J E L F cs ss pc lv st := by
  obtain ⟨p, l, e, R, s, m, args, below, meth, c, Q, D, A, nL0⟩ := E
  obtain ⟨rfl, rfl, hx, hb, hml, hown, hts, hK, hT, hA, hlk⟩ := hE
  intro H locs ls hP hD hS hl
  refine va_calli (va_runS (As := As) (rest := rest) ⟨hx, hb, hml, hown, hts⟩ (hM l D L F H.size hpre) (cwS n hts hg hw hrm.1 hrm.2.1 hd hrm.2.2) ⟨jblind _ _ _ _ _ _, jpre hK hT hA hP hD hS⟩ rfl hn hl.1 hst (lv_room hW) hdg hcap) hS (fun q _ h => jfree hA hD hS q h) (jfree hA hD hS) (fun r u t H1 locs1 ht hvm hw1 hB hz1 hk1 hS1 => ?_)
  obtain ⟨L1, F1⟩ := u
  obtain ⟨hP1, hD1⟩ := hB
  rw [ht] at hP1
  exact kk r L1 F1 hw1 H1 locs1 ls hP1 (hD1.weaken (fun _ q _ h => jfree hA hD hS _ h)) hS1 hl
theorem jr_callVl {E : jE} {G : Nat → ClassId} {rm rm' : Room} {cc bytes : ByteArray} {nL maxL mc ms n index cs ss pc : Nat} {own : String} {Ts ws ws' : List Cond} {y : MethodName} {ret : Option FieldType} {L : List Nat} {F : Nat → va_E} {lv : List (Nat × Value)} {b ci : Nat} {fs : List Value} {As rest st : List Value} {pre : List Nat → (Nat → va_E) → Prop} {po : List Nat → (Nat → va_E) → Int64 → List Nat → (Nat → va_E) → Prop}
    (hE : jOk E G rm cc nL own Ts) (hdg : decode cc pc = .ok (.invokevirtual index, 3)) (hM : ∀ l, jCl l y ws rm' mc ms G (.ref b :: As) pre po) (hg : GoodIn Ts (wsV own index (jq ci).1 y ws)) (hw : ws = Cond.code y bytes maxL ret :: ws') (hb0 : jF L F b (.inr (ci, fs))) (hc : vwCl[ci]? = some (jq ci)) (hd : y.cls = (jq ci).1 ∧ y.cls ≠ "java/lang/invoke/MethodHandle" ∧ y.cls ≠ "java/lang/invoke/VarHandle" ∧ (parseMethodDescriptor y.desc).map (fun d => d.parameters.length) = some n)
    (hrm : rm'.cells = mc ∧ rm'.slots = ms ∧ rm'.frames + 1 ≤ rm.frames ∧ 8 + (maxL + 11) + rm'.locals ≤ rm.locals) (hcap : cs + mc ≤ rm.cells ∧ ss + ms ≤ rm.slots) (hn : As.length = n) (hst : st = As.reverse ++ .ref b :: rest) (hW : (rest.map fun v => v.category).sum ≤ 8) (hpre : pre L F)
    (kk : ∀ (r : Int64) (L1 : List Nat) (F1 : Nat → va_E), po L F r L1 F1 → J E L1 F1 (cs + mc) (ss + ms) (pc + 3) lv (.long r :: rest)) : J E L F cs ss pc lv st := by
  obtain ⟨p, l, e, R, s, m, args, below, meth, c, Q, D, A, nL0⟩ := E
  obtain ⟨rfl, rfl, hx, hb, hml, hown, hts, hK, hT, hA, hlk⟩ := hE
  intro H locs ls hP hD hS hl
  obtain ⟨q0, hq0⟩ := hb0.at
  refine va_calll (va_runV (As := As) (rest := rest) ⟨hx, hb, hml, hown, hts⟩ (hM l D L F H.size hpre) (cwV n hts hg hw hrm.1 hrm.2.1 hd hrm.2.2) ⟨jblind _ _ _ _ _ _, va_recv hK hP hc hq0, jpre hK hT hA hP hD hS⟩ rfl hn hl.1 hst (lv_room hW) hdg hcap) hS (fun q _ h => jfree hA hD hS q h) (jfree hA hD hS) (fun r u t H1 locs1 ht hvm hw1 hB hz1 hk1 hS1 => ?_)
  obtain ⟨L1, F1⟩ := u
  obtain ⟨hP1, hD1⟩ := hB
  rw [ht] at hP1
  exact kk r L1 F1 hw1 H1 locs1 ls hP1 (hD1.weaken (fun _ q _ h => jfree hA hD hS _ h)) hS1 hl
theorem jr_callSl {E : jE} {G : Nat → ClassId} {rm rm' : Room} {cc bytes : ByteArray} {nL maxL mc ms n index cs ss pc : Nat} {own : String} {Ts ws ws' : List Cond} {y : MethodName} {ret : Option FieldType} {L : List Nat} {F : Nat → va_E} {lv : List (Nat × Value)} {As rest st : List Value} {pre : List Nat → (Nat → va_E) → Prop} {po : List Nat → (Nat → va_E) → Int64 → List Nat → (Nat → va_E) → Prop}
    (hE : jOk E G rm cc nL own Ts) (hdg : decode cc pc = .ok (.invokestatic index, 3)) (hM : ∀ l, jCl l y ws rm' mc ms G As pre po) (hg : GoodIn Ts (wsS own index y ws)) (hw : ws = Cond.code y bytes maxL ret :: ws') (hd : y.cls = own ∧ y.cls ≠ "java/lang/invoke/MethodHandle" ∧ y.cls ≠ "java/lang/invoke/VarHandle" ∧ (parseMethodDescriptor y.desc).map (fun d => d.parameters.length) = some n)
    (hrm : rm'.cells = mc ∧ rm'.slots = ms ∧ rm'.frames + 1 ≤ rm.frames ∧ 8 + (maxL + 11) + rm'.locals ≤ rm.locals) (hcap : cs + mc ≤ rm.cells ∧ ss + ms ≤ rm.slots) (hn : As.length = n) (hst : st = As.reverse ++ rest) (hW : (rest.map fun v => v.category).sum ≤ 8) (hpre : pre L F)
    (kk : ∀ (r : Int64) (L1 : List Nat) (F1 : Nat → va_E), po L F r L1 F1 → J E L1 F1 (cs + mc) (ss + ms) (pc + 3) lv (.long r :: rest)) : J E L F cs ss pc lv st := by
  obtain ⟨p, l, e, R, s, m, args, below, meth, c, Q, D, A, nL0⟩ := E
  obtain ⟨rfl, rfl, hx, hb, hml, hown, hts, hK, hT, hA, hlk⟩ := hE
  intro H locs ls hP hD hS hl
  refine va_calll (va_runS (As := As) (rest := rest) ⟨hx, hb, hml, hown, hts⟩ (hM l D L F H.size hpre) (cwS n hts hg hw hrm.1 hrm.2.1 hd hrm.2.2) ⟨jblind _ _ _ _ _ _, jpre hK hT hA hP hD hS⟩ rfl hn hl.1 hst (lv_room hW) hdg hcap) hS (fun q _ h => jfree hA hD hS q h) (jfree hA hD hS) (fun r u t H1 locs1 ht hvm hw1 hB hz1 hk1 hS1 => ?_)
  obtain ⟨L1, F1⟩ := u
  obtain ⟨hP1, hD1⟩ := hB
  rw [ht] at hP1
  exact kk r L1 F1 hw1 H1 locs1 ls hP1 (hD1.weaken (fun _ q _ h => jfree hA hD hS _ h)) hS1 hl
theorem jr_callVv {E : jE} {G : Nat → ClassId} {rm rm' : Room} {cc bytes : ByteArray} {nL maxL mc ms n index cs ss pc : Nat} {own : String} {Ts ws ws' : List Cond} {y : MethodName} {ret : Option FieldType} {L : List Nat} {F : Nat → va_E} {lv : List (Nat × Value)} {b ci : Nat} {fs : List Value} {As rest st : List Value} {pre : List Nat → (Nat → va_E) → Prop} {po : List Nat → (Nat → va_E) → List Nat → (Nat → va_E) → Prop}
    (hE : jOk E G rm cc nL own Ts) (hdg : decode cc pc = .ok (.invokevirtual index, 3)) (hM : ∀ l, jCv l y ws rm' mc ms G (.ref b :: As) pre po) (hg : GoodIn Ts (wsV own index (jq ci).1 y ws)) (hw : ws = Cond.code y bytes maxL ret :: ws') (hb0 : jF L F b (.inr (ci, fs))) (hc : vwCl[ci]? = some (jq ci)) (hd : y.cls = (jq ci).1 ∧ y.cls ≠ "java/lang/invoke/MethodHandle" ∧ y.cls ≠ "java/lang/invoke/VarHandle" ∧ (parseMethodDescriptor y.desc).map (fun d => d.parameters.length) = some n)
    (hrm : rm'.cells = mc ∧ rm'.slots = ms ∧ rm'.frames + 1 ≤ rm.frames ∧ 8 + (maxL + 11) + rm'.locals ≤ rm.locals) (hcap : cs + mc ≤ rm.cells ∧ ss + ms ≤ rm.slots) (hn : As.length = n) (hst : st = As.reverse ++ .ref b :: rest) (hW : (rest.map fun v => v.category).sum ≤ 8) (hpre : pre L F)
    (kk : ∀ (L1 : List Nat) (F1 : Nat → va_E), po L F L1 F1 → J E L1 F1 (cs + mc) (ss + ms) (pc + 3) lv (rest)) : J E L F cs ss pc lv st := by
  obtain ⟨p, l, e, R, s, m, args, below, meth, c, Q, D, A, nL0⟩ := E
  obtain ⟨rfl, rfl, hx, hb, hml, hown, hts, hK, hT, hA, hlk⟩ := hE
  intro H locs ls hP hD hS hl
  obtain ⟨q0, hq0⟩ := hb0.at
  refine va_callv (va_runV (As := As) (rest := rest) ⟨hx, hb, hml, hown, hts⟩ (hM l D L F H.size hpre) (cwV n hts hg hw hrm.1 hrm.2.1 hd hrm.2.2) ⟨jblind _ _ _ _ _ _, va_recv hK hP hc hq0, jpre hK hT hA hP hD hS⟩ rfl hn hl.1 hst (lv_room hW) hdg hcap) hS (fun q _ h => jfree hA hD hS q h) (jfree hA hD hS) (fun u t H1 locs1 ht hvm hw1 hB hz1 hk1 hS1 => ?_)
  obtain ⟨L1, F1⟩ := u
  obtain ⟨hP1, hD1⟩ := hB
  rw [ht] at hP1
  exact kk L1 F1 hw1 H1 locs1 ls hP1 (hD1.weaken (fun _ q _ h => jfree hA hD hS _ h)) hS1 hl
theorem jr_callSv {E : jE} {G : Nat → ClassId} {rm rm' : Room} {cc bytes : ByteArray} {nL maxL mc ms n index cs ss pc : Nat} {own : String} {Ts ws ws' : List Cond} {y : MethodName} {ret : Option FieldType} {L : List Nat} {F : Nat → va_E} {lv : List (Nat × Value)} {As rest st : List Value} {pre : List Nat → (Nat → va_E) → Prop} {po : List Nat → (Nat → va_E) → List Nat → (Nat → va_E) → Prop}
    (hE : jOk E G rm cc nL own Ts) (hdg : decode cc pc = .ok (.invokestatic index, 3)) (hM : ∀ l, jCv l y ws rm' mc ms G As pre po) (hg : GoodIn Ts (wsS own index y ws)) (hw : ws = Cond.code y bytes maxL ret :: ws') (hd : y.cls = own ∧ y.cls ≠ "java/lang/invoke/MethodHandle" ∧ y.cls ≠ "java/lang/invoke/VarHandle" ∧ (parseMethodDescriptor y.desc).map (fun d => d.parameters.length) = some n)
    (hrm : rm'.cells = mc ∧ rm'.slots = ms ∧ rm'.frames + 1 ≤ rm.frames ∧ 8 + (maxL + 11) + rm'.locals ≤ rm.locals) (hcap : cs + mc ≤ rm.cells ∧ ss + ms ≤ rm.slots) (hn : As.length = n) (hst : st = As.reverse ++ rest) (hW : (rest.map fun v => v.category).sum ≤ 8) (hpre : pre L F)
    (kk : ∀ (L1 : List Nat) (F1 : Nat → va_E), po L F L1 F1 → J E L1 F1 (cs + mc) (ss + ms) (pc + 3) lv (rest)) : J E L F cs ss pc lv st := by
  obtain ⟨p, l, e, R, s, m, args, below, meth, c, Q, D, A, nL0⟩ := E
  obtain ⟨rfl, rfl, hx, hb, hml, hown, hts, hK, hT, hA, hlk⟩ := hE
  intro H locs ls hP hD hS hl
  refine va_callv (va_runS (As := As) (rest := rest) ⟨hx, hb, hml, hown, hts⟩ (hM l D L F H.size hpre) (cwS n hts hg hw hrm.1 hrm.2.1 hd hrm.2.2) ⟨jblind _ _ _ _ _ _, jpre hK hT hA hP hD hS⟩ rfl hn hl.1 hst (lv_room hW) hdg hcap) hS (fun q _ h => jfree hA hD hS q h) (jfree hA hD hS) (fun u t H1 locs1 ht hvm hw1 hB hz1 hk1 hS1 => ?_)
  obtain ⟨L1, F1⟩ := u
  obtain ⟨hP1, hD1⟩ := hB
  rw [ht] at hP1
  exact kk L1 F1 hw1 H1 locs1 ls hP1 (hD1.weaken (fun _ q _ h => jfree hA hD hS _ h)) hS1 hl
theorem jr_callIv {E : jE} {G : Nat → ClassId} {rm rm' : Room} {cc bytes : ByteArray} {nL maxL mc ms n index cs ss pc : Nat} {own : String} {Ts ws ws' : List Cond} {y : MethodName} {L : List Nat} {F : Nat → va_E} {lv : List (Nat × Value)} {b : Nat} {As rest st : List Value} {pre : List Nat → (Nat → va_E) → Prop} {po : List Nat → (Nat → va_E) → List Nat → (Nat → va_E) → Prop}
    (hE : jOk E G rm cc nL own Ts) (hdg : decode cc pc = .ok (.invokespecial index, 3)) (hM : ∀ l, jCv l y ws rm' mc ms G (.ref b :: As) pre po) (hg : GoodIn Ts ws) (hini : Cond.initialized y.cls ∈ Ts) (hlk0 : Cond.methodLink own index y ∈ Ts) (hin0 : Cond.instanceMethod y ∈ Ts) (hy1 : y.name = "<init>") (hw : ws = Cond.code y bytes maxL none :: ws') (hd : y.cls ≠ "java/lang/invoke/MethodHandle" ∧ y.cls ≠ "java/lang/invoke/VarHandle" ∧ (parseMethodDescriptor y.desc).map (fun d => d.parameters.length) = some n)
    (hrm : rm'.cells = mc ∧ rm'.slots = ms ∧ rm'.frames + 1 ≤ rm.frames ∧ 8 + (maxL + 11) + rm'.locals ≤ rm.locals) (hcap : cs + mc ≤ rm.cells ∧ ss + ms ≤ rm.slots) (hn : As.length = n) (hst : st = As.reverse ++ .ref b :: rest) (hW : (rest.map fun v => v.category).sum ≤ 8) (hpre : pre L F)
    (kk : ∀ (L1 : List Nat) (F1 : Nat → va_E), po L F L1 F1 → J E L1 F1 (cs + mc) (ss + ms) (pc + 3) lv (rest)) : J E L F cs ss pc lv st := by
  obtain ⟨p, l, e, R, s, m, args, below, meth, c, Q, D, A, nL0⟩ := E
  obtain ⟨rfl, rfl, hx, hb, hml, hown, hts, hK, hT, hA, hlk⟩ := hE
  intro H locs ls hP hD hS hl
  refine va_callv (va_runI (As := As) (rest := rest) ⟨hx, hb, hml, hown, hts⟩ (hM l D L F H.size hpre) (cwI n hts hg hw hrm.1 hrm.2.1 (hts _ hini) (hts _ hlk0) (hts _ hin0) hy1 hd hrm.2.2) ⟨jblind _ _ _ _ _ _, jpre hK hT hA hP hD hS⟩ rfl hn hl.1 hst (lv_room hW) hdg hcap) hS (fun q _ h => jfree hA hD hS q h) (jfree hA hD hS) (fun u t H1 locs1 ht hvm hw1 hB hz1 hk1 hS1 => ?_)
  obtain ⟨L1, F1⟩ := u
  obtain ⟨hP1, hD1⟩ := hB
  rw [ht] at hP1
  exact kk L1 F1 hw1 H1 locs1 ls hP1 (hD1.weaken (fun _ q _ h => jfree hA hD hS _ h)) hS1 hl
theorem jr_callNv {E : jE} {G : Nat → ClassId} {rm rm' : Room} {cc bytes : ByteArray} {nL maxL mc ms n index cs ss pc : Nat} {own : String} {Ts ws ws' : List Cond} {y : MethodName} {L : List Nat} {F : Nat → va_E} {lv : List (Nat × Value)} {b : Nat} {As rest st : List Value} {pre : List Nat → (Nat → va_E) → Prop} {po : List Nat → (Nat → va_E) → List Nat → (Nat → va_E) → Prop}
    (hE : jOk E G rm cc nL own Ts) (hdg : decode cc pc = .ok (.invokespecial index, 3)) (hM : ∀ l, jCv l y ws rm' mc ms G (.ref b :: As) pre po) (hg : GoodIn Ts ws) (hini : Cond.initialized y.cls ∈ Ts) (hnest : (own, index, y) ∈ jNw) (hin0 : Cond.instanceMethod y ∈ Ts) (hy1 : y.name = "<init>") (hw : ws = Cond.code y bytes maxL none :: ws') (hd : y.cls ≠ "java/lang/invoke/MethodHandle" ∧ y.cls ≠ "java/lang/invoke/VarHandle" ∧ (parseMethodDescriptor y.desc).map (fun d => d.parameters.length) = some n)
    (hrm : rm'.cells = mc ∧ rm'.slots = ms ∧ rm'.frames + 1 ≤ rm.frames ∧ 8 + (maxL + 11) + rm'.locals ≤ rm.locals) (hcap : cs + mc ≤ rm.cells ∧ ss + ms ≤ rm.slots) (hn : As.length = n) (hst : st = As.reverse ++ .ref b :: rest) (hW : (rest.map fun v => v.category).sum ≤ 8) (hpre : pre L F)
    (kk : ∀ (L1 : List Nat) (F1 : Nat → va_E), po L F L1 F1 → J E L1 F1 (cs + mc) (ss + ms) (pc + 3) lv (rest)) : J E L F cs ss pc lv st := by
  obtain ⟨p, l, e, R, s, m, args, below, meth, c, Q, D, A, nL0⟩ := E
  obtain ⟨rfl, rfl, hx, hb, hml, hown, hts, hK, hT, hA, hlk⟩ := hE
  intro H locs ls hP hD hS hl
  refine va_callv (va_runIN (host := RX11) (As := As) (rest := rest) ⟨hx, hb, hml, hown, hts⟩ (hM l D L F H.size hpre) ⟨va_cnB n hts hg hw hrm.1 hrm.2.1 (hT.2.2.2.2.2.2.2.2.2.2.2.1.2 _ hnest) (hts _ hini) hd hrm.2.2, hy1, hts _ hin0⟩ ⟨jblind _ _ _ _ _ _, jpre hK hT hA hP hD hS⟩ rfl hn hl.1 hst (lv_room hW) hdg hcap) hS (fun q _ h => jfree hA hD hS q h) (jfree hA hD hS) (fun u t H1 locs1 ht hvm hw1 hB hz1 hk1 hS1 => ?_)
  obtain ⟨L1, F1⟩ := u
  obtain ⟨hP1, hD1⟩ := hB
  rw [ht] at hP1
  exact kk L1 F1 hw1 H1 locs1 ls hP1 (hD1.weaken (fun _ q _ h => jfree hA hD hS _ h)) hS1 hl
theorem jm_i {l : Launch} {y : MethodName} {ws ws' : List Cond} {rm : Room} {mc ms : Nat} {G : Nat → ClassId} {av : List Value} {pre : List Nat → (Nat → va_E) → Prop} {po : List Nat → (Nat → va_E) → Int32 → List Nat → (Nat → va_E) → Prop} {cc : ByteArray} {maxL : Nat} {rt : FieldType} (hy : plainName y.cls = true) (hw : ws = Cond.code y cc maxL (some rt) :: ws') (hlen : (lg_sl av).length ≤ maxL)
    (body : ∀ (E : jE) (L : List Nat) (F : Nat → va_E), jOk E G rm cc maxL y.cls ws → jRi E cc rt mc ms (po L F) → pre L F → J E L F 0 0 0 (lv_args 0 av) []) : jCi l y ws rm mc ms G av pre po := by
  intro D L F sz hpre
  refine Met.ofW (cc := cc) (maxL := maxL) (ret := (some rt)) hy hw ?_
  intro p e s m args below meth c s₁ B hml hv
  obtain ⟨rfl, hsz, hP, hK, hT, hD0⟩ := hv
  have hx := B.exec
  have hb := B.bytes
  have hr := B.returns
  have hts := atoms_spec (ws := ws) B.pre
  have hown : s.vm.findClass y.cls = some m.cls := findClass_of_methodNamed B.named
  have hlocks := B.notSynchronized
  subst hsz
  have hD : va_D (jX L s.heap.size) (va_pl L F) := jD_to hD0 (fun a ha => Or.inl ha)
  rw [lg_entry_eq]
  have hl := lv_entry av (n := maxL) hlen
  exact body (p, l, e, (headSpec ws rm).room, s, m, av.toArray, below, meth, c, MQ below (va_Qi (S := List Nat × (Nat → va_E)) (fun r u => po L F r u.1 u.2) (jB D L s.heap.size) (jX L s.heap.size)) av.toArray s mc ms (jX L s.heap.size), D, jX L s.heap.size, maxL) L F
    ⟨rfl, rfl, hx, hb, hml, hown, hts, hK, hT, (fun q h => Or.inr h), hlocks⟩
    (fun L1 F1 v pc lv hdg hn hpo H locs ls hP hD hS hl => W.zret (v := v) hx hb hr hn (fun t ht hW => ⟨⟨v, (L1, F1), rfl, hpo, by rw [ht]; exact hP, hD⟩, hS.F ht⟩) hS.2.2 hdg hlocks) hpre s.heap [] _ hP hD va_S.rf hl
theorem jm_l {l : Launch} {y : MethodName} {ws ws' : List Cond} {rm : Room} {mc ms : Nat} {G : Nat → ClassId} {av : List Value} {pre : List Nat → (Nat → va_E) → Prop} {po : List Nat → (Nat → va_E) → Int64 → List Nat → (Nat → va_E) → Prop} {cc : ByteArray} {maxL : Nat} (hy : plainName y.cls = true) (hw : ws = Cond.code y cc maxL (some .long) :: ws') (hlen : (lg_sl av).length ≤ maxL)
    (body : ∀ (E : jE) (L : List Nat) (F : Nat → va_E), jOk E G rm cc maxL y.cls ws → jRl E cc mc ms (po L F) → pre L F → J E L F 0 0 0 (lv_args 0 av) []) : jCl l y ws rm mc ms G av pre po := by
  intro D L F sz hpre
  refine Met.ofW (cc := cc) (maxL := maxL) (ret := (some .long)) hy hw ?_
  intro p e s m args below meth c s₁ B hml hv
  obtain ⟨rfl, hsz, hP, hK, hT, hD0⟩ := hv
  have hx := B.exec
  have hb := B.bytes
  have hr := B.returns
  have hts := atoms_spec (ws := ws) B.pre
  have hown : s.vm.findClass y.cls = some m.cls := findClass_of_methodNamed B.named
  have hlocks := B.notSynchronized
  subst hsz
  have hD : va_D (jX L s.heap.size) (va_pl L F) := jD_to hD0 (fun a ha => Or.inl ha)
  rw [lg_entry_eq]
  have hl := lv_entry av (n := maxL) hlen
  exact body (p, l, e, (headSpec ws rm).room, s, m, av.toArray, below, meth, c, MQ below (va_Ql (S := List Nat × (Nat → va_E)) (fun r u => po L F r u.1 u.2) (jB D L s.heap.size) (jX L s.heap.size)) av.toArray s mc ms (jX L s.heap.size), D, jX L s.heap.size, maxL) L F
    ⟨rfl, rfl, hx, hb, hml, hown, hts, hK, hT, (fun q h => Or.inr h), hlocks⟩
    (fun L1 F1 v pc lv hdg hpo H locs ls hP hD hS hl => W.lret (v := v) hx hb hr (fun t ht hW => ⟨⟨v, (L1, F1), rfl, hpo, by rw [ht]; exact hP, hD⟩, hS.F ht⟩) hS.2.2 hdg hlocks) hpre s.heap [] _ hP hD va_S.rf hl
theorem jm_v {l : Launch} {y : MethodName} {ws ws' : List Cond} {rm : Room} {mc ms : Nat} {G : Nat → ClassId} {av : List Value} {pre : List Nat → (Nat → va_E) → Prop} {po : List Nat → (Nat → va_E) → List Nat → (Nat → va_E) → Prop} {cc : ByteArray} {maxL : Nat} (hy : plainName y.cls = true) (hw : ws = Cond.code y cc maxL none :: ws') (hlen : (lg_sl av).length ≤ maxL)
    (body : ∀ (E : jE) (L : List Nat) (F : Nat → va_E), jOk E G rm cc maxL y.cls ws → jRv E cc mc ms (po L F) → pre L F → J E L F 0 0 0 (lv_args 0 av) []) : jCv l y ws rm mc ms G av pre po := by
  intro D L F sz hpre
  refine Met.ofW (cc := cc) (maxL := maxL) (ret := none) hy hw ?_
  intro p e s m args below meth c s₁ B hml hv
  obtain ⟨rfl, hsz, hP, hK, hT, hD0⟩ := hv
  have hx := B.exec
  have hb := B.bytes
  have hr := B.returns
  have hts := atoms_spec (ws := ws) B.pre
  have hown : s.vm.findClass y.cls = some m.cls := findClass_of_methodNamed B.named
  have hlocks := B.notSynchronized
  subst hsz
  have hD : va_D (jX L s.heap.size) (va_pl L F) := jD_to hD0 (fun a ha => Or.inl ha)
  rw [lg_entry_eq]
  have hl := lv_entry av (n := maxL) hlen
  exact body (p, l, e, (headSpec ws rm).room, s, m, av.toArray, below, meth, c, MQ below (va_Qv (S := List Nat × (Nat → va_E)) (fun u => po L F u.1 u.2) (jB D L s.heap.size) (jX L s.heap.size)) av.toArray s mc ms (jX L s.heap.size), D, jX L s.heap.size, maxL) L F
    ⟨rfl, rfl, hx, hb, hml, hown, hts, hK, hT, (fun q h => Or.inr h), hlocks⟩
    (fun L1 F1 pc lv hdg hpo H locs ls hP hD hS hl => W.vret hx hb hr (fun t ht hW => ⟨⟨(L1, F1), rfl, hpo, by rw [ht]; exact hP, hD⟩, hS.F ht⟩) hS.2.2 hdg hlocks) hpre s.heap [] _ hP hD va_S.rf hl
def jKi (l : Launch) (y : MethodName) (ws : List Cond) (rm : Room) (G : Nat → ClassId) (av : List Value) (pre : List Nat → (Nat → va_E) → Prop) (po : List Nat → (Nat → va_E) → Int32 → (Nat → va_E) → Prop) : Prop := jCi l y ws rm 0 0 G av pre (fun L F r L1 F1 => L1 = L ∧ po L F r F1)
theorem jm_ki {l : Launch} {y : MethodName} {ws ws' : List Cond} {rm : Room} {G : Nat → ClassId} {av : List Value} {pre : List Nat → (Nat → va_E) → Prop} {po : List Nat → (Nat → va_E) → Int32 → (Nat → va_E) → Prop} {cc : ByteArray} {maxL : Nat} {rt : FieldType} (hy : plainName y.cls = true) (hw : ws = Cond.code y cc maxL (some rt) :: ws') (hlen : (lg_sl av).length ≤ maxL)
    (body : ∀ (E : jE) (L : List Nat) (F : Nat → va_E), jOk E G rm cc maxL y.cls ws → (∀ (F1 : Nat → va_E) (v : Int32) (pc : Nat) (lv : List (Nat × Value)), decode cc pc = .ok (.ireturn, 1) → narrow rt (.int v) = .int v → po L F v F1 → J E L F1 0 0 pc lv [.int v]) → pre L F → J E L F 0 0 0 (lv_args 0 av) []) : jKi l y ws rm G av pre po :=
  jm_i hy hw hlen (fun E L F hE hR hpre => body E L F hE (fun F1 v pc lv hd hn hp => hR L F1 v pc lv hd hn ⟨rfl, hp⟩) hpre)
theorem jr_kVi {E : jE} {G : Nat → ClassId} {rm rm' : Room} {cc bytes : ByteArray} {nL maxL n index cs ss pc : Nat} {own : String} {Ts ws ws' : List Cond} {y : MethodName} {ret : Option FieldType} {L : List Nat} {F : Nat → va_E} {lv : List (Nat × Value)} {b ci : Nat} {fs : List Value} {As rest st : List Value} {pre : List Nat → (Nat → va_E) → Prop} {po : List Nat → (Nat → va_E) → Int32 → (Nat → va_E) → Prop}
    (hE : jOk E G rm cc nL own Ts) (hdg : decode cc pc = .ok (.invokevirtual index, 3)) (hM : ∀ l, jKi l y ws rm' G (.ref b :: As) pre po) (hg : GoodIn Ts (wsV own index (jq ci).1 y ws)) (hw : ws = Cond.code y bytes maxL ret :: ws') (hb0 : jF L F b (.inr (ci, fs))) (hc : vwCl[ci]? = some (jq ci)) (hd : y.cls = (jq ci).1 ∧ y.cls ≠ "java/lang/invoke/MethodHandle" ∧ y.cls ≠ "java/lang/invoke/VarHandle" ∧ (parseMethodDescriptor y.desc).map (fun d => d.parameters.length) = some n)
    (hrm : rm'.cells = 0 ∧ rm'.slots = 0 ∧ rm'.frames + 1 ≤ rm.frames ∧ 8 + (maxL + 11) + rm'.locals ≤ rm.locals) (hcap : cs ≤ rm.cells ∧ ss ≤ rm.slots) (hn : As.length = n) (hst : st = As.reverse ++ .ref b :: rest) (hW : (rest.map fun v => v.category).sum ≤ 8) (hpre : pre L F)
    (kk : ∀ (r : Int32) (F1 : Nat → va_E), po L F r F1 → J E L F1 cs ss (pc + 3) lv (.int r :: rest)) : J E L F cs ss pc lv st :=
  jr_callVi (mc := 0) (ms := 0) hE hdg hM hg hw hb0 hc hd hrm hcap hn hst hW hpre (fun r L1 F1 h => by
    obtain ⟨h1, h2⟩ := h
    subst h1
    exact kk r F1 h2)
theorem jr_kSi {E : jE} {G : Nat → ClassId} {rm rm' : Room} {cc bytes : ByteArray} {nL maxL n index cs ss pc : Nat} {own : String} {Ts ws ws' : List Cond} {y : MethodName} {ret : Option FieldType} {L : List Nat} {F : Nat → va_E} {lv : List (Nat × Value)} {As rest st : List Value} {pre : List Nat → (Nat → va_E) → Prop} {po : List Nat → (Nat → va_E) → Int32 → (Nat → va_E) → Prop}
    (hE : jOk E G rm cc nL own Ts) (hdg : decode cc pc = .ok (.invokestatic index, 3)) (hM : ∀ l, jKi l y ws rm' G As pre po) (hg : GoodIn Ts (wsS own index y ws)) (hw : ws = Cond.code y bytes maxL ret :: ws') (hd : y.cls = own ∧ y.cls ≠ "java/lang/invoke/MethodHandle" ∧ y.cls ≠ "java/lang/invoke/VarHandle" ∧ (parseMethodDescriptor y.desc).map (fun d => d.parameters.length) = some n)
    (hrm : rm'.cells = 0 ∧ rm'.slots = 0 ∧ rm'.frames + 1 ≤ rm.frames ∧ 8 + (maxL + 11) + rm'.locals ≤ rm.locals) (hcap : cs ≤ rm.cells ∧ ss ≤ rm.slots) (hn : As.length = n) (hst : st = As.reverse ++ rest) (hW : (rest.map fun v => v.category).sum ≤ 8) (hpre : pre L F)
    (kk : ∀ (r : Int32) (F1 : Nat → va_E), po L F r F1 → J E L F1 cs ss (pc + 3) lv (.int r :: rest)) : J E L F cs ss pc lv st :=
  jr_callSi (mc := 0) (ms := 0) hE hdg hM hg hw hd hrm hcap hn hst hW hpre (fun r L1 F1 h => by
    obtain ⟨h1, h2⟩ := h
    subst h1
    exact kk r F1 h2)
def jKl (l : Launch) (y : MethodName) (ws : List Cond) (rm : Room) (G : Nat → ClassId) (av : List Value) (pre : List Nat → (Nat → va_E) → Prop) (po : List Nat → (Nat → va_E) → Int64 → (Nat → va_E) → Prop) : Prop := jCl l y ws rm 0 0 G av pre (fun L F r L1 F1 => L1 = L ∧ po L F r F1)
theorem jm_kl {l : Launch} {y : MethodName} {ws ws' : List Cond} {rm : Room} {G : Nat → ClassId} {av : List Value} {pre : List Nat → (Nat → va_E) → Prop} {po : List Nat → (Nat → va_E) → Int64 → (Nat → va_E) → Prop} {cc : ByteArray} {maxL : Nat} (hy : plainName y.cls = true) (hw : ws = Cond.code y cc maxL (some .long) :: ws') (hlen : (lg_sl av).length ≤ maxL)
    (body : ∀ (E : jE) (L : List Nat) (F : Nat → va_E), jOk E G rm cc maxL y.cls ws → (∀ (F1 : Nat → va_E) (v : Int64) (pc : Nat) (lv : List (Nat × Value)), decode cc pc = .ok (.lreturn, 1) → po L F v F1 → J E L F1 0 0 pc lv [.long v]) → pre L F → J E L F 0 0 0 (lv_args 0 av) []) : jKl l y ws rm G av pre po :=
  jm_l hy hw hlen (fun E L F hE hR hpre => body E L F hE (fun F1 v pc lv hd hp => hR L F1 v pc lv hd ⟨rfl, hp⟩) hpre)
theorem jr_kVl {E : jE} {G : Nat → ClassId} {rm rm' : Room} {cc bytes : ByteArray} {nL maxL n index cs ss pc : Nat} {own : String} {Ts ws ws' : List Cond} {y : MethodName} {ret : Option FieldType} {L : List Nat} {F : Nat → va_E} {lv : List (Nat × Value)} {b ci : Nat} {fs : List Value} {As rest st : List Value} {pre : List Nat → (Nat → va_E) → Prop} {po : List Nat → (Nat → va_E) → Int64 → (Nat → va_E) → Prop}
    (hE : jOk E G rm cc nL own Ts) (hdg : decode cc pc = .ok (.invokevirtual index, 3)) (hM : ∀ l, jKl l y ws rm' G (.ref b :: As) pre po) (hg : GoodIn Ts (wsV own index (jq ci).1 y ws)) (hw : ws = Cond.code y bytes maxL ret :: ws') (hb0 : jF L F b (.inr (ci, fs))) (hc : vwCl[ci]? = some (jq ci)) (hd : y.cls = (jq ci).1 ∧ y.cls ≠ "java/lang/invoke/MethodHandle" ∧ y.cls ≠ "java/lang/invoke/VarHandle" ∧ (parseMethodDescriptor y.desc).map (fun d => d.parameters.length) = some n)
    (hrm : rm'.cells = 0 ∧ rm'.slots = 0 ∧ rm'.frames + 1 ≤ rm.frames ∧ 8 + (maxL + 11) + rm'.locals ≤ rm.locals) (hcap : cs ≤ rm.cells ∧ ss ≤ rm.slots) (hn : As.length = n) (hst : st = As.reverse ++ .ref b :: rest) (hW : (rest.map fun v => v.category).sum ≤ 8) (hpre : pre L F)
    (kk : ∀ (r : Int64) (F1 : Nat → va_E), po L F r F1 → J E L F1 cs ss (pc + 3) lv (.long r :: rest)) : J E L F cs ss pc lv st :=
  jr_callVl (mc := 0) (ms := 0) hE hdg hM hg hw hb0 hc hd hrm hcap hn hst hW hpre (fun r L1 F1 h => by
    obtain ⟨h1, h2⟩ := h
    subst h1
    exact kk r F1 h2)
theorem jr_kSl {E : jE} {G : Nat → ClassId} {rm rm' : Room} {cc bytes : ByteArray} {nL maxL n index cs ss pc : Nat} {own : String} {Ts ws ws' : List Cond} {y : MethodName} {ret : Option FieldType} {L : List Nat} {F : Nat → va_E} {lv : List (Nat × Value)} {As rest st : List Value} {pre : List Nat → (Nat → va_E) → Prop} {po : List Nat → (Nat → va_E) → Int64 → (Nat → va_E) → Prop}
    (hE : jOk E G rm cc nL own Ts) (hdg : decode cc pc = .ok (.invokestatic index, 3)) (hM : ∀ l, jKl l y ws rm' G As pre po) (hg : GoodIn Ts (wsS own index y ws)) (hw : ws = Cond.code y bytes maxL ret :: ws') (hd : y.cls = own ∧ y.cls ≠ "java/lang/invoke/MethodHandle" ∧ y.cls ≠ "java/lang/invoke/VarHandle" ∧ (parseMethodDescriptor y.desc).map (fun d => d.parameters.length) = some n)
    (hrm : rm'.cells = 0 ∧ rm'.slots = 0 ∧ rm'.frames + 1 ≤ rm.frames ∧ 8 + (maxL + 11) + rm'.locals ≤ rm.locals) (hcap : cs ≤ rm.cells ∧ ss ≤ rm.slots) (hn : As.length = n) (hst : st = As.reverse ++ rest) (hW : (rest.map fun v => v.category).sum ≤ 8) (hpre : pre L F)
    (kk : ∀ (r : Int64) (F1 : Nat → va_E), po L F r F1 → J E L F1 cs ss (pc + 3) lv (.long r :: rest)) : J E L F cs ss pc lv st :=
  jr_callSl (mc := 0) (ms := 0) hE hdg hM hg hw hd hrm hcap hn hst hW hpre (fun r L1 F1 h => by
    obtain ⟨h1, h2⟩ := h
    subst h1
    exact kk r F1 h2)
def jKv (l : Launch) (y : MethodName) (ws : List Cond) (rm : Room) (G : Nat → ClassId) (av : List Value) (pre : List Nat → (Nat → va_E) → Prop) (po : List Nat → (Nat → va_E) → (Nat → va_E) → Prop) : Prop := jCv l y ws rm 0 0 G av pre (fun L F L1 F1 => L1 = L ∧ po L F F1)
theorem jm_kv {l : Launch} {y : MethodName} {ws ws' : List Cond} {rm : Room} {G : Nat → ClassId} {av : List Value} {pre : List Nat → (Nat → va_E) → Prop} {po : List Nat → (Nat → va_E) → (Nat → va_E) → Prop} {cc : ByteArray} {maxL : Nat} (hy : plainName y.cls = true) (hw : ws = Cond.code y cc maxL none :: ws') (hlen : (lg_sl av).length ≤ maxL)
    (body : ∀ (E : jE) (L : List Nat) (F : Nat → va_E), jOk E G rm cc maxL y.cls ws → (∀ (F1 : Nat → va_E) (pc : Nat) (lv : List (Nat × Value)), decode cc pc = .ok (.return_, 1) → po L F F1 → J E L F1 0 0 pc lv []) → pre L F → J E L F 0 0 0 (lv_args 0 av) []) : jKv l y ws rm G av pre po :=
  jm_v hy hw hlen (fun E L F hE hR hpre => body E L F hE (fun F1 pc lv hd hp => hR L F1 pc lv hd ⟨rfl, hp⟩) hpre)
theorem jr_kVv {E : jE} {G : Nat → ClassId} {rm rm' : Room} {cc bytes : ByteArray} {nL maxL n index cs ss pc : Nat} {own : String} {Ts ws ws' : List Cond} {y : MethodName} {ret : Option FieldType} {L : List Nat} {F : Nat → va_E} {lv : List (Nat × Value)} {b ci : Nat} {fs : List Value} {As rest st : List Value} {pre : List Nat → (Nat → va_E) → Prop} {po : List Nat → (Nat → va_E) → (Nat → va_E) → Prop}
    (hE : jOk E G rm cc nL own Ts) (hdg : decode cc pc = .ok (.invokevirtual index, 3)) (hM : ∀ l, jKv l y ws rm' G (.ref b :: As) pre po) (hg : GoodIn Ts (wsV own index (jq ci).1 y ws)) (hw : ws = Cond.code y bytes maxL ret :: ws') (hb0 : jF L F b (.inr (ci, fs))) (hc : vwCl[ci]? = some (jq ci)) (hd : y.cls = (jq ci).1 ∧ y.cls ≠ "java/lang/invoke/MethodHandle" ∧ y.cls ≠ "java/lang/invoke/VarHandle" ∧ (parseMethodDescriptor y.desc).map (fun d => d.parameters.length) = some n)
    (hrm : rm'.cells = 0 ∧ rm'.slots = 0 ∧ rm'.frames + 1 ≤ rm.frames ∧ 8 + (maxL + 11) + rm'.locals ≤ rm.locals) (hcap : cs ≤ rm.cells ∧ ss ≤ rm.slots) (hn : As.length = n) (hst : st = As.reverse ++ .ref b :: rest) (hW : (rest.map fun v => v.category).sum ≤ 8) (hpre : pre L F)
    (kk : ∀ (F1 : Nat → va_E), po L F F1 → J E L F1 cs ss (pc + 3) lv (rest)) : J E L F cs ss pc lv st :=
  jr_callVv (mc := 0) (ms := 0) hE hdg hM hg hw hb0 hc hd hrm hcap hn hst hW hpre (fun L1 F1 h => by
    obtain ⟨h1, h2⟩ := h
    subst h1
    exact kk F1 h2)
theorem jr_kSv {E : jE} {G : Nat → ClassId} {rm rm' : Room} {cc bytes : ByteArray} {nL maxL n index cs ss pc : Nat} {own : String} {Ts ws ws' : List Cond} {y : MethodName} {ret : Option FieldType} {L : List Nat} {F : Nat → va_E} {lv : List (Nat × Value)} {As rest st : List Value} {pre : List Nat → (Nat → va_E) → Prop} {po : List Nat → (Nat → va_E) → (Nat → va_E) → Prop}
    (hE : jOk E G rm cc nL own Ts) (hdg : decode cc pc = .ok (.invokestatic index, 3)) (hM : ∀ l, jKv l y ws rm' G As pre po) (hg : GoodIn Ts (wsS own index y ws)) (hw : ws = Cond.code y bytes maxL ret :: ws') (hd : y.cls = own ∧ y.cls ≠ "java/lang/invoke/MethodHandle" ∧ y.cls ≠ "java/lang/invoke/VarHandle" ∧ (parseMethodDescriptor y.desc).map (fun d => d.parameters.length) = some n)
    (hrm : rm'.cells = 0 ∧ rm'.slots = 0 ∧ rm'.frames + 1 ≤ rm.frames ∧ 8 + (maxL + 11) + rm'.locals ≤ rm.locals) (hcap : cs ≤ rm.cells ∧ ss ≤ rm.slots) (hn : As.length = n) (hst : st = As.reverse ++ rest) (hW : (rest.map fun v => v.category).sum ≤ 8) (hpre : pre L F)
    (kk : ∀ (F1 : Nat → va_E), po L F F1 → J E L F1 cs ss (pc + 3) lv (rest)) : J E L F cs ss pc lv st :=
  jr_callSv (mc := 0) (ms := 0) hE hdg hM hg hw hd hrm hcap hn hst hW hpre (fun L1 F1 h => by
    obtain ⟨h1, h2⟩ := h
    subst h1
    exact kk F1 h2)
theorem jr_kIv {E : jE} {G : Nat → ClassId} {rm rm' : Room} {cc bytes : ByteArray} {nL maxL n index cs ss pc : Nat} {own : String} {Ts ws ws' : List Cond} {y : MethodName} {L : List Nat} {F : Nat → va_E} {lv : List (Nat × Value)} {b : Nat} {As rest st : List Value} {pre : List Nat → (Nat → va_E) → Prop} {po : List Nat → (Nat → va_E) → (Nat → va_E) → Prop}
    (hE : jOk E G rm cc nL own Ts) (hdg : decode cc pc = .ok (.invokespecial index, 3)) (hM : ∀ l, jKv l y ws rm' G (.ref b :: As) pre po) (hg : GoodIn Ts ws) (hini : Cond.initialized y.cls ∈ Ts) (hlk0 : Cond.methodLink own index y ∈ Ts) (hin0 : Cond.instanceMethod y ∈ Ts) (hy1 : y.name = "<init>") (hw : ws = Cond.code y bytes maxL none :: ws') (hd : y.cls ≠ "java/lang/invoke/MethodHandle" ∧ y.cls ≠ "java/lang/invoke/VarHandle" ∧ (parseMethodDescriptor y.desc).map (fun d => d.parameters.length) = some n)
    (hrm : rm'.cells = 0 ∧ rm'.slots = 0 ∧ rm'.frames + 1 ≤ rm.frames ∧ 8 + (maxL + 11) + rm'.locals ≤ rm.locals) (hcap : cs ≤ rm.cells ∧ ss ≤ rm.slots) (hn : As.length = n) (hst : st = As.reverse ++ .ref b :: rest) (hW : (rest.map fun v => v.category).sum ≤ 8) (hpre : pre L F)
    (kk : ∀ (F1 : Nat → va_E), po L F F1 → J E L F1 cs ss (pc + 3) lv (rest)) : J E L F cs ss pc lv st :=
  jr_callIv (mc := 0) (ms := 0) hE hdg hM hg hini hlk0 hin0 hy1 hw hd hrm hcap hn hst hW hpre (fun L1 F1 h => by
    obtain ⟨h1, h2⟩ := h
    subst h1
    exact kk F1 h2)
theorem jr_iconst {E : jE} {G : Nat → ClassId} {rm : Room} {cc : ByteArray} {nL cs ss pc : Nat} {own : String} {Ts : List Cond} {L : List Nat} {F : Nat → va_E} {lv : List (Nat × Value)} {rest : List Value} {n : Int} {v : Int32} (hE : jOk E G rm cc nL own Ts) (hdg : decode cc pc = .ok (.iconst n, 1)) (hv : Int32.ofInt n = v) (k : J E L F cs ss (pc + 1) lv (.int v :: rest)) : J E L F cs ss pc lv (rest) := by
  obtain ⟨p, l, e, R, s, m, args, below, meth, c, Q, D, A, nL0⟩ := E
  obtain ⟨rfl, rfl, hx, hb, hml, hown, hts, hK, hT, hA, hlk⟩ := hE
  exact fun H locs ls hP hD hS hl => lv_iconst hx hb hdg hv (k H locs ls hP hD hS hl)
theorem jr_bipush {E : jE} {G : Nat → ClassId} {rm : Room} {cc : ByteArray} {nL cs ss pc : Nat} {own : String} {Ts : List Cond} {L : List Nat} {F : Nat → va_E} {lv : List (Nat × Value)} {rest : List Value} {n : Int} {v : Int32} (hE : jOk E G rm cc nL own Ts) (hdg : decode cc pc = .ok (.bipush n, 2)) (hv : (Int8.ofInt n).toInt32 = v) (k : J E L F cs ss (pc + 2) lv (.int v :: rest)) : J E L F cs ss pc lv (rest) := by
  obtain ⟨p, l, e, R, s, m, args, below, meth, c, Q, D, A, nL0⟩ := E
  obtain ⟨rfl, rfl, hx, hb, hml, hown, hts, hK, hT, hA, hlk⟩ := hE
  exact fun H locs ls hP hD hS hl => lv_bipush hx hb hdg hv (k H locs ls hP hD hS hl)
theorem jr_sipush {E : jE} {G : Nat → ClassId} {rm : Room} {cc : ByteArray} {nL cs ss pc : Nat} {own : String} {Ts : List Cond} {L : List Nat} {F : Nat → va_E} {lv : List (Nat × Value)} {rest : List Value} {n : Int} {v : Int32} (hE : jOk E G rm cc nL own Ts) (hdg : decode cc pc = .ok (.sipush n, 3)) (hv : (Int16.ofInt n).toInt32 = v) (k : J E L F cs ss (pc + 3) lv (.int v :: rest)) : J E L F cs ss pc lv (rest) := by
  obtain ⟨p, l, e, R, s, m, args, below, meth, c, Q, D, A, nL0⟩ := E
  obtain ⟨rfl, rfl, hx, hb, hml, hown, hts, hK, hT, hA, hlk⟩ := hE
  exact fun H locs ls hP hD hS hl => lv_sipush hx hb hdg hv (k H locs ls hP hD hS hl)
theorem jr_lconst {E : jE} {G : Nat → ClassId} {rm : Room} {cc : ByteArray} {nL cs ss pc : Nat} {own : String} {Ts : List Cond} {L : List Nat} {F : Nat → va_E} {lv : List (Nat × Value)} {rest : List Value} {n : Fin 2} {v : Int64} (hE : jOk E G rm cc nL own Ts) (hdg : decode cc pc = .ok (.lconst n, 1)) (hv : Int64.ofNat (n : Nat) = v) (k : J E L F cs ss (pc + 1) lv (.long v :: rest)) : J E L F cs ss pc lv (rest) := by
  obtain ⟨p, l, e, R, s, m, args, below, meth, c, Q, D, A, nL0⟩ := E
  obtain ⟨rfl, rfl, hx, hb, hml, hown, hts, hK, hT, hA, hlk⟩ := hE
  exact fun H locs ls hP hD hS hl => lv_lconst hx hb hdg hv (k H locs ls hP hD hS hl)
theorem jr_ldc {E : jE} {G : Nat → ClassId} {rm : Room} {cc : ByteArray} {nL cs ss pc : Nat} {own : String} {Ts : List Cond} {L : List Nat} {F : Nat → va_E} {lv : List (Nat × Value)} {rest : List Value} {v : Int32} {index : Nat} (hE : jOk E G rm cc nL own Ts) (hdg : decode cc pc = .ok (.ldc index, 2)) (hc : Cond.constant own index v ∈ Ts) (k : J E L F cs ss (pc + 2) lv (.int v :: rest)) : J E L F cs ss pc lv (rest) := by
  obtain ⟨p, l, e, R, s, m, args, below, meth, c, Q, D, A, nL0⟩ := E
  obtain ⟨rfl, rfl, hx, hb, hml, hown, hts, hK, hT, hA, hlk⟩ := hE
  exact fun H locs ls hP hD hS hl => lv_ldc hx hb hown (hts _ hc) hdg (k H locs ls hP hD hS hl)
theorem jr_ldcw {E : jE} {G : Nat → ClassId} {rm : Room} {cc : ByteArray} {nL cs ss pc : Nat} {own : String} {Ts : List Cond} {L : List Nat} {F : Nat → va_E} {lv : List (Nat × Value)} {rest : List Value} {v : Int32} {index : Nat} (hE : jOk E G rm cc nL own Ts) (hdg : decode cc pc = .ok (.ldc_w index, 3)) (hc : Cond.constant own index v ∈ Ts) (k : J E L F cs ss (pc + 3) lv (.int v :: rest)) : J E L F cs ss pc lv (rest) := by
  obtain ⟨p, l, e, R, s, m, args, below, meth, c, Q, D, A, nL0⟩ := E
  obtain ⟨rfl, rfl, hx, hb, hml, hown, hts, hK, hT, hA, hlk⟩ := hE
  exact fun H locs ls hP hD hS hl => lv_ldcw hx hb hown (hts _ hc) hdg (k H locs ls hP hD hS hl)
theorem jr_ldc2 {E : jE} {G : Nat → ClassId} {rm : Room} {cc : ByteArray} {nL cs ss pc : Nat} {own : String} {Ts : List Cond} {L : List Nat} {F : Nat → va_E} {lv : List (Nat × Value)} {rest : List Value} {v : Int64} {index : Nat} (hE : jOk E G rm cc nL own Ts) (hdg : decode cc pc = .ok (.ldc2_w index, 3)) (hc : Cond.constantLong own index v ∈ Ts) (k : J E L F cs ss (pc + 3) lv (.long v :: rest)) : J E L F cs ss pc lv (rest) := by
  obtain ⟨p, l, e, R, s, m, args, below, meth, c, Q, D, A, nL0⟩ := E
  obtain ⟨rfl, rfl, hx, hb, hml, hown, hts, hK, hT, hA, hlk⟩ := hE
  exact fun H locs ls hP hD hS hl => lv_ldc2 hx hb hown (hts _ hc) hdg (k H locs ls hP hD hS hl)
theorem jr_iload_n {E : jE} {G : Nat → ClassId} {rm : Room} {cc : ByteArray} {nL cs ss pc : Nat} {own : String} {Ts : List Cond} {L : List Nat} {F : Nat → va_E} {lv : List (Nat × Value)} {rest : List Value} {j : Fin 4} {x : Int32} (hE : jOk E G rm cc nL own Ts) (hdg : decode cc pc = .ok (.iload_n j, 1)) (q : Nat) (hq : lv[q]? = some ((j : Nat), .int x)) (k : J E L F cs ss (pc + 1) lv (.int x :: rest)) : J E L F cs ss pc lv (rest) := by
  obtain ⟨p, l, e, R, s, m, args, below, meth, c, Q, D, A, nL0⟩ := E
  obtain ⟨rfl, rfl, hx, hb, hml, hown, hts, hK, hT, hA, hlk⟩ := hE
  exact fun H locs ls hP hD hS hl => lv_iload_n hx hb hdg rfl (lv_at hl q hq) (k H locs ls hP hD hS hl)
theorem jr_iload {E : jE} {G : Nat → ClassId} {rm : Room} {cc : ByteArray} {nL cs ss pc : Nat} {own : String} {Ts : List Cond} {L : List Nat} {F : Nat → va_E} {lv : List (Nat × Value)} {rest : List Value} {i : Nat} {x : Int32} (hE : jOk E G rm cc nL own Ts) (hdg : decode cc pc = .ok (.iload i, 2)) (q : Nat) (hq : lv[q]? = some (i, .int x)) (k : J E L F cs ss (pc + 2) lv (.int x :: rest)) : J E L F cs ss pc lv (rest) := by
  obtain ⟨p, l, e, R, s, m, args, below, meth, c, Q, D, A, nL0⟩ := E
  obtain ⟨rfl, rfl, hx, hb, hml, hown, hts, hK, hT, hA, hlk⟩ := hE
  exact fun H locs ls hP hD hS hl => lv_iload hx hb hdg (lv_at hl q hq) (k H locs ls hP hD hS hl)
theorem jr_istore_n {E : jE} {G : Nat → ClassId} {rm : Room} {cc : ByteArray} {nL cs ss pc : Nat} {own : String} {Ts : List Cond} {L : List Nat} {F : Nat → va_E} {lv : List (Nat × Value)} {rest : List Value} {j : Fin 4} {x : Int32} {lv' : List (Nat × Value)} (hE : jOk E G rm cc nL own Ts) (hdg : decode cc pc = .ok (.istore_n j, 1)) (hn : (j : Nat) < nL) (hl' : ((j : Nat), .int x) :: lv.filter (fun q => !(q.1 == (j : Nat)) && !(q.1 + 1 == (j : Nat) && q.2.category == 2)) = lv') (k : J E L F cs ss (pc + 1) lv' rest) : J E L F cs ss pc lv (.int x :: rest) := by
  obtain ⟨p, l, e, R, s, m, args, below, meth, c, Q, D, A, nL0⟩ := E
  obtain ⟨rfl, rfl, hx, hb, hml, hown, hts, hK, hT, hA, hlk⟩ := hE
  exact fun H locs ls hP hD hS hl => lv_istore_n hx hb hdg rfl hl hn hl' (fun ls' hl2 => k H locs ls' hP hD hS hl2)
theorem jr_istore {E : jE} {G : Nat → ClassId} {rm : Room} {cc : ByteArray} {nL cs ss pc : Nat} {own : String} {Ts : List Cond} {L : List Nat} {F : Nat → va_E} {lv : List (Nat × Value)} {rest : List Value} {i : Nat} {x : Int32} {lv' : List (Nat × Value)} (hE : jOk E G rm cc nL own Ts) (hdg : decode cc pc = .ok (.istore i, 2)) (hn : i < nL) (hl' : (i, .int x) :: lv.filter (fun q => !(q.1 == i) && !(q.1 + 1 == i && q.2.category == 2)) = lv') (k : J E L F cs ss (pc + 2) lv' rest) : J E L F cs ss pc lv (.int x :: rest) := by
  obtain ⟨p, l, e, R, s, m, args, below, meth, c, Q, D, A, nL0⟩ := E
  obtain ⟨rfl, rfl, hx, hb, hml, hown, hts, hK, hT, hA, hlk⟩ := hE
  exact fun H locs ls hP hD hS hl => lv_istore hx hb hdg hl hn hl' (fun ls' hl2 => k H locs ls' hP hD hS hl2)
theorem jr_lload_n {E : jE} {G : Nat → ClassId} {rm : Room} {cc : ByteArray} {nL cs ss pc : Nat} {own : String} {Ts : List Cond} {L : List Nat} {F : Nat → va_E} {lv : List (Nat × Value)} {rest : List Value} {j : Fin 4} {x : Int64} (hE : jOk E G rm cc nL own Ts) (hdg : decode cc pc = .ok (.lload_n j, 1)) (q : Nat) (hq : lv[q]? = some ((j : Nat), .long x)) (k : J E L F cs ss (pc + 1) lv (.long x :: rest)) : J E L F cs ss pc lv (rest) := by
  obtain ⟨p, l, e, R, s, m, args, below, meth, c, Q, D, A, nL0⟩ := E
  obtain ⟨rfl, rfl, hx, hb, hml, hown, hts, hK, hT, hA, hlk⟩ := hE
  exact fun H locs ls hP hD hS hl => lv_lload_n hx hb hdg rfl (lv_at hl q hq) (k H locs ls hP hD hS hl)
theorem jr_lload {E : jE} {G : Nat → ClassId} {rm : Room} {cc : ByteArray} {nL cs ss pc : Nat} {own : String} {Ts : List Cond} {L : List Nat} {F : Nat → va_E} {lv : List (Nat × Value)} {rest : List Value} {i : Nat} {x : Int64} (hE : jOk E G rm cc nL own Ts) (hdg : decode cc pc = .ok (.lload i, 2)) (q : Nat) (hq : lv[q]? = some (i, .long x)) (k : J E L F cs ss (pc + 2) lv (.long x :: rest)) : J E L F cs ss pc lv (rest) := by
  obtain ⟨p, l, e, R, s, m, args, below, meth, c, Q, D, A, nL0⟩ := E
  obtain ⟨rfl, rfl, hx, hb, hml, hown, hts, hK, hT, hA, hlk⟩ := hE
  exact fun H locs ls hP hD hS hl => lv_lload hx hb hdg (lv_at hl q hq) (k H locs ls hP hD hS hl)
theorem jr_lstore_n {E : jE} {G : Nat → ClassId} {rm : Room} {cc : ByteArray} {nL cs ss pc : Nat} {own : String} {Ts : List Cond} {L : List Nat} {F : Nat → va_E} {lv : List (Nat × Value)} {rest : List Value} {j : Fin 4} {x : Int64} {lv' : List (Nat × Value)} (hE : jOk E G rm cc nL own Ts) (hdg : decode cc pc = .ok (.lstore_n j, 1)) (hn : (j : Nat) + 1 < nL) (hl' : ((j : Nat), .long x) :: lv.filter (fun q => !(q.1 == (j : Nat)) && (!(q.1 == (j : Nat) + 1) && !(q.1 + 1 == (j : Nat) && q.2.category == 2))) = lv') (k : J E L F cs ss (pc + 1) lv' rest) : J E L F cs ss pc lv (.long x :: rest) := by
  obtain ⟨p, l, e, R, s, m, args, below, meth, c, Q, D, A, nL0⟩ := E
  obtain ⟨rfl, rfl, hx, hb, hml, hown, hts, hK, hT, hA, hlk⟩ := hE
  exact fun H locs ls hP hD hS hl => lv_lstore_n hx hb hdg rfl hl hn hl' (fun ls' hl2 => k H locs ls' hP hD hS hl2)
theorem jr_lstore {E : jE} {G : Nat → ClassId} {rm : Room} {cc : ByteArray} {nL cs ss pc : Nat} {own : String} {Ts : List Cond} {L : List Nat} {F : Nat → va_E} {lv : List (Nat × Value)} {rest : List Value} {i : Nat} {x : Int64} {lv' : List (Nat × Value)} (hE : jOk E G rm cc nL own Ts) (hdg : decode cc pc = .ok (.lstore i, 2)) (hn : i + 1 < nL) (hl' : (i, .long x) :: lv.filter (fun q => !(q.1 == i) && (!(q.1 == i + 1) && !(q.1 + 1 == i && q.2.category == 2))) = lv') (k : J E L F cs ss (pc + 2) lv' rest) : J E L F cs ss pc lv (.long x :: rest) := by
  obtain ⟨p, l, e, R, s, m, args, below, meth, c, Q, D, A, nL0⟩ := E
  obtain ⟨rfl, rfl, hx, hb, hml, hown, hts, hK, hT, hA, hlk⟩ := hE
  exact fun H locs ls hP hD hS hl => lv_lstore hx hb hdg hl hn hl' (fun ls' hl2 => k H locs ls' hP hD hS hl2)
theorem jr_aload_n {E : jE} {G : Nat → ClassId} {rm : Room} {cc : ByteArray} {nL cs ss pc : Nat} {own : String} {Ts : List Cond} {L : List Nat} {F : Nat → va_E} {lv : List (Nat × Value)} {rest : List Value} {j : Fin 4} {x : Nat} (hE : jOk E G rm cc nL own Ts) (hdg : decode cc pc = .ok (.aload_n j, 1)) (q : Nat) (hq : lv[q]? = some ((j : Nat), .ref x)) (k : J E L F cs ss (pc + 1) lv (.ref x :: rest)) : J E L F cs ss pc lv (rest) := by
  obtain ⟨p, l, e, R, s, m, args, below, meth, c, Q, D, A, nL0⟩ := E
  obtain ⟨rfl, rfl, hx, hb, hml, hown, hts, hK, hT, hA, hlk⟩ := hE
  exact fun H locs ls hP hD hS hl => lv_aload_n hx hb hdg rfl (lv_at hl q hq) (k H locs ls hP hD hS hl)
theorem jr_aload {E : jE} {G : Nat → ClassId} {rm : Room} {cc : ByteArray} {nL cs ss pc : Nat} {own : String} {Ts : List Cond} {L : List Nat} {F : Nat → va_E} {lv : List (Nat × Value)} {rest : List Value} {i : Nat} {x : Nat} (hE : jOk E G rm cc nL own Ts) (hdg : decode cc pc = .ok (.aload i, 2)) (q : Nat) (hq : lv[q]? = some (i, .ref x)) (k : J E L F cs ss (pc + 2) lv (.ref x :: rest)) : J E L F cs ss pc lv (rest) := by
  obtain ⟨p, l, e, R, s, m, args, below, meth, c, Q, D, A, nL0⟩ := E
  obtain ⟨rfl, rfl, hx, hb, hml, hown, hts, hK, hT, hA, hlk⟩ := hE
  exact fun H locs ls hP hD hS hl => lv_aload hx hb hdg (lv_at hl q hq) (k H locs ls hP hD hS hl)
theorem jr_astore_n {E : jE} {G : Nat → ClassId} {rm : Room} {cc : ByteArray} {nL cs ss pc : Nat} {own : String} {Ts : List Cond} {L : List Nat} {F : Nat → va_E} {lv : List (Nat × Value)} {rest : List Value} {j : Fin 4} {x : Nat} {lv' : List (Nat × Value)} (hE : jOk E G rm cc nL own Ts) (hdg : decode cc pc = .ok (.astore_n j, 1)) (hn : (j : Nat) < nL) (hl' : ((j : Nat), .ref x) :: lv.filter (fun q => !(q.1 == (j : Nat)) && !(q.1 + 1 == (j : Nat) && q.2.category == 2)) = lv') (k : J E L F cs ss (pc + 1) lv' rest) : J E L F cs ss pc lv (.ref x :: rest) := by
  obtain ⟨p, l, e, R, s, m, args, below, meth, c, Q, D, A, nL0⟩ := E
  obtain ⟨rfl, rfl, hx, hb, hml, hown, hts, hK, hT, hA, hlk⟩ := hE
  exact fun H locs ls hP hD hS hl => lv_astore_n hx hb hdg rfl hl hn hl' (fun ls' hl2 => k H locs ls' hP hD hS hl2)
theorem jr_astore {E : jE} {G : Nat → ClassId} {rm : Room} {cc : ByteArray} {nL cs ss pc : Nat} {own : String} {Ts : List Cond} {L : List Nat} {F : Nat → va_E} {lv : List (Nat × Value)} {rest : List Value} {i : Nat} {x : Nat} {lv' : List (Nat × Value)} (hE : jOk E G rm cc nL own Ts) (hdg : decode cc pc = .ok (.astore i, 2)) (hn : i < nL) (hl' : (i, .ref x) :: lv.filter (fun q => !(q.1 == i) && !(q.1 + 1 == i && q.2.category == 2)) = lv') (k : J E L F cs ss (pc + 2) lv' rest) : J E L F cs ss pc lv (.ref x :: rest) := by
  obtain ⟨p, l, e, R, s, m, args, below, meth, c, Q, D, A, nL0⟩ := E
  obtain ⟨rfl, rfl, hx, hb, hml, hown, hts, hK, hT, hA, hlk⟩ := hE
  exact fun H locs ls hP hD hS hl => lv_astore hx hb hdg hl hn hl' (fun ls' hl2 => k H locs ls' hP hD hS hl2)
theorem jr_iinc {E : jE} {G : Nat → ClassId} {rm : Room} {cc : ByteArray} {nL cs ss pc : Nat} {own : String} {Ts : List Cond} {L : List Nat} {F : Nat → va_E} {lv : List (Nat × Value)} {rest : List Value} {i : Nat} {n : Int} {x v : Int32} {lv' : List (Nat × Value)} (hE : jOk E G rm cc nL own Ts) (hdg : decode cc pc = .ok (.iinc i n, 3)) (q : Nat) (hq : lv[q]? = some (i, .int x)) (hv : x + Int32.ofInt n = v) (hn : i < nL) (hl' : (i, Value.int v) :: lv.filter (fun q => !(q.1 == i) && !(q.1 + 1 == i && q.2.category == 2)) = lv') (k : J E L F cs ss (pc + 3) lv' rest) : J E L F cs ss pc lv (rest) := by
  obtain ⟨p, l, e, R, s, m, args, below, meth, c, Q, D, A, nL0⟩ := E
  obtain ⟨rfl, rfl, hx, hb, hml, hown, hts, hK, hT, hA, hlk⟩ := hE
  exact fun H locs ls hP hD hS hl => lv_iinc hx hb hdg hl hq hv hn hl' (fun ls' hl2 => k H locs ls' hP hD hS hl2)
theorem jr_iadd {E : jE} {G : Nat → ClassId} {rm : Room} {cc : ByteArray} {nL cs ss pc : Nat} {own : String} {Ts : List Cond} {L : List Nat} {F : Nat → va_E} {lv : List (Nat × Value)} {rest : List Value} {x y z : Int32} (hE : jOk E G rm cc nL own Ts) (hdg : decode cc pc = .ok (.iadd, 1)) (hz : x + y = z) (k : J E L F cs ss (pc + 1) lv (.int z :: rest)) : J E L F cs ss pc lv (.int y :: .int x :: rest) := by
  obtain ⟨p, l, e, R, s, m, args, below, meth, c, Q, D, A, nL0⟩ := E
  obtain ⟨rfl, rfl, hx, hb, hml, hown, hts, hK, hT, hA, hlk⟩ := hE
  exact fun H locs ls hP hD hS hl => lv_iadd hx hb hdg (by rw [hz]; exact k H locs ls hP hD hS hl)
theorem jr_isub {E : jE} {G : Nat → ClassId} {rm : Room} {cc : ByteArray} {nL cs ss pc : Nat} {own : String} {Ts : List Cond} {L : List Nat} {F : Nat → va_E} {lv : List (Nat × Value)} {rest : List Value} {x y z : Int32} (hE : jOk E G rm cc nL own Ts) (hdg : decode cc pc = .ok (.isub, 1)) (hz : x - y = z) (k : J E L F cs ss (pc + 1) lv (.int z :: rest)) : J E L F cs ss pc lv (.int y :: .int x :: rest) := by
  obtain ⟨p, l, e, R, s, m, args, below, meth, c, Q, D, A, nL0⟩ := E
  obtain ⟨rfl, rfl, hx, hb, hml, hown, hts, hK, hT, hA, hlk⟩ := hE
  exact fun H locs ls hP hD hS hl => lv_isub hx hb hdg (by rw [hz]; exact k H locs ls hP hD hS hl)
theorem jr_imul {E : jE} {G : Nat → ClassId} {rm : Room} {cc : ByteArray} {nL cs ss pc : Nat} {own : String} {Ts : List Cond} {L : List Nat} {F : Nat → va_E} {lv : List (Nat × Value)} {rest : List Value} {x y z : Int32} (hE : jOk E G rm cc nL own Ts) (hdg : decode cc pc = .ok (.imul, 1)) (hz : x * y = z) (k : J E L F cs ss (pc + 1) lv (.int z :: rest)) : J E L F cs ss pc lv (.int y :: .int x :: rest) := by
  obtain ⟨p, l, e, R, s, m, args, below, meth, c, Q, D, A, nL0⟩ := E
  obtain ⟨rfl, rfl, hx, hb, hml, hown, hts, hK, hT, hA, hlk⟩ := hE
  exact fun H locs ls hP hD hS hl => lv_imul hx hb hdg (by rw [hz]; exact k H locs ls hP hD hS hl)
theorem jr_iand {E : jE} {G : Nat → ClassId} {rm : Room} {cc : ByteArray} {nL cs ss pc : Nat} {own : String} {Ts : List Cond} {L : List Nat} {F : Nat → va_E} {lv : List (Nat × Value)} {rest : List Value} {x y z : Int32} (hE : jOk E G rm cc nL own Ts) (hdg : decode cc pc = .ok (.iand, 1)) (hz : x &&& y = z) (k : J E L F cs ss (pc + 1) lv (.int z :: rest)) : J E L F cs ss pc lv (.int y :: .int x :: rest) := by
  obtain ⟨p, l, e, R, s, m, args, below, meth, c, Q, D, A, nL0⟩ := E
  obtain ⟨rfl, rfl, hx, hb, hml, hown, hts, hK, hT, hA, hlk⟩ := hE
  exact fun H locs ls hP hD hS hl => lv_iand hx hb hdg (by rw [hz]; exact k H locs ls hP hD hS hl)
theorem jr_ior {E : jE} {G : Nat → ClassId} {rm : Room} {cc : ByteArray} {nL cs ss pc : Nat} {own : String} {Ts : List Cond} {L : List Nat} {F : Nat → va_E} {lv : List (Nat × Value)} {rest : List Value} {x y z : Int32} (hE : jOk E G rm cc nL own Ts) (hdg : decode cc pc = .ok (.ior, 1)) (hz : x ||| y = z) (k : J E L F cs ss (pc + 1) lv (.int z :: rest)) : J E L F cs ss pc lv (.int y :: .int x :: rest) := by
  obtain ⟨p, l, e, R, s, m, args, below, meth, c, Q, D, A, nL0⟩ := E
  obtain ⟨rfl, rfl, hx, hb, hml, hown, hts, hK, hT, hA, hlk⟩ := hE
  exact fun H locs ls hP hD hS hl => lv_ior hx hb hdg (by rw [hz]; exact k H locs ls hP hD hS hl)
theorem jr_ixor {E : jE} {G : Nat → ClassId} {rm : Room} {cc : ByteArray} {nL cs ss pc : Nat} {own : String} {Ts : List Cond} {L : List Nat} {F : Nat → va_E} {lv : List (Nat × Value)} {rest : List Value} {x y z : Int32} (hE : jOk E G rm cc nL own Ts) (hdg : decode cc pc = .ok (.ixor, 1)) (hz : x ^^^ y = z) (k : J E L F cs ss (pc + 1) lv (.int z :: rest)) : J E L F cs ss pc lv (.int y :: .int x :: rest) := by
  obtain ⟨p, l, e, R, s, m, args, below, meth, c, Q, D, A, nL0⟩ := E
  obtain ⟨rfl, rfl, hx, hb, hml, hown, hts, hK, hT, hA, hlk⟩ := hE
  exact fun H locs ls hP hD hS hl => lv_ixor hx hb hdg (by rw [hz]; exact k H locs ls hP hD hS hl)
theorem jr_ishl {E : jE} {G : Nat → ClassId} {rm : Room} {cc : ByteArray} {nL cs ss pc : Nat} {own : String} {Ts : List Cond} {L : List Nat} {F : Nat → va_E} {lv : List (Nat × Value)} {rest : List Value} {x y z : Int32} (hE : jOk E G rm cc nL own Ts) (hdg : decode cc pc = .ok (.ishl, 1)) (hz : x <<< (y &&& 31) = z) (k : J E L F cs ss (pc + 1) lv (.int z :: rest)) : J E L F cs ss pc lv (.int y :: .int x :: rest) := by
  obtain ⟨p, l, e, R, s, m, args, below, meth, c, Q, D, A, nL0⟩ := E
  obtain ⟨rfl, rfl, hx, hb, hml, hown, hts, hK, hT, hA, hlk⟩ := hE
  exact fun H locs ls hP hD hS hl => lv_ishl hx hb hdg (by rw [hz]; exact k H locs ls hP hD hS hl)
theorem jr_ishr {E : jE} {G : Nat → ClassId} {rm : Room} {cc : ByteArray} {nL cs ss pc : Nat} {own : String} {Ts : List Cond} {L : List Nat} {F : Nat → va_E} {lv : List (Nat × Value)} {rest : List Value} {x y z : Int32} (hE : jOk E G rm cc nL own Ts) (hdg : decode cc pc = .ok (.ishr, 1)) (hz : x >>> (y &&& 31) = z) (k : J E L F cs ss (pc + 1) lv (.int z :: rest)) : J E L F cs ss pc lv (.int y :: .int x :: rest) := by
  obtain ⟨p, l, e, R, s, m, args, below, meth, c, Q, D, A, nL0⟩ := E
  obtain ⟨rfl, rfl, hx, hb, hml, hown, hts, hK, hT, hA, hlk⟩ := hE
  exact fun H locs ls hP hD hS hl => lv_ishr hx hb hdg (by rw [hz]; exact k H locs ls hP hD hS hl)
theorem jr_ladd {E : jE} {G : Nat → ClassId} {rm : Room} {cc : ByteArray} {nL cs ss pc : Nat} {own : String} {Ts : List Cond} {L : List Nat} {F : Nat → va_E} {lv : List (Nat × Value)} {rest : List Value} {x y z : Int64} (hE : jOk E G rm cc nL own Ts) (hdg : decode cc pc = .ok (.ladd, 1)) (hz : x + y = z) (k : J E L F cs ss (pc + 1) lv (.long z :: rest)) : J E L F cs ss pc lv (.long y :: .long x :: rest) := by
  obtain ⟨p, l, e, R, s, m, args, below, meth, c, Q, D, A, nL0⟩ := E
  obtain ⟨rfl, rfl, hx, hb, hml, hown, hts, hK, hT, hA, hlk⟩ := hE
  exact fun H locs ls hP hD hS hl => lv_ladd hx hb hdg (by rw [hz]; exact k H locs ls hP hD hS hl)
theorem jr_lsub {E : jE} {G : Nat → ClassId} {rm : Room} {cc : ByteArray} {nL cs ss pc : Nat} {own : String} {Ts : List Cond} {L : List Nat} {F : Nat → va_E} {lv : List (Nat × Value)} {rest : List Value} {x y z : Int64} (hE : jOk E G rm cc nL own Ts) (hdg : decode cc pc = .ok (.lsub, 1)) (hz : x - y = z) (k : J E L F cs ss (pc + 1) lv (.long z :: rest)) : J E L F cs ss pc lv (.long y :: .long x :: rest) := by
  obtain ⟨p, l, e, R, s, m, args, below, meth, c, Q, D, A, nL0⟩ := E
  obtain ⟨rfl, rfl, hx, hb, hml, hown, hts, hK, hT, hA, hlk⟩ := hE
  exact fun H locs ls hP hD hS hl => lv_lsub hx hb hdg (by rw [hz]; exact k H locs ls hP hD hS hl)
theorem jr_lmul {E : jE} {G : Nat → ClassId} {rm : Room} {cc : ByteArray} {nL cs ss pc : Nat} {own : String} {Ts : List Cond} {L : List Nat} {F : Nat → va_E} {lv : List (Nat × Value)} {rest : List Value} {x y z : Int64} (hE : jOk E G rm cc nL own Ts) (hdg : decode cc pc = .ok (.lmul, 1)) (hz : x * y = z) (k : J E L F cs ss (pc + 1) lv (.long z :: rest)) : J E L F cs ss pc lv (.long y :: .long x :: rest) := by
  obtain ⟨p, l, e, R, s, m, args, below, meth, c, Q, D, A, nL0⟩ := E
  obtain ⟨rfl, rfl, hx, hb, hml, hown, hts, hK, hT, hA, hlk⟩ := hE
  exact fun H locs ls hP hD hS hl => lv_lmul hx hb hdg (by rw [hz]; exact k H locs ls hP hD hS hl)
theorem jr_land {E : jE} {G : Nat → ClassId} {rm : Room} {cc : ByteArray} {nL cs ss pc : Nat} {own : String} {Ts : List Cond} {L : List Nat} {F : Nat → va_E} {lv : List (Nat × Value)} {rest : List Value} {x y z : Int64} (hE : jOk E G rm cc nL own Ts) (hdg : decode cc pc = .ok (.land, 1)) (hz : x &&& y = z) (k : J E L F cs ss (pc + 1) lv (.long z :: rest)) : J E L F cs ss pc lv (.long y :: .long x :: rest) := by
  obtain ⟨p, l, e, R, s, m, args, below, meth, c, Q, D, A, nL0⟩ := E
  obtain ⟨rfl, rfl, hx, hb, hml, hown, hts, hK, hT, hA, hlk⟩ := hE
  exact fun H locs ls hP hD hS hl => lv_land hx hb hdg (by rw [hz]; exact k H locs ls hP hD hS hl)
theorem jr_lor {E : jE} {G : Nat → ClassId} {rm : Room} {cc : ByteArray} {nL cs ss pc : Nat} {own : String} {Ts : List Cond} {L : List Nat} {F : Nat → va_E} {lv : List (Nat × Value)} {rest : List Value} {x y z : Int64} (hE : jOk E G rm cc nL own Ts) (hdg : decode cc pc = .ok (.lor, 1)) (hz : x ||| y = z) (k : J E L F cs ss (pc + 1) lv (.long z :: rest)) : J E L F cs ss pc lv (.long y :: .long x :: rest) := by
  obtain ⟨p, l, e, R, s, m, args, below, meth, c, Q, D, A, nL0⟩ := E
  obtain ⟨rfl, rfl, hx, hb, hml, hown, hts, hK, hT, hA, hlk⟩ := hE
  exact fun H locs ls hP hD hS hl => lv_lor hx hb hdg (by rw [hz]; exact k H locs ls hP hD hS hl)
theorem jr_lxor {E : jE} {G : Nat → ClassId} {rm : Room} {cc : ByteArray} {nL cs ss pc : Nat} {own : String} {Ts : List Cond} {L : List Nat} {F : Nat → va_E} {lv : List (Nat × Value)} {rest : List Value} {x y z : Int64} (hE : jOk E G rm cc nL own Ts) (hdg : decode cc pc = .ok (.lxor, 1)) (hz : x ^^^ y = z) (k : J E L F cs ss (pc + 1) lv (.long z :: rest)) : J E L F cs ss pc lv (.long y :: .long x :: rest) := by
  obtain ⟨p, l, e, R, s, m, args, below, meth, c, Q, D, A, nL0⟩ := E
  obtain ⟨rfl, rfl, hx, hb, hml, hown, hts, hK, hT, hA, hlk⟩ := hE
  exact fun H locs ls hP hD hS hl => lv_lxor hx hb hdg (by rw [hz]; exact k H locs ls hP hD hS hl)
theorem jr_iushr {E : jE} {G : Nat → ClassId} {rm : Room} {cc : ByteArray} {nL cs ss pc : Nat} {own : String} {Ts : List Cond} {L : List Nat} {F : Nat → va_E} {lv : List (Nat × Value)} {rest : List Value} {x y z : Int32} (hE : jOk E G rm cc nL own Ts) (hdg : decode cc pc = .ok (.iushr, 1)) (hz : (x.toUInt32 >>> (y.toUInt32 &&& Int32.toUInt32 31)).toInt32 = z) (k : J E L F cs ss (pc + 1) lv (.int z :: rest)) : J E L F cs ss pc lv (.int y :: .int x :: rest) := by
  obtain ⟨p, l, e, R, s, m, args, below, meth, c, Q, D, A, nL0⟩ := E
  obtain ⟨rfl, rfl, hx, hb, hml, hown, hts, hK, hT, hA, hlk⟩ := hE
  exact fun H locs ls hP hD hS hl => lv_iushr hx hb hdg hz (k H locs ls hP hD hS hl)
theorem jr_lushr {E : jE} {G : Nat → ClassId} {rm : Room} {cc : ByteArray} {nL cs ss pc : Nat} {own : String} {Ts : List Cond} {L : List Nat} {F : Nat → va_E} {lv : List (Nat × Value)} {rest : List Value} {x z : Int64} {y : Int32} (hE : jOk E G rm cc nL own Ts) (hdg : decode cc pc = .ok (.lushr, 1)) (hz : (x.toUInt64 >>> (y.toInt64.toUInt64 &&& Int64.toUInt64 63)).toInt64 = z) (k : J E L F cs ss (pc + 1) lv (.long z :: rest)) : J E L F cs ss pc lv (.int y :: .long x :: rest) := by
  obtain ⟨p, l, e, R, s, m, args, below, meth, c, Q, D, A, nL0⟩ := E
  obtain ⟨rfl, rfl, hx, hb, hml, hown, hts, hK, hT, hA, hlk⟩ := hE
  exact fun H locs ls hP hD hS hl => lv_lushr hx hb hdg hz (k H locs ls hP hD hS hl)
theorem jr_lshl {E : jE} {G : Nat → ClassId} {rm : Room} {cc : ByteArray} {nL cs ss pc : Nat} {own : String} {Ts : List Cond} {L : List Nat} {F : Nat → va_E} {lv : List (Nat × Value)} {rest : List Value} {x z : Int64} {y : Int32} (hE : jOk E G rm cc nL own Ts) (hdg : decode cc pc = .ok (.lshl, 1)) (hz : x <<< (y.toInt64 &&& 63) = z) (k : J E L F cs ss (pc + 1) lv (.long z :: rest)) : J E L F cs ss pc lv (.int y :: .long x :: rest) := by
  obtain ⟨p, l, e, R, s, m, args, below, meth, c, Q, D, A, nL0⟩ := E
  obtain ⟨rfl, rfl, hx, hb, hml, hown, hts, hK, hT, hA, hlk⟩ := hE
  exact fun H locs ls hP hD hS hl => lv_lshl hx hb hdg hz (k H locs ls hP hD hS hl)
theorem jr_lshr {E : jE} {G : Nat → ClassId} {rm : Room} {cc : ByteArray} {nL cs ss pc : Nat} {own : String} {Ts : List Cond} {L : List Nat} {F : Nat → va_E} {lv : List (Nat × Value)} {rest : List Value} {x z : Int64} {y : Int32} (hE : jOk E G rm cc nL own Ts) (hdg : decode cc pc = .ok (.lshr, 1)) (hz : x >>> (y.toInt64 &&& 63) = z) (k : J E L F cs ss (pc + 1) lv (.long z :: rest)) : J E L F cs ss pc lv (.int y :: .long x :: rest) := by
  obtain ⟨p, l, e, R, s, m, args, below, meth, c, Q, D, A, nL0⟩ := E
  obtain ⟨rfl, rfl, hx, hb, hml, hown, hts, hK, hT, hA, hlk⟩ := hE
  exact fun H locs ls hP hD hS hl => lv_lshr hx hb hdg hz (k H locs ls hP hD hS hl)
theorem jr_idiv {E : jE} {G : Nat → ClassId} {rm : Room} {cc : ByteArray} {nL cs ss pc : Nat} {own : String} {Ts : List Cond} {L : List Nat} {F : Nat → va_E} {lv : List (Nat × Value)} {rest : List Value} {x y z : Int32} (hE : jOk E G rm cc nL own Ts) (hdg : decode cc pc = .ok (.idiv, 1)) (hne : ¬ y = 0) (hz : x / y = z) (k : J E L F cs ss (pc + 1) lv (.int z :: rest)) : J E L F cs ss pc lv (.int y :: .int x :: rest) := by
  obtain ⟨p, l, e, R, s, m, args, below, meth, c, Q, D, A, nL0⟩ := E
  obtain ⟨rfl, rfl, hx, hb, hml, hown, hts, hK, hT, hA, hlk⟩ := hE
  exact fun H locs ls hP hD hS hl => lv_idiv hx hb hdg hne (by rw [hz]; exact k H locs ls hP hD hS hl)
theorem jr_irem {E : jE} {G : Nat → ClassId} {rm : Room} {cc : ByteArray} {nL cs ss pc : Nat} {own : String} {Ts : List Cond} {L : List Nat} {F : Nat → va_E} {lv : List (Nat × Value)} {rest : List Value} {x y z : Int32} (hE : jOk E G rm cc nL own Ts) (hdg : decode cc pc = .ok (.irem, 1)) (hne : ¬ y = 0) (hz : x - x / y * y = z) (k : J E L F cs ss (pc + 1) lv (.int z :: rest)) : J E L F cs ss pc lv (.int y :: .int x :: rest) := by
  obtain ⟨p, l, e, R, s, m, args, below, meth, c, Q, D, A, nL0⟩ := E
  obtain ⟨rfl, rfl, hx, hb, hml, hown, hts, hK, hT, hA, hlk⟩ := hE
  exact fun H locs ls hP hD hS hl => lv_irem hx hb hdg hne (by rw [hz]; exact k H locs ls hP hD hS hl)
theorem jr_ineg {E : jE} {G : Nat → ClassId} {rm : Room} {cc : ByteArray} {nL cs ss pc : Nat} {own : String} {Ts : List Cond} {L : List Nat} {F : Nat → va_E} {lv : List (Nat × Value)} {rest : List Value} {x z : Int32} (hE : jOk E G rm cc nL own Ts) (hdg : decode cc pc = .ok (.ineg, 1)) (hz : -x = z) (k : J E L F cs ss (pc + 1) lv (.int z :: rest)) : J E L F cs ss pc lv (.int x :: rest) := by
  obtain ⟨p, l, e, R, s, m, args, below, meth, c, Q, D, A, nL0⟩ := E
  obtain ⟨rfl, rfl, hx, hb, hml, hown, hts, hK, hT, hA, hlk⟩ := hE
  exact fun H locs ls hP hD hS hl => lv_ineg hx hb hdg (by rw [hz]; exact k H locs ls hP hD hS hl)
theorem jr_i2l {E : jE} {G : Nat → ClassId} {rm : Room} {cc : ByteArray} {nL cs ss pc : Nat} {own : String} {Ts : List Cond} {L : List Nat} {F : Nat → va_E} {lv : List (Nat × Value)} {rest : List Value} {x : Int32} {z : Int64} (hE : jOk E G rm cc nL own Ts) (hdg : decode cc pc = .ok (.i2l, 1)) (hz : x.toInt64 = z) (k : J E L F cs ss (pc + 1) lv (.long z :: rest)) : J E L F cs ss pc lv (.int x :: rest) := by
  obtain ⟨p, l, e, R, s, m, args, below, meth, c, Q, D, A, nL0⟩ := E
  obtain ⟨rfl, rfl, hx, hb, hml, hown, hts, hK, hT, hA, hlk⟩ := hE
  exact fun H locs ls hP hD hS hl => lv_i2l hx hb hdg hz (k H locs ls hP hD hS hl)
theorem jr_l2i {E : jE} {G : Nat → ClassId} {rm : Room} {cc : ByteArray} {nL cs ss pc : Nat} {own : String} {Ts : List Cond} {L : List Nat} {F : Nat → va_E} {lv : List (Nat × Value)} {rest : List Value} {x : Int64} {z : Int32} (hE : jOk E G rm cc nL own Ts) (hdg : decode cc pc = .ok (.l2i, 1)) (hz : x.toInt32 = z) (k : J E L F cs ss (pc + 1) lv (.int z :: rest)) : J E L F cs ss pc lv (.long x :: rest) := by
  obtain ⟨p, l, e, R, s, m, args, below, meth, c, Q, D, A, nL0⟩ := E
  obtain ⟨rfl, rfl, hx, hb, hml, hown, hts, hK, hT, hA, hlk⟩ := hE
  exact fun H locs ls hP hD hS hl => lv_l2i hx hb hdg hz (k H locs ls hP hD hS hl)
theorem jr_i2b {E : jE} {G : Nat → ClassId} {rm : Room} {cc : ByteArray} {nL cs ss pc : Nat} {own : String} {Ts : List Cond} {L : List Nat} {F : Nat → va_E} {lv : List (Nat × Value)} {rest : List Value} {x z : Int32} (hE : jOk E G rm cc nL own Ts) (hdg : decode cc pc = .ok (.i2b, 1)) (hz : x.toInt8.toInt32 = z) (k : J E L F cs ss (pc + 1) lv (.int z :: rest)) : J E L F cs ss pc lv (.int x :: rest) := by
  obtain ⟨p, l, e, R, s, m, args, below, meth, c, Q, D, A, nL0⟩ := E
  obtain ⟨rfl, rfl, hx, hb, hml, hown, hts, hK, hT, hA, hlk⟩ := hE
  exact fun H locs ls hP hD hS hl => lv_i2b hx hb hdg hz (k H locs ls hP hD hS hl)
theorem jr_lcmp {E : jE} {G : Nat → ClassId} {rm : Room} {cc : ByteArray} {nL cs ss pc : Nat} {own : String} {Ts : List Cond} {L : List Nat} {F : Nat → va_E} {lv : List (Nat × Value)} {rest : List Value} {x y : Int64} (hE : jOk E G rm cc nL own Ts) (hdg : decode cc pc = .ok (.lcmp, 1))  (k : J E L F cs ss (pc + 1) lv (.int (lg_cmp x y) :: rest)) : J E L F cs ss pc lv (.long y :: .long x :: rest) := by
  obtain ⟨p, l, e, R, s, m, args, below, meth, c, Q, D, A, nL0⟩ := E
  obtain ⟨rfl, rfl, hx, hb, hml, hown, hts, hK, hT, hA, hlk⟩ := hE
  exact fun H locs ls hP hD hS hl => W.lcmp hx hb hdg (k H locs ls hP hD hS hl)
theorem jr_dup {E : jE} {G : Nat → ClassId} {rm : Room} {cc : ByteArray} {nL cs ss pc : Nat} {own : String} {Ts : List Cond} {L : List Nat} {F : Nat → va_E} {lv : List (Nat × Value)} {rest : List Value} {v : Value} (hE : jOk E G rm cc nL own Ts) (hdg : decode cc pc = .ok (.dup, 1)) (hv : v.category = 1) (k : J E L F cs ss (pc + 1) lv (v :: v :: rest)) : J E L F cs ss pc lv (v :: rest) := by
  obtain ⟨p, l, e, R, s, m, args, below, meth, c, Q, D, A, nL0⟩ := E
  obtain ⟨rfl, rfl, hx, hb, hml, hown, hts, hK, hT, hA, hlk⟩ := hE
  exact fun H locs ls hP hD hS hl => lv_dup hx hb hdg hv (k H locs ls hP hD hS hl)
theorem jr_pop {E : jE} {G : Nat → ClassId} {rm : Room} {cc : ByteArray} {nL cs ss pc : Nat} {own : String} {Ts : List Cond} {L : List Nat} {F : Nat → va_E} {lv : List (Nat × Value)} {rest : List Value} {v : Value} (hE : jOk E G rm cc nL own Ts) (hdg : decode cc pc = .ok (.pop, 1)) (hv : v.category = 1) (k : J E L F cs ss (pc + 1) lv rest) : J E L F cs ss pc lv (v :: rest) := by
  obtain ⟨p, l, e, R, s, m, args, below, meth, c, Q, D, A, nL0⟩ := E
  obtain ⟨rfl, rfl, hx, hb, hml, hown, hts, hK, hT, hA, hlk⟩ := hE
  exact fun H locs ls hP hD hS hl => lv_pop hx hb hdg hv (k H locs ls hP hD hS hl)
theorem jr_dup2 {E : jE} {G : Nat → ClassId} {rm : Room} {cc : ByteArray} {nL cs ss pc : Nat} {own : String} {Ts : List Cond} {L : List Nat} {F : Nat → va_E} {lv : List (Nat × Value)} {rest : List Value} {v w : Value} (hE : jOk E G rm cc nL own Ts) (hdg : decode cc pc = .ok (.dup2, 1)) (hv : v.category = 1) (hw : w.category = 1) (k : J E L F cs ss (pc + 1) lv (v :: w :: v :: w :: rest)) : J E L F cs ss pc lv (v :: w :: rest) := by
  obtain ⟨p, l, e, R, s, m, args, below, meth, c, Q, D, A, nL0⟩ := E
  obtain ⟨rfl, rfl, hx, hb, hml, hown, hts, hK, hT, hA, hlk⟩ := hE
  exact fun H locs ls hP hD hS hl => lv_dup2_11 hx hb hdg hv hw (k H locs ls hP hD hS hl)
theorem jr_dup2w {E : jE} {G : Nat → ClassId} {rm : Room} {cc : ByteArray} {nL cs ss pc : Nat} {own : String} {Ts : List Cond} {L : List Nat} {F : Nat → va_E} {lv : List (Nat × Value)} {rest : List Value} {v : Value} (hE : jOk E G rm cc nL own Ts) (hdg : decode cc pc = .ok (.dup2, 1)) (hv : v.category = 2) (k : J E L F cs ss (pc + 1) lv (v :: v :: rest)) : J E L F cs ss pc lv (v :: rest) := by
  obtain ⟨p, l, e, R, s, m, args, below, meth, c, Q, D, A, nL0⟩ := E
  obtain ⟨rfl, rfl, hx, hb, hml, hown, hts, hK, hT, hA, hlk⟩ := hE
  exact fun H locs ls hP hD hS hl => lv_dup2_2 hx hb hdg hv (k H locs ls hP hD hS hl)
theorem jr_dup_x1 {E : jE} {G : Nat → ClassId} {rm : Room} {cc : ByteArray} {nL cs ss pc : Nat} {own : String} {Ts : List Cond} {L : List Nat} {F : Nat → va_E} {lv : List (Nat × Value)} {rest : List Value} {v w : Value} (hE : jOk E G rm cc nL own Ts) (hdg : decode cc pc = .ok (.dup_x1, 1)) (hv : v.category = 1) (hw : w.category = 1) (k : J E L F cs ss (pc + 1) lv (v :: w :: v :: rest)) : J E L F cs ss pc lv (v :: w :: rest) := by
  obtain ⟨p, l, e, R, s, m, args, below, meth, c, Q, D, A, nL0⟩ := E
  obtain ⟨rfl, rfl, hx, hb, hml, hown, hts, hK, hT, hA, hlk⟩ := hE
  exact fun H locs ls hP hD hS hl => lv_dup_x1 hx hb hdg hv hw (k H locs ls hP hD hS hl)
theorem jr_if_eq {E : jE} {G : Nat → ClassId} {rm : Room} {cc : ByteArray} {nL cs ss pc : Nat} {own : String} {Ts : List Cond} {L : List Nat} {F : Nat → va_E} {lv : List (Nat × Value)} {rest : List Value} {x : Int32} {off : Int} {tgt : Nat} (hE : jOk E G rm cc nL own Ts) (hdg : decode cc pc = .ok (.ifCond .eq off, 3)) (ht : (pc : Int) + off = (tgt : Int)) (kt : x = 0 → J E L F cs ss tgt lv rest) (kf : ¬ (x = 0) → J E L F cs ss (pc + 3) lv rest) : J E L F cs ss pc lv (.int x :: rest) := by
  obtain ⟨p, l, e, R, s, m, args, below, meth, c, Q, D, A, nL0⟩ := E
  obtain ⟨rfl, rfl, hx, hb, hml, hown, hts, hK, hT, hA, hlk⟩ := hE
  exact fun H locs ls hP hD hS hl => lv_if_eq hx hb hdg ht (fun h => kt h H locs ls hP hD hS hl) (fun h => kf h H locs ls hP hD hS hl)
theorem jr_icmp_eq {E : jE} {G : Nat → ClassId} {rm : Room} {cc : ByteArray} {nL cs ss pc : Nat} {own : String} {Ts : List Cond} {L : List Nat} {F : Nat → va_E} {lv : List (Nat × Value)} {rest : List Value} {x y : Int32} {off : Int} {tgt : Nat} (hE : jOk E G rm cc nL own Ts) (hdg : decode cc pc = .ok (.if_icmp .eq off, 3)) (ht : (pc : Int) + off = (tgt : Int)) (kt : x = y → J E L F cs ss tgt lv rest) (kf : ¬ (x = y) → J E L F cs ss (pc + 3) lv rest) : J E L F cs ss pc lv (.int y :: .int x :: rest) := by
  obtain ⟨p, l, e, R, s, m, args, below, meth, c, Q, D, A, nL0⟩ := E
  obtain ⟨rfl, rfl, hx, hb, hml, hown, hts, hK, hT, hA, hlk⟩ := hE
  exact fun H locs ls hP hD hS hl => lv_icmp_eq hx hb hdg ht (fun h => kt h H locs ls hP hD hS hl) (fun h => kf h H locs ls hP hD hS hl)
theorem jr_if_ne {E : jE} {G : Nat → ClassId} {rm : Room} {cc : ByteArray} {nL cs ss pc : Nat} {own : String} {Ts : List Cond} {L : List Nat} {F : Nat → va_E} {lv : List (Nat × Value)} {rest : List Value} {x : Int32} {off : Int} {tgt : Nat} (hE : jOk E G rm cc nL own Ts) (hdg : decode cc pc = .ok (.ifCond .ne off, 3)) (ht : (pc : Int) + off = (tgt : Int)) (kt : x ≠ 0 → J E L F cs ss tgt lv rest) (kf : x = 0 → J E L F cs ss (pc + 3) lv rest) : J E L F cs ss pc lv (.int x :: rest) := by
  obtain ⟨p, l, e, R, s, m, args, below, meth, c, Q, D, A, nL0⟩ := E
  obtain ⟨rfl, rfl, hx, hb, hml, hown, hts, hK, hT, hA, hlk⟩ := hE
  exact fun H locs ls hP hD hS hl => lv_if_ne hx hb hdg ht (fun h => kt h H locs ls hP hD hS hl) (fun h => kf h H locs ls hP hD hS hl)
theorem jr_icmp_ne {E : jE} {G : Nat → ClassId} {rm : Room} {cc : ByteArray} {nL cs ss pc : Nat} {own : String} {Ts : List Cond} {L : List Nat} {F : Nat → va_E} {lv : List (Nat × Value)} {rest : List Value} {x y : Int32} {off : Int} {tgt : Nat} (hE : jOk E G rm cc nL own Ts) (hdg : decode cc pc = .ok (.if_icmp .ne off, 3)) (ht : (pc : Int) + off = (tgt : Int)) (kt : x ≠ y → J E L F cs ss tgt lv rest) (kf : x = y → J E L F cs ss (pc + 3) lv rest) : J E L F cs ss pc lv (.int y :: .int x :: rest) := by
  obtain ⟨p, l, e, R, s, m, args, below, meth, c, Q, D, A, nL0⟩ := E
  obtain ⟨rfl, rfl, hx, hb, hml, hown, hts, hK, hT, hA, hlk⟩ := hE
  exact fun H locs ls hP hD hS hl => lv_icmp_ne hx hb hdg ht (fun h => kt h H locs ls hP hD hS hl) (fun h => kf h H locs ls hP hD hS hl)
theorem jr_if_lt {E : jE} {G : Nat → ClassId} {rm : Room} {cc : ByteArray} {nL cs ss pc : Nat} {own : String} {Ts : List Cond} {L : List Nat} {F : Nat → va_E} {lv : List (Nat × Value)} {rest : List Value} {x : Int32} {off : Int} {tgt : Nat} (hE : jOk E G rm cc nL own Ts) (hdg : decode cc pc = .ok (.ifCond .lt off, 3)) (ht : (pc : Int) + off = (tgt : Int)) (kt : x < 0 → J E L F cs ss tgt lv rest) (kf : ¬ (x < 0) → J E L F cs ss (pc + 3) lv rest) : J E L F cs ss pc lv (.int x :: rest) := by
  obtain ⟨p, l, e, R, s, m, args, below, meth, c, Q, D, A, nL0⟩ := E
  obtain ⟨rfl, rfl, hx, hb, hml, hown, hts, hK, hT, hA, hlk⟩ := hE
  exact fun H locs ls hP hD hS hl => lv_if_lt hx hb hdg ht (fun h => kt h H locs ls hP hD hS hl) (fun h => kf h H locs ls hP hD hS hl)
theorem jr_icmp_lt {E : jE} {G : Nat → ClassId} {rm : Room} {cc : ByteArray} {nL cs ss pc : Nat} {own : String} {Ts : List Cond} {L : List Nat} {F : Nat → va_E} {lv : List (Nat × Value)} {rest : List Value} {x y : Int32} {off : Int} {tgt : Nat} (hE : jOk E G rm cc nL own Ts) (hdg : decode cc pc = .ok (.if_icmp .lt off, 3)) (ht : (pc : Int) + off = (tgt : Int)) (kt : x < y → J E L F cs ss tgt lv rest) (kf : ¬ (x < y) → J E L F cs ss (pc + 3) lv rest) : J E L F cs ss pc lv (.int y :: .int x :: rest) := by
  obtain ⟨p, l, e, R, s, m, args, below, meth, c, Q, D, A, nL0⟩ := E
  obtain ⟨rfl, rfl, hx, hb, hml, hown, hts, hK, hT, hA, hlk⟩ := hE
  exact fun H locs ls hP hD hS hl => lv_icmp_lt hx hb hdg ht (fun h => kt h H locs ls hP hD hS hl) (fun h => kf h H locs ls hP hD hS hl)
theorem jr_if_ge {E : jE} {G : Nat → ClassId} {rm : Room} {cc : ByteArray} {nL cs ss pc : Nat} {own : String} {Ts : List Cond} {L : List Nat} {F : Nat → va_E} {lv : List (Nat × Value)} {rest : List Value} {x : Int32} {off : Int} {tgt : Nat} (hE : jOk E G rm cc nL own Ts) (hdg : decode cc pc = .ok (.ifCond .ge off, 3)) (ht : (pc : Int) + off = (tgt : Int)) (kt : 0 ≤ x → J E L F cs ss tgt lv rest) (kf : ¬ (0 ≤ x) → J E L F cs ss (pc + 3) lv rest) : J E L F cs ss pc lv (.int x :: rest) := by
  obtain ⟨p, l, e, R, s, m, args, below, meth, c, Q, D, A, nL0⟩ := E
  obtain ⟨rfl, rfl, hx, hb, hml, hown, hts, hK, hT, hA, hlk⟩ := hE
  exact fun H locs ls hP hD hS hl => lv_if_ge hx hb hdg ht (fun h => kt h H locs ls hP hD hS hl) (fun h => kf h H locs ls hP hD hS hl)
theorem jr_icmp_ge {E : jE} {G : Nat → ClassId} {rm : Room} {cc : ByteArray} {nL cs ss pc : Nat} {own : String} {Ts : List Cond} {L : List Nat} {F : Nat → va_E} {lv : List (Nat × Value)} {rest : List Value} {x y : Int32} {off : Int} {tgt : Nat} (hE : jOk E G rm cc nL own Ts) (hdg : decode cc pc = .ok (.if_icmp .ge off, 3)) (ht : (pc : Int) + off = (tgt : Int)) (kt : y ≤ x → J E L F cs ss tgt lv rest) (kf : ¬ (y ≤ x) → J E L F cs ss (pc + 3) lv rest) : J E L F cs ss pc lv (.int y :: .int x :: rest) := by
  obtain ⟨p, l, e, R, s, m, args, below, meth, c, Q, D, A, nL0⟩ := E
  obtain ⟨rfl, rfl, hx, hb, hml, hown, hts, hK, hT, hA, hlk⟩ := hE
  exact fun H locs ls hP hD hS hl => lv_icmp_ge hx hb hdg ht (fun h => kt h H locs ls hP hD hS hl) (fun h => kf h H locs ls hP hD hS hl)
theorem jr_if_gt {E : jE} {G : Nat → ClassId} {rm : Room} {cc : ByteArray} {nL cs ss pc : Nat} {own : String} {Ts : List Cond} {L : List Nat} {F : Nat → va_E} {lv : List (Nat × Value)} {rest : List Value} {x : Int32} {off : Int} {tgt : Nat} (hE : jOk E G rm cc nL own Ts) (hdg : decode cc pc = .ok (.ifCond .gt off, 3)) (ht : (pc : Int) + off = (tgt : Int)) (kt : 0 < x → J E L F cs ss tgt lv rest) (kf : ¬ (0 < x) → J E L F cs ss (pc + 3) lv rest) : J E L F cs ss pc lv (.int x :: rest) := by
  obtain ⟨p, l, e, R, s, m, args, below, meth, c, Q, D, A, nL0⟩ := E
  obtain ⟨rfl, rfl, hx, hb, hml, hown, hts, hK, hT, hA, hlk⟩ := hE
  exact fun H locs ls hP hD hS hl => lv_if_gt hx hb hdg ht (fun h => kt h H locs ls hP hD hS hl) (fun h => kf h H locs ls hP hD hS hl)
theorem jr_icmp_gt {E : jE} {G : Nat → ClassId} {rm : Room} {cc : ByteArray} {nL cs ss pc : Nat} {own : String} {Ts : List Cond} {L : List Nat} {F : Nat → va_E} {lv : List (Nat × Value)} {rest : List Value} {x y : Int32} {off : Int} {tgt : Nat} (hE : jOk E G rm cc nL own Ts) (hdg : decode cc pc = .ok (.if_icmp .gt off, 3)) (ht : (pc : Int) + off = (tgt : Int)) (kt : y < x → J E L F cs ss tgt lv rest) (kf : ¬ (y < x) → J E L F cs ss (pc + 3) lv rest) : J E L F cs ss pc lv (.int y :: .int x :: rest) := by
  obtain ⟨p, l, e, R, s, m, args, below, meth, c, Q, D, A, nL0⟩ := E
  obtain ⟨rfl, rfl, hx, hb, hml, hown, hts, hK, hT, hA, hlk⟩ := hE
  exact fun H locs ls hP hD hS hl => lv_icmp_gt hx hb hdg ht (fun h => kt h H locs ls hP hD hS hl) (fun h => kf h H locs ls hP hD hS hl)
theorem jr_if_le {E : jE} {G : Nat → ClassId} {rm : Room} {cc : ByteArray} {nL cs ss pc : Nat} {own : String} {Ts : List Cond} {L : List Nat} {F : Nat → va_E} {lv : List (Nat × Value)} {rest : List Value} {x : Int32} {off : Int} {tgt : Nat} (hE : jOk E G rm cc nL own Ts) (hdg : decode cc pc = .ok (.ifCond .le off, 3)) (ht : (pc : Int) + off = (tgt : Int)) (kt : x ≤ 0 → J E L F cs ss tgt lv rest) (kf : ¬ (x ≤ 0) → J E L F cs ss (pc + 3) lv rest) : J E L F cs ss pc lv (.int x :: rest) := by
  obtain ⟨p, l, e, R, s, m, args, below, meth, c, Q, D, A, nL0⟩ := E
  obtain ⟨rfl, rfl, hx, hb, hml, hown, hts, hK, hT, hA, hlk⟩ := hE
  exact fun H locs ls hP hD hS hl => lv_if_le hx hb hdg ht (fun h => kt h H locs ls hP hD hS hl) (fun h => kf h H locs ls hP hD hS hl)
theorem jr_icmp_le {E : jE} {G : Nat → ClassId} {rm : Room} {cc : ByteArray} {nL cs ss pc : Nat} {own : String} {Ts : List Cond} {L : List Nat} {F : Nat → va_E} {lv : List (Nat × Value)} {rest : List Value} {x y : Int32} {off : Int} {tgt : Nat} (hE : jOk E G rm cc nL own Ts) (hdg : decode cc pc = .ok (.if_icmp .le off, 3)) (ht : (pc : Int) + off = (tgt : Int)) (kt : x ≤ y → J E L F cs ss tgt lv rest) (kf : ¬ (x ≤ y) → J E L F cs ss (pc + 3) lv rest) : J E L F cs ss pc lv (.int y :: .int x :: rest) := by
  obtain ⟨p, l, e, R, s, m, args, below, meth, c, Q, D, A, nL0⟩ := E
  obtain ⟨rfl, rfl, hx, hb, hml, hown, hts, hK, hT, hA, hlk⟩ := hE
  exact fun H locs ls hP hD hS hl => lv_icmp_le hx hb hdg ht (fun h => kt h H locs ls hP hD hS hl) (fun h => kf h H locs ls hP hD hS hl)
theorem jr_goto {E : jE} {G : Nat → ClassId} {rm : Room} {cc : ByteArray} {nL cs ss pc : Nat} {own : String} {Ts : List Cond} {L : List Nat} {F : Nat → va_E} {lv : List (Nat × Value)} {rest : List Value} {off : Int} {tgt : Nat} (hE : jOk E G rm cc nL own Ts) (hdg : decode cc pc = .ok (.goto off, 3)) (ht : (pc : Int) + off = (tgt : Int)) (k : J E L F cs ss tgt lv rest) : J E L F cs ss pc lv rest := by
  obtain ⟨p, l, e, R, s, m, args, below, meth, c, Q, D, A, nL0⟩ := E
  obtain ⟨rfl, rfl, hx, hb, hml, hown, hts, hK, hT, hA, hlk⟩ := hE
  exact fun H locs ls hP hD hS hl => lv_goto hx hb hdg ht (k H locs ls hP hD hS hl)
theorem jr_get {E : jE} {G : Nat → ClassId} {rm : Room} {cc : ByteArray} {nL cs ss pc : Nat} {own : String} {Ts : List Cond} {L : List Nat} {F : Nat → va_E} {lv : List (Nat × Value)} {rest : List Value} {index ci j a : Nat} {fs : List Value} {v : Value} (hE : jOk E G rm cc nL own Ts) (hdg : decode cc pc = .ok (.getfield index, 3)) (hf : jFl own Ts index ci j) (ha : jF L F a (.inr (ci, fs))) (hv : fs[j]? = some v) (k : J E L F cs ss (pc + 3) lv (v :: rest)) : J E L F cs ss pc lv (.ref a :: rest) := by
  obtain ⟨p, l, e, R, s, m, args, below, meth, c, Q, D, A, nL0⟩ := E
  obtain ⟨rfl, rfl, hx, hb, hml, hown, hts, hK, hT, hA, hlk⟩ := hE
  obtain ⟨q0, hq0⟩ := ha.at
  exact fun H locs ls hP hD hS hl => va_get (C := (jq ci).1) (T := (jq ci).2.1) (N := (jq ci).2.2) hx hb hts hf.2.2.1 hown hK hP q0 hq0 hf.1 j hf.2.1 (hts _ hf.2.2.2) (fun _ h9 => h9) hv hdg (k H locs ls hP hD hS hl)
theorem jr_put {E : jE} {G : Nat → ClassId} {rm : Room} {cc : ByteArray} {nL cs ss pc : Nat} {own : String} {Ts : List Cond} {L : List Nat} {F : Nat → va_E} {lv : List (Nat × Value)} {rest : List Value} {index ci j a : Nat} {fs : List Value} {v : Value} {ty : FieldType} (hE : jOk E G rm cc nL own Ts) (hdg : decode cc pc = .ok (.putfield index, 3)) (hf : jFl own Ts index ci j) (ha : jF L F a (.inr (ci, fs))) (hfin : ((jq ci).2.1 j).2.2.2 = false) (hd : parseFieldDescriptor ((jq ci).2.1 j).2.2.1 = some ty) (hn : narrow ty v = v) (hfit : fits ty v = true) (hlen : j < fs.length) (k : ∀ F1 : Nat → va_E, jF L F1 a (.inr (ci, fs.set j v)) → (∀ x, x ≠ a → F1 x = F x) → J E L F1 cs ss (pc + 3) lv rest) : J E L F cs ss pc lv (v :: .ref a :: rest) := by
  obtain ⟨p, l, e, R, s, m, args, below, meth, c, Q, D, A, nL0⟩ := E
  obtain ⟨rfl, rfl, hx, hb, hml, hown, hts, hK, hT, hA, hlk⟩ := hE
  obtain ⟨q0, hq0⟩ := ha.at
  obtain ⟨ty0, hty, hnm⟩ := jtab ci hf.1
  refine fun H locs ls hP hD hS hl => va_put (C := (jq ci).1) (T := (jq ci).2.1) (N := (jq ci).2.2) hx hb hts hf.2.2.1 ty0 hty hnm hown hK hP hD hS q0 hq0 hf.1 j hf.2.1 (hts _ hf.2.2.2) (fun _ h9 => h9) hfin hd hn hfit hlen hdg (fun H1 locs1 hP1 hD1 hS1 => ?_)
  rw [jpl_set hD ha hq0] at hP1
  exact k (va_up F a (.inr (ci, fs.set j v))) ⟨ha.1, va_up_self _ _ _⟩ (fun x hx => va_up_ne _ _ hx) H1 locs1 ls hP1 (jD_to hD (fun a h => jD_in hD h)) hS1 hl
def jIn (E : jE) : Prop := match E with
  | (p, l, e, R, s, m, args, below, meth, c, Q, D, A, nL) => meth.name = "<init>"
theorem jr_putF {E : jE} {G : Nat → ClassId} {rm : Room} {cc : ByteArray} {nL cs ss pc : Nat} {own : String} {Ts : List Cond} {L : List Nat} {F : Nat → va_E} {lv : List (Nat × Value)} {rest : List Value} {index ci j a : Nat} {fs : List Value} {v : Value} {ty : FieldType} (hE : jOk E G rm cc nL own Ts) (hdg : decode cc pc = .ok (.putfield index, 3)) (hf : jFl own Ts index ci j) (ha : jF L F a (.inr (ci, fs))) (hfin : ((jq ci).2.1 j).2.2.2 = true) (hini : jIn E) (hdecl : ((jq ci).2.1 j).1 = own) (hd : parseFieldDescriptor ((jq ci).2.1 j).2.2.1 = some ty) (hn : narrow ty v = v) (hfit : fits ty v = true) (hlen : j < fs.length) (k : ∀ F1 : Nat → va_E, jF L F1 a (.inr (ci, fs.set j v)) → (∀ x, x ≠ a → F1 x = F x) → J E L F1 cs ss (pc + 3) lv rest) : J E L F cs ss pc lv (v :: .ref a :: rest) := by
  obtain ⟨p, l, e, R, s, m, args, below, meth, c, Q, D, A, nL0⟩ := E
  obtain ⟨rfl, rfl, hx, hb, hml, hown, hts, hK, hT, hA, hlk⟩ := hE
  obtain ⟨q0, hq0⟩ := ha.at
  obtain ⟨ty0, hty, hnm⟩ := jtab ci hf.1
  refine fun H locs ls hP hD hS hl => va_putF (C := (jq ci).1) (T := (jq ci).2.1) (N := (jq ci).2.2) hx hb hts hf.2.2.1 ty0 hty hnm hown hK hP hD hS q0 hq0 hf.1 j hf.2.1 (hts _ hf.2.2.2) (fun _ h9 => h9) hfin hini hdecl hd hn hfit hlen hdg (fun H1 locs1 hP1 hD1 hS1 => ?_)
  rw [jpl_set hD ha hq0] at hP1
  exact k (va_up F a (.inr (ci, fs.set j v))) ⟨ha.1, va_up_self _ _ _⟩ (fun x hx => va_up_ne _ _ hx) H1 locs1 ls hP1 (jD_to hD (fun a h => jD_in hD h)) hS1 hl
theorem jr_iald {E : jE} {G : Nat → ClassId} {rm : Room} {cc : ByteArray} {nL cs ss pc : Nat} {own : String} {Ts : List Cond} {L : List Nat} {F : Nat → va_E} {lv : List (Nat × Value)} {rest : List Value} {a n : Nat} {f : Nat → Int32} {i : Int32} {v : Int32} (hE : jOk E G rm cc nL own Ts) (hdg : decode cc pc = .ok (.iaload, 1)) (ha : jF L F a (.inl (G 1, n, .inl f))) (hin : vp_in i n) (hv : f i.toNatClampNeg = v) (k : J E L F cs ss (pc + 1) lv (.int v :: rest)) : J E L F cs ss pc lv (.int i :: .ref a :: rest) := by
  obtain ⟨p, l, e, R, s, m, args, below, meth, c, Q, D, A, nL0⟩ := E
  obtain ⟨rfl, rfl, hx, hb, hml, hown, hts, hK, hT, hA, hlk⟩ := hE
  obtain ⟨q0, hq0⟩ := ha.at
  exact fun H locs ls hP hD hS hl => va_iald hx hb hK hP q0 1 hq0 rfl hin hdg (by rw [hv]; exact k H locs ls hP hD hS hl)
theorem jr_iast {E : jE} {G : Nat → ClassId} {rm : Room} {cc : ByteArray} {nL cs ss pc : Nat} {own : String} {Ts : List Cond} {L : List Nat} {F : Nat → va_E} {lv : List (Nat × Value)} {rest : List Value} {a n : Nat} {f : Nat → Int32} {i : Int32} {x : Int32} (hE : jOk E G rm cc nL own Ts) (hdg : decode cc pc = .ok (.iastore, 1)) (ha : jF L F a (.inl (G 1, n, .inl f))) (hin : vp_in i n) (k : ∀ F1 : Nat → va_E, jF L F1 a (.inl (G 1, n, .inl (upd f i.toNatClampNeg x))) → (∀ x, x ≠ a → F1 x = F x) → J E L F1 cs ss (pc + 1) lv rest) : J E L F cs ss pc lv (.int x :: .int i :: .ref a :: rest) := by
  obtain ⟨p, l, e, R, s, m, args, below, meth, c, Q, D, A, nL0⟩ := E
  obtain ⟨rfl, rfl, hx, hb, hml, hown, hts, hK, hT, hA, hlk⟩ := hE
  obtain ⟨q0, hq0⟩ := ha.at
  refine fun H locs ls hP hD hS hl => va_iast hx hb hK hP hD hS q0 1 hq0 rfl hin hdg (fun H1 locs1 hP1 hD1 hS1 => ?_)
  rw [jpl_set hD ha hq0] at hP1
  exact k (va_up F a (.inl (G 1, n, .inl (upd f i.toNatClampNeg x)))) ⟨ha.1, va_up_self _ _ _⟩ (fun x hx => va_up_ne _ _ hx) H1 locs1 ls hP1 (jD_to hD (fun a h => jD_in hD h)) hS1 hl
theorem jr_bald {E : jE} {G : Nat → ClassId} {rm : Room} {cc : ByteArray} {nL cs ss pc : Nat} {own : String} {Ts : List Cond} {L : List Nat} {F : Nat → va_E} {lv : List (Nat × Value)} {rest : List Value} {a n : Nat} {f : Nat → Int32} {i : Int32} {v : Int32} (hE : jOk E G rm cc nL own Ts) (hdg : decode cc pc = .ok (.baload, 1)) (ha : jF L F a (.inl (G 0, n, .inl f))) (hin : vp_in i n) (hv : f i.toNatClampNeg = v) (k : J E L F cs ss (pc + 1) lv (.int v :: rest)) : J E L F cs ss pc lv (.int i :: .ref a :: rest) := by
  obtain ⟨p, l, e, R, s, m, args, below, meth, c, Q, D, A, nL0⟩ := E
  obtain ⟨rfl, rfl, hx, hb, hml, hown, hts, hK, hT, hA, hlk⟩ := hE
  obtain ⟨q0, hq0⟩ := ha.at
  exact fun H locs ls hP hD hS hl => va_bald hx hb hK hP q0 0 hq0 rfl hin hdg (by rw [hv]; exact k H locs ls hP hD hS hl)
theorem jr_bast {E : jE} {G : Nat → ClassId} {rm : Room} {cc : ByteArray} {nL cs ss pc : Nat} {own : String} {Ts : List Cond} {L : List Nat} {F : Nat → va_E} {lv : List (Nat × Value)} {rest : List Value} {a n : Nat} {f : Nat → Int32} {i : Int32} {x : Int32} (hE : jOk E G rm cc nL own Ts) (hdg : decode cc pc = .ok (.bastore, 1)) (ha : jF L F a (.inl (G 0, n, .inl f))) (hin : vp_in i n) (k : ∀ F1 : Nat → va_E, jF L F1 a (.inl (G 0, n, .inl (upd f i.toNatClampNeg (vp_nar .byte x)))) → (∀ x, x ≠ a → F1 x = F x) → J E L F1 cs ss (pc + 1) lv rest) : J E L F cs ss pc lv (.int x :: .int i :: .ref a :: rest) := by
  obtain ⟨p, l, e, R, s, m, args, below, meth, c, Q, D, A, nL0⟩ := E
  obtain ⟨rfl, rfl, hx, hb, hml, hown, hts, hK, hT, hA, hlk⟩ := hE
  obtain ⟨q0, hq0⟩ := ha.at
  refine fun H locs ls hP hD hS hl => va_bast hx hb hK hP hD hS q0 0 hq0 rfl hin hdg (fun H1 locs1 hP1 hD1 hS1 => ?_)
  rw [jpl_set hD ha hq0] at hP1
  exact k (va_up F a (.inl (G 0, n, .inl (upd f i.toNatClampNeg (vp_nar .byte x))))) ⟨ha.1, va_up_self _ _ _⟩ (fun x hx => va_up_ne _ _ hx) H1 locs1 ls hP1 (jD_to hD (fun a h => jD_in hD h)) hS1 hl
theorem jr_zald {E : jE} {G : Nat → ClassId} {rm : Room} {cc : ByteArray} {nL cs ss pc : Nat} {own : String} {Ts : List Cond} {L : List Nat} {F : Nat → va_E} {lv : List (Nat × Value)} {rest : List Value} {a n : Nat} {f : Nat → Int32} {i : Int32} {v : Int32} (hE : jOk E G rm cc nL own Ts) (hdg : decode cc pc = .ok (.baload, 1)) (ha : jF L F a (.inl (G 3, n, .inl f))) (hin : vp_in i n) (hv : f i.toNatClampNeg = v) (k : J E L F cs ss (pc + 1) lv (.int v :: rest)) : J E L F cs ss pc lv (.int i :: .ref a :: rest) := by
  obtain ⟨p, l, e, R, s, m, args, below, meth, c, Q, D, A, nL0⟩ := E
  obtain ⟨rfl, rfl, hx, hb, hml, hown, hts, hK, hT, hA, hlk⟩ := hE
  obtain ⟨q0, hq0⟩ := ha.at
  exact fun H locs ls hP hD hS hl => va_zald hx hb hK hP q0 3 hq0 rfl hin hdg (by rw [hv]; exact k H locs ls hP hD hS hl)
theorem jr_lald {E : jE} {G : Nat → ClassId} {rm : Room} {cc : ByteArray} {nL cs ss pc : Nat} {own : String} {Ts : List Cond} {L : List Nat} {F : Nat → va_E} {lv : List (Nat × Value)} {rest : List Value} {a n : Nat} {f : Nat → Int64} {i : Int32} {v : Int64} (hE : jOk E G rm cc nL own Ts) (hdg : decode cc pc = .ok (.laload, 1)) (ha : jF L F a (.inl (G 2, n, .inr (.inl f)))) (hin : vp_in i n) (hv : f i.toNatClampNeg = v) (k : J E L F cs ss (pc + 1) lv (.long v :: rest)) : J E L F cs ss pc lv (.int i :: .ref a :: rest) := by
  obtain ⟨p, l, e, R, s, m, args, below, meth, c, Q, D, A, nL0⟩ := E
  obtain ⟨rfl, rfl, hx, hb, hml, hown, hts, hK, hT, hA, hlk⟩ := hE
  obtain ⟨q0, hq0⟩ := ha.at
  exact fun H locs ls hP hD hS hl => va_lald hx hb hK hP q0 2 hq0 rfl hin hdg (by rw [hv]; exact k H locs ls hP hD hS hl)
theorem jr_last {E : jE} {G : Nat → ClassId} {rm : Room} {cc : ByteArray} {nL cs ss pc : Nat} {own : String} {Ts : List Cond} {L : List Nat} {F : Nat → va_E} {lv : List (Nat × Value)} {rest : List Value} {a n : Nat} {f : Nat → Int64} {i : Int32} {x : Int64} (hE : jOk E G rm cc nL own Ts) (hdg : decode cc pc = .ok (.lastore, 1)) (ha : jF L F a (.inl (G 2, n, .inr (.inl f)))) (hin : vp_in i n) (k : ∀ F1 : Nat → va_E, jF L F1 a (.inl (G 2, n, .inr (.inl (vp_updL f i.toNatClampNeg x)))) → (∀ x, x ≠ a → F1 x = F x) → J E L F1 cs ss (pc + 1) lv rest) : J E L F cs ss pc lv (.long x :: .int i :: .ref a :: rest) := by
  obtain ⟨p, l, e, R, s, m, args, below, meth, c, Q, D, A, nL0⟩ := E
  obtain ⟨rfl, rfl, hx, hb, hml, hown, hts, hK, hT, hA, hlk⟩ := hE
  obtain ⟨q0, hq0⟩ := ha.at
  refine fun H locs ls hP hD hS hl => va_last hx hb hK hP hD hS q0 2 hq0 rfl hin hdg (fun H1 locs1 hP1 hD1 hS1 => ?_)
  rw [jpl_set hD ha hq0] at hP1
  exact k (va_up F a (.inl (G 2, n, .inr (.inl (vp_updL f i.toNatClampNeg x))))) ⟨ha.1, va_up_self _ _ _⟩ (fun x hx => va_up_ne _ _ hx) H1 locs1 ls hP1 (jD_to hD (fun a h => jD_in hD h)) hS1 hl
theorem jr_aald {E : jE} {G : Nat → ClassId} {rm : Room} {cc : ByteArray} {nL cs ss pc : Nat} {own : String} {Ts : List Cond} {L : List Nat} {F : Nat → va_E} {lv : List (Nat × Value)} {rest : List Value} {a n g : Nat} {C : String} {f : Nat → Option Nat} {i : Int32} {v : Nat} (hE : jOk E G rm cc nL own Ts) (hdg : decode cc pc = .ok (.aaload, 1)) (ha : jF L F a (.inl (G g, n, .inr (.inr (.inr (.inr f)))))) (hg : (jty G)[g]? = some (G g, .object C)) (hin : vp_in i n) (hv : f i.toNatClampNeg = some v) (k : J E L F cs ss (pc + 1) lv (.ref v :: rest)) : J E L F cs ss pc lv (.int i :: .ref a :: rest) := by
  obtain ⟨p, l, e, R, s, m, args, below, meth, c, Q, D, A, nL0⟩ := E
  obtain ⟨rfl, rfl, hx, hb, hml, hown, hts, hK, hT, hA, hlk⟩ := hE
  obtain ⟨q0, hq0⟩ := ha.at
  exact fun H locs ls hP hD hS hl => va_aldq hx hb hK hP q0 g hq0 hg hin hdg (by rw [hv]; exact k H locs ls hP hD hS hl)
theorem jr_alen {E : jE} {G : Nat → ClassId} {rm : Room} {cc : ByteArray} {nL cs ss pc : Nat} {own : String} {Ts : List Cond} {L : List Nat} {F : Nat → va_E} {lv : List (Nat × Value)} {rest : List Value} {a g : Nat} {x : vp_A} {ty : FieldType} {v : Int32} (hE : jOk E G rm cc nL own Ts) (hdg : decode cc pc = .ok (.arraylength, 1)) (ha : jF L F a (.inl (G g, x))) (hg : (jty G)[g]? = some (G g, ty)) (hv : Int32.ofNat x.1 = v) (k : J E L F cs ss (pc + 1) lv (.int v :: rest)) : J E L F cs ss pc lv (.ref a :: rest) := by
  obtain ⟨p, l, e, R, s, m, args, below, meth, c, Q, D, A, nL0⟩ := E
  obtain ⟨rfl, rfl, hx, hb, hml, hown, hts, hK, hT, hA, hlk⟩ := hE
  obtain ⟨q0, hq0⟩ := ha.at
  exact fun H locs ls hP hD hS hl => va_alen hx hb hK hP q0 g hq0 hg hv hdg (k H locs ls hP hD hS hl)
theorem jr_gsSTART {E : jE} {G : Nat → ClassId} {rm : Room} {cc : ByteArray} {nL cs ss pc : Nat} {own : String} {Ts : List Cond} {L : List Nat} {F : Nat → va_E} {lv : List (Nat × Value)} {rest : List Value} {index : Nat} (hE : jOk E G rm cc nL own Ts) (hdg : decode cc pc = .ok (.getstatic index, 3)) (hlk1 : Cond.fieldLink own index RX9 "START" "[I" ∈ Ts) (k : J E L F cs ss (pc + 3) lv (.ref (jT G 0) :: rest)) : J E L F cs ss pc lv rest := by
  obtain ⟨p, l, e, R, s, m, args, below, meth, c, Q, D, A, nL0⟩ := E
  obtain ⟨rfl, rfl, hx, hb, hml, hown, hts, hK, hT, hA, hlk⟩ := hE
  exact fun H locs ls hP hD hS hl => va_gets hx hb hT.1 hS hown (hts _ hlk1) (fun _ h9 => h9) hdg (k H locs ls hP hD hS hl)
theorem jr_ldSTART {E : jE} {G : Nat → ClassId} {rm : Room} {cc : ByteArray} {nL cs ss pc : Nat} {own : String} {Ts : List Cond} {L : List Nat} {F : Nat → va_E} {lv : List (Nat × Value)} {rest : List Value} {i : Int32} {v : Int32} (hE : jOk E G rm cc nL own Ts) (hdg : decode cc pc = .ok (.iaload, 1)) (hin : vp_in i 8) (hv : jSTART.getD i.toNatClampNeg 0 = v) (k : J E L F cs ss (pc + 1) lv (.int v :: rest)) : J E L F cs ss pc lv (.int i :: .ref (jT G 0) :: rest) := by
  obtain ⟨p, l, e, R, s, m, args, below, meth, c, Q, D, A, nL0⟩ := E
  obtain ⟨rfl, rfl, hx, hb, hml, hown, hts, hK, hT, hA, hlk⟩ := hE
  exact fun H locs ls hP hD hS hl => va_ti hx hb hT.2.1 hS hin (by rw [hv]) hdg (k H locs ls hP hD hS hl)
theorem jr_lnSTART {E : jE} {G : Nat → ClassId} {rm : Room} {cc : ByteArray} {nL cs ss pc : Nat} {own : String} {Ts : List Cond} {L : List Nat} {F : Nat → va_E} {lv : List (Nat × Value)} {rest : List Value} {v : Int32} (hE : jOk E G rm cc nL own Ts) (hdg : decode cc pc = .ok (.arraylength, 1)) (hv : Int32.ofNat 8 = v) (k : J E L F cs ss (pc + 1) lv (.int v :: rest)) : J E L F cs ss pc lv (.ref (jT G 0) :: rest) := by
  obtain ⟨p, l, e, R, s, m, args, below, meth, c, Q, D, A, nL0⟩ := E
  obtain ⟨rfl, rfl, hx, hb, hml, hown, hts, hK, hT, hA, hlk⟩ := hE
  exact fun H locs ls hP hD hS hl => va_tlen hx hb hT.2.1 hS hv hdg (k H locs ls hP hD hS hl)
theorem jr_gsROUND {E : jE} {G : Nat → ClassId} {rm : Room} {cc : ByteArray} {nL cs ss pc : Nat} {own : String} {Ts : List Cond} {L : List Nat} {F : Nat → va_E} {lv : List (Nat × Value)} {rest : List Value} {index : Nat} (hE : jOk E G rm cc nL own Ts) (hdg : decode cc pc = .ok (.getstatic index, 3)) (hlk1 : Cond.fieldLink own index RX9 "ROUND" "[I" ∈ Ts) (k : J E L F cs ss (pc + 3) lv (.ref (jT G 1) :: rest)) : J E L F cs ss pc lv rest := by
  obtain ⟨p, l, e, R, s, m, args, below, meth, c, Q, D, A, nL0⟩ := E
  obtain ⟨rfl, rfl, hx, hb, hml, hown, hts, hK, hT, hA, hlk⟩ := hE
  exact fun H locs ls hP hD hS hl => va_gets hx hb hT.2.2.1 hS hown (hts _ hlk1) (fun _ h9 => h9) hdg (k H locs ls hP hD hS hl)
theorem jr_ldROUND {E : jE} {G : Nat → ClassId} {rm : Room} {cc : ByteArray} {nL cs ss pc : Nat} {own : String} {Ts : List Cond} {L : List Nat} {F : Nat → va_E} {lv : List (Nat × Value)} {rest : List Value} {i : Int32} {v : Int32} (hE : jOk E G rm cc nL own Ts) (hdg : decode cc pc = .ok (.iaload, 1)) (hin : vp_in i 64) (hv : jROUND.getD i.toNatClampNeg 0 = v) (k : J E L F cs ss (pc + 1) lv (.int v :: rest)) : J E L F cs ss pc lv (.int i :: .ref (jT G 1) :: rest) := by
  obtain ⟨p, l, e, R, s, m, args, below, meth, c, Q, D, A, nL0⟩ := E
  obtain ⟨rfl, rfl, hx, hb, hml, hown, hts, hK, hT, hA, hlk⟩ := hE
  exact fun H locs ls hP hD hS hl => va_ti hx hb hT.2.2.2.1 hS hin (by rw [hv]) hdg (k H locs ls hP hD hS hl)
theorem jr_lnROUND {E : jE} {G : Nat → ClassId} {rm : Room} {cc : ByteArray} {nL cs ss pc : Nat} {own : String} {Ts : List Cond} {L : List Nat} {F : Nat → va_E} {lv : List (Nat × Value)} {rest : List Value} {v : Int32} (hE : jOk E G rm cc nL own Ts) (hdg : decode cc pc = .ok (.arraylength, 1)) (hv : Int32.ofNat 64 = v) (k : J E L F cs ss (pc + 1) lv (.int v :: rest)) : J E L F cs ss pc lv (.ref (jT G 1) :: rest) := by
  obtain ⟨p, l, e, R, s, m, args, below, meth, c, Q, D, A, nL0⟩ := E
  obtain ⟨rfl, rfl, hx, hb, hml, hown, hts, hK, hT, hA, hlk⟩ := hE
  exact fun H locs ls hP hD hS hl => va_tlen hx hb hT.2.2.2.1 hS hv hdg (k H locs ls hP hD hS hl)
theorem jr_gsNN {E : jE} {G : Nat → ClassId} {rm : Room} {cc : ByteArray} {nL cs ss pc : Nat} {own : String} {Ts : List Cond} {L : List Nat} {F : Nat → va_E} {lv : List (Nat × Value)} {rest : List Value} {index : Nat} (hE : jOk E G rm cc nL own Ts) (hdg : decode cc pc = .ok (.getstatic index, 3)) (hlk1 : Cond.fieldLink own index RX8 "N" "[J" ∈ Ts) (k : J E L F cs ss (pc + 3) lv (.ref (jT G 2) :: rest)) : J E L F cs ss pc lv rest := by
  obtain ⟨p, l, e, R, s, m, args, below, meth, c, Q, D, A, nL0⟩ := E
  obtain ⟨rfl, rfl, hx, hb, hml, hown, hts, hK, hT, hA, hlk⟩ := hE
  exact fun H locs ls hP hD hS hl => va_gets hx hb hT.2.2.2.2.1 hS hown (hts _ hlk1) (fun _ h9 => h9) hdg (k H locs ls hP hD hS hl)
theorem jr_ldNN {E : jE} {G : Nat → ClassId} {rm : Room} {cc : ByteArray} {nL cs ss pc : Nat} {own : String} {Ts : List Cond} {L : List Nat} {F : Nat → va_E} {lv : List (Nat × Value)} {rest : List Value} {i : Int32} {v : Int64} (hE : jOk E G rm cc nL own Ts) (hdg : decode cc pc = .ok (.laload, 1)) (hin : vp_in i 8) (hv : jNN.getD i.toNatClampNeg 0 = v) (k : J E L F cs ss (pc + 1) lv (.long v :: rest)) : J E L F cs ss pc lv (.int i :: .ref (jT G 2) :: rest) := by
  obtain ⟨p, l, e, R, s, m, args, below, meth, c, Q, D, A, nL0⟩ := E
  obtain ⟨rfl, rfl, hx, hb, hml, hown, hts, hK, hT, hA, hlk⟩ := hE
  exact fun H locs ls hP hD hS hl => va_tl hx hb hT.2.2.2.2.2.1 hS hin (by rw [hv]) hdg (k H locs ls hP hD hS hl)
theorem jr_lnNN {E : jE} {G : Nat → ClassId} {rm : Room} {cc : ByteArray} {nL cs ss pc : Nat} {own : String} {Ts : List Cond} {L : List Nat} {F : Nat → va_E} {lv : List (Nat × Value)} {rest : List Value} {v : Int32} (hE : jOk E G rm cc nL own Ts) (hdg : decode cc pc = .ok (.arraylength, 1)) (hv : Int32.ofNat 8 = v) (k : J E L F cs ss (pc + 1) lv (.int v :: rest)) : J E L F cs ss pc lv (.ref (jT G 2) :: rest) := by
  obtain ⟨p, l, e, R, s, m, args, below, meth, c, Q, D, A, nL0⟩ := E
  obtain ⟨rfl, rfl, hx, hb, hml, hown, hts, hK, hT, hA, hlk⟩ := hE
  exact fun H locs ls hP hD hS hl => va_tlen hx hb hT.2.2.2.2.2.1 hS hv hdg (k H locs ls hP hD hS hl)
theorem jr_gsGAP {E : jE} {G : Nat → ClassId} {rm : Room} {cc : ByteArray} {nL cs ss pc : Nat} {own : String} {Ts : List Cond} {L : List Nat} {F : Nat → va_E} {lv : List (Nat × Value)} {rest : List Value} {index : Nat} (hE : jOk E G rm cc nL own Ts) (hdg : decode cc pc = .ok (.getstatic index, 3)) (hlk1 : Cond.fieldLink own index RX8 "GAP" "[J" ∈ Ts) (k : J E L F cs ss (pc + 3) lv (.ref (jT G 3) :: rest)) : J E L F cs ss pc lv rest := by
  obtain ⟨p, l, e, R, s, m, args, below, meth, c, Q, D, A, nL0⟩ := E
  obtain ⟨rfl, rfl, hx, hb, hml, hown, hts, hK, hT, hA, hlk⟩ := hE
  exact fun H locs ls hP hD hS hl => va_gets hx hb hT.2.2.2.2.2.2.1 hS hown (hts _ hlk1) (fun _ h9 => h9) hdg (k H locs ls hP hD hS hl)
theorem jr_ldGAP {E : jE} {G : Nat → ClassId} {rm : Room} {cc : ByteArray} {nL cs ss pc : Nat} {own : String} {Ts : List Cond} {L : List Nat} {F : Nat → va_E} {lv : List (Nat × Value)} {rest : List Value} {i : Int32} {v : Int64} (hE : jOk E G rm cc nL own Ts) (hdg : decode cc pc = .ok (.laload, 1)) (hin : vp_in i 5) (hv : jGAP.getD i.toNatClampNeg 0 = v) (k : J E L F cs ss (pc + 1) lv (.long v :: rest)) : J E L F cs ss pc lv (.int i :: .ref (jT G 3) :: rest) := by
  obtain ⟨p, l, e, R, s, m, args, below, meth, c, Q, D, A, nL0⟩ := E
  obtain ⟨rfl, rfl, hx, hb, hml, hown, hts, hK, hT, hA, hlk⟩ := hE
  exact fun H locs ls hP hD hS hl => va_tl hx hb hT.2.2.2.2.2.2.2.1 hS hin (by rw [hv]) hdg (k H locs ls hP hD hS hl)
theorem jr_lnGAP {E : jE} {G : Nat → ClassId} {rm : Room} {cc : ByteArray} {nL cs ss pc : Nat} {own : String} {Ts : List Cond} {L : List Nat} {F : Nat → va_E} {lv : List (Nat × Value)} {rest : List Value} {v : Int32} (hE : jOk E G rm cc nL own Ts) (hdg : decode cc pc = .ok (.arraylength, 1)) (hv : Int32.ofNat 5 = v) (k : J E L F cs ss (pc + 1) lv (.int v :: rest)) : J E L F cs ss pc lv (.ref (jT G 3) :: rest) := by
  obtain ⟨p, l, e, R, s, m, args, below, meth, c, Q, D, A, nL0⟩ := E
  obtain ⟨rfl, rfl, hx, hb, hml, hown, hts, hK, hT, hA, hlk⟩ := hE
  exact fun H locs ls hP hD hS hl => va_tlen hx hb hT.2.2.2.2.2.2.2.1 hS hv hdg (k H locs ls hP hD hS hl)
theorem jr_topi {E : jE} {cs ss pc : Nat} {L : List Nat} {F : Nat → va_E} {lv : List (Nat × Value)} {rest : List Value} {x : Int32} (k : ∀ y : Int32, y = x → J E L F cs ss pc lv (.int y :: rest)) : J E L F cs ss pc lv (.int x :: rest) := k x rfl
theorem jr_topl {E : jE} {cs ss pc : Nat} {L : List Nat} {F : Nat → va_E} {lv : List (Nat × Value)} {rest : List Value} {x : Int64} (k : ∀ y : Int64, y = x → J E L F cs ss pc lv (.long y :: rest)) : J E L F cs ss pc lv (.long x :: rest) := k x rfl
theorem jr_lv {E : jE} {L : List Nat} {F : Nat → va_E} {cs ss pc : Nat} {lv lv' : List (Nat × Value)} {st : List Value} (ks : List Nat) (h : lv_pick lv ks = lv') (k : J E L F cs ss pc lv' st) : J E L F cs ss pc lv st := by
  obtain ⟨p, l, e, R, s, m, args, below, meth, c, Q, D, A, nL0⟩ := E
  exact fun H locs ls hP hD hS hl => k H locs ls hP hD hS (lv_sub hl ks h)
