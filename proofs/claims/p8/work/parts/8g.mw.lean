/-! THE REFERENCE'S WORLD: one object with its arrays, by the numbers of its fields -/
def uz {α : Type} (s : Nat → α) (k : Nat) (f : α) : Nat → α := fun j => if j = k then f else s j
theorem uz_s {α : Type} (s : Nat → α) (k : Nat) (f : α) : uz s k f k = f := if_pos rfl
theorem uz_n {α : Type} (s : Nat → α) {k j : Nat} (f : α) (h : j ≠ k) : uz s k f j = s j := if_neg h
theorem uz_uz {α : Type} (s : Nat → α) (k : Nat) (f g : α) : uz (uz s k f) k g = uz s k g := by
  funext j
  unfold uz
  by_cases h : j = k
  · rw [if_pos h, if_pos h]
  · rw [if_neg h, if_neg h, if_neg h]
theorem uz_id {α : Type} (s : Nat → α) (k : Nat) : uz s k (s k) = s := by
  funext j
  unfold uz
  by_cases h : j = k
  · rw [if_pos h, h]
  · rw [if_neg h]
def mkT : List (Nat × Nat) := [(1, 8), (1, 8), (1, 5), (1, 5), (1, 8), (1, 8), (1, 8), (1, 8), (2, 16), (2, 1600), (0, 0), (2, 128), (2, 160), (2, 4), (2, 256), (1, 4), (0, 0), (2, 132), (3, 4), (1, 32), (1, 32), (2, 264), (3, 4), (2, 264), (0, 0), (2, 66), (1, 8), (1, 8), (1, 8), (0, 0), (0, 0), (0, 0), (1, 18), (1, 18), (1, 8), (1, 8), (1, 8), (1, 8), (1, 8), (1, 8), (1, 8), (1, 8), (1, 8), (1, 8), (1, 8), (1, 8), (1, 8), (1, 8), (1, 8), (1, 8), (2, 9), (2, 105), (2, 64), (2, 8), (2, 64), (2, 512), (2, 400), (0, 0), (2, 32), (2, 20), (2, 100), (2, 66), (1, 8), (1, 8), (1, 8), (1, 8), (1, 8), (2, 32), (1, 8), (1, 8), (1, 8), (1, 8), (1, 8), (1, 8), (1, 8), (2, 32), (1, 8), (1, 8), (0, 0), (2, 33), (2, 66)]
def mkd (k : Nat) : Nat := (mkT.getD k (0, 0)).1
def mln (k : Nat) : Nat := (mkT.getD k (0, 0)).2
def mFs (a : Nat → Nat) (v : Nat → Int32) : List Value := [.ref (a 0), .ref (a 1), .ref (a 2), .ref (a 3), .ref (a 4), .ref (a 5), .ref (a 6), .ref (a 7), .ref (a 8), .ref (a 9), .int (v 10), .ref (a 11), .ref (a 12), .ref (a 13), .ref (a 14), .ref (a 15), .int (v 16), .ref (a 17), .ref (a 18), .ref (a 19), .ref (a 20), .ref (a 21), .ref (a 22), .ref (a 23), .int (v 24), .ref (a 25), .ref (a 26), .ref (a 27), .ref (a 28), .int (v 29), .int (v 30), .int (v 31), .ref (a 32), .ref (a 33), .ref (a 34), .ref (a 35), .ref (a 36), .ref (a 37), .ref (a 38), .ref (a 39), .ref (a 40), .ref (a 41), .ref (a 42), .ref (a 43), .ref (a 44), .ref (a 45), .ref (a 46), .ref (a 47), .ref (a 48), .ref (a 49), .ref (a 50), .ref (a 51), .ref (a 52), .ref (a 53), .ref (a 54), .ref (a 55), .ref (a 56), .int (v 57), .ref (a 58), .ref (a 59), .ref (a 60), .ref (a 61), .ref (a 62), .ref (a 63), .ref (a 64), .ref (a 65), .ref (a 66), .ref (a 67), .ref (a 68), .ref (a 69), .ref (a 70), .ref (a 71), .ref (a 72), .ref (a 73), .ref (a 74), .ref (a 75), .ref (a 76), .ref (a 77), .int (v 78), .ref (a 79), .ref (a 80)]
abbrev lk (k n : Nat) : Prop := k < 81 ∧ mkd k = 1 ∧ mln k = n
abbrev l8 (k : Nat) : Prop := lk k 8
abbrev ik (k n : Nat) : Prop := k < 81 ∧ mkd k = 2 ∧ mln k = n
abbrev zk (k n : Nat) : Prop := k < 81 ∧ mkd k = 3 ∧ mln k = n
def mA (a : Nat → Nat) : Prop := ∀ i j, i < 81 → j < 81 → mkd i ≠ 0 → mkd j ≠ 0 → a i = a j → i = j
def RW (G : Nat → ClassId) (L : List Nat) (F : Nat → va_E) (o : Nat) (a : Nat → Nat) (v : Nat → Int32) (s : Nat → Nat → Int64) (w : Nat → Nat → Int32) : Prop :=
  jF L F o (.inr (12, mFs a v)) ∧ (∀ k, k < 81 → mkd k = 1 → jF L F (a k) (.inl (G 2, mln k, .inr (.inl (s k))))) ∧ (∀ k, k < 81 → mkd k = 2 → jF L F (a k) (.inl (G 1, mln k, .inl (w k)))) ∧ (∀ k, k < 81 → mkd k = 3 → jF L F (a k) (.inl (G 3, mln k, .inl (w k)))) ∧ mA a
/-- nothing outside the reference's cells has changed -/
def mO (o : Nat) (a : Nat → Nat) (F F1 : Nat → va_E) : Prop := ∀ z, z ≠ o → (∀ k, k < 81 → mkd k ≠ 0 → z ≠ a k) → F1 z = F z
theorem mO.rf (o : Nat) (a : Nat → Nat) (F : Nat → va_E) : mO o a F F := fun _ _ _ => rfl
theorem mO.tr {o : Nat} {a : Nat → Nat} {F F1 F2 : Nat → va_E} (h : mO o a F F1) (h' : mO o a F1 F2) : mO o a F F2 := fun z h1 h2 => (h' z h1 h2).trans (h z h1 h2)
theorem mO.st {o k : Nat} {a : Nat → Nat} {F F1 F2 : Nat → va_E} (h : mO o a F F1) (hk : k < 81) (hd : mkd k ≠ 0) (u : ∀ x, x ≠ a k → F2 x = F1 x) : mO o a F F2 := fun z h1 h2 => (u z (h2 k hk hd)).trans (h z h1 h2)
theorem mO.so {o : Nat} {a : Nat → Nat} {F F1 F2 : Nat → va_E} (h : mO o a F F1) (u : ∀ x, x ≠ o → F2 x = F1 x) : mO o a F F2 := fun z h1 h2 => (u z h1).trans (h z h1 h2)
theorem lk.k {k n : Nat} (h : lk k n) : mkd k ≠ 0 := by rw [h.2.1]; decide
theorem ik.k {k n : Nat} (h : ik k n) : mkd k ≠ 0 := by rw [h.2.1]; decide
theorem zk.k {k n : Nat} (h : zk k n) : mkd k ≠ 0 := by rw [h.2.1]; decide
theorem RW.ob {G : Nat → ClassId} {L : List Nat} {F : Nat → va_E} {o : Nat} {a : Nat → Nat} {v : Nat → Int32} {s : Nat → Nat → Int64} {w : Nat → Nat → Int32} (H : RW G L F o a v s w) : jF L F o (.inr (12, mFs a v)) := H.1
theorem RW.L {G : Nat → ClassId} {L : List Nat} {F : Nat → va_E} {o : Nat} {a : Nat → Nat} {v : Nat → Int32} {s : Nat → Nat → Int64} {w : Nat → Nat → Int32} (H : RW G L F o a v s w) {k n : Nat} (h : lk k n) : jF L F (a k) (.inl (G 2, n, .inr (.inl (s k)))) := by
  have := H.2.1 k h.1 h.2.1
  rw [h.2.2] at this
  exact this
theorem RW.I {G : Nat → ClassId} {L : List Nat} {F : Nat → va_E} {o : Nat} {a : Nat → Nat} {v : Nat → Int32} {s : Nat → Nat → Int64} {w : Nat → Nat → Int32} (H : RW G L F o a v s w) {k n : Nat} (h : ik k n) : jF L F (a k) (.inl (G 1, n, .inl (w k))) := by
  have := H.2.2.1 k h.1 h.2.1
  rw [h.2.2] at this
  exact this
theorem RW.Z {G : Nat → ClassId} {L : List Nat} {F : Nat → va_E} {o : Nat} {a : Nat → Nat} {v : Nat → Int32} {s : Nat → Nat → Int64} {w : Nat → Nat → Int32} (H : RW G L F o a v s w) {k n : Nat} (h : zk k n) : jF L F (a k) (.inl (G 3, n, .inl (w k))) := by
  have := H.2.2.2.1 k h.1 h.2.1
  rw [h.2.2] at this
  exact this
theorem RW.setL {G : Nat → ClassId} {L : List Nat} {F F1 : Nat → va_E} {o : Nat} {a : Nat → Nat} {v : Nat → Int32} {s : Nat → Nat → Int64} {w : Nat → Nat → Int32} (H : RW G L F o a v s w) {k n : Nat} {f : Nat → Int64} (h : lk k n) (h1 : jF L F1 (a k) (.inl (G 2, n, .inr (.inl f)))) (u : ∀ x, x ≠ a k → F1 x = F x) : RW G L F1 o a v (uz s k f) w := by
  have hA := H.2.2.2.2
  refine ⟨H.1.fr (u o (H.1.ne (H.L h) (by show (22 : Nat) ≠ 1; decide))), fun j hj hd => ?_, fun j hj hd => ?_, fun j hj hd => ?_, hA⟩
  · by_cases e : j = k
    · subst e
      rw [uz_s, h.2.2]
      exact h1
    · rw [uz_n s f e]
      exact (H.2.1 j hj hd).fr (u _ (fun q => e (hA j k hj h.1 (by rw [hd]; decide) h.k q)))
  · exact (H.2.2.1 j hj hd).fr (u _ (fun q => by
      have := hA j k hj h.1 (by rw [hd]; decide) h.k q
      subst this
      rw [h.2.1] at hd
      cases hd))
  · exact (H.2.2.2.1 j hj hd).fr (u _ (fun q => by
      have := hA j k hj h.1 (by rw [hd]; decide) h.k q
      subst this
      rw [h.2.1] at hd
      cases hd))
theorem RW.setI {G : Nat → ClassId} {L : List Nat} {F F1 : Nat → va_E} {o : Nat} {a : Nat → Nat} {v : Nat → Int32} {s : Nat → Nat → Int64} {w : Nat → Nat → Int32} (H : RW G L F o a v s w) {k n : Nat} {f : Nat → Int32} (h : ik k n) (h1 : jF L F1 (a k) (.inl (G 1, n, .inl f))) (u : ∀ x, x ≠ a k → F1 x = F x) : RW G L F1 o a v s (uz w k f) := by
  have hA := H.2.2.2.2
  refine ⟨H.1.fr (u o (H.1.ne (H.I h) (by show (22 : Nat) ≠ 0; decide))), fun j hj hd => ?_, fun j hj hd => ?_, fun j hj hd => ?_, hA⟩
  · exact (H.2.1 j hj hd).fr (u _ (fun q => by
      have := hA j k hj h.1 (by rw [hd]; decide) h.k q
      subst this
      rw [h.2.1] at hd
      cases hd))
  · by_cases e : j = k
    · subst e
      rw [uz_s, h.2.2]
      exact h1
    · rw [uz_n w f e]
      exact (H.2.2.1 j hj hd).fr (u _ (fun q => e (hA j k hj h.1 (by rw [hd]; decide) h.k q)))
  · have e : j ≠ k := fun e => by
      subst e
      rw [h.2.1] at hd
      cases hd
    rw [uz_n w f e]
    exact (H.2.2.2.1 j hj hd).fr (u _ (fun q => e (hA j k hj h.1 (by rw [hd]; decide) h.k q)))
theorem RW.setZ {G : Nat → ClassId} {L : List Nat} {F F1 : Nat → va_E} {o : Nat} {a : Nat → Nat} {v : Nat → Int32} {s : Nat → Nat → Int64} {w : Nat → Nat → Int32} (H : RW G L F o a v s w) {k n : Nat} {f : Nat → Int32} (h : zk k n) (h1 : jF L F1 (a k) (.inl (G 3, n, .inl f))) (u : ∀ x, x ≠ a k → F1 x = F x) : RW G L F1 o a v s (uz w k f) := by
  have hA := H.2.2.2.2
  refine ⟨H.1.fr (u o (H.1.ne (H.Z h) (by show (22 : Nat) ≠ 0; decide))), fun j hj hd => ?_, fun j hj hd => ?_, fun j hj hd => ?_, hA⟩
  · exact (H.2.1 j hj hd).fr (u _ (fun q => by
      have := hA j k hj h.1 (by rw [hd]; decide) h.k q
      subst this
      rw [h.2.1] at hd
      cases hd))
  · have e : j ≠ k := fun e => by
      subst e
      rw [h.2.1] at hd
      cases hd
    rw [uz_n w f e]
    exact (H.2.2.1 j hj hd).fr (u _ (fun q => e (hA j k hj h.1 (by rw [hd]; decide) h.k q)))
  · by_cases e : j = k
    · subst e
      rw [uz_s, h.2.2]
      exact h1
    · rw [uz_n w f e]
      exact (H.2.2.2.1 j hj hd).fr (u _ (fun q => e (hA j k hj h.1 (by rw [hd]; decide) h.k q)))
theorem RW.setV {G : Nat → ClassId} {L : List Nat} {F F1 : Nat → va_E} {o : Nat} {a : Nat → Nat} {v : Nat → Int32} {s : Nat → Nat → Int64} {w : Nat → Nat → Int32} {v' : Nat → Int32} (H : RW G L F o a v s w) (h1 : jF L F1 o (.inr (12, mFs a v'))) (u : ∀ x, x ≠ o → F1 x = F x) : RW G L F1 o a v' s w :=
  ⟨h1, fun j hj hd => (H.2.1 j hj hd).fr (u _ ((H.2.1 j hj hd).ne H.1 (by show (1 : Nat) ≠ 22; decide))), fun j hj hd => (H.2.2.1 j hj hd).fr (u _ ((H.2.2.1 j hj hd).ne H.1 (by show (0 : Nat) ≠ 22; decide))), fun j hj hd => (H.2.2.2.1 j hj hd).fr (u _ ((H.2.2.2.1 j hj hd).ne H.1 (by show (0 : Nat) ≠ 22; decide))), H.2.2.2.2⟩
/-- eight limbs that hold a number -/
def mN (f : Nat → Int64) (x : Nat) : Prop := ∃ d : Nat → Nat, (∀ j, j < 8 → f j = lN (d j)) ∧ (∀ j, j < 8 → d j < 2 ^ 32) ∧ dv d 8 = x
theorem mN.lt {f : Nat → Int64} {x : Nat} (h : mN f x) : x < 2 ^ 256 := by
  obtain ⟨d, -, h2, h3⟩ := h
  rw [← h3]
  exact dv_lt 8 h2
theorem mN.cg {f g : Nat → Int64} {x : Nat} (h : mN f x) (e : ∀ j, j < 8 → g j = f j) : mN g x := by
  obtain ⟨d, h1, h2, h3⟩ := h
  exact ⟨d, fun j hj => (e j hj).trans (h1 j hj), h2, h3⟩
abbrev mg (k : Nat) : Prop := k = 2 ∨ k = 3 ∨ k = 15 ∨ k = 19 ∨ k = 20
/-- numbers where the arrays of eight hold some (n), three more arrays by their elements (g), all others' raw elements (w), the fields (v) -/
def MW (G : Nat → ClassId) (L : List Nat) (F : Nat → va_E) (o : Nat) (a : Nat → Nat) (v : Nat → Int32) (n : Nat → Option Nat) (g : Nat → Nat → Int64) (w : Nat → Nat → Int32) : Prop :=
  ∃ s, RW G L F o a v s w ∧ (∀ k x, n k = some x → mN (s k) x) ∧ ∀ k, mg k → s k = g k
theorem l8.mg {k : Nat} (h : l8 k) : ¬ mg k := by
  intro e
  have h2 := h.2.2
  rcases e with e | e | e | e | e <;> (subst e; exact absurd h2 (by decide))
/-- a number is put into an array of eight -/
theorem mw_set {n : Nat → Option Nat} {g s : Nat → Nat → Int64} {k : Nat} {f : Nat → Int64} {q : Option Nat} (hn : ∀ j x, n j = some x → mN (s j) x) (hg : ∀ j, mg j → s j = g j) (hk : l8 k) (h : ∀ x, q = some x → mN f x) : (∀ j x, uz n k q j = some x → mN (uz s k f j) x) ∧ ∀ j, mg j → uz s k f j = g j := by
  refine ⟨fun j x e => ?_, fun j hj => ?_⟩
  · by_cases q : j = k
    · subst q
      rw [uz_s] at e ⊢
      exact h x e
    · rw [uz_n _ _ q] at e ⊢
      exact hn j x e
  · have q : j ≠ k := fun e => hk.mg (by rw [← e]; exact hj)
    rw [uz_n _ _ q]
    exact hg j hj
/-- other raw arrays (wide, folded) may hold anything -/
theorem mw_raw {n : Nat → Option Nat} {g s : Nat → Nat → Int64} {k : Nat} {f : Nat → Int64} (hn : ∀ j x, n j = some x → mN (s j) x) (hg : ∀ j, mg j → s j = g j) (hk : k = 32 ∨ k = 33) (h0 : n k = none) : (∀ j x, n j = some x → mN (uz s k f j) x) ∧ ∀ j, mg j → uz s k f j = g j := by
  refine ⟨fun j x e => ?_, fun j hj => ?_⟩
  · have q : j ≠ k := fun q => by rw [q, h0] at e; cases e
    rw [uz_n _ _ q]
    exact hn j x e
  · have q : j ≠ k := fun q => by
      subst q
      rcases hk with e | e <;> (subst e; revert hj; decide)
    rw [uz_n _ _ q]
    exact hg j hj

