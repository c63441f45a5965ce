/-! CONSTRUCTORS: one bundle for what a constructor has made so far -/
def ext {α : Type} (n : Nat) (A B : Nat → α) : Nat → α := fun i => if i < n then A i else B (i - n)
theorem ext_lt {α : Type} {n i : Nat} {A B : Nat → α} (h : i < n) : ext n A B i = A i := if_pos h
theorem ext_ge {α : Type} {n i : Nat} {A B : Nat → α} (h : n ≤ i) : ext n A B i = B (i - n) := if_neg (by omega)
theorem ext_map {n m : Nat} {A B : Nat → Nat} : (List.range (n + m)).map (ext n A B) = (List.range n).map A ++ (List.range m).map B := by
  rw [List.range_add, List.map_append, List.map_map]
  congr 1
  · exact List.map_congr_left (fun i hi => ext_lt (List.mem_range.mp hi))
  · exact List.map_congr_left (fun i _ => by
      show ext n A B (n + i) = B i
      rw [ext_ge (by omega), Nat.add_sub_cancel_left])
def gS (L0 : List Nat) (F0 : Nat → va_E) (o n : Nat) (A : Nat → Nat) (T : Nat → va_E) (L : List Nat) (F : Nat → va_E) : Prop :=
  o ∈ L0 ∧ L = L0 ++ (List.range n).map A ∧ (∀ i, i < n → A i ∉ L0) ∧ (∀ i j, i < n → j < n → A i = A j → i = j) ∧ (∀ i, i < n → F (A i) = T i) ∧ ∀ x, x ≠ o → (∀ i, i < n → x ≠ A i) → F x = F0 x
theorem gS.nil {L : List Nat} {F : Nat → va_E} {o : Nat} (A : Nat → Nat) (T : Nat → va_E) (h : o ∈ L) : gS L F o 0 A T L F :=
  ⟨h, (List.append_nil L).symm, fun i hi => absurd hi (Nat.not_lt_zero i), fun i _ hi => absurd hi (Nat.not_lt_zero i), fun i hi => absurd hi (Nat.not_lt_zero i), fun _ _ _ => rfl⟩
theorem gS.mem {L0 L : List Nat} {F0 F : Nat → va_E} {o n i : Nat} {A : Nat → Nat} {T : Nat → va_E} (g : gS L0 F0 o n A T L F) (hi : i < n) : A i ∈ L := by
  rw [g.2.1]
  exact List.mem_append_right _ (List.mem_map.mpr ⟨i, List.mem_range.mpr hi, rfl⟩)
theorem gS.om {L0 L : List Nat} {F0 F : Nat → va_E} {o n : Nat} {A : Nat → Nat} {T : Nat → va_E} (g : gS L0 F0 o n A T L F) : o ∈ L := by
  rw [g.2.1]
  exact List.mem_append_left _ g.1
theorem gS.at {L0 L : List Nat} {F0 F : Nat → va_E} {o n : Nat} {A : Nat → Nat} {T : Nat → va_E} (g : gS L0 F0 o n A T L F) (i : Nat) (hi : i < n) : jF L F (A i) (T i) := ⟨g.mem hi, g.2.2.2.2.1 i hi⟩
theorem gS.one {L0 L : List Nat} {F0 F : Nat → va_E} {o n i : Nat} {A : Nat → Nat} {T : Nat → va_E} (g : gS L0 F0 o n A T L F) (hi : i < n) : A i ≠ o := fun e => g.2.2.1 i hi (by rw [e]; exact g.1)
theorem gS.call {L0 L L1 : List Nat} {F0 F F1 : Nat → va_E} {o n m k : Nat} {A B : Nat → Nat} {T TB : Nat → va_E} {e : va_E} (g : gS L0 F0 o n A T L F) (hk : k < n) (g2 : gS L F (A k) m B TB L1 F1) (h1 : F1 (A k) = e) : gS L0 F0 o (n + m) (ext n A B) (ext n (va_up T k e) TB) L1 F1 := by
  obtain ⟨a1, a2, a3, a4, a5, a6⟩ := g
  obtain ⟨b1, b2, b3, b4, b5, b6⟩ := g2
  have hin : ∀ i, i < n → A i ∈ L := fun i hi => by rw [a2]; exact List.mem_append_right _ (List.mem_map.mpr ⟨i, List.mem_range.mpr hi, rfl⟩)
  have hl0 : ∀ x, x ∈ L0 → x ∈ L := fun x hx => by rw [a2]; exact List.mem_append_left _ hx
  refine ⟨a1, by rw [ext_map, ← List.append_assoc, ← a2]; exact b2, fun i hi => ?_, fun i j hi hj => ?_, fun i hi => ?_, fun x hx hx2 => ?_⟩
  · by_cases q : i < n
    · rw [ext_lt q]; exact a3 i q
    · rw [ext_ge (by omega)]; exact fun h => b3 (i - n) (by omega) (hl0 _ h)
  · by_cases q : i < n
    · by_cases q2 : j < n
      · rw [ext_lt q, ext_lt q2]; exact a4 i j q q2
      · rw [ext_lt q, ext_ge (by omega)]
        exact fun e => absurd (by rw [← e]; exact hin i q) (b3 (j - n) (by omega))
    · by_cases q2 : j < n
      · rw [ext_ge (by omega), ext_lt q2]
        exact fun e => absurd (by rw [e]; exact hin j q2) (b3 (i - n) (by omega))
      · rw [ext_ge (by omega), ext_ge (by omega)]
        intro e
        have := b4 _ _ (by omega) (by omega) e
        omega
  · by_cases q : i < n
    · rw [ext_lt q, ext_lt q]
      by_cases e2 : i = k
      · subst e2
        rw [va_up_self]; exact h1
      · rw [va_up_ne _ _ e2]
        rw [b6 (A i) (fun h => e2 (a4 i k q hk h)) (fun j hj h => b3 j hj (by rw [← h]; exact hin i q))]
        exact a5 i q
    · rw [ext_ge (by omega), ext_ge (by omega)]
      exact b5 _ (by omega)
  · have h1 : ∀ i, i < n → x ≠ A i := fun i hi => by have := hx2 i (by omega); rwa [ext_lt hi] at this
    have h2 : ∀ i, i < m → x ≠ B i := fun i hi => by have := hx2 (n + i) (by omega); rwa [ext_ge (by omega), Nat.add_sub_cancel_left] at this
    rw [b6 x (h1 k hk) h2]
    exact a6 x hx h1
theorem gS.new {L0 L : List Nat} {F0 F F1 : Nat → va_E} {o n q : Nat} {A : Nat → Nat} {T : Nat → va_E} {e : va_E} (g : gS L0 F0 o n A T L F) (hq : q ∉ L) (h1 : jF (L ++ [q]) F1 q e) (u : ∀ x, x ≠ q → F1 x = F x) : gS L0 F0 o (n + 1) (ext n A (fun _ => q)) (ext n T (fun _ => e)) (L ++ [q]) F1 := by
  obtain ⟨a1, a2, a3, a4, a5, a6⟩ := g
  have hin : ∀ i, i < n → A i ∈ L := fun i hi => by rw [a2]; exact List.mem_append_right _ (List.mem_map.mpr ⟨i, List.mem_range.mpr hi, rfl⟩)
  have hl0 : ∀ x, x ∈ L0 → x ∈ L := fun x hx => by rw [a2]; exact List.mem_append_left _ hx
  refine ⟨a1, by rw [ext_map, ← List.append_assoc, ← a2]; rfl, fun i hi => ?_, fun i j hi hj => ?_, fun i hi => ?_, fun x hx hx2 => ?_⟩
  · by_cases w : i < n
    · rw [ext_lt w]; exact a3 i w
    · rw [ext_ge (by omega)]; exact fun h => hq (hl0 _ h)
  · by_cases w : i < n
    · by_cases w2 : j < n
      · rw [ext_lt w, ext_lt w2]; exact a4 i j w w2
      · rw [ext_lt w, ext_ge (by omega)]
        exact fun e => absurd (by rw [← e]; exact hin i w) hq
    · by_cases w2 : j < n
      · rw [ext_ge (by omega), ext_lt w2]
        exact fun e => absurd (by rw [e]; exact hin j w2) hq
      · intro _; omega
  · by_cases w : i < n
    · rw [ext_lt w, ext_lt w, u _ (fun h => hq (by rw [← h]; exact hin i w))]
      exact a5 i w
    · rw [ext_ge (by omega), ext_ge (by omega)]
      exact h1.2
  · have h1 : ∀ i, i < n → x ≠ A i := fun i hi => by have := hx2 i (by omega); rwa [ext_lt hi] at this
    have h2 : x ≠ q := by have := hx2 n (by omega); rwa [ext_ge (by omega)] at this
    rw [u x h2]
    exact a6 x hx h1
theorem gS.put {L0 L : List Nat} {F0 F F1 : Nat → va_E} {o n : Nat} {A : Nat → Nat} {T : Nat → va_E} (g : gS L0 F0 o n A T L F) (u : ∀ x, x ≠ o → F1 x = F x) : gS L0 F0 o n A T L F1 := by
  have ho := fun i hi => gS.one (i := i) g hi
  obtain ⟨a1, a2, a3, a4, a5, a6⟩ := g
  exact ⟨a1, a2, a3, a4, fun i hi => (u _ (ho i hi)).trans (a5 i hi), fun x hx hx2 => (u x hx).trans (a6 x hx hx2)⟩
theorem gS.set {L0 L : List Nat} {F0 F F1 : Nat → va_E} {o n : Nat} {A : Nat → Nat} {T : Nat → va_E} {e : va_E} (g : gS L0 F0 o n A T L F) (k : Nat) (hk : k < n) (h1 : F1 (A k) = e) (u : ∀ x, x ≠ A k → F1 x = F x) : gS L0 F0 o n A (va_up T k e) L F1 := by
  obtain ⟨a1, a2, a3, a4, a5, a6⟩ := g
  refine ⟨a1, a2, a3, a4, fun i hi => ?_, fun x hx hx2 => (u x (hx2 k hk)).trans (a6 x hx hx2)⟩
  by_cases e2 : i = k
  · subst e2
    rw [va_up_self]; exact h1
  · rw [va_up_ne _ _ e2, u _ (fun h => e2 (a4 i k hi hk h))]
    exact a5 i hi
theorem gS.oC {L0 L L1 : List Nat} {F0 F F1 : Nat → va_E} {o n m k : Nat} {A B : Nat → Nat} {T TB : Nat → va_E} {c : va_E} (g : gS L0 F0 o n A T L F) (hk : k < n) (g2 : gS L F (A k) m B TB L1 F1) (h : jF L F o c) : jF L1 F1 o c := by
  have h1 := (g.one hk).symm
  obtain ⟨b1, b2, b3, b4, b5, b6⟩ := g2
  exact ⟨by rw [b2]; exact List.mem_append_left _ h.1, (b6 o h1 (fun i hi e => b3 i hi (by rw [← e]; exact h.1))).trans h.2⟩
theorem gS.oS {L0 L : List Nat} {F0 F F1 : Nat → va_E} {o n : Nat} {A : Nat → Nat} {T : Nat → va_E} {c : va_E} (g : gS L0 F0 o n A T L F) (k : Nat) (hk : k < n) (u : ∀ x, x ≠ A k → F1 x = F x) (h : jF L F o c) : jF L F1 o c := ⟨h.1, (u o (g.one hk).symm).trans h.2⟩
theorem gS.fin {L0 L : List Nat} {F0 F : Nat → va_E} {o n : Nat} {A : Nat → Nat} {T T' : Nat → va_E} (g : gS L0 F0 o n A T L F) (h : ∀ i, i < n → T i = T' i) : gS L0 F0 o n A T' L F := by
  obtain ⟨a1, a2, a3, a4, a5, a6⟩ := g
  exact ⟨a1, a2, a3, a4, fun i hi => (a5 i hi).trans (h i hi), a6⟩
theorem gS.zero {L : List Nat} {F F1 : Nat → va_E} {o : Nat} (A : Nat → Nat) (T : Nat → va_E) (h : o ∈ L) (u : ∀ x, x ≠ o → F1 x = F x) : gS L F o 0 A T L F1 := (gS.nil A T h).put u
theorem jF.nw {L : List Nat} {F F1 : Nat → va_E} {a q : Nat} {c : va_E} (h : jF L F a c) (hq : q ∉ L) (u : ∀ x, x ≠ q → F1 x = F x) : jF (L ++ [q]) F1 a c := h.grow hq u
