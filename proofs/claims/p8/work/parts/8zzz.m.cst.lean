/-! THE CLASS holds the state s -/
def enC (B : Nat → List Nat) (S : Nat → Nat) (En : List SE) : Prop := En.length ≤ 4 ∧ ∀ e, e < En.length → B (26 + 3 * e) = (enG En e).1 ∧ B (27 + 3 * e) = (enG En e).2.1 ∧ B (28 + 3 * e) = (enG En e).2.2.1 ∧ (enG En e).1.length = 32 ∧ (enG En e).2.1.length ≤ 40 ∧ (enG En e).2.2.1.length = 64 ∧ S (10 + 2 * e) = (enG En e).2.2.2 ∧ (enG En e).2.2.2 < NN
def sgC (B : Nat → List Nat) (P : Nat → JP) (Sg : List (List Nat)) : Prop := Sg.length ≤ 4 ∧ ∀ j, j < Sg.length → B (38 + 3 * j) = Sg.getD j [] ∧ (Sg.getD j []).length = 33 ∧ rep (P (29 + 3 * j)) (pKs (Sg.getD j []))
def ncC (B : Nat → List Nat) (S : Nat → Nat) (v : Nat → Int32) (Nc : Nat → Option SNo) (m : Nat) : Prop := ∀ j, j < 4 → (m ≤ j → Nc j = none) ∧ v (6 + 2 * j) = bi (Nc j).isSome ∧ ∀ t, Nc j = some t → S (19 + 3 * j) = t.1 ∧ S (20 + 3 * j) = t.2.1 ∧ B (39 + 3 * j) = t.2.2 ∧ t.1 < NN ∧ t.2.1 < NN
def tdC (B : Nat → List Nat) (P : Nat → JP) (v : Nat → Int32) (Td : Nat → Option (List Nat)) (m : Nat) : Prop := ∀ j, j < 4 → (m ≤ j → Td j = none) ∧ v (7 + 2 * j) = bi (Td j).isSome ∧ ∀ l, Td j = some l → B (40 + 3 * j) = l ∧ rep (P (30 + 3 * j)) (tdE0 l) ∧ rep (P (31 + 3 * j)) (tdE1 l)
def seC (B : Nat → List Nat) (S : Nat → Nat) (v : Nat → Int32) (s : ST) : Prop := (s.2.2.2.2.2.2 = none → v 3 = 0) ∧ ∀ t, s.2.2.2.2.2.2 = some t → v 3 = 1 ∧ B 24 = t.1 ∧ t.1.length = 66 ∧ S 5 = t.2.1 ∧ S 6 = t.2.2.1 ∧ B 25 = bex t.2.2.2.1 32 ∧ v 5 = bi t.2.2.2.2 ∧ v 4 = bi (oQ s) ∧ (∀ j, j < s.2.2.2.1.length → S (18 + 3 * j) = wKs s.2.2.2.1 j) ∧ t.2.1 < NN ∧ t.2.2.1 < NN ∧ (∀ j, j < s.2.2.2.1.length → s.2.2.2.2.2.1 j ≠ none) ∧ seJ s ≠ none
def cI (G : Nat → ClassId) (L : List Nat) (F : Nat → va_E) (c : Nat → Nat) (B : Nat → List Nat) (S : Nat → Nat) (P : Nat → JP) (q : SS) (X : Nat) (v : Nat → Int32) (s : ST) : Prop :=
  CW G L F c B S P q X v ∧ rep (P 16) GE ∧ (∀ r, r < 16 → B r = s.1 r) ∧ v 0 = nI s.2.1.length ∧ enC B S s.2.1 ∧ (v 1 = nI s.2.2.1 ∧ s.2.2.1 ≤ 48) ∧ v 2 = nI s.2.2.2.1.length ∧ sgC B P s.2.2.2.1 ∧ ncC B S v s.2.2.2.2.1 s.2.2.2.1.length ∧ tdC B P v s.2.2.2.2.2.1 s.2.2.2.1.length ∧ seC B S v s
/-- scratch, WORK, weights have changed -/
theorem cI.updG {G : Nat → ClassId} {L : List Nat} {F F1 : Nat → va_E} {c : Nat → Nat} {B B1 : Nat → List Nat} {S S1 : Nat → Nat} {P P1 : Nat → JP} {q q1 : SS} {X X1 : Nat} {v v1 : Nat → Int32} {s : ST} {k : Nat} (h : cI G L F c B S P q X v s) (W : CW G L F1 c B1 S1 P1 q1 X1 v1) (hB : ∀ z, z ∉ [16, 17, 18, 19, 20, 21, 22, 23] → B1 z = B z) (hS : ∀ z, z ∉ [0, 1, 2, 3, 4, 7, 8, 9, 11, 13, 15, 17, 18, 21, 24, 27] → S1 z = S z) (hP : ∀ z, z ∉ [17, 18, 19, 20, 21, 22, 23, 24, 25, 26, 27, 28] → P1 z = P z) (hv : ∀ z, z ∉ [1, 4] → v1 z = v z) (h1 : v1 1 = nI k) (hk : k ≤ 48) (hw : s.2.2.2.2.2.2 ≠ none → (∀ j, j < s.2.2.2.1.length → S1 (18 + 3 * j) = wKs s.2.2.2.1 j) ∧ v1 4 = bi (oQ s)) : cI G L F1 c B1 S1 P1 q1 X1 v1 (setK s k) := by
  obtain ⟨_, a2, a3, a4, a5, a6, a7, a8, a9, a10, a11⟩ := h
  refine ⟨W, by rw [hP 16 (by decide)]; exact a2, fun r hr => by rw [hB r (by simp only [List.mem_cons, List.not_mem_nil, or_false, not_or]; omega)]; exact a3 r hr, by rw [hv 0 (by decide)]; exact a4, ⟨a5.1, fun e he => ?_⟩, ⟨h1, hk⟩, by rw [hv 2 (by decide)]; exact a7, ⟨a8.1, fun j hj => ?_⟩, fun j hj => ?_, fun j hj => ?_, ⟨fun e => by rw [hv 3 (by decide)]; exact a11.1 e, fun t ht => ?_⟩⟩
  · have h4 := a5.1
    have he : e < s.2.1.length := he
    rw [hB (26 + 3 * e) (by simp only [List.mem_cons, List.not_mem_nil, or_false, not_or]; omega), hB (27 + 3 * e) (by simp only [List.mem_cons, List.not_mem_nil, or_false, not_or]; omega), hB (28 + 3 * e) (by simp only [List.mem_cons, List.not_mem_nil, or_false, not_or]; omega), hS (10 + 2 * e) (by simp only [List.mem_cons, List.not_mem_nil, or_false, not_or]; omega)]
    exact a5.2 e he
  · have h4 := a8.1
    have hj : j < s.2.2.2.1.length := hj
    rw [hB (38 + 3 * j) (by simp only [List.mem_cons, List.not_mem_nil, or_false, not_or]; omega), hP (29 + 3 * j) (by simp only [List.mem_cons, List.not_mem_nil, or_false, not_or]; omega)]
    exact a8.2 j hj
  · rw [hB (39 + 3 * j) (by simp only [List.mem_cons, List.not_mem_nil, or_false, not_or]; omega), hS (19 + 3 * j) (by simp only [List.mem_cons, List.not_mem_nil, or_false, not_or]; omega), hS (20 + 3 * j) (by simp only [List.mem_cons, List.not_mem_nil, or_false, not_or]; omega), hv (6 + 2 * j) (by simp only [List.mem_cons, List.not_mem_nil, or_false, not_or]; omega)]
    exact a9 j hj
  · rw [hB (40 + 3 * j) (by simp only [List.mem_cons, List.not_mem_nil, or_false, not_or]; omega), hP (30 + 3 * j) (by simp only [List.mem_cons, List.not_mem_nil, or_false, not_or]; omega), hP (31 + 3 * j) (by simp only [List.mem_cons, List.not_mem_nil, or_false, not_or]; omega), hv (7 + 2 * j) (by simp only [List.mem_cons, List.not_mem_nil, or_false, not_or]; omega)]
    exact a10 j hj
  · obtain ⟨b1, b2, b3, b4, b5, b6, b7, b8, b9, b10⟩ := a11.2 t ht
    obtain ⟨w1, w2⟩ := hw (by rw [show s.2.2.2.2.2.2 = some t from ht]; exact fun e => by cases e)
    rw [hv 3 (by decide), hB 24 (by decide), hS 5 (by decide), hS 6 (by decide), hB 25 (by decide), hv 5 (by decide)]
    exact ⟨b1, b2, b3, b4, b5, b6, b7, w2, w1, b10⟩
/-- scratch and WORK alone -/
theorem cI.upd {G : Nat → ClassId} {L : List Nat} {F F1 : Nat → va_E} {c : Nat → Nat} {B B1 : Nat → List Nat} {S S1 : Nat → Nat} {P P1 : Nat → JP} {q q1 : SS} {X X1 : Nat} {v v1 : Nat → Int32} {s : ST} {k : Nat} (h : cI G L F c B S P q X v s) (W : CW G L F1 c B1 S1 P1 q1 X1 v1) (hB : ∀ z, z ∉ [16, 17, 18, 19, 20, 21, 22, 23] → B1 z = B z) (hS : ∀ z, z ∉ [0, 1, 2, 3, 4, 7, 8, 9, 11, 13, 15, 17] → S1 z = S z) (hP : ∀ z, z ∉ [17, 18, 19, 20, 21, 22, 23, 24, 25, 26, 27, 28] → P1 z = P z) (hv : ∀ z, z ≠ 1 → v1 z = v z) (h1 : v1 1 = nI k) (hk : k ≤ 48) : cI G L F1 c B1 S1 P1 q1 X1 v1 (setK s k) := by
  refine h.updG W hB (fun z hz => hS z (fun q => hz (by simp only [List.mem_cons, List.not_mem_nil, or_false] at q ⊢; omega))) hP (fun z hz => hv z (fun q => hz (by rw [q]; decide))) h1 hk (fun hn => ?_)
  obtain ⟨t, ht⟩ := Option.ne_none_iff_exists'.mp hn
  obtain ⟨b1, b2, b3, b4, b5, b6, b7, b8, b9, _⟩ := h.2.2.2.2.2.2.2.2.2.2.2 t ht
  have h4 := h.2.2.2.2.2.2.2.1.1
  exact ⟨fun j hj => by rw [hS (18 + 3 * j) (by simp only [List.mem_cons, List.not_mem_nil, or_false, not_or]; omega)]; exact b9 j hj, by rw [hv 4 (by decide)]; exact b8⟩
/-- a row is written -/
theorem cI.row {G : Nat → ClassId} {L : List Nat} {F F1 : Nat → va_E} {c : Nat → Nat} {B B1 : Nat → List Nat} {S : Nat → Nat} {P : Nat → JP} {q q1 : SS} {X : Nat} {v : Nat → Int32} {s : ST} {k : Nat} {l : List Nat} (h : cI G L F c B S P q X v s) (W : CW G L F1 c B1 S P q1 X v) (hk : k < 16) (hB : ∀ z, z ≠ k → B1 z = B z) (hl : B1 k = l) : cI G L F1 c B1 S P q1 X v (setR s k l) := by
  obtain ⟨_, a2, a3, a4, a5, a6, a7, a8, a9, a10, a11⟩ := h
  refine ⟨W, a2, fun r hr => ?_, a4, ⟨a5.1, fun e he => ?_⟩, a6, a7, ⟨a8.1, fun j hj => ?_⟩, fun j hj => ?_, fun j hj => ?_, ⟨a11.1, fun t ht => ?_⟩⟩
  · show B1 r = if r = k then l else s.1 r
    by_cases e : r = k
    · rw [if_pos e, e]; exact hl
    · rw [if_neg e, hB r e]; exact a3 r hr
  · rw [hB (26 + 3 * e) (by omega), hB (27 + 3 * e) (by omega), hB (28 + 3 * e) (by omega)]
    exact a5.2 e he
  · rw [hB (38 + 3 * j) (by omega)]
    exact a8.2 j hj
  · rw [hB (39 + 3 * j) (by omega)]
    exact a9 j hj
  · rw [hB (40 + 3 * j) (by omega)]
    exact a10 j hj
  · rw [hB 24 (by omega), hB 25 (by omega)]
    exact a11.2 t ht
theorem bcr {k : Nat} (h : k < 17) : bcap k = 100 := by
  have e : ∀ k, k < 17 → bcap k = 100 := by decide
  exact e k h

