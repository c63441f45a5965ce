/-! THE CLASS: what changes the state -/
theorem cI.nc {G : Nat → ClassId} {L : List Nat} {F F1 : Nat → va_E} {c : Nat → Nat} {B B1 : Nat → List Nat} {S S1 : Nat → Nat} {P P1 : Nat → JP} {q q1 : SS} {X X1 : Nat} {v v1 : Nat → Int32} {s : ST} {k : Nat} {Nc : Nat → Option SNo} (h : cI G L F c B S P q X v s) (W : CW G L F1 c B1 S1 P1 q1 X1 v1) (hB : ∀ z, z ∉ [16, 17, 18, 19, 20, 21, 22, 23, 39, 42, 45, 48] → B1 z = B z) (hS : ∀ z, z ∉ [0, 1, 2, 3, 4, 7, 8, 9, 11, 13, 15, 17, 19, 20, 22, 23, 25, 26, 28, 29, 18, 21, 24, 27] → S1 z = S z) (hP : ∀ z, z ∉ [17, 18, 19, 20, 21, 22, 23, 24, 25, 26, 27, 28] → P1 z = P z) (hv : ∀ z, z ∉ [1, 4, 6, 8, 10, 12] → v1 z = v z) (h1 : v1 1 = nI k) (hk : k ≤ 48) (hn : ncC B1 S1 v1 Nc s.2.2.2.1.length) (hw : s.2.2.2.2.2.2 ≠ none → (∀ j, j < s.2.2.2.1.length → S1 (18 + 3 * j) = wKs s.2.2.2.1 j) ∧ v1 4 = bi (oQ s))  : cI G L F1 c B1 S1 P1 q1 X1 v1 (setN (setK s k) Nc) := by
  obtain ⟨_, a2, a3, a4, a5, a6, a7, a8, a9, a10, a11⟩ := h
  exact ⟨W, by rw [hP 16 (by decide)]; exact a2, fun r hr => by rw [hB r (by simp only [List.mem_cons, List.not_mem_nil, or_false, not_or]; omega)]; exact a3 r hr, by rw [hv 0 (by decide)]; exact a4, ⟨a5.1, fun e he => by
    have h4 := a5.1
    have he : e < s.2.1.length := he
    rw [hB (26 + 3 * e) (by simp only [List.mem_cons, List.not_mem_nil, or_false, not_or]; omega), hB (27 + 3 * e) (by simp only [List.mem_cons, List.not_mem_nil, or_false, not_or]; omega), hB (28 + 3 * e) (by simp only [List.mem_cons, List.not_mem_nil, or_false, not_or]; omega), hS (10 + 2 * e) (by simp only [List.mem_cons, List.not_mem_nil, or_false, not_or]; omega)]
    exact a5.2 e he⟩, ⟨h1, hk⟩, by rw [hv 2 (by decide)]; exact a7, ⟨a8.1, fun j hj => by
    have h4 := a8.1
    have hj : j < s.2.2.2.1.length := hj
    rw [hB (38 + 3 * j) (by simp only [List.mem_cons, List.not_mem_nil, or_false, not_or]; omega), hP (29 + 3 * j) (by simp only [List.mem_cons, List.not_mem_nil, or_false, not_or]; omega)]
    exact a8.2 j hj⟩, hn, fun j hj => by
    rw [hB (40 + 3 * j) (by simp only [List.mem_cons, List.not_mem_nil, or_false, not_or]; omega), hP (30 + 3 * j) (by simp only [List.mem_cons, List.not_mem_nil, or_false, not_or]; omega), hP (31 + 3 * j) (by simp only [List.mem_cons, List.not_mem_nil, or_false, not_or]; omega), hv (7 + 2 * j) (by simp only [List.mem_cons, List.not_mem_nil, or_false, not_or]; omega)]
    exact a10 j hj, ⟨fun e => by rw [hv 3 (by decide)]; exact a11.1 e, fun t ht => by
    obtain ⟨b1, b2, b3, b4, b5, b6, b7, b8, b9, b10⟩ := a11.2 t ht
    rw [hv 3 (by decide), hB 24 (by decide), hS 5 (by decide), hS 6 (by decide), hB 25 (by decide), hv 5 (by decide)]
    exact ⟨b1, b2, b3, b4, b5, b6, b7, (hw (by rw [show s.2.2.2.2.2.2 = some t from ht]; exact fun e => by cases e)).2, (hw (by rw [show s.2.2.2.2.2.2 = some t from ht]; exact fun e => by cases e)).1, b10⟩⟩⟩

theorem cI.td {G : Nat → ClassId} {L : List Nat} {F F1 : Nat → va_E} {c : Nat → Nat} {B B1 : Nat → List Nat} {S S1 : Nat → Nat} {P P1 : Nat → JP} {q q1 : SS} {X X1 : Nat} {v v1 : Nat → Int32} {s : ST} {u : Nat} {l : List Nat} (h : cI G L F c B S P q X v s) (W : CW G L F1 c B1 S1 P1 q1 X1 v1) (hB : ∀ z, z ∉ [16, 17, 18, 19, 20, 21, 22, 23] → z ≠ 40 + 3 * u → B1 z = B z) (hS : ∀ z, z ∉ [0, 1, 2, 3, 4, 7, 8, 9, 11, 13, 15, 17] → S1 z = S z) (hP : ∀ z, z ∉ [17, 18, 19, 20, 21, 22, 23, 24, 25, 26, 27, 28] → z ≠ 30 + 3 * u → z ≠ 31 + 3 * u → P1 z = P z) (hv : ∀ z, z ≠ 3 → z ≠ 7 + 2 * u → v1 z = v z) (hu : u < s.2.2.2.1.length) (hl : B1 (40 + 3 * u) = l) (p0 : rep (P1 (30 + 3 * u)) (tdE0 l)) (p1 : rep (P1 (31 + 3 * u)) (tdE1 l)) (h3 : v1 3 = 0) (h7 : v1 (7 + 2 * u) = 1)  : cI G L F1 c B1 S1 P1 q1 X1 v1 (setT s u l) := by
  obtain ⟨_, a2, a3, a4, a5, a6, a7, a8, a9, a10, a11⟩ := h
  have hu4 : u < 4 := Nat.lt_of_lt_of_le hu a8.1
  exact ⟨W, by rw [hP 16 (by decide) (by omega) (by omega)]; exact a2, fun r hr => by rw [hB r (by simp only [List.mem_cons, List.not_mem_nil, or_false, not_or]; omega) (by omega)]; exact a3 r hr, by rw [hv 0 (by decide) (by omega)]; exact a4, ⟨a5.1, fun e he => by
    have h4 := a5.1
    have he : e < s.2.1.length := he
    rw [hB (26 + 3 * e) (by simp only [List.mem_cons, List.not_mem_nil, or_false, not_or]; omega) (by omega), hB (27 + 3 * e) (by simp only [List.mem_cons, List.not_mem_nil, or_false, not_or]; omega) (by omega), hB (28 + 3 * e) (by simp only [List.mem_cons, List.not_mem_nil, or_false, not_or]; omega) (by omega), hS (10 + 2 * e) (by simp only [List.mem_cons, List.not_mem_nil, or_false, not_or]; omega)]
    exact a5.2 e he⟩, ⟨by rw [hv 1 (by decide) (by omega)]; exact a6.1, a6.2⟩, by rw [hv 2 (by decide) (by omega)]; exact a7, ⟨a8.1, fun j hj => by
    have h4 := a8.1
    have hj : j < s.2.2.2.1.length := hj
    rw [hB (38 + 3 * j) (by simp only [List.mem_cons, List.not_mem_nil, or_false, not_or]; omega) (by omega), hP (29 + 3 * j) (by simp only [List.mem_cons, List.not_mem_nil, or_false, not_or]; omega) (by omega) (by omega)]
    exact a8.2 j hj⟩, fun j hj => by
    rw [hB (39 + 3 * j) (by simp only [List.mem_cons, List.not_mem_nil, or_false, not_or]; omega) (by omega), hS (19 + 3 * j) (by simp only [List.mem_cons, List.not_mem_nil, or_false, not_or]; omega), hS (20 + 3 * j) (by simp only [List.mem_cons, List.not_mem_nil, or_false, not_or]; omega), hv (6 + 2 * j) (by omega) (by omega)]
    exact a9 j hj, fun j hj => by
    show (s.2.2.2.1.length ≤ j → (if j = u then some l else s.2.2.2.2.2.1 j) = none) ∧ v1 (7 + 2 * j) = bi (if j = u then some l else s.2.2.2.2.2.1 j).isSome ∧ ∀ l0, (if j = u then some l else s.2.2.2.2.2.1 j) = some l0 → B1 (40 + 3 * j) = l0 ∧ rep (P1 (30 + 3 * j)) (tdE0 l0) ∧ rep (P1 (31 + 3 * j)) (tdE1 l0)
    by_cases e : j = u
    · rw [if_pos e, e]
      exact ⟨fun g => absurd g (by omega), h7, fun l0 hl0 => by cases hl0; exact ⟨hl, p0, p1⟩⟩
    · rw [if_neg e, hB (40 + 3 * j) (by simp only [List.mem_cons, List.not_mem_nil, or_false, not_or]; omega) (by omega), hP (30 + 3 * j) (by simp only [List.mem_cons, List.not_mem_nil, or_false, not_or]; omega) (by omega) (by omega), hP (31 + 3 * j) (by simp only [List.mem_cons, List.not_mem_nil, or_false, not_or]; omega) (by omega) (by omega), hv (7 + 2 * j) (by omega) (by omega)]
      exact a10 j hj, ⟨fun _ => h3, fun t ht => absurd ht (by intro e; cases e)⟩⟩

theorem cI.sg {G : Nat → ClassId} {L : List Nat} {F F1 : Nat → va_E} {c : Nat → Nat} {B B1 : Nat → List Nat} {S S1 : Nat → Nat} {P P1 : Nat → JP} {q q1 : SS} {X X1 : Nat} {v v1 : Nat → Int32} {s : ST} {l : List Nat} (h : cI G L F c B S P q X v s) (W : CW G L F1 c B1 S1 P1 q1 X1 v1) (hB : ∀ z, z ∉ [16, 17, 18, 19, 20, 21, 22, 23] → z ≠ 38 + 3 * s.2.2.2.1.length → B1 z = B z) (hS : ∀ z, z ∉ [0, 1, 2, 3, 4, 7, 8, 9, 11, 13, 15, 17] → S1 z = S z) (hP : ∀ z, z ∉ [17, 18, 19, 20, 21, 22, 23, 24, 25, 26, 27, 28] → z ≠ 29 + 3 * s.2.2.2.1.length → P1 z = P z) (hv : ∀ z, z < 2 → v1 z = v z) (h4 : s.2.2.2.1.length < 4) (hl : B1 (38 + 3 * s.2.2.2.1.length) = l) (hl3 : l.length = 33) (hp : rep (P1 (29 + 3 * s.2.2.2.1.length)) (pKs l)) (h2 : v1 2 = nI (s.2.2.2.1.length + 1)) (h3 : v1 3 = 0) (hz : ∀ t, t < 4 → v1 (6 + 2 * t) = 0 ∧ v1 (7 + 2 * t) = 0)  : cI G L F1 c B1 S1 P1 q1 X1 v1 (addS s l) := by
  obtain ⟨_, a2, a3, a4, a5, a6, a7, a8, a9, a10, a11⟩ := h
  exact ⟨W, by rw [hP 16 (by decide) (by omega)]; exact a2, fun r hr => by rw [hB r (by simp only [List.mem_cons, List.not_mem_nil, or_false, not_or]; omega) (by omega)]; exact a3 r hr, by rw [hv 0 (by decide)]; exact a4, ⟨a5.1, fun e he => by
    have h4 := a5.1
    have he : e < s.2.1.length := he
    rw [hB (26 + 3 * e) (by simp only [List.mem_cons, List.not_mem_nil, or_false, not_or]; omega) (by omega), hB (27 + 3 * e) (by simp only [List.mem_cons, List.not_mem_nil, or_false, not_or]; omega) (by omega), hB (28 + 3 * e) (by simp only [List.mem_cons, List.not_mem_nil, or_false, not_or]; omega) (by omega), hS (10 + 2 * e) (by simp only [List.mem_cons, List.not_mem_nil, or_false, not_or]; omega)]
    exact a5.2 e he⟩, ⟨by rw [hv 1 (by decide)]; exact a6.1, a6.2⟩, by show v1 2 = nI (s.2.2.2.1 ++ [l]).length; rw [h2, List.length_append]; rfl, ⟨by show (s.2.2.2.1 ++ [l]).length ≤ 4; rw [List.length_append]; show _ + 1 ≤ 4; omega, fun j hj => by
    have hj : j < (s.2.2.2.1 ++ [l]).length := hj
    rw [List.length_append] at hj
    have hj : j < s.2.2.2.1.length + 1 := hj
    show B1 (38 + 3 * j) = (s.2.2.2.1 ++ [l]).getD j [] ∧ ((s.2.2.2.1 ++ [l]).getD j []).length = 33 ∧ rep (P1 (29 + 3 * j)) (pKs ((s.2.2.2.1 ++ [l]).getD j []))
    by_cases e : j < s.2.2.2.1.length
    · rw [List.getD_eq_getElem?_getD, List.getElem?_append_left e, ← List.getD_eq_getElem?_getD, hB (38 + 3 * j) (by simp only [List.mem_cons, List.not_mem_nil, or_false, not_or]; omega) (by omega), hP (29 + 3 * j) (by simp only [List.mem_cons, List.not_mem_nil, or_false, not_or]; omega) (by omega)]
      exact a8.2 j e
    · have e2 : j = s.2.2.2.1.length := by omega
      subst e2
      rw [List.getD_eq_getElem?_getD, List.getElem?_append_right (Nat.le_refl _), Nat.sub_self]
      exact ⟨hl, hl3, hp⟩⟩, fun j hj => ⟨fun _ => rfl, (hz j hj).1, fun t ht => by cases ht⟩, fun j hj => ⟨fun _ => rfl, (hz j hj).2, fun t ht => by cases ht⟩, ⟨fun _ => h3, fun t ht => absurd ht (by intro e; cases e)⟩⟩

theorem cI.no {G : Nat → ClassId} {L : List Nat} {F F1 : Nat → va_E} {c : Nat → Nat} {B B1 : Nat → List Nat} {S S1 : Nat → Nat} {P P1 : Nat → JP} {q q1 : SS} {X X1 : Nat} {v v1 : Nat → Int32} {s : ST} (h : cI G L F c B S P q X v s) (W : CW G L F1 c B1 S1 P1 q1 X1 v1) (hB : ∀ z, z ∉ [16, 17, 18, 19, 20, 21, 22, 23] → B1 z = B z) (hS : ∀ z, z ∉ [0, 1, 2, 3, 4, 7, 8, 9, 11, 13, 15, 17] → S1 z = S z) (hP : ∀ z, z ∉ [17, 18, 19, 20, 21, 22, 23, 24, 25, 26, 27, 28] → P1 z = P z) (hv : ∀ z, z < 2 → v1 z = v z) (h2 : v1 2 = 0) (h3 : v1 3 = 0) (hz : ∀ t, t < 4 → v1 (6 + 2 * t) = 0 ∧ v1 (7 + 2 * t) = 0)  : cI G L F1 c B1 S1 P1 q1 X1 v1 ((stNo s).2) := by
  obtain ⟨_, a2, a3, a4, a5, a6, a7, a8, a9, a10, a11⟩ := h
  exact ⟨W, by rw [hP 16 (by decide)]; exact a2, fun r hr => by rw [hB r (by simp only [List.mem_cons, List.not_mem_nil, or_false, not_or]; omega)]; exact a3 r hr, by rw [hv 0 (by decide)]; exact a4, ⟨a5.1, fun e he => by
    have h4 := a5.1
    have he : e < s.2.1.length := he
    rw [hB (26 + 3 * e) (by simp only [List.mem_cons, List.not_mem_nil, or_false, not_or]; omega), hB (27 + 3 * e) (by simp only [List.mem_cons, List.not_mem_nil, or_false, not_or]; omega), hB (28 + 3 * e) (by simp only [List.mem_cons, List.not_mem_nil, or_false, not_or]; omega), hS (10 + 2 * e) (by simp only [List.mem_cons, List.not_mem_nil, or_false, not_or]; omega)]
    exact a5.2 e he⟩, ⟨by rw [hv 1 (by decide)]; exact a6.1, a6.2⟩, h2, ⟨Nat.zero_le _, fun j hj => absurd hj (Nat.not_lt_zero j)⟩, fun j hj => ⟨fun _ => rfl, (hz j hj).1, fun t ht => by cases ht⟩, fun j hj => ⟨fun _ => rfl, (hz j hj).2, fun t ht => by cases ht⟩, ⟨fun _ => h3, fun t ht => absurd ht (by intro e; cases e)⟩⟩

theorem cI.se {G : Nat → ClassId} {L : List Nat} {F F1 : Nat → va_E} {c : Nat → Nat} {B B1 : Nat → List Nat} {S S1 : Nat → Nat} {P P1 : Nat → JP} {q q1 : SS} {X X1 : Nat} {v v1 : Nat → Int32} {s : ST} {k : Nat} {t : SSe} (h : cI G L F c B S P q X v s) (W : CW G L F1 c B1 S1 P1 q1 X1 v1) (hB : ∀ z, z ∉ [16, 17, 18, 19, 20, 21, 22, 23, 24, 25] → B1 z = B z) (hS : ∀ z, z ∉ [0, 1, 2, 3, 4, 7, 8, 9, 11, 13, 15, 17, 5, 6, 18, 21, 24, 27] → S1 z = S z) (hP : ∀ z, z ∉ [17, 18, 19, 20, 21, 22, 23, 24, 25, 26, 27, 28] → P1 z = P z) (hv : ∀ z, z ∉ [1, 3, 4, 5] → v1 z = v z) (h1 : v1 1 = nI k) (hk : k ≤ 48) (h3 : v1 3 = 1) (hb : B1 24 = t.1) (hl : t.1.length = 66) (h5 : S1 5 = t.2.1) (h6 : S1 6 = t.2.2.1) (hb5 : B1 25 = bex t.2.2.2.1 32) (ho : v1 5 = bi t.2.2.2.2) (h4 : v1 4 = bi (oQ s)) (hw : ∀ j, j < s.2.2.2.1.length → S1 (18 + 3 * j) = wKs s.2.2.2.1 j) (lb : t.2.1 < NN) (le : t.2.2.1 < NN) (hT : ∀ j, j < s.2.2.2.1.length → s.2.2.2.2.2.1 j ≠ none) (hJ : seJ s ≠ none)  : cI G L F1 c B1 S1 P1 q1 X1 v1 (setSe (setK s k) t) := by
  obtain ⟨_, a2, a3, a4, a5, a6, a7, a8, a9, a10, a11⟩ := h
  exact ⟨W, by rw [hP 16 (by decide)]; exact a2, fun r hr => by rw [hB r (by simp only [List.mem_cons, List.not_mem_nil, or_false, not_or]; omega)]; exact a3 r hr, by rw [hv 0 (by decide)]; exact a4, ⟨a5.1, fun e he => by
    have h4 := a5.1
    have he : e < s.2.1.length := he
    rw [hB (26 + 3 * e) (by simp only [List.mem_cons, List.not_mem_nil, or_false, not_or]; omega), hB (27 + 3 * e) (by simp only [List.mem_cons, List.not_mem_nil, or_false, not_or]; omega), hB (28 + 3 * e) (by simp only [List.mem_cons, List.not_mem_nil, or_false, not_or]; omega), hS (10 + 2 * e) (by simp only [List.mem_cons, List.not_mem_nil, or_false, not_or]; omega)]
    exact a5.2 e he⟩, ⟨h1, hk⟩, by rw [hv 2 (by decide)]; exact a7, ⟨a8.1, fun j hj => by
    have h4 := a8.1
    have hj : j < s.2.2.2.1.length := hj
    rw [hB (38 + 3 * j) (by simp only [List.mem_cons, List.not_mem_nil, or_false, not_or]; omega), hP (29 + 3 * j) (by simp only [List.mem_cons, List.not_mem_nil, or_false, not_or]; omega)]
    exact a8.2 j hj⟩, fun j hj => by
    rw [hB (39 + 3 * j) (by simp only [List.mem_cons, List.not_mem_nil, or_false, not_or]; omega), hS (19 + 3 * j) (by simp only [List.mem_cons, List.not_mem_nil, or_false, not_or]; omega), hS (20 + 3 * j) (by simp only [List.mem_cons, List.not_mem_nil, or_false, not_or]; omega), hv (6 + 2 * j) (by simp only [List.mem_cons, List.not_mem_nil, or_false, not_or]; omega)]
    exact a9 j hj, fun j hj => by
    rw [hB (40 + 3 * j) (by simp only [List.mem_cons, List.not_mem_nil, or_false, not_or]; omega), hP (30 + 3 * j) (by simp only [List.mem_cons, List.not_mem_nil, or_false, not_or]; omega), hP (31 + 3 * j) (by simp only [List.mem_cons, List.not_mem_nil, or_false, not_or]; omega), hv (7 + 2 * j) (by simp only [List.mem_cons, List.not_mem_nil, or_false, not_or]; omega)]
    exact a10 j hj, ⟨fun e => absurd e (by intro e; cases e), fun t0 ht => by cases ht; exact ⟨h3, hb, hl, h5, h6, hb5, ho, h4, hw, lb, le, hT, hJ⟩⟩⟩

theorem cI.en {G : Nat → ClassId} {L : List Nat} {F F1 : Nat → va_E} {c : Nat → Nat} {B B1 : Nat → List Nat} {S S1 : Nat → Nat} {P P1 : Nat → JP} {q q1 : SS} {X X1 : Nat} {v v1 : Nat → Int32} {s : ST} {e : SE} (h : cI G L F c B S P q X v s) (W : CW G L F1 c B1 S1 P1 q1 X1 v1) (hB : ∀ z, z ≠ 26 + 3 * s.2.1.length → z ≠ 27 + 3 * s.2.1.length → z ≠ 28 + 3 * s.2.1.length → B1 z = B z) (hS : ∀ z, z ≠ 10 + 2 * s.2.1.length → S1 z = S z) (hP : ∀ z, P1 z = P z) (hv : ∀ z, z ≠ 0 → v1 z = v z) (h4 : s.2.1.length < 4) (e1 : B1 (26 + 3 * s.2.1.length) = e.1) (e2 : B1 (27 + 3 * s.2.1.length) = e.2.1) (e3 : B1 (28 + 3 * s.2.1.length) = e.2.2.1) (l1 : e.1.length = 32) (l2 : e.2.1.length ≤ 40) (l3 : e.2.2.1.length = 64) (e5 : S1 (10 + 2 * s.2.1.length) = e.2.2.2) (l5 : e.2.2.2 < NN) (h0 : v1 0 = nI (s.2.1.length + 1))  : cI G L F1 c B1 S1 P1 q1 X1 v1 (addE s e) := by
  obtain ⟨_, a2, a3, a4, a5, a6, a7, a8, a9, a10, a11⟩ := h
  exact ⟨W, by rw [hP 16]; exact a2, fun r hr => by rw [hB r (by omega) (by omega) (by omega)]; exact a3 r hr, by show v1 0 = nI (s.2.1 ++ [e]).length; rw [h0, List.length_append]; rfl, ⟨by show (s.2.1 ++ [e]).length ≤ 4; rw [List.length_append]; show _ + 1 ≤ 4; omega, fun i hi => by
    have hi : i < (s.2.1 ++ [e]).length := hi
    rw [List.length_append] at hi
    have hi : i < s.2.1.length + 1 := hi
    have hg : ∀ y : SE, enG (s.2.1 ++ [e]) i = y → (B1 (26 + 3 * i) = y.1 ∧ B1 (27 + 3 * i) = y.2.1 ∧ B1 (28 + 3 * i) = y.2.2.1 ∧ y.1.length = 32 ∧ y.2.1.length ≤ 40 ∧ y.2.2.1.length = 64 ∧ S1 (10 + 2 * i) = y.2.2.2 ∧ y.2.2.2 < NN) → (B1 (26 + 3 * i) = (enG (s.2.1 ++ [e]) i).1 ∧ B1 (27 + 3 * i) = (enG (s.2.1 ++ [e]) i).2.1 ∧ B1 (28 + 3 * i) = (enG (s.2.1 ++ [e]) i).2.2.1 ∧ (enG (s.2.1 ++ [e]) i).1.length = 32 ∧ (enG (s.2.1 ++ [e]) i).2.1.length ≤ 40 ∧ (enG (s.2.1 ++ [e]) i).2.2.1.length = 64 ∧ S1 (10 + 2 * i) = (enG (s.2.1 ++ [e]) i).2.2.2 ∧ (enG (s.2.1 ++ [e]) i).2.2.2 < NN) := fun y hy hh => by rw [hy]; exact hh
    by_cases g : i < s.2.1.length
    · refine hg (enG s.2.1 i) (by unfold enG; rw [List.getD_eq_getElem?_getD, List.getElem?_append_left g, ← List.getD_eq_getElem?_getD]) ?_
      rw [hB (26 + 3 * i) (by omega) (by omega) (by omega), hB (27 + 3 * i) (by omega) (by omega) (by omega), hB (28 + 3 * i) (by omega) (by omega) (by omega), hS (10 + 2 * i) (by omega)]
      exact a5.2 i g
    · have g2 : i = s.2.1.length := by omega
      subst g2
      exact hg e (by unfold enG; rw [List.getD_eq_getElem?_getD, List.getElem?_append_right (Nat.le_refl _), Nat.sub_self]; rfl) ⟨e1, e2, e3, l1, l2, l3, e5, l5⟩⟩, ⟨by rw [hv 1 (by decide)]; exact a6.1, a6.2⟩, by rw [hv 2 (by decide)]; exact a7, ⟨a8.1, fun j hj => by
    have hj : j < s.2.2.2.1.length := hj
    have h8 := a8.1
    rw [hB (38 + 3 * j) (by omega) (by omega) (by omega), hP]
    exact a8.2 j hj⟩, fun j hj => by
    rw [hB (39 + 3 * j) (by omega) (by omega) (by omega), hS (19 + 3 * j) (by omega), hS (20 + 3 * j) (by omega), hv (6 + 2 * j) (by omega)]
    exact a9 j hj, fun j hj => by
    rw [hB (40 + 3 * j) (by omega) (by omega) (by omega), hP, hP, hv (7 + 2 * j) (by omega)]
    exact a10 j hj, ⟨fun e => by rw [hv 3 (by decide)]; exact a11.1 e, fun t ht => by
    obtain ⟨b1, b2, b3, b4, b5, b6, b7, b8, b9, b10⟩ := a11.2 t ht
    rw [hv 3 (by decide), hB 24 (by omega) (by omega) (by omega), hS 5 (by omega), hS 6 (by omega), hB 25 (by omega) (by omega) (by omega), hv 5 (by decide), hv 4 (by decide)]
    exact ⟨b1, b2, b3, b4, b5, b6, b7, b8, fun j hj => by
      have hj : j < s.2.2.2.1.length := hj
      have h8 := a8.1
      rw [hS (18 + 3 * j) (by omega)]; exact b9 j hj, b10⟩⟩⟩

theorem cI.clr {G : Nat → ClassId} {L : List Nat} {F F1 : Nat → va_E} {c : Nat → Nat} {B B1 : Nat → List Nat} {S S1 : Nat → Nat} {P P1 : Nat → JP} {q q1 : SS} {X X1 : Nat} {v v1 : Nat → Int32} {s : ST} {k : Nat} (h : cI G L F c B S P q X v s) (W : CW G L F1 c B1 S1 P1 q1 X1 v1) (hB : ∀ z, z ∉ [16, 17, 18, 19, 20, 21, 22, 23] → B1 z = B z) (hS : ∀ z, z ∉ [0, 1, 2, 3, 4, 7, 8, 9, 11, 13, 15, 17] → S1 z = S z) (hP : ∀ z, z ∉ [17, 18, 19, 20, 21, 22, 23, 24, 25, 26, 27, 28] → P1 z = P z) (hv : ∀ z, z ∉ [0, 1] → v1 z = v z) (h1 : v1 1 = nI k) (hk : k ≤ 48) (h0 : v1 0 = 0)  : cI G L F1 c B1 S1 P1 q1 X1 v1 (clrE (setK s k)) := by
  obtain ⟨_, a2, a3, a4, a5, a6, a7, a8, a9, a10, a11⟩ := h
  exact ⟨W, by rw [hP 16 (by decide)]; exact a2, fun r hr => by rw [hB r (by simp only [List.mem_cons, List.not_mem_nil, or_false, not_or]; omega)]; exact a3 r hr, h0, ⟨Nat.zero_le _, fun e he => absurd he (Nat.not_lt_zero e)⟩, ⟨h1, hk⟩, by rw [hv 2 (by decide)]; exact a7, ⟨a8.1, fun j hj => by
    have h4 := a8.1
    have hj : j < s.2.2.2.1.length := hj
    rw [hB (38 + 3 * j) (by simp only [List.mem_cons, List.not_mem_nil, or_false, not_or]; omega), hP (29 + 3 * j) (by simp only [List.mem_cons, List.not_mem_nil, or_false, not_or]; omega)]
    exact a8.2 j hj⟩, fun j hj => by
    rw [hB (39 + 3 * j) (by simp only [List.mem_cons, List.not_mem_nil, or_false, not_or]; omega), hS (19 + 3 * j) (by simp only [List.mem_cons, List.not_mem_nil, or_false, not_or]; omega), hS (20 + 3 * j) (by simp only [List.mem_cons, List.not_mem_nil, or_false, not_or]; omega), hv (6 + 2 * j) (by simp only [List.mem_cons, List.not_mem_nil, or_false, not_or]; omega)]
    exact a9 j hj, fun j hj => by
    rw [hB (40 + 3 * j) (by simp only [List.mem_cons, List.not_mem_nil, or_false, not_or]; omega), hP (30 + 3 * j) (by simp only [List.mem_cons, List.not_mem_nil, or_false, not_or]; omega), hP (31 + 3 * j) (by simp only [List.mem_cons, List.not_mem_nil, or_false, not_or]; omega), hv (7 + 2 * j) (by simp only [List.mem_cons, List.not_mem_nil, or_false, not_or]; omega)]
    exact a10 j hj, ⟨fun e => by rw [hv 3 (by decide)]; exact a11.1 e, fun t ht => by
    obtain ⟨b1, b2, b3, b4, b5, b6, b7, b8, b9, b10⟩ := a11.2 t ht
    rw [hv 3 (by decide), hB 24 (by decide), hS 5 (by decide), hS 6 (by decide), hB 25 (by decide), hv 5 (by decide), hv 4 (by decide)]
    exact ⟨b1, b2, b3, b4, b5, b6, b7, b8, fun j hj => by
      have hj : j < s.2.2.2.1.length := hj
      have h8 := a8.1
      rw [hS (18 + 3 * j) (by simp only [List.mem_cons, List.not_mem_nil, or_false, not_or]; omega)]; exact b9 j hj, b10⟩⟩⟩

