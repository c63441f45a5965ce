/-! ASSOCIATIVITY -/
theorem nx {p : Nat} (hp : prm p) {x1 y1 x2 y2 : Int} (e1 : isE p x1 y1) (e2 : isE p x2 y2) (n1 : ep p x1 y1 ≠ ep p x2 y2) (n2 : ep p x1 y1 ≠ eneg p (ep p x2 y2)) : ¬ zd p (x2 - x1) := by
  have h0 : 0 < p := by have := hp.1; omega
  intro hx
  rcases same_x hp e1 e2 hx with h | h
  · exact n1 ((ep_iff h0).mpr ⟨zd_sub hx, zd_sub h⟩)
  · rw [eneg_ep h0] at n2
    exact n2 ((ep_iff h0).mpr ⟨zd_sub hx, h.l1 1 (by omega)⟩)
theorem easG1 {p : Nat} (h : gdp p) {A B C : EP} (hA : onE p A) (hB : onE p B) (hC : onE p C) (zA : A ≠ none) (zB : B ≠ none) (zC : C ≠ none) (n1 : A ≠ B) (n2 : A ≠ eneg p B) (n3 : B ≠ C) (n4 : B ≠ eneg p C) (n5 : eadd p A B ≠ C) (n6 : eadd p A B ≠ eneg p C) (n7 : A ≠ eadd p B C) (n8 : A ≠ eneg p (eadd p B C)) : eadd p (eadd p A B) C = eadd p A (eadd p B C) := by
  have h0 : 0 < p := by have := h.1.1; omega
  obtain ⟨x1, y1, rfl, e1⟩ := hA.ep zA
  obtain ⟨x2, y2, rfl, e2⟩ := hB.ep zB
  obtain ⟨x3, y3, rfl, e3⟩ := hC.ep zC
  have n12 := nx h.1 e1 e2 n1 n2
  have n23 := nx h.1 e2 e3 n3 n4
  obtain ⟨a, ha⟩ : ∃ a, zd p (a * (x2 - x1) - (y2 - y1)) := ⟨_, slope h.1 n12 _⟩
  obtain ⟨b, hb⟩ : ∃ b, zd p (b * (x3 - x2) - (y3 - y2)) := ⟨_, slope h.1 n23 _⟩
  obtain ⟨z1, hz1⟩ : ∃ z, z = y2 - a * (x2 - x1) := ⟨_, rfl⟩
  obtain ⟨z3, hz3⟩ : ∃ z, z = y2 + b * (x3 - x2) := ⟨_, rfl⟩
  have k1 : zd p (z1 - y1) := ha.l1 (-1) (by omega)
  have k3 : zd p (z3 - y3) := hb.l1 1 (by omega)
  have q1 : ep p x1 y1 = ep p x1 z1 := (ep_iff h0).mpr ⟨zd0 p (by omega), zd_sub k1⟩
  have q3 : ep p x3 y3 = ep p x3 z3 := (ep_iff h0).mpr ⟨zd0 p (by omega), zd_sub k3⟩
  rw [q1] at n5 n6 n7 n8 ⊢
  rw [q3] at n5 n6 n7 n8 ⊢
  have e1' := isE_c e1 (x' := x1) (zd0 p (by omega)) k1
  have e3' := isE_c e3 (x' := x3) (zd0 p (by omega)) k3
  have ha' : zd p (a * (x2 - x1) - (y2 - z1)) := zd0 p (by omega)
  have hb' : zd p (b * (x3 - x2) - (z3 - y2)) := zd0 p (by omega)
  have eD := isE_ch h.1 e1' e2 n12 ha'
  have eE := isE_ch h.1 e2 e3' n23 hb'
  rw [eadd_ch h.1 n12 ha'] at n5 n6 ⊢
  rw [eadd_ch h.1 n23 hb'] at n7 n8 ⊢
  unfold epl at *
  have nD := nx h.1 eD e3' n5 n6
  have nE := nx h.1 e1' eE n7 n8
  exact eas1 h.1 e1' e2 e3' n12 n23 hz1 hz3 rfl rfl rfl rfl nD nE
theorem easG2 {p : Nat} (h : gdp p) {A C : EP} (hA : onE p A) (hC : onE p C) (zA : A ≠ none) (zC : C ≠ none) (n3 : A ≠ C) (n4 : A ≠ eneg p C) (n5 : eadd p A A ≠ C) (n6 : eadd p A A ≠ eneg p C) (n7 : A ≠ eadd p A C) (n8 : A ≠ eneg p (eadd p A C)) : eadd p (eadd p A A) C = eadd p A (eadd p A C) := by
  have h0 : 0 < p := by have := h.1.1; omega
  obtain ⟨x1, y1, rfl, e1⟩ := hA.ep zA
  obtain ⟨x3, y3, rfl, e3⟩ := hC.ep zC
  have n13 := nx h.1 e1 e3 n3 n4
  obtain ⟨a, ha⟩ : ∃ a, zd p (a * (2 * y1) - 3 * x1 * x1) := ⟨_, slope h.1 (h.y e1) _⟩
  obtain ⟨b, hb⟩ : ∃ b, zd p (b * (x3 - x1) - (y3 - y1)) := ⟨_, slope h.1 n13 _⟩
  obtain ⟨z3, hz3⟩ : ∃ z, z = y1 + b * (x3 - x1) := ⟨_, rfl⟩
  have k3 : zd p (z3 - y3) := hb.l1 1 (by omega)
  have q3 : ep p x3 y3 = ep p x3 z3 := (ep_iff h0).mpr ⟨zd0 p (by omega), zd_sub k3⟩
  rw [q3] at n5 n6 n7 n8 ⊢
  have e3' := isE_c e3 (x' := x3) (zd0 p (by omega)) k3
  have hb' : zd p (b * (x3 - x1) - (z3 - y1)) := zd0 p (by omega)
  have eD := isE_tw e1 ha
  have eE := isE_ch h.1 e1 e3' n13 hb'
  rw [eadd_tw h.1 (h.y e1) ha] at n5 n6 ⊢
  rw [eadd_ch h.1 n13 hb'] at n7 n8 ⊢
  unfold epl at *
  have nD := nx h.1 eD e3' n5 n6
  have nE := nx h.1 e1 eE n7 n8
  exact eas2 h.1 e1 e3' n13 ha hz3 rfl rfl rfl rfl nD nE
theorem ecan {p : Nat} (h : gdp p) {A B C : EP} (hA : onE p A) (hB : onE p B) (e : eadd p A B = C) : A = eadd p C (eneg p B) := by
  rw [← e, eadd_sub h hA hB]
theorem ecan' {p : Nat} (h : gdp p) {A B C : EP} (hA : onE p A) (hB : onE p B) (e : eadd p A B = C) : B = eadd p C (eneg p A) := by
  rw [eadd_comm h hA hB] at e
  exact ecan h hB hA e
theorem eadd_z {p : Nat} (h : gdp p) {A B : EP} (hA : onE p A) (hB : onE p B) (e : eadd p A B = none) : A = eneg p B := ecan h hA hB e
theorem eadd_self {p : Nat} (h : gdp p) {A B : EP} (hA : onE p A) (hB : onE p B) (e : eadd p A B = A) : B = none := by
  rw [ecan' h hA hB e, eadd_neg h hA]
theorem esub_add {p : Nat} (h : gdp p) {A B : EP} (hA : onE p A) (hB : onE p B) : eadd p (eadd p A (eneg p B)) B = A := by
  have := eadd_sub h hA (onE_neg h hB)
  rwa [eneg_eneg h hB] at this
theorem eneg_self {p : Nat} (h : gdp p) {A : EP} (hA : onE p A) : eadd p (eneg p A) A = none := by
  rw [eadd_comm h (onE_neg h hA) hA, eadd_neg h hA]
theorem eneg_nz {p : Nat} (h : gdp p) {A : EP} (hA : onE p A) (z : A ≠ none) : eneg p A ≠ none := by
  intro e
  have h2 := eneg_eneg h hA
  rw [e] at h2
  exact z h2.symm
/-- from X - A = Y -/
theorem emove {p : Nat} (h : gdp p) {X A Y : EP} (hX : onE p X) (hA : onE p A) (e : eadd p X (eneg p A) = Y) : X = eadd p Y A := by
  have := ecan h hX (onE_neg h hA) e
  rwa [eneg_eneg h hA] at this
theorem dbl_assoc {p : Nat} (h : gdp p) {A C : EP} (hA : onE p A) (hC : onE p C) : eadd p (eadd p A A) C = eadd p A (eadd p A C) := by
  by_cases zA : A = none
  · subst zA
    rfl
  by_cases zC : C = none
  · subst zC
    rw [eadd_0, eadd_0]
  have nA := onE_neg h hA
  have nC := onE_neg h hC
  have hB := onE_add h hA hA
  have hAC := onE_add h hA hC
  by_cases e1 : A = C
  · subst e1
    exact eadd_comm h hB hA
  by_cases e2 : A = eneg p C
  · have e2' : C = eneg p A := by rw [e2, eneg_eneg h hC]
    rw [e2', eadd_sub h hA hA, eadd_neg h hA, eadd_0]
  by_cases e3 : eadd p (eadd p A A) C = none
  · have k1 : C = eadd p (eneg p A) (eneg p A) := by
      rw [eadd_comm h hB hC] at e3
      rw [eadd_z h hC hB e3, eneg_add h hA hA]
    have k2 : eadd p A C = eneg p A := by rw [eadd_comm h hA hC, k1, esub_add h nA hA]
    rw [e3, k2, eadd_neg h hA]
  by_cases e4 : eadd p A (eadd p A C) = none
  · have k1 : A = eneg p (eadd p A C) := eadd_z h hA hAC e4
    have k2 : eadd p (eneg p (eadd p A C)) A = eneg p C := by rw [eneg_add h hA hC, eadd_comm h nA nC, esub_add h nC hA]
    rw [← k1] at k2
    rw [k2, e4, eneg_self h hC]
  have e3' : ¬ eadd p A A = eneg p C := fun e => e3 (by rw [e, eneg_self h hC])
  have e5 : ¬ A = eadd p A C := fun e => zC (eadd_self h hA hC e.symm)
  have e6 : ¬ A = eneg p (eadd p A C) := fun e => e4 (by
    have k := eneg_self h hAC
    rw [← e] at k
    exact k)
  by_cases e7 : eadd p A A = C
  · subst e7
    have k0 : eadd p (eadd p A A) (eneg p A) = A := eadd_sub h hA hA
    generalize eadd p A A = B at *
    have nB := onE_neg h hB
    have k1 : eadd p A (eneg p B) = eneg p A := by
      have k := congrArg (eneg p) k0
      rw [eneg_add h hB nA, eneg_eneg h hA, eadd_comm h nB hA] at k
      exact k
    have bA : ¬ B = A := fun e => e1 e.symm
    have bN : ¬ B = eneg p A := fun e => e2 (by rw [e, eneg_eneg h hA])
    by_cases f1 : eadd p B B = A
    · exact absurd ((ecan h hB hB f1).trans k1) bN
    by_cases f2 : eadd p B B = eneg p A
    · have k2 : B = eneg p (eadd p A B) := by rw [eneg_add h hA hB]; exact ecan h hB hB f2
      have k3 : eadd p A B = eneg p B := by
        have k := congrArg (eneg p) k2
        rw [eneg_eneg h (onE_add h hA hB)] at k
        exact k.symm
      rw [f2, k3, k1]
    have k4 := easG2 h hB nA zC (eneg_nz h hA zA) bN (by rw [eneg_eneg h hA]; exact bA) f2 (by rw [eneg_eneg h hA]; exact f1) (by rw [k0]; exact bA) (by rw [k0]; exact bN)
    rw [k0] at k4
    rw [emove h (onE_add h hB hB) hA k4, eadd_comm h (onE_add h hB hA) hA, eadd_comm h hB hA]
  exact easG2 h hA hC zA zC e1 e2 e7 e3' e5 e6
theorem eassoc {p : Nat} (h : gdp p) {A B C : EP} (hA : onE p A) (hB : onE p B) (hC : onE p C) : eadd p (eadd p A B) C = eadd p A (eadd p B C) := by
  by_cases zA : A = none
  · subst zA
    rfl
  by_cases zB : B = none
  · subst zB
    rw [eadd_0, eadd_0']
  by_cases zC : C = none
  · subst zC
    rw [eadd_0, eadd_0]
  have nA := onE_neg h hA
  have nB := onE_neg h hB
  have nC := onE_neg h hC
  have hAB := onE_add h hA hB
  have hBC := onE_add h hB hC
  by_cases c1 : A = eneg p B
  · rw [c1, eneg_self h hB, eadd_0', eadd_comm h nB hBC, eadd_comm h hB hC, eadd_sub h hC hB]
  by_cases c2 : B = eneg p C
  · rw [c2, esub_add h hA hC, eneg_self h hC, eadd_0]
  by_cases c3 : eadd p (eadd p A B) C = none
  · have k1 : C = eadd p (eneg p A) (eneg p B) := by
      rw [eadd_comm h hAB hC] at c3
      rw [eadd_z h hC hAB c3, eneg_add h hA hB]
    have k2 : eadd p B C = eneg p A := by rw [eadd_comm h hB hC, k1, esub_add h nA hB]
    rw [c3, k2, eadd_neg h hA]
  by_cases c4 : eadd p A (eadd p B C) = none
  · have k1 : A = eneg p (eadd p B C) := eadd_z h hA hBC c4
    have k2 : eadd p A B = eneg p C := by rw [k1, eneg_add h hB hC, eadd_comm h nB nC, esub_add h nC hB]
    rw [k2, c4, eneg_self h hC]
  have c3' : ¬ eadd p A B = eneg p C := fun e => c3 (by rw [e, eneg_self h hC])
  have c4' : ¬ A = eneg p (eadd p B C) := fun e => c4 (by
    have k := eneg_self h hBC
    rw [← e] at k
    exact k)
  by_cases c5 : A = B
  · rw [← c5]
    exact dbl_assoc h hA hC
  by_cases c6 : B = C
  · rw [← c6]
    have k := dbl_assoc h hB hA
    rw [eadd_comm h (onE_add h hB hB) hA, eadd_comm h hB (onE_add h hB hA), eadd_comm h hB hA] at k
    exact k.symm
  by_cases c7 : eadd p A B = C
  · have k1 : eadd p C (eneg p A) = B := by rw [← c7, eadd_comm h hA hB, eadd_sub h hB hA]
    have k2 := dbl_assoc h hC nA
    rw [k1] at k2
    rw [c7, emove h (onE_add h hC hC) hA k2, eadd_comm h (onE_add h hC hB) hA, eadd_comm h hC hB]
  by_cases c8 : A = eadd p B C
  · have k1 : eadd p A (eneg p C) = B := by rw [c8, eadd_sub h hB hC]
    have k2 := dbl_assoc h hA nC
    rw [k1] at k2
    rw [← c8, emove h (onE_add h hA hA) hC k2]
  exact easG1 h hA hB hC zA zB zC c5 c1 c6 c2 c7 c3' c8 c4'
/-- multiples -/
noncomputable def emul (p : Nat) : Nat → EP → EP
  | 0, _ => none
  | k + 1, A => eadd p (emul p k A) A
theorem onE_mul {p : Nat} (h : gdp p) {A : EP} (hA : onE p A) : ∀ k, onE p (emul p k A)
  | 0 => trivial
  | k + 1 => onE_add h (onE_mul h hA k) hA
theorem emul_1 (p : Nat) (A : EP) : emul p 1 A = A := rfl
theorem emul_add {p : Nat} (h : gdp p) {A : EP} (hA : onE p A) (a : Nat) : ∀ b, emul p (a + b) A = eadd p (emul p a A) (emul p b A)
  | 0 => (eadd_0 p _).symm
  | b + 1 => by
    show eadd p (emul p (a + b) A) A = eadd p (emul p a A) (eadd p (emul p b A) A)
    rw [emul_add h hA a b, eassoc h (onE_mul h hA a) (onE_mul h hA b) hA]
theorem emul_none (p : Nat) : ∀ k, emul p k none = none
  | 0 => rfl
  | k + 1 => by
    show eadd p (emul p k none) none = none
    rw [emul_none p k, eadd_0]
theorem emul_mul {p : Nat} (h : gdp p) {A : EP} (hA : onE p A) (a : Nat) : ∀ b, emul p (a * b) A = emul p b (emul p a A)
  | 0 => rfl
  | b + 1 => by
    rw [Nat.mul_succ, emul_add h hA, emul_mul h hA a b]
    rfl
theorem emul_sum {p : Nat} (h : gdp p) {A B : EP} (hA : onE p A) (hB : onE p B) : ∀ k, emul p k (eadd p A B) = eadd p (emul p k A) (emul p k B)
  | 0 => rfl
  | k + 1 => by
    have hA' := onE_mul h hA k
    have hB' := onE_mul h hB k
    show eadd p (emul p k (eadd p A B)) (eadd p A B) = eadd p (eadd p (emul p k A) A) (eadd p (emul p k B) B)
    rw [emul_sum h hA hB k, eassoc h hA' hB' (onE_add h hA hB), ← eassoc h hB' hA hB, eadd_comm h hB' hA, eassoc h hA hB' hB, ← eassoc h hA' hA (onE_add h hB' hB)]
theorem emul_neg {p : Nat} (h : gdp p) {A : EP} (hA : onE p A) : ∀ k, emul p k (eneg p A) = eneg p (emul p k A)
  | 0 => rfl
  | k + 1 => by
    show eadd p (emul p k (eneg p A)) (eneg p A) = eneg p (eadd p (emul p k A) A)
    rw [emul_neg h hA k, eneg_add h (onE_mul h hA k) hA]

