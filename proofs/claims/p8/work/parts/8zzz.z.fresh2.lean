/-! THE FRESH OBJECT of the reference -/
def n12 (k : Nat) : Option Nat := match k with
  | 0 => some PP
  | 1 => some NN
  | 4 => some cLT
  | 5 => some cQT
  | 6 => some gX
  | 7 => some gY
  | 48 => some 7
  | _ => none
theorem pl12_ok : ∀ k, k < 81 → mkd k ≠ 0 → pl12 k < 73 ∧ fl12 (pl12 k) = k := by decide +kernel
def a12 (A : Nat → Nat) : Nat → Nat := fun k => A (pl12 k)
set_option maxRecDepth 100000 in
theorem mr_A {G : Nat → ClassId} {L : List Nat} {F : Nat → va_E} {A : Nat → Nat} (hA : ∀ i, i < 73 → jF L F (A i) (tX12 G i)) {k : Nat} (hk : k < 81) (h : mkd k ≠ 0) : jF L F (a12 A k) (rf12 G k) := by
  have h2 := hA _ (pl12_ok k hk h).1
  unfold tX12 at h2
  rw [(pl12_ok k hk h).2] at h2
  exact h2
set_option maxRecDepth 100000 in
theorem mr_R {G : Nat → ClassId} {L : List Nat} {F : Nat → va_E} {A : Nat → Nat} {o : Nat} (hA : ∀ i, i < 73 → jF L F (A i) (tX12 G i)) (hi : ∀ i j, i < 73 → j < 73 → A i = A j → i = j) (ho : jF L F o (.inr (12, [.ref (A 0), .ref (A 1), .ref (A 2), .ref (A 3), .ref (A 4), .ref (A 5), .ref (A 6), .ref (A 7), .ref (A 8), .ref (A 9), .int (0 : Int32), .ref (A 10), .ref (A 11), .ref (A 12), .ref (A 13), .ref (A 14), .int (0 : Int32), .ref (A 15), .ref (A 16), .ref (A 17), .ref (A 18), .ref (A 19), .ref (A 20), .ref (A 21), .int (0 : Int32), .ref (A 22), .ref (A 23), .ref (A 24), .ref (A 25), .int (0 : Int32), .int (0 : Int32), .int (0 : Int32), .ref (A 26), .ref (A 27), .ref (A 28), .ref (A 29), .ref (A 30), .ref (A 31), .ref (A 32), .ref (A 33), .ref (A 34), .ref (A 35), .ref (A 36), .ref (A 37), .ref (A 38), .ref (A 39), .ref (A 40), .ref (A 41), .ref (A 42), .ref (A 43), .ref (A 44), .ref (A 45), .ref (A 46), .ref (A 47), .ref (A 48), .ref (A 49), .ref (A 50), .int (0 : Int32), .ref (A 51), .ref (A 52), .ref (A 53), .ref (A 54), .ref (A 55), .ref (A 56), .ref (A 57), .ref (A 58), .ref (A 59), .ref (A 60), .ref (A 61), .ref (A 62), .ref (A 63), .ref (A 64), .ref (A 65), .ref (A 66), .ref (A 67), .ref (A 68), .ref (A 69), .ref (A 70), .int (0 : Int32), .ref (A 71), .ref (A 72)]))) : RW G L F o (a12 A) (fun _ => 0) s12 w12 := by
  refine ⟨ho, fun k hk h => ?_, fun k hk h => ?_, fun k hk h => ?_, fun i j h1 h2 h3 h4 e => ?_⟩
  · have h2 := mr_A hA hk (by rw [h]; decide)
    unfold rf12 at h2; rw [h] at h2; exact h2
  · have h2 := mr_A hA hk (by rw [h]; decide)
    unfold rf12 at h2; rw [h] at h2; exact h2
  · have h2 := mr_A hA hk (by rw [h]; decide)
    unfold rf12 at h2; rw [h] at h2; exact h2
  · have e2 := congrArg fl12 (hi _ _ (pl12_ok i h1 h3).1 (pl12_ok j h2 h4).1 e)
    rw [(pl12_ok i h1 h3).2, (pl12_ok j h2 h4).2] at e2
    exact e2
theorem mr_N0 : mN (s12 0) PP := ⟨fun j => (cL12 0).getD j 0, fun j hj => if_pos hj, by decide, by decide +kernel⟩
theorem mr_N1 : mN (s12 1) NN := ⟨fun j => (cL12 1).getD j 0, fun j hj => if_pos hj, by decide, by decide +kernel⟩
theorem mr_N4 : mN (s12 4) cLT := ⟨fun j => (cL12 4).getD j 0, fun j hj => if_pos hj, by decide, by decide +kernel⟩
theorem mr_N5 : mN (s12 5) cQT := ⟨fun j => (cL12 5).getD j 0, fun j hj => if_pos hj, by decide, by decide +kernel⟩
theorem mr_N6 : mN (s12 6) gX := ⟨fun j => (cL12 6).getD j 0, fun j hj => if_pos hj, by decide, by decide +kernel⟩
theorem mr_N7 : mN (s12 7) gY := ⟨fun j => (cL12 7).getD j 0, fun j hj => if_pos hj, by decide, by decide +kernel⟩
theorem mr_N48 : mN (s12 48) 7 := ⟨fun j => (cL12 48).getD j 0, fun j hj => if_pos hj, by decide, by decide +kernel⟩
theorem mr_N : ∀ k x, n12 k = some x → mN (s12 k) x := by
  intro k x h
  unfold n12 at h
  split at h
  · cases h; exact mr_N0
  · cases h; exact mr_N1
  · cases h; exact mr_N4
  · cases h; exact mr_N5
  · cases h; exact mr_N6
  · cases h; exact mr_N7
  · cases h; exact mr_N48
  · cases h
theorem mr_W {G : Nat → ClassId} {L : List Nat} {F : Nat → va_E} {A : Nat → Nat} {o : Nat} (hA : ∀ i, i < 73 → jF L F (A i) (tX12 G i)) (hi : ∀ i j, i < 73 → j < 73 → A i = A j → i = j) (ho : jF L F o (.inr (12, [.ref (A 0), .ref (A 1), .ref (A 2), .ref (A 3), .ref (A 4), .ref (A 5), .ref (A 6), .ref (A 7), .ref (A 8), .ref (A 9), .int (0 : Int32), .ref (A 10), .ref (A 11), .ref (A 12), .ref (A 13), .ref (A 14), .int (0 : Int32), .ref (A 15), .ref (A 16), .ref (A 17), .ref (A 18), .ref (A 19), .ref (A 20), .ref (A 21), .int (0 : Int32), .ref (A 22), .ref (A 23), .ref (A 24), .ref (A 25), .int (0 : Int32), .int (0 : Int32), .int (0 : Int32), .ref (A 26), .ref (A 27), .ref (A 28), .ref (A 29), .ref (A 30), .ref (A 31), .ref (A 32), .ref (A 33), .ref (A 34), .ref (A 35), .ref (A 36), .ref (A 37), .ref (A 38), .ref (A 39), .ref (A 40), .ref (A 41), .ref (A 42), .ref (A 43), .ref (A 44), .ref (A 45), .ref (A 46), .ref (A 47), .ref (A 48), .ref (A 49), .ref (A 50), .int (0 : Int32), .ref (A 51), .ref (A 52), .ref (A 53), .ref (A 54), .ref (A 55), .ref (A 56), .ref (A 57), .ref (A 58), .ref (A 59), .ref (A 60), .ref (A 61), .ref (A 62), .ref (A 63), .ref (A 64), .ref (A 65), .ref (A 66), .ref (A 67), .ref (A 68), .ref (A 69), .ref (A 70), .int (0 : Int32), .ref (A 71), .ref (A 72)]))) : MW G L F o (a12 A) (fun _ => 0) n12 s12 w12 := ⟨s12, mr_R hA hi ho, mr_N, fun _ _ => rfl⟩
theorem mr_I {G : Nat → ClassId} {L : List Nat} {F : Nat → va_E} {A : Nat → Nat} {o : Nat} (hA : ∀ i, i < 73 → jF L F (A i) (tX12 G i)) (hi : ∀ i j, i < 73 → j < 73 → A i = A j → i = j) (ho : jF L F o (.inr (12, [.ref (A 0), .ref (A 1), .ref (A 2), .ref (A 3), .ref (A 4), .ref (A 5), .ref (A 6), .ref (A 7), .ref (A 8), .ref (A 9), .int (0 : Int32), .ref (A 10), .ref (A 11), .ref (A 12), .ref (A 13), .ref (A 14), .int (0 : Int32), .ref (A 15), .ref (A 16), .ref (A 17), .ref (A 18), .ref (A 19), .ref (A 20), .ref (A 21), .int (0 : Int32), .ref (A 22), .ref (A 23), .ref (A 24), .ref (A 25), .int (0 : Int32), .int (0 : Int32), .int (0 : Int32), .ref (A 26), .ref (A 27), .ref (A 28), .ref (A 29), .ref (A 30), .ref (A 31), .ref (A 32), .ref (A 33), .ref (A 34), .ref (A 35), .ref (A 36), .ref (A 37), .ref (A 38), .ref (A 39), .ref (A 40), .ref (A 41), .ref (A 42), .ref (A 43), .ref (A 44), .ref (A 45), .ref (A 46), .ref (A 47), .ref (A 48), .ref (A 49), .ref (A 50), .int (0 : Int32), .ref (A 51), .ref (A 52), .ref (A 53), .ref (A 54), .ref (A 55), .ref (A 56), .ref (A 57), .ref (A 58), .ref (A 59), .ref (A 60), .ref (A 61), .ref (A 62), .ref (A 63), .ref (A 64), .ref (A 65), .ref (A 66), .ref (A 67), .ref (A 68), .ref (A 69), .ref (A 70), .int (0 : Int32), .ref (A 71), .ref (A 72)]))) : mI G L F o (a12 A) (fun _ => 0) n12 s12 w12 ST0 :=
  ⟨mr_W hA hi ho, ⟨rfl, rfl, rfl, rfl, by decide +kernel, by decide +kernel⟩, ⟨rfl, rfl, rfl, rfl, rfl⟩, ⟨fun i hi => if_pos hi, fun j hj => if_pos hj⟩, fun j hj => if_pos hj, fun r _ => ⟨rfl, rfl, Nat.zero_le _, fun b hb => absurd hb List.not_mem_nil⟩,
    ⟨rfl, Nat.zero_le _, fun i h => absurd h (Nat.not_lt_zero i)⟩, ⟨rfl, Nat.zero_le _⟩, ⟨rfl, Nat.zero_le _, fun j hj => absurd hj (by simp [ST0]), fun j h => absurd h (Nat.not_lt_zero j)⟩, fun _ _ => ⟨fun _ => rfl, rfl⟩, fun _ _ => ⟨fun _ => rfl, rfl⟩, rfl⟩
