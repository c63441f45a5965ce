/-! CONSTRUCTORS of the class: the small ones -/
theorem vp_lit {i : Int32} {N : Nat} (h : ¬ (i < 0 ∨ N ≤ i.toNatClampNeg)) : vp_in i N := h
theorem fls0 {P : Nat → Prop} : ∀ i, i < 0 → P i := fun i h => absurd h (Nat.not_lt_zero i)
theorem fls {P : Nat → Prop} {n : Nat} (h : ∀ i, i < n → P i) (hn : P n) : ∀ i, i < n + 1 → P i := fun i hi => if e : i < n then h i e else (show i = n by omega) ▸ hn
theorem gS.old {L0 L : List Nat} {F0 F : Nat → va_E} {o n x : Nat} {A : Nat → Nat} {T : Nat → va_E} {c : va_E} (g : gS L0 F0 o n A T L F) (h : jF L0 F0 x c) (hx : x ≠ o) : jF L F x c := by
  obtain ⟨a1, a2, a3, a4, a5, a6⟩ := g
  exact ⟨by rw [a2]; exact List.mem_append_left _ h.1, (a6 x hx (fun i hi e => a3 i hi (by rw [← e]; exact h.1))).trans h.2⟩

theorem dfX0 : ∀ ty0 : Nat → FieldType, (∀ k, k < (jq 0).2.2 → parseFieldDescriptor ((jq 0).2.1 k).2.2.1 = some (ty0 k)) → ∀ j, j < (jq 0).2.2 → defaultValue (ty0 j) = vp_V [.null, .int 0] j := by
  intro ty0 h j hj
  have e : ty0 j = tyX0 j := Option.some.inj ((h j hj).symm.trans (tyX0_ok j hj))
  rw [e]
  exact (show ∀ j, j < 2 → defaultValue (tyX0 j) = vp_V [.null, .int 0] j from (fls (fls fls0 rfl) rfl)) j hj

theorem dfX1 : ∀ ty0 : Nat → FieldType, (∀ k, k < (jq 1).2.2 → parseFieldDescriptor ((jq 1).2.1 k).2.2.1 = some (ty0 k)) → ∀ j, j < (jq 1).2.2 → defaultValue (ty0 j) = vp_V [.long 0, .long 0, .long 0, .long 0, .long 0, .long 0, .long 0, .long 0, .long 0] j := by
  intro ty0 h j hj
  have e : ty0 j = tyX1 j := Option.some.inj ((h j hj).symm.trans (tyX1_ok j hj))
  rw [e]
  exact (show ∀ j, j < 9 → defaultValue (tyX1 j) = vp_V [.long 0, .long 0, .long 0, .long 0, .long 0, .long 0, .long 0, .long 0, .long 0] j from (fls (fls (fls (fls (fls (fls (fls (fls (fls fls0 rfl) rfl) rfl) rfl) rfl) rfl) rfl) rfl) rfl)) j hj

theorem dfX2 : ∀ ty0 : Nat → FieldType, (∀ k, k < (jq 2).2.2 → parseFieldDescriptor ((jq 2).2.1 k).2.2.1 = some (ty0 k)) → ∀ j, j < (jq 2).2.2 → defaultValue (ty0 j) = vp_V [.null, .null, .null, .null, .null, .null, .null, .null, .null] j := by
  intro ty0 h j hj
  have e : ty0 j = tyX2 j := Option.some.inj ((h j hj).symm.trans (tyX2_ok j hj))
  rw [e]
  exact (show ∀ j, j < 9 → defaultValue (tyX2 j) = vp_V [.null, .null, .null, .null, .null, .null, .null, .null, .null] j from (fls (fls (fls (fls (fls (fls (fls (fls (fls fls0 rfl) rfl) rfl) rfl) rfl) rfl) rfl) rfl) rfl)) j hj

theorem dfX3 : ∀ ty0 : Nat → FieldType, (∀ k, k < (jq 3).2.2 → parseFieldDescriptor ((jq 3).2.1 k).2.2.1 = some (ty0 k)) → ∀ j, j < (jq 3).2.2 → defaultValue (ty0 j) = vp_V [.null, .null, .null, .null, .null, .null, .null] j := by
  intro ty0 h j hj
  have e : ty0 j = tyX3 j := Option.some.inj ((h j hj).symm.trans (tyX3_ok j hj))
  rw [e]
  exact (show ∀ j, j < 7 → defaultValue (tyX3 j) = vp_V [.null, .null, .null, .null, .null, .null, .null] j from (fls (fls (fls (fls (fls (fls (fls fls0 rfl) rfl) rfl) rfl) rfl) rfl) rfl)) j hj

theorem dfX4 : ∀ ty0 : Nat → FieldType, (∀ k, k < (jq 4).2.2 → parseFieldDescriptor ((jq 4).2.1 k).2.2.1 = some (ty0 k)) → ∀ j, j < (jq 4).2.2 → defaultValue (ty0 j) = vp_V [.int 0, .int 0, .null, .null, .null, .null, .null, .null, .null, .null, .null, .null, .null, .null, .null, .null, .null, .null, .int 0, .int 0] j := by
  intro ty0 h j hj
  have e : ty0 j = tyX4 j := Option.some.inj ((h j hj).symm.trans (tyX4_ok j hj))
  rw [e]
  exact (show ∀ j, j < 20 → defaultValue (tyX4 j) = vp_V [.int 0, .int 0, .null, .null, .null, .null, .null, .null, .null, .null, .null, .null, .null, .null, .null, .null, .null, .null, .int 0, .int 0] j from (fls (fls (fls (fls (fls (fls (fls (fls (fls (fls (fls (fls (fls (fls (fls (fls (fls (fls (fls (fls fls0 rfl) rfl) rfl) rfl) rfl) rfl) rfl) rfl) rfl) rfl) rfl) rfl) rfl) rfl) rfl) rfl) rfl) rfl) rfl) rfl)) j hj

theorem dfX5 : ∀ ty0 : Nat → FieldType, (∀ k, k < (jq 5).2.2 → parseFieldDescriptor ((jq 5).2.1 k).2.2.1 = some (ty0 k)) → ∀ j, j < (jq 5).2.2 → defaultValue (ty0 j) = vp_V [.null, .null, .null, .int 0, .null, .null, .null, .int 0, .null, .null, .null] j := by
  intro ty0 h j hj
  have e : ty0 j = tyX5 j := Option.some.inj ((h j hj).symm.trans (tyX5_ok j hj))
  rw [e]
  exact (show ∀ j, j < 11 → defaultValue (tyX5 j) = vp_V [.null, .null, .null, .int 0, .null, .null, .null, .int 0, .null, .null, .null] j from (fls (fls (fls (fls (fls (fls (fls (fls (fls (fls (fls fls0 rfl) rfl) rfl) rfl) rfl) rfl) rfl) rfl) rfl) rfl) rfl)) j hj

theorem dfX6 : ∀ ty0 : Nat → FieldType, (∀ k, k < (jq 6).2.2 → parseFieldDescriptor ((jq 6).2.1 k).2.2.1 = some (ty0 k)) → ∀ j, j < (jq 6).2.2 → defaultValue (ty0 j) = vp_V [.null, .null, .null, .int 0] j := by
  intro ty0 h j hj
  have e : ty0 j = tyX6 j := Option.some.inj ((h j hj).symm.trans (tyX6_ok j hj))
  rw [e]
  exact (show ∀ j, j < 4 → defaultValue (tyX6 j) = vp_V [.null, .null, .null, .int 0] j from (fls (fls (fls (fls fls0 rfl) rfl) rfl) rfl)) j hj

theorem dfX7 : ∀ ty0 : Nat → FieldType, (∀ k, k < (jq 7).2.2 → parseFieldDescriptor ((jq 7).2.1 k).2.2.1 = some (ty0 k)) → ∀ j, j < (jq 7).2.2 → defaultValue (ty0 j) = vp_V [.null, .null, .null, .null, .null, .null] j := by
  intro ty0 h j hj
  have e : ty0 j = tyX7 j := Option.some.inj ((h j hj).symm.trans (tyX7_ok j hj))
  rw [e]
  exact (show ∀ j, j < 6 → defaultValue (tyX7 j) = vp_V [.null, .null, .null, .null, .null, .null] j from (fls (fls (fls (fls (fls (fls fls0 rfl) rfl) rfl) rfl) rfl) rfl)) j hj

theorem dfX8 : ∀ ty0 : Nat → FieldType, (∀ k, k < (jq 8).2.2 → parseFieldDescriptor ((jq 8).2.1 k).2.2.1 = some (ty0 k)) → ∀ j, j < (jq 8).2.2 → defaultValue (ty0 j) = vp_V [.null] j := by
  intro ty0 h j hj
  have e : ty0 j = tyX8 j := Option.some.inj ((h j hj).symm.trans (tyX8_ok j hj))
  rw [e]
  exact (show ∀ j, j < 1 → defaultValue (tyX8 j) = vp_V [.null] j from (fls fls0 rfl)) j hj

theorem dfX9 : ∀ ty0 : Nat → FieldType, (∀ k, k < (jq 9).2.2 → parseFieldDescriptor ((jq 9).2.1 k).2.2.1 = some (ty0 k)) → ∀ j, j < (jq 9).2.2 → defaultValue (ty0 j) = vp_V [.null, .null, .null, .long 0] j := by
  intro ty0 h j hj
  have e : ty0 j = tyX9 j := Option.some.inj ((h j hj).symm.trans (tyX9_ok j hj))
  rw [e]
  exact (show ∀ j, j < 4 → defaultValue (tyX9 j) = vp_V [.null, .null, .null, .long 0] j from (fls (fls (fls (fls fls0 rfl) rfl) rfl) rfl)) j hj

theorem dfX10 : ∀ ty0 : Nat → FieldType, (∀ k, k < (jq 10).2.2 → parseFieldDescriptor ((jq 10).2.1 k).2.2.1 = some (ty0 k)) → ∀ j, j < (jq 10).2.2 → defaultValue (ty0 j) = vp_V [.null, .null, .null, .null, .null, .null, .null, .null, .null, .null, .null, .null, .null] j := by
  intro ty0 h j hj
  have e : ty0 j = tyX10 j := Option.some.inj ((h j hj).symm.trans (tyX10_ok j hj))
  rw [e]
  exact (show ∀ j, j < 13 → defaultValue (tyX10 j) = vp_V [.null, .null, .null, .null, .null, .null, .null, .null, .null, .null, .null, .null, .null] j from (fls (fls (fls (fls (fls (fls (fls (fls (fls (fls (fls (fls (fls fls0 rfl) rfl) rfl) rfl) rfl) rfl) rfl) rfl) rfl) rfl) rfl) rfl) rfl)) j hj

theorem dfX11 : ∀ ty0 : Nat → FieldType, (∀ k, k < (jq 11).2.2 → parseFieldDescriptor ((jq 11).2.1 k).2.2.1 = some (ty0 k)) → ∀ j, j < (jq 11).2.2 → defaultValue (ty0 j) = vp_V [.null, .null, .null, .null, .null, .null, .int 0, .int 0] j := by
  intro ty0 h j hj
  have e : ty0 j = tyX11 j := Option.some.inj ((h j hj).symm.trans (tyX11_ok j hj))
  rw [e]
  exact (show ∀ j, j < 8 → defaultValue (tyX11 j) = vp_V [.null, .null, .null, .null, .null, .null, .int 0, .int 0] j from (fls (fls (fls (fls (fls (fls (fls (fls fls0 rfl) rfl) rfl) rfl) rfl) rfl) rfl) rfl)) j hj

abbrev zC : va_E := .inr (1, [.long 0, .long 0, .long 0, .long 0, .long 0, .long 0, .long 0, .long 0, .long 0])
def tX8 (G : Nat → ClassId) (_ : Nat → Nat) : Nat → va_E := fun _ => .inl (G 2, 9, .inr (.inl (fun _ => 0)))
def tX0 (G : Nat → ClassId) (n : Nat) (_ : Nat → Nat) : Nat → va_E := fun _ => .inl (G 0, n, .inl (fun _ => 0))
theorem gS.nw1 {L : List Nat} {F F1 F2 F3 : Nat → va_E} {o q : Nat} {e : va_E} (ho : o ∈ L) (hq : q ∉ L) (h1 : F3 q = e) (u : ∀ x, x ≠ o → x ≠ q → F3 x = F x) : gS L F o 1 (fun _ => q) (fun _ => e) (L ++ [q]) F3 :=
  ⟨ho, rfl, fun i _ => hq, fun i j hi hj _ => by omega, fun i _ => h1, fun x hx hx2 => u x hx (hx2 0 (by decide))⟩

set_option maxHeartbeats 4000000 in
set_option maxRecDepth 100000 in
theorem c_i8 (l : Launch) (G : Nat → ClassId) (o : Nat) : jCv l yX8_init wsX8_init ({ frames := 1, cells := 1, slots := 9, locals := 20 }) (1) (9) G [.ref o] (fun L F => jF L F o (.inr (8, [.null]))) (fun L F L1 F1 => ∃ A, gS L F o 1 A (tX8 G A) L1 F1 ∧ F1 o = .inr (8, [.ref (A 0)])) := by
  refine jm_vI (cc := cX8_init) (maxL := 1) (by decide) rfl (Nat.le_of_ble_eq_true rfl) rfl ?_
  intro E L F hE hinit hR hpre
  have hE : jOk E G _ cX8_init 1 RX8 wsX8_init := hE
  have ho := hpre
  have f7 : jFl RX8 wsX8_init 7 8 0 := ⟨rfl, by decide, by decide +kernel, by decide +kernel⟩
  refine jr_aload_n hE dX8_init_0 0 rfl ?_
  refine jr_objInit hE dX8_init_1 (by decide +kernel) (by decide +kernel) (by decide +kernel) ⟨Nat.le_of_ble_eq_true rfl, Nat.le_of_ble_eq_true rfl⟩ (Nat.le_of_ble_eq_true rfl) ?_
  refine jr_aload_n hE dX8_init_4 0 rfl ?_
  refine jr_bipush (v := (9 : Int32)) hE dX8_init_5 (by decide) ?_
  refine jr_newa (ty := .long) (g := 2) (N := 9) (a0 := (9, .inr (.inl (fun _ => 0)))) hE dX8_init_7 (by decide +kernel) rfl rfl (fun _ e => by cases e) (fun _ => rfl) (by decide) (by decide) (by decide) ⟨by decide, by decide⟩ (fun q1 F2 n5 g3 u4 => ?_)
  have g6 := ho.grow n5 u4
  have g3 : jF (L ++ [q1]) F2 q1 (.inl (G 2, 9, .inr (.inl (fun _ => 0)))) := g3
  refine jr_putF (ty := .array .long) hE dX8_init_9 f7 g6 rfl hinit rfl (by decide +kernel) rfl rfl (Nat.le_of_ble_eq_true rfl) (fun F7 g8 u9 => ?_)
  have g8 : jF (L ++ [q1]) F7 o (.inr (8, [.ref q1])) := g8
  have g10 := g3.upk u9 g6 (Nat.ne_of_beq_eq_false rfl)
  exact hR (L ++ [q1]) F7 _ _ dX8_init_12 ⟨_, gS.nw1 (F1 := F7) (F2 := F7) ho.1 n5 g10.2 (fun x hx hx2 => (u9 x hx).trans (u4 x hx2)), g8.2⟩

set_option maxHeartbeats 4000000 in
set_option maxRecDepth 100000 in
theorem c_i0 (l : Launch) (G : Nat → ClassId) (o n : Nat) : jCv l yX0_init wsX0_init ({ frames := 1, cells := 1, slots := n, locals := 20 }) (1) (n) G [.ref o, .int (nI n)] (fun L F => jF L F o (.inr (0, [.null, .int 0])) ∧ n ≤ 100) (fun L F L1 F1 => ∃ A, gS L F o 1 A (tX0 G n A) L1 F1 ∧ F1 o = .inr (0, [.ref (A 0), .int 0])) := by
  refine jm_vI (cc := cX0_init) (maxL := 2) (by decide) rfl (Nat.le_of_ble_eq_true rfl) rfl ?_
  intro E L F hE hinit hR hpre
  have hE : jOk E G _ cX0_init 2 RX0 wsX0_init := hE
  obtain ⟨ho, hn⟩ := hpre
  have f7 : jFl RX0 wsX0_init 7 0 1 := ⟨rfl, by decide, by decide +kernel, by decide +kernel⟩
  have f19 : jFl RX0 wsX0_init 19 0 0 := ⟨rfl, by decide, by decide +kernel, by decide +kernel⟩
  refine jr_aload_n hE dX0_init_0 0 rfl ?_
  refine jr_objInit hE dX0_init_1 (by decide +kernel) (by decide +kernel) (by decide +kernel) ⟨Nat.le_of_ble_eq_true rfl, Nat.le_of_ble_eq_true rfl⟩ (Nat.le_of_ble_eq_true rfl) ?_
  refine jr_aload_n hE dX0_init_4 0 rfl ?_
  refine jr_iconst (v := (0 : Int32)) hE dX0_init_5 (by decide) ?_
  refine jr_put (ty := .int) hE dX0_init_6 f7 ho rfl (by decide +kernel) rfl rfl (Nat.le_of_ble_eq_true rfl) (fun F1 g2 u3 => ?_)
  have g2 : jF L F1 o (.inr (0, [.null, .int (0 : Int32)])) := g2
  refine jr_aload_n hE dX0_init_9 0 rfl ?_
  refine jr_iload_n hE dX0_init_10 1 rfl ?_
  refine jr_iconst (v := (0 : Int32)) hE dX0_init_11 (by decide) ?_
  refine jr_mmax (z := nI n) hE dX0_init_12 (by decide +kernel) (by decide +kernel) (by decide +kernel) (by decide +kernel) ⟨Nat.le_of_ble_eq_true rfl, Nat.le_of_ble_eq_true rfl⟩ ⟨Nat.le_of_ble_eq_true rfl, Nat.zero_le _⟩ (by rw [if_neg (nI_pos (by omega))]) ?_
  refine jr_newa (ty := .byte) (g := 0) (N := n) (a0 := (n, .inl (fun _ => 0))) hE dX0_init_15 (by decide +kernel) rfl rfl (fun _ e => by cases e) (fun _ => rfl) (nI_pos (by omega)) (nI_clamp (by omega)) (by show n * 1 ≤ 536870912; omega) (⟨Nat.le_of_ble_eq_true rfl, by show 0 + n ≤ n; omega⟩) (fun q4 F5 n8 g6 u7 => ?_)
  have g9 := g2.grow n8 u7
  have g6 : jF (L ++ [q4]) F5 q4 (.inl (G 0, n, .inl (fun _ => 0))) := g6
  refine jr_putF (ty := .array .byte) hE dX0_init_17 f19 g9 rfl hinit rfl (by decide +kernel) rfl rfl (Nat.le_of_ble_eq_true rfl) (fun F10 g11 u12 => ?_)
  have g11 : jF (L ++ [q4]) F10 o (.inr (0, [.ref q4, .int (0 : Int32)])) := g11
  have g13 := g6.upk u12 g9 (Nat.ne_of_beq_eq_false rfl)
  rw [show 0 + n = n from Nat.zero_add n]
  exact hR (L ++ [q4]) F10 _ _ dX0_init_20 ⟨_, gS.nw1 (F1 := F10) (F2 := F10) ho.1 n8 g13.2 (fun x hx hx2 => (u12 x hx).trans ((u7 x hx2).trans (u3 x hx))), g11.2⟩

def tX6 (G : Nat → ClassId) (A : Nat → Nat) : Nat → va_E := (fun i => [zC, zC, zC].getD i zC)

set_option maxHeartbeats 4000000 in
set_option maxRecDepth 100000 in
theorem c_i6 (l : Launch) (G : Nat → ClassId) (o : Nat) : jCv l yX6_init wsX6_init ({ frames := 2, cells := 3, slots := 27, locals := 40 }) (3) (27) G [.ref o] (fun L F => jF L F o (.inr (6, [.null, .null, .null, .int 0]))) (fun L F L1 F1 => ∃ A, gS L F o 3 A (tX6 G A) L1 F1 ∧ F1 o = (.inr (6, [.ref (A 0), .ref (A 1), .ref (A 2), .int (1 : Int32)]))) := by
  refine jm_vI (cc := cX6_init) (maxL := 1) (by decide) rfl (Nat.le_of_ble_eq_true rfl) rfl ?_
  intro E L F hE hinit hR hpre
  have hE : jOk E G _ cX6_init 1 RX6 wsX6_init := hE
  have ho := hpre
  have f10 : jFl RX6 wsX6_init 10 6 0 := ⟨rfl, by decide, by decide +kernel, by decide +kernel⟩
  have f16 : jFl RX6 wsX6_init 16 6 1 := ⟨rfl, by decide, by decide +kernel, by decide +kernel⟩
  have f19 : jFl RX6 wsX6_init 19 6 2 := ⟨rfl, by decide, by decide +kernel, by decide +kernel⟩
  have f22 : jFl RX6 wsX6_init 22 6 3 := ⟨rfl, by decide, by decide +kernel, by decide +kernel⟩
  refine jr_aload_n hE dX6_init_0 0 rfl ?_
  refine jr_objInit hE dX6_init_1 (by decide +kernel) (by decide +kernel) (by decide +kernel) ⟨Nat.le_of_ble_eq_true rfl, Nat.le_of_ble_eq_true rfl⟩ (Nat.le_of_ble_eq_true rfl) ?_
  refine jr_aload_n hE dX6_init_4 0 rfl ?_
  refine jr_new (ci := 1) (fs := [.long 0, .long 0, .long 0, .long 0, .long 0, .long 0, .long 0, .long 0, .long 0]) hE dX6_init_5 rfl (by decide +kernel) (by decide +kernel) (by decide +kernel) (by decide +kernel) dfX1 ⟨by decide, by decide⟩ (fun q1 F2 n3 g4 u5 => ?_)
  have g6 := (gS.nil (fun _ => 0) (fun _ => zC) ho.1).new n3 g4 u5
  have g7 := ho.nw n3 u5
  refine jr_dup hE dX6_init_8 rfl ?_
  refine jr_callNv (n := 0) (As := []) (rest := [.ref q1, .ref o]) hE dX6_init_9 (fun l => c_X1_init l G q1) ggX6_init_X1_init (by decide +kernel) (by decide) (by decide +kernel) rfl rfl ⟨by decide, by decide, by decide +kernel⟩ ⟨rfl, rfl, by decide, by decide⟩ ⟨by decide, by decide⟩ rfl rfl (Nat.le_of_ble_eq_true rfl) (trivial) (fun L8 F9 q10 => ?_)
  obtain ⟨eL8, eF9⟩ := q10
  subst eL8
  subst eF9
  refine jr_putF (ty := .object RX1) hE dX6_init_12 f10 g7 rfl hinit rfl (by decide +kernel) rfl rfl (Nat.le_of_ble_eq_true rfl) (fun F11 g12 u13 => ?_)
  have g12 : jF (L ++ [q1]) F11 o (.inr (6, [.ref q1, .null, .null, .int (0 : Int32)])) := g12
  have g14 := g6.put u13
  refine jr_aload_n hE dX6_init_15 0 rfl ?_
  refine jr_new (ci := 1) (fs := [.long 0, .long 0, .long 0, .long 0, .long 0, .long 0, .long 0, .long 0, .long 0]) hE dX6_init_16 rfl (by decide +kernel) (by decide +kernel) (by decide +kernel) (by decide +kernel) dfX1 ⟨by decide, by decide⟩ (fun q15 F16 n17 g18 u19 => ?_)
  have g20 := g14.new n17 g18 u19
  have g21 := g12.nw n17 u19
  refine jr_dup hE dX6_init_19 rfl ?_
  refine jr_callNv (n := 0) (As := []) (rest := [.ref q15, .ref o]) hE dX6_init_20 (fun l => c_X1_init l G q15) ggX6_init_X1_init (by decide +kernel) (by decide) (by decide +kernel) rfl rfl ⟨by decide, by decide, by decide +kernel⟩ ⟨rfl, rfl, by decide, by decide⟩ ⟨by decide, by decide⟩ rfl rfl (Nat.le_of_ble_eq_true rfl) (trivial) (fun L22 F23 q24 => ?_)
  obtain ⟨eL22, eF23⟩ := q24
  subst eL22
  subst eF23
  refine jr_putF (ty := .object RX1) hE dX6_init_23 f16 g21 rfl hinit rfl (by decide +kernel) rfl rfl (Nat.le_of_ble_eq_true rfl) (fun F25 g26 u27 => ?_)
  have g26 : jF ((L ++ [q1]) ++ [q15]) F25 o (.inr (6, [.ref q1, .ref q15, .null, .int (0 : Int32)])) := g26
  have g28 := g20.put u27
  refine jr_aload_n hE dX6_init_26 0 rfl ?_
  refine jr_new (ci := 1) (fs := [.long 0, .long 0, .long 0, .long 0, .long 0, .long 0, .long 0, .long 0, .long 0]) hE dX6_init_27 rfl (by decide +kernel) (by decide +kernel) (by decide +kernel) (by decide +kernel) dfX1 ⟨by decide, by decide⟩ (fun q29 F30 n31 g32 u33 => ?_)
  have g34 := g28.new n31 g32 u33
  have g35 := g26.nw n31 u33
  refine jr_dup hE dX6_init_30 rfl ?_
  refine jr_callNv (n := 0) (As := []) (rest := [.ref q29, .ref o]) hE dX6_init_31 (fun l => c_X1_init l G q29) ggX6_init_X1_init (by decide +kernel) (by decide) (by decide +kernel) rfl rfl ⟨by decide, by decide, by decide +kernel⟩ ⟨rfl, rfl, by decide, by decide⟩ ⟨by decide, by decide⟩ rfl rfl (Nat.le_of_ble_eq_true rfl) (trivial) (fun L36 F37 q38 => ?_)
  obtain ⟨eL36, eF37⟩ := q38
  subst eL36
  subst eF37
  refine jr_putF (ty := .object RX1) hE dX6_init_34 f19 g35 rfl hinit rfl (by decide +kernel) rfl rfl (Nat.le_of_ble_eq_true rfl) (fun F39 g40 u41 => ?_)
  have g40 : jF (((L ++ [q1]) ++ [q15]) ++ [q29]) F39 o (.inr (6, [.ref q1, .ref q15, .ref q29, .int (0 : Int32)])) := g40
  have g42 := g34.put u41
  refine jr_aload_n hE dX6_init_37 0 rfl ?_
  refine jr_iconst (v := (1 : Int32)) hE dX6_init_38 (by decide) ?_
  refine jr_put (ty := .boolean) hE dX6_init_39 f22 g40 rfl (by decide +kernel) rfl rfl (Nat.le_of_ble_eq_true rfl) (fun F43 g44 u45 => ?_)
  have g44 : jF (((L ++ [q1]) ++ [q15]) ++ [q29]) F43 o (.inr (6, [.ref q1, .ref q15, .ref q29, .int (1 : Int32)])) := g44
  have g46 := g42.put u45
  exact hR (((L ++ [q1]) ++ [q15]) ++ [q29]) F43 _ _ dX6_init_42 ⟨_, g46.fin (fls (fls (fls fls0 rfl) rfl) rfl), g44.2⟩

def tX7 (G : Nat → ClassId) (A : Nat → Nat) : Nat → va_E := (ext 3 (fun i => [zC, zC, zC].getD i zC) (fun i => [zC, zC, zC].getD i zC))

set_option maxHeartbeats 4000000 in
set_option maxRecDepth 100000 in
theorem c_i7 (l : Launch) (G : Nat → ClassId) (o : Nat) : jCv l yX7_init wsX7_init ({ frames := 2, cells := 6, slots := 54, locals := 40 }) (6) (54) G [.ref o] (fun L F => jF L F o (.inr (7, [.null, .null, .null, .null, .null, .null]))) (fun L F L1 F1 => ∃ A, gS L F o 6 A (tX7 G A) L1 F1 ∧ F1 o = (.inr (7, [.ref (A 0), .ref (A 1), .ref (A 2), .ref (A 3), .ref (A 4), .ref (A 5)]))) := by
  refine jm_vI (cc := cX7_init) (maxL := 1) (by decide) rfl (Nat.le_of_ble_eq_true rfl) rfl ?_
  intro E L F hE hinit hR hpre
  have hE : jOk E G _ cX7_init 1 RX7 wsX7_init := hE
  have ho := hpre
  have f10 : jFl RX7 wsX7_init 10 7 0 := ⟨rfl, by decide, by decide +kernel, by decide +kernel⟩
  have f16 : jFl RX7 wsX7_init 16 7 1 := ⟨rfl, by decide, by decide +kernel, by decide +kernel⟩
  have f19 : jFl RX7 wsX7_init 19 7 2 := ⟨rfl, by decide, by decide +kernel, by decide +kernel⟩
  have f22 : jFl RX7 wsX7_init 22 7 3 := ⟨rfl, by decide, by decide +kernel, by decide +kernel⟩
  have f25 : jFl RX7 wsX7_init 25 7 4 := ⟨rfl, by decide, by decide +kernel, by decide +kernel⟩
  have f28 : jFl RX7 wsX7_init 28 7 5 := ⟨rfl, by decide, by decide +kernel, by decide +kernel⟩
  refine jr_aload_n hE dX7_init_0 0 rfl ?_
  refine jr_objInit hE dX7_init_1 (by decide +kernel) (by decide +kernel) (by decide +kernel) ⟨Nat.le_of_ble_eq_true rfl, Nat.le_of_ble_eq_true rfl⟩ (Nat.le_of_ble_eq_true rfl) ?_
  refine jr_aload_n hE dX7_init_4 0 rfl ?_
  refine jr_new (ci := 1) (fs := [.long 0, .long 0, .long 0, .long 0, .long 0, .long 0, .long 0, .long 0, .long 0]) hE dX7_init_5 rfl (by decide +kernel) (by decide +kernel) (by decide +kernel) (by decide +kernel) dfX1 ⟨by decide, by decide⟩ (fun q1 F2 n3 g4 u5 => ?_)
  have g6 := (gS.nil (fun _ => 0) (fun _ => zC) ho.1).new n3 g4 u5
  have g7 := ho.nw n3 u5
  refine jr_dup hE dX7_init_8 rfl ?_
  refine jr_callNv (n := 0) (As := []) (rest := [.ref q1, .ref o]) hE dX7_init_9 (fun l => c_X1_init l G q1) ggX7_init_X1_init (by decide +kernel) (by decide) (by decide +kernel) rfl rfl ⟨by decide, by decide, by decide +kernel⟩ ⟨rfl, rfl, by decide, by decide⟩ ⟨by decide, by decide⟩ rfl rfl (Nat.le_of_ble_eq_true rfl) (trivial) (fun L8 F9 q10 => ?_)
  obtain ⟨eL8, eF9⟩ := q10
  subst eL8
  subst eF9
  refine jr_putF (ty := .object RX1) hE dX7_init_12 f10 g7 rfl hinit rfl (by decide +kernel) rfl rfl (Nat.le_of_ble_eq_true rfl) (fun F11 g12 u13 => ?_)
  have g12 : jF (L ++ [q1]) F11 o (.inr (7, [.ref q1, .null, .null, .null, .null, .null])) := g12
  have g14 := g6.put u13
  refine jr_aload_n hE dX7_init_15 0 rfl ?_
  refine jr_new (ci := 1) (fs := [.long 0, .long 0, .long 0, .long 0, .long 0, .long 0, .long 0, .long 0, .long 0]) hE dX7_init_16 rfl (by decide +kernel) (by decide +kernel) (by decide +kernel) (by decide +kernel) dfX1 ⟨by decide, by decide⟩ (fun q15 F16 n17 g18 u19 => ?_)
  have g20 := g14.new n17 g18 u19
  have g21 := g12.nw n17 u19
  refine jr_dup hE dX7_init_19 rfl ?_
  refine jr_callNv (n := 0) (As := []) (rest := [.ref q15, .ref o]) hE dX7_init_20 (fun l => c_X1_init l G q15) ggX7_init_X1_init (by decide +kernel) (by decide) (by decide +kernel) rfl rfl ⟨by decide, by decide, by decide +kernel⟩ ⟨rfl, rfl, by decide, by decide⟩ ⟨by decide, by decide⟩ rfl rfl (Nat.le_of_ble_eq_true rfl) (trivial) (fun L22 F23 q24 => ?_)
  obtain ⟨eL22, eF23⟩ := q24
  subst eL22
  subst eF23
  refine jr_putF (ty := .object RX1) hE dX7_init_23 f16 g21 rfl hinit rfl (by decide +kernel) rfl rfl (Nat.le_of_ble_eq_true rfl) (fun F25 g26 u27 => ?_)
  have g26 : jF ((L ++ [q1]) ++ [q15]) F25 o (.inr (7, [.ref q1, .ref q15, .null, .null, .null, .null])) := g26
  have g28 := g20.put u27
  refine jr_aload_n hE dX7_init_26 0 rfl ?_
  refine jr_new (ci := 1) (fs := [.long 0, .long 0, .long 0, .long 0, .long 0, .long 0, .long 0, .long 0, .long 0]) hE dX7_init_27 rfl (by decide +kernel) (by decide +kernel) (by decide +kernel) (by decide +kernel) dfX1 ⟨by decide, by decide⟩ (fun q29 F30 n31 g32 u33 => ?_)
  have g34 := g28.new n31 g32 u33
  have g35 := g26.nw n31 u33
  refine jr_dup hE dX7_init_30 rfl ?_
  refine jr_callNv (n := 0) (As := []) (rest := [.ref q29, .ref o]) hE dX7_init_31 (fun l => c_X1_init l G q29) ggX7_init_X1_init (by decide +kernel) (by decide) (by decide +kernel) rfl rfl ⟨by decide, by decide, by decide +kernel⟩ ⟨rfl, rfl, by decide, by decide⟩ ⟨by decide, by decide⟩ rfl rfl (Nat.le_of_ble_eq_true rfl) (trivial) (fun L36 F37 q38 => ?_)
  obtain ⟨eL36, eF37⟩ := q38
  subst eL36
  subst eF37
  refine jr_putF (ty := .object RX1) hE dX7_init_34 f19 g35 rfl hinit rfl (by decide +kernel) rfl rfl (Nat.le_of_ble_eq_true rfl) (fun F39 g40 u41 => ?_)
  have g40 : jF (((L ++ [q1]) ++ [q15]) ++ [q29]) F39 o (.inr (7, [.ref q1, .ref q15, .ref q29, .null, .null, .null])) := g40
  have g42 := g34.put u41
  refine jr_aload_n hE dX7_init_37 0 rfl ?_
  refine jr_new (ci := 1) (fs := [.long 0, .long 0, .long 0, .long 0, .long 0, .long 0, .long 0, .long 0, .long 0]) hE dX7_init_38 rfl (by decide +kernel) (by decide +kernel) (by decide +kernel) (by decide +kernel) dfX1 ⟨by decide, by decide⟩ (fun q43 F44 n45 g46 u47 => ?_)
  have g48 := g42.new n45 g46 u47
  have g49 := g40.nw n45 u47
  refine jr_dup hE dX7_init_41 rfl ?_
  refine jr_callNv (n := 0) (As := []) (rest := [.ref q43, .ref o]) hE dX7_init_42 (fun l => c_X1_init l G q43) ggX7_init_X1_init (by decide +kernel) (by decide) (by decide +kernel) rfl rfl ⟨by decide, by decide, by decide +kernel⟩ ⟨rfl, rfl, by decide, by decide⟩ ⟨by decide, by decide⟩ rfl rfl (Nat.le_of_ble_eq_true rfl) (trivial) (fun L50 F51 q52 => ?_)
  obtain ⟨eL50, eF51⟩ := q52
  subst eL50
  subst eF51
  refine jr_putF (ty := .object RX1) hE dX7_init_45 f22 g49 rfl hinit rfl (by decide +kernel) rfl rfl (Nat.le_of_ble_eq_true rfl) (fun F53 g54 u55 => ?_)
  have g54 : jF ((((L ++ [q1]) ++ [q15]) ++ [q29]) ++ [q43]) F53 o (.inr (7, [.ref q1, .ref q15, .ref q29, .ref q43, .null, .null])) := g54
  have g56 := g48.put u55
  refine jr_aload_n hE dX7_init_48 0 rfl ?_
  refine jr_new (ci := 1) (fs := [.long 0, .long 0, .long 0, .long 0, .long 0, .long 0, .long 0, .long 0, .long 0]) hE dX7_init_49 rfl (by decide +kernel) (by decide +kernel) (by decide +kernel) (by decide +kernel) dfX1 ⟨by decide, by decide⟩ (fun q57 F58 n59 g60 u61 => ?_)
  have g62 := g56.new n59 g60 u61
  have g63 := g54.nw n59 u61
  refine jr_dup hE dX7_init_52 rfl ?_
  refine jr_callNv (n := 0) (As := []) (rest := [.ref q57, .ref o]) hE dX7_init_53 (fun l => c_X1_init l G q57) ggX7_init_X1_init (by decide +kernel) (by decide) (by decide +kernel) rfl rfl ⟨by decide, by decide, by decide +kernel⟩ ⟨rfl, rfl, by decide, by decide⟩ ⟨by decide, by decide⟩ rfl rfl (Nat.le_of_ble_eq_true rfl) (trivial) (fun L64 F65 q66 => ?_)
  obtain ⟨eL64, eF65⟩ := q66
  subst eL64
  subst eF65
  refine jr_putF (ty := .object RX1) hE dX7_init_56 f25 g63 rfl hinit rfl (by decide +kernel) rfl rfl (Nat.le_of_ble_eq_true rfl) (fun F67 g68 u69 => ?_)
  have g68 : jF (((((L ++ [q1]) ++ [q15]) ++ [q29]) ++ [q43]) ++ [q57]) F67 o (.inr (7, [.ref q1, .ref q15, .ref q29, .ref q43, .ref q57, .null])) := g68
  have g70 := g62.put u69
  refine jr_aload_n hE dX7_init_59 0 rfl ?_
  refine jr_new (ci := 1) (fs := [.long 0, .long 0, .long 0, .long 0, .long 0, .long 0, .long 0, .long 0, .long 0]) hE dX7_init_60 rfl (by decide +kernel) (by decide +kernel) (by decide +kernel) (by decide +kernel) dfX1 ⟨by decide, by decide⟩ (fun q71 F72 n73 g74 u75 => ?_)
  have g76 := g70.new n73 g74 u75
  have g77 := g68.nw n73 u75
  refine jr_dup hE dX7_init_63 rfl ?_
  refine jr_callNv (n := 0) (As := []) (rest := [.ref q71, .ref o]) hE dX7_init_64 (fun l => c_X1_init l G q71) ggX7_init_X1_init (by decide +kernel) (by decide) (by decide +kernel) rfl rfl ⟨by decide, by decide, by decide +kernel⟩ ⟨rfl, rfl, by decide, by decide⟩ ⟨by decide, by decide⟩ rfl rfl (Nat.le_of_ble_eq_true rfl) (trivial) (fun L78 F79 q80 => ?_)
  obtain ⟨eL78, eF79⟩ := q80
  subst eL78
  subst eF79
  refine jr_putF (ty := .object RX1) hE dX7_init_67 f28 g77 rfl hinit rfl (by decide +kernel) rfl rfl (Nat.le_of_ble_eq_true rfl) (fun F81 g82 u83 => ?_)
  have g82 : jF ((((((L ++ [q1]) ++ [q15]) ++ [q29]) ++ [q43]) ++ [q57]) ++ [q71]) F81 o (.inr (7, [.ref q1, .ref q15, .ref q29, .ref q43, .ref q57, .ref q71])) := g82
  have g84 := g76.put u83
  exact hR ((((((L ++ [q1]) ++ [q15]) ++ [q29]) ++ [q43]) ++ [q57]) ++ [q71]) F81 _ _ dX7_init_70 ⟨_, g84.fin (fls (fls (fls (fls (fls (fls fls0 rfl) rfl) rfl) rfl) rfl) rfl), g82.2⟩

def tX9 (G : Nat → ClassId) (A : Nat → Nat) : Nat → va_E := (fun i => [(.inl (G 1, 8, .inl (fun _ => 0))), (.inl (G 1, 64, .inl (fun _ => 0))), (.inr (0, [.ref (A 3), .int 0])), (.inl (G 0, 32, .inl (fun _ => 0)))].getD i zC)

set_option maxHeartbeats 4000000 in
set_option maxRecDepth 100000 in
theorem c_i9 (l : Launch) (G : Nat → ClassId) (o : Nat) : jCv l yX9_init wsX9_init ({ frames := 2, cells := 4, slots := 106, locals := 41 }) (4) (106) G [.ref o] (fun L F => jF L F o (.inr (9, [.null, .null, .null, .long 0]))) (fun L F L1 F1 => ∃ A, gS L F o 4 A (tX9 G A) L1 F1 ∧ F1 o = (.inr (9, [.ref (A 0), .ref (A 1), .ref (A 2), .long (0 : Int64)]))) := by
  refine jm_vI (cc := cX9_init) (maxL := 1) (by decide) rfl (Nat.le_of_ble_eq_true rfl) rfl ?_
  intro E L F hE hinit hR hpre
  have hE : jOk E G _ cX9_init 1 RX9 wsX9_init := hE
  have ho := hpre
  have f7 : jFl RX9 wsX9_init 7 9 0 := ⟨rfl, by decide, by decide +kernel, by decide +kernel⟩
  have f13 : jFl RX9 wsX9_init 13 9 1 := ⟨rfl, by decide, by decide +kernel, by decide +kernel⟩
  have f21 : jFl RX9 wsX9_init 21 9 2 := ⟨rfl, by decide, by decide +kernel, by decide +kernel⟩
  have f25 : jFl RX9 wsX9_init 25 9 3 := ⟨rfl, by decide, by decide +kernel, by decide +kernel⟩
  refine jr_aload_n hE dX9_init_0 0 rfl ?_
  refine jr_objInit hE dX9_init_1 (by decide +kernel) (by decide +kernel) (by decide +kernel) ⟨Nat.le_of_ble_eq_true rfl, Nat.le_of_ble_eq_true rfl⟩ (Nat.le_of_ble_eq_true rfl) ?_
  refine jr_aload_n hE dX9_init_4 0 rfl ?_
  refine jr_bipush (v := (8 : Int32)) hE dX9_init_5 (by decide) ?_
  refine jr_newa (ty := .int) (g := 1) (N := 8) (a0 := (8, .inl (fun _ => 0))) hE dX9_init_7 (by decide +kernel) rfl rfl (fun _ e => by cases e) (fun _ => rfl) (by decide) (by decide) (by decide) ⟨by decide, by decide⟩ (fun q1 F2 n3 g4 u5 => ?_)
  have g6 := (gS.nil (fun _ => 0) (fun _ => zC) ho.1).new n3 g4 u5
  have g7 := ho.nw n3 u5
  refine jr_putF (ty := .array .int) hE dX9_init_9 f7 g7 rfl hinit rfl (by decide +kernel) rfl rfl (Nat.le_of_ble_eq_true rfl) (fun F8 g9 u10 => ?_)
  have g9 : jF (L ++ [q1]) F8 o (.inr (9, [.ref q1, .null, .null, .long (0 : Int64)])) := g9
  have g11 := g6.put u10
  refine jr_aload_n hE dX9_init_12 0 rfl ?_
  refine jr_bipush (v := (64 : Int32)) hE dX9_init_13 (by decide) ?_
  refine jr_newa (ty := .int) (g := 1) (N := 64) (a0 := (64, .inl (fun _ => 0))) hE dX9_init_15 (by decide +kernel) rfl rfl (fun _ e => by cases e) (fun _ => rfl) (by decide) (by decide) (by decide) ⟨by decide, by decide⟩ (fun q12 F13 n14 g15 u16 => ?_)
  have g17 := g11.new n14 g15 u16
  have g18 := g9.nw n14 u16
  refine jr_putF (ty := .array .int) hE dX9_init_17 f13 g18 rfl hinit rfl (by decide +kernel) rfl rfl (Nat.le_of_ble_eq_true rfl) (fun F19 g20 u21 => ?_)
  have g20 : jF ((L ++ [q1]) ++ [q12]) F19 o (.inr (9, [.ref q1, .ref q12, .null, .long (0 : Int64)])) := g20
  have g22 := g17.put u21
  refine jr_aload_n hE dX9_init_20 0 rfl ?_
  refine jr_new (ci := 0) (fs := [.null, .int 0]) hE dX9_init_21 rfl (by decide +kernel) (by decide +kernel) (by decide +kernel) (by decide +kernel) dfX0 ⟨by decide, by decide⟩ (fun q23 F24 n25 g26 u27 => ?_)
  have g28 := g22.new n25 g26 u27
  have g29 := g20.nw n25 u27
  refine jr_dup hE dX9_init_24 rfl ?_
  refine jr_bipush (v := (32 : Int32)) hE dX9_init_25 (by decide) ?_
  have e33 : jF (((L ++ [q1]) ++ [q12]) ++ [q23]) F24 q23 (.inr (0, [.null, .int 0])) := g28.at 2 (by decide)
  refine jr_callIv (n := 1) (As := [.int (32 : Int32)]) (rest := [.ref q23, .ref o]) hE dX9_init_27 (fun l => c_i0 l G q23 32) ggX9_init_X0_init (by decide +kernel) (by decide +kernel) (by decide +kernel) rfl rfl ⟨by decide, by decide, by decide +kernel⟩ ⟨rfl, rfl, by decide, by decide⟩ ⟨by decide, by decide⟩ rfl rfl (Nat.le_of_ble_eq_true rfl) (⟨e33, by decide⟩) (fun L30 F31 q32 => ?_)
  obtain ⟨B34, gB34, hB34⟩ := q32
  have g36 := g28.oC (k := 2) (by decide) gB34 g29
  have g35 := g28.call (k := 2) (by decide) gB34 hB34
  refine jr_putF (ty := .object RX0) hE dX9_init_30 f21 g36 rfl hinit rfl (by decide +kernel) rfl rfl (Nat.le_of_ble_eq_true rfl) (fun F37 g38 u39 => ?_)
  have g38 : jF L30 F37 o (.inr (9, [.ref q1, .ref q12, .ref q23, .long (0 : Int64)])) := g38
  have g40 := g35.put u39
  refine jr_aload_n hE dX9_init_33 0 rfl ?_
  refine jr_lconst (v := (0 : Int64)) hE dX9_init_34 (by decide) ?_
  refine jr_put (ty := .long) hE dX9_init_35 f25 g38 rfl (by decide +kernel) rfl rfl (Nat.le_of_ble_eq_true rfl) (fun F41 g42 u43 => ?_)
  have g42 : jF L30 F41 o (.inr (9, [.ref q1, .ref q12, .ref q23, .long (0 : Int64)])) := g42
  have g44 := g40.put u43
  exact hR L30 F41 _ _ dX9_init_38 ⟨_, g44.fin (fls (fls (fls (fls fls0 rfl) rfl) rfl) rfl), g42.2⟩

def tX3 (G : Nat → ClassId) (A : Nat → Nat) : Nat → va_E := (ext 9 (ext 5 (ext 3 (fun i => [(.inr (0, [.ref (A 1), .int 0])), (.inl (G 0, 32, .inl (fun _ => 0))), (.inr (0, [.ref (A 3), .int 0]))].getD i zC) (fun i => [(.inl (G 0, 40, .inl (fun _ => 0))), (.inr (0, [.ref (A 5), .int 0]))].getD i zC)) (fun i => [(.inl (G 0, 64, .inl (fun _ => 0))), (.inr (8, [.ref (A 7)])), (.inl (G 2, 9, .inr (.inl (fun _ => 0)))), (.inr (8, [.ref (A 9)]))].getD i zC)) (ext 5 (ext 3 (fun i => [(.inl (G 2, 9, .inr (.inl (fun _ => 0)))), (.inr (6, [.ref (A 11), .ref (A 12), .ref (A 13), .int (1 : Int32)])), zC].getD i zC) (fun i => [zC, zC].getD i zC)) (fun i => [(.inr (6, [.ref (A 15), .ref (A 16), .ref (A 17), .int (1 : Int32)])), zC, zC, zC].getD i zC)))

set_option maxHeartbeats 4000000 in
set_option maxRecDepth 100000 in
theorem c_i3 (l : Launch) (G : Nat → ClassId) (o : Nat) : jCv l yX3_init wsX3_init ({ frames := 3, cells := 18, slots := 224, locals := 60 }) (18) (224) G [.ref o] (fun L F => jF L F o (.inr (3, [.null, .null, .null, .null, .null, .null, .null]))) (fun L F L1 F1 => ∃ A, gS L F o 18 A (tX3 G A) L1 F1 ∧ F1 o = (.inr (3, [.ref (A 0), .ref (A 2), .ref (A 4), .ref (A 6), .ref (A 8), .ref (A 10), .ref (A 14)]))) := by
  refine jm_vI (cc := cX3_init) (maxL := 1) (by decide) rfl (Nat.le_of_ble_eq_true rfl) rfl ?_
  intro E L F hE hinit hR hpre
  have hE : jOk E G _ cX3_init 1 RX3 wsX3_init := hE
  have ho := hpre
  have f14 : jFl RX3 wsX3_init 14 3 0 := ⟨rfl, by decide, by decide +kernel, by decide +kernel⟩
  have f20 : jFl RX3 wsX3_init 20 3 1 := ⟨rfl, by decide, by decide +kernel, by decide +kernel⟩
  have f23 : jFl RX3 wsX3_init 23 3 2 := ⟨rfl, by decide, by decide +kernel, by decide +kernel⟩
  have f29 : jFl RX3 wsX3_init 29 3 3 := ⟨rfl, by decide, by decide +kernel, by decide +kernel⟩
  have f33 : jFl RX3 wsX3_init 33 3 4 := ⟨rfl, by decide, by decide +kernel, by decide +kernel⟩
  have f39 : jFl RX3 wsX3_init 39 3 5 := ⟨rfl, by decide, by decide +kernel, by decide +kernel⟩
  have f43 : jFl RX3 wsX3_init 43 3 6 := ⟨rfl, by decide, by decide +kernel, by decide +kernel⟩
  refine jr_aload_n hE dX3_init_0 0 rfl ?_
  refine jr_objInit hE dX3_init_1 (by decide +kernel) (by decide +kernel) (by decide +kernel) ⟨Nat.le_of_ble_eq_true rfl, Nat.le_of_ble_eq_true rfl⟩ (Nat.le_of_ble_eq_true rfl) ?_
  refine jr_aload_n hE dX3_init_4 0 rfl ?_
  refine jr_new (ci := 0) (fs := [.null, .int 0]) hE dX3_init_5 rfl (by decide +kernel) (by decide +kernel) (by decide +kernel) (by decide +kernel) dfX0 ⟨by decide, by decide⟩ (fun q1 F2 n3 g4 u5 => ?_)
  have g6 := (gS.nil (fun _ => 0) (fun _ => zC) ho.1).new n3 g4 u5
  have g7 := ho.nw n3 u5
  refine jr_dup hE dX3_init_8 rfl ?_
  refine jr_bipush (v := (32 : Int32)) hE dX3_init_9 (by decide) ?_
  have e11 : jF (L ++ [q1]) F2 q1 (.inr (0, [.null, .int 0])) := g6.at 0 (by decide)
  refine jr_callIv (n := 1) (As := [.int (32 : Int32)]) (rest := [.ref q1, .ref o]) hE dX3_init_11 (fun l => c_i0 l G q1 32) ggX3_init_X0_init (by decide +kernel) (by decide +kernel) (by decide +kernel) rfl rfl ⟨by decide, by decide, by decide +kernel⟩ ⟨rfl, rfl, by decide, by decide⟩ ⟨by decide, by decide⟩ rfl rfl (Nat.le_of_ble_eq_true rfl) (⟨e11, by decide⟩) (fun L8 F9 q10 => ?_)
  obtain ⟨B12, gB12, hB12⟩ := q10
  have g14 := g6.oC (k := 0) (by decide) gB12 g7
  have g13 := g6.call (k := 0) (by decide) gB12 hB12
  refine jr_putF (ty := .object RX0) hE dX3_init_14 f14 g14 rfl hinit rfl (by decide +kernel) rfl rfl (Nat.le_of_ble_eq_true rfl) (fun F15 g16 u17 => ?_)
  have g16 : jF L8 F15 o (.inr (3, [.ref q1, .null, .null, .null, .null, .null, .null])) := g16
  have g18 := g13.put u17
  refine jr_aload_n hE dX3_init_17 0 rfl ?_
  refine jr_new (ci := 0) (fs := [.null, .int 0]) hE dX3_init_18 rfl (by decide +kernel) (by decide +kernel) (by decide +kernel) (by decide +kernel) dfX0 ⟨by decide, by decide⟩ (fun q19 F20 n21 g22 u23 => ?_)
  have g24 := g18.new n21 g22 u23
  have g25 := g16.nw n21 u23
  refine jr_dup hE dX3_init_21 rfl ?_
  refine jr_bipush (v := (40 : Int32)) hE dX3_init_22 (by decide) ?_
  have e29 : jF (L8 ++ [q19]) F20 q19 (.inr (0, [.null, .int 0])) := g24.at 2 (by decide)
  refine jr_callIv (n := 1) (As := [.int (40 : Int32)]) (rest := [.ref q19, .ref o]) hE dX3_init_24 (fun l => c_i0 l G q19 40) ggX3_init_X0_init (by decide +kernel) (by decide +kernel) (by decide +kernel) rfl rfl ⟨by decide, by decide, by decide +kernel⟩ ⟨rfl, rfl, by decide, by decide⟩ ⟨by decide, by decide⟩ rfl rfl (Nat.le_of_ble_eq_true rfl) (⟨e29, by decide⟩) (fun L26 F27 q28 => ?_)
  obtain ⟨B30, gB30, hB30⟩ := q28
  have g32 := g24.oC (k := 2) (by decide) gB30 g25
  have g31 := g24.call (k := 2) (by decide) gB30 hB30
  refine jr_putF (ty := .object RX0) hE dX3_init_27 f20 g32 rfl hinit rfl (by decide +kernel) rfl rfl (Nat.le_of_ble_eq_true rfl) (fun F33 g34 u35 => ?_)
  have g34 : jF L26 F33 o (.inr (3, [.ref q1, .ref q19, .null, .null, .null, .null, .null])) := g34
  have g36 := g31.put u35
  refine jr_aload_n hE dX3_init_30 0 rfl ?_
  refine jr_new (ci := 0) (fs := [.null, .int 0]) hE dX3_init_31 rfl (by decide +kernel) (by decide +kernel) (by decide +kernel) (by decide +kernel) dfX0 ⟨by decide, by decide⟩ (fun q37 F38 n39 g40 u41 => ?_)
  have g42 := g36.new n39 g40 u41
  have g43 := g34.nw n39 u41
  refine jr_dup hE dX3_init_34 rfl ?_
  refine jr_bipush (v := (64 : Int32)) hE dX3_init_35 (by decide) ?_
  have e47 : jF (L26 ++ [q37]) F38 q37 (.inr (0, [.null, .int 0])) := g42.at 4 (by decide)
  refine jr_callIv (n := 1) (As := [.int (64 : Int32)]) (rest := [.ref q37, .ref o]) hE dX3_init_37 (fun l => c_i0 l G q37 64) ggX3_init_X0_init (by decide +kernel) (by decide +kernel) (by decide +kernel) rfl rfl ⟨by decide, by decide, by decide +kernel⟩ ⟨rfl, rfl, by decide, by decide⟩ ⟨by decide, by decide⟩ rfl rfl (Nat.le_of_ble_eq_true rfl) (⟨e47, by decide⟩) (fun L44 F45 q46 => ?_)
  obtain ⟨B48, gB48, hB48⟩ := q46
  have g50 := g42.oC (k := 4) (by decide) gB48 g43
  have g49 := g42.call (k := 4) (by decide) gB48 hB48
  refine jr_putF (ty := .object RX0) hE dX3_init_40 f23 g50 rfl hinit rfl (by decide +kernel) rfl rfl (Nat.le_of_ble_eq_true rfl) (fun F51 g52 u53 => ?_)
  have g52 : jF L44 F51 o (.inr (3, [.ref q1, .ref q19, .ref q37, .null, .null, .null, .null])) := g52
  have g54 := g49.put u53
  refine jr_aload_n hE dX3_init_43 0 rfl ?_
  refine jr_new (ci := 8) (fs := [.null]) hE dX3_init_44 rfl (by decide +kernel) (by decide +kernel) (by decide +kernel) (by decide +kernel) dfX8 ⟨by decide, by decide⟩ (fun q55 F56 n57 g58 u59 => ?_)
  have g60 := g54.new n57 g58 u59
  have g61 := g52.nw n57 u59
  refine jr_dup hE dX3_init_47 rfl ?_
  have e65 : jF (L44 ++ [q55]) F56 q55 (.inr (8, [.null])) := g60.at 6 (by decide)
  refine jr_callNv (n := 0) (As := []) (rest := [.ref q55, .ref o]) hE dX3_init_48 (fun l => c_i8 l G q55) ggX3_init_X8_init (by decide +kernel) (by decide) (by decide +kernel) rfl rfl ⟨by decide, by decide, by decide +kernel⟩ ⟨rfl, rfl, by decide, by decide⟩ ⟨by decide, by decide⟩ rfl rfl (Nat.le_of_ble_eq_true rfl) (e65) (fun L62 F63 q64 => ?_)
  obtain ⟨B66, gB66, hB66⟩ := q64
  have g68 := g60.oC (k := 6) (by decide) gB66 g61
  have g67 := g60.call (k := 6) (by decide) gB66 hB66
  refine jr_putF (ty := .object RX8) hE dX3_init_51 f29 g68 rfl hinit rfl (by decide +kernel) rfl rfl (Nat.le_of_ble_eq_true rfl) (fun F69 g70 u71 => ?_)
  have g70 : jF L62 F69 o (.inr (3, [.ref q1, .ref q19, .ref q37, .ref q55, .null, .null, .null])) := g70
  have g72 := g67.put u71
  refine jr_aload_n hE dX3_init_54 0 rfl ?_
  refine jr_new (ci := 8) (fs := [.null]) hE dX3_init_55 rfl (by decide +kernel) (by decide +kernel) (by decide +kernel) (by decide +kernel) dfX8 ⟨by decide, by decide⟩ (fun q73 F74 n75 g76 u77 => ?_)
  have g78 := g72.new n75 g76 u77
  have g79 := g70.nw n75 u77
  refine jr_dup hE dX3_init_58 rfl ?_
  have e83 : jF (L62 ++ [q73]) F74 q73 (.inr (8, [.null])) := g78.at 8 (by decide)
  refine jr_callNv (n := 0) (As := []) (rest := [.ref q73, .ref o]) hE dX3_init_59 (fun l => c_i8 l G q73) ggX3_init_X8_init (by decide +kernel) (by decide) (by decide +kernel) rfl rfl ⟨by decide, by decide, by decide +kernel⟩ ⟨rfl, rfl, by decide, by decide⟩ ⟨by decide, by decide⟩ rfl rfl (Nat.le_of_ble_eq_true rfl) (e83) (fun L80 F81 q82 => ?_)
  obtain ⟨B84, gB84, hB84⟩ := q82
  have g86 := g78.oC (k := 8) (by decide) gB84 g79
  have g85 := g78.call (k := 8) (by decide) gB84 hB84
  refine jr_putF (ty := .object RX8) hE dX3_init_62 f33 g86 rfl hinit rfl (by decide +kernel) rfl rfl (Nat.le_of_ble_eq_true rfl) (fun F87 g88 u89 => ?_)
  have g88 : jF L80 F87 o (.inr (3, [.ref q1, .ref q19, .ref q37, .ref q55, .ref q73, .null, .null])) := g88
  have g90 := g85.put u89
  refine jr_aload_n hE dX3_init_65 0 rfl ?_
  refine jr_new (ci := 6) (fs := [.null, .null, .null, .int 0]) hE dX3_init_66 rfl (by decide +kernel) (by decide +kernel) (by decide +kernel) (by decide +kernel) dfX6 ⟨by decide, by decide⟩ (fun q91 F92 n93 g94 u95 => ?_)
  have g96 := g90.new n93 g94 u95
  have g97 := g88.nw n93 u95
  refine jr_dup hE dX3_init_69 rfl ?_
  have e101 : jF (L80 ++ [q91]) F92 q91 (.inr (6, [.null, .null, .null, .int 0])) := g96.at 10 (by decide)
  refine jr_callNv (n := 0) (As := []) (rest := [.ref q91, .ref o]) hE dX3_init_70 (fun l => c_i6 l G q91) ggX3_init_X6_init (by decide +kernel) (by decide) (by decide +kernel) rfl rfl ⟨by decide, by decide, by decide +kernel⟩ ⟨rfl, rfl, by decide, by decide⟩ ⟨by decide, by decide⟩ rfl rfl (Nat.le_of_ble_eq_true rfl) (e101) (fun L98 F99 q100 => ?_)
  obtain ⟨B102, gB102, hB102⟩ := q100
  have g104 := g96.oC (k := 10) (by decide) gB102 g97
  have g103 := g96.call (k := 10) (by decide) gB102 hB102
  refine jr_putF (ty := .object RX6) hE dX3_init_73 f39 g104 rfl hinit rfl (by decide +kernel) rfl rfl (Nat.le_of_ble_eq_true rfl) (fun F105 g106 u107 => ?_)
  have g106 : jF L98 F105 o (.inr (3, [.ref q1, .ref q19, .ref q37, .ref q55, .ref q73, .ref q91, .null])) := g106
  have g108 := g103.put u107
  refine jr_aload_n hE dX3_init_76 0 rfl ?_
  refine jr_new (ci := 6) (fs := [.null, .null, .null, .int 0]) hE dX3_init_77 rfl (by decide +kernel) (by decide +kernel) (by decide +kernel) (by decide +kernel) dfX6 ⟨by decide, by decide⟩ (fun q109 F110 n111 g112 u113 => ?_)
  have g114 := g108.new n111 g112 u113
  have g115 := g106.nw n111 u113
  refine jr_dup hE dX3_init_80 rfl ?_
  have e119 : jF (L98 ++ [q109]) F110 q109 (.inr (6, [.null, .null, .null, .int 0])) := g114.at 14 (by decide)
  refine jr_callNv (n := 0) (As := []) (rest := [.ref q109, .ref o]) hE dX3_init_81 (fun l => c_i6 l G q109) ggX3_init_X6_init (by decide +kernel) (by decide) (by decide +kernel) rfl rfl ⟨by decide, by decide, by decide +kernel⟩ ⟨rfl, rfl, by decide, by decide⟩ ⟨by decide, by decide⟩ rfl rfl (Nat.le_of_ble_eq_true rfl) (e119) (fun L116 F117 q118 => ?_)
  obtain ⟨B120, gB120, hB120⟩ := q118
  have g122 := g114.oC (k := 14) (by decide) gB120 g115
  have g121 := g114.call (k := 14) (by decide) gB120 hB120
  refine jr_putF (ty := .object RX6) hE dX3_init_84 f43 g122 rfl hinit rfl (by decide +kernel) rfl rfl (Nat.le_of_ble_eq_true rfl) (fun F123 g124 u125 => ?_)
  have g124 : jF L116 F123 o (.inr (3, [.ref q1, .ref q19, .ref q37, .ref q55, .ref q73, .ref q91, .ref q109])) := g124
  have g126 := g121.put u125
  exact hR L116 F123 _ _ dX3_init_87 ⟨_, g126.fin (fls (fls (fls (fls (fls (fls (fls (fls (fls (fls (fls (fls (fls (fls (fls (fls (fls (fls fls0 rfl) rfl) rfl) rfl) rfl) rfl) rfl) rfl) rfl) rfl) rfl) rfl) rfl) rfl) rfl) rfl) rfl) rfl), g124.2⟩

def tX5 (G : Nat → ClassId) (A : Nat → Nat) : Nat → va_E := (ext 12 (ext 6 (ext 3 (fun i => [(.inr (0, [.ref (A 1), .int 0])), (.inl (G 0, 33, .inl (fun _ => 0))), (.inr (6, [.ref (A 3), .ref (A 4), .ref (A 5), .int (1 : Int32)]))].getD i zC) (fun i => [zC, zC, zC].getD i zC)) (ext 3 (fun i => [(.inr (8, [.ref (A 7)])), (.inl (G 2, 9, .inr (.inl (fun _ => 0)))), (.inr (8, [.ref (A 9)]))].getD i zC) (fun i => [(.inl (G 2, 9, .inr (.inl (fun _ => 0)))), (.inr (8, [.ref (A 11)])), (.inl (G 2, 9, .inr (.inl (fun _ => 0))))].getD i zC))) (ext 6 (ext 3 (fun i => [(.inr (0, [.ref (A 13), .int 0])), (.inl (G 0, 66, .inl (fun _ => 0))), (.inr (0, [.ref (A 15), .int 0]))].getD i zC) (fun i => [(.inl (G 0, 66, .inl (fun _ => 0))), (.inr (6, [.ref (A 17), .ref (A 18), .ref (A 19), .int (1 : Int32)])), zC].getD i zC)) (ext 3 (fun i => [zC, zC, (.inr (6, [.ref (A 21), .ref (A 22), .ref (A 23), .int (1 : Int32)]))].getD i zC) (fun i => [zC, zC, zC].getD i zC))))

set_option maxHeartbeats 4000000 in
set_option maxRecDepth 100000 in
theorem c_i5 (l : Launch) (G : Nat → ClassId) (o : Nat) : jCv l yX5_init wsX5_init ({ frames := 3, cells := 24, slots := 294, locals := 60 }) (24) (294) G [.ref o] (fun L F => jF L F o (.inr (5, [.null, .null, .null, .int 0, .null, .null, .null, .int 0, .null, .null, .null]))) (fun L F L1 F1 => ∃ A, gS L F o 24 A (tX5 G A) L1 F1 ∧ F1 o = (.inr (5, [.ref (A 0), .ref (A 2), .ref (A 6), .int (0 : Int32), .ref (A 8), .ref (A 10), .ref (A 12), .int (0 : Int32), .ref (A 14), .ref (A 16), .ref (A 20)]))) := by
  refine jm_vI (cc := cX5_init) (maxL := 1) (by decide) rfl (Nat.le_of_ble_eq_true rfl) rfl ?_
  intro E L F hE hinit hR hpre
  have hE : jOk E G _ cX5_init 1 RX5 wsX5_init := hE
  have ho := hpre
  have f12 : jFl RX5 wsX5_init 12 5 0 := ⟨rfl, by decide, by decide +kernel, by decide +kernel⟩
  have f21 : jFl RX5 wsX5_init 21 5 1 := ⟨rfl, by decide, by decide +kernel, by decide +kernel⟩
  have f28 : jFl RX5 wsX5_init 28 5 2 := ⟨rfl, by decide, by decide +kernel, by decide +kernel⟩
  have f32 : jFl RX5 wsX5_init 32 5 3 := ⟨rfl, by decide, by decide +kernel, by decide +kernel⟩
  have f36 : jFl RX5 wsX5_init 36 5 4 := ⟨rfl, by decide, by decide +kernel, by decide +kernel⟩
  have f39 : jFl RX5 wsX5_init 39 5 5 := ⟨rfl, by decide, by decide +kernel, by decide +kernel⟩
  have f42 : jFl RX5 wsX5_init 42 5 6 := ⟨rfl, by decide, by decide +kernel, by decide +kernel⟩
  have f45 : jFl RX5 wsX5_init 45 5 7 := ⟨rfl, by decide, by decide +kernel, by decide +kernel⟩
  have f48 : jFl RX5 wsX5_init 48 5 8 := ⟨rfl, by decide, by decide +kernel, by decide +kernel⟩
  have f51 : jFl RX5 wsX5_init 51 5 9 := ⟨rfl, by decide, by decide +kernel, by decide +kernel⟩
  have f54 : jFl RX5 wsX5_init 54 5 10 := ⟨rfl, by decide, by decide +kernel, by decide +kernel⟩
  refine jr_aload_n hE dX5_init_0 0 rfl ?_
  refine jr_objInit hE dX5_init_1 (by decide +kernel) (by decide +kernel) (by decide +kernel) ⟨Nat.le_of_ble_eq_true rfl, Nat.le_of_ble_eq_true rfl⟩ (Nat.le_of_ble_eq_true rfl) ?_
  refine jr_aload_n hE dX5_init_4 0 rfl ?_
  refine jr_new (ci := 0) (fs := [.null, .int 0]) hE dX5_init_5 rfl (by decide +kernel) (by decide +kernel) (by decide +kernel) (by decide +kernel) dfX0 ⟨by decide, by decide⟩ (fun q1 F2 n3 g4 u5 => ?_)
  have g6 := (gS.nil (fun _ => 0) (fun _ => zC) ho.1).new n3 g4 u5
  have g7 := ho.nw n3 u5
  refine jr_dup hE dX5_init_8 rfl ?_
  refine jr_bipush (v := (33 : Int32)) hE dX5_init_9 (by decide) ?_
  have e11 : jF (L ++ [q1]) F2 q1 (.inr (0, [.null, .int 0])) := g6.at 0 (by decide)
  refine jr_callIv (n := 1) (As := [.int (33 : Int32)]) (rest := [.ref q1, .ref o]) hE dX5_init_11 (fun l => c_i0 l G q1 33) ggX5_init_X0_init (by decide +kernel) (by decide +kernel) (by decide +kernel) rfl rfl ⟨by decide, by decide, by decide +kernel⟩ ⟨rfl, rfl, by decide, by decide⟩ ⟨by decide, by decide⟩ rfl rfl (Nat.le_of_ble_eq_true rfl) (⟨e11, by decide⟩) (fun L8 F9 q10 => ?_)
  obtain ⟨B12, gB12, hB12⟩ := q10
  have g14 := g6.oC (k := 0) (by decide) gB12 g7
  have g13 := g6.call (k := 0) (by decide) gB12 hB12
  refine jr_putF (ty := .object RX0) hE dX5_init_14 f12 g14 rfl hinit rfl (by decide +kernel) rfl rfl (Nat.le_of_ble_eq_true rfl) (fun F15 g16 u17 => ?_)
  have g16 : jF L8 F15 o (.inr (5, [.ref q1, .null, .null, .int (0 : Int32), .null, .null, .null, .int (0 : Int32), .null, .null, .null])) := g16
  have g18 := g13.put u17
  refine jr_aload_n hE dX5_init_17 0 rfl ?_
  refine jr_new (ci := 6) (fs := [.null, .null, .null, .int 0]) hE dX5_init_18 rfl (by decide +kernel) (by decide +kernel) (by decide +kernel) (by decide +kernel) dfX6 ⟨by decide, by decide⟩ (fun q19 F20 n21 g22 u23 => ?_)
  have g24 := g18.new n21 g22 u23
  have g25 := g16.nw n21 u23
  refine jr_dup hE dX5_init_21 rfl ?_
  have e29 : jF (L8 ++ [q19]) F20 q19 (.inr (6, [.null, .null, .null, .int 0])) := g24.at 2 (by decide)
  refine jr_callNv (n := 0) (As := []) (rest := [.ref q19, .ref o]) hE dX5_init_22 (fun l => c_i6 l G q19) ggX5_init_X6_init (by decide +kernel) (by decide) (by decide +kernel) rfl rfl ⟨by decide, by decide, by decide +kernel⟩ ⟨rfl, rfl, by decide, by decide⟩ ⟨by decide, by decide⟩ rfl rfl (Nat.le_of_ble_eq_true rfl) (e29) (fun L26 F27 q28 => ?_)
  obtain ⟨B30, gB30, hB30⟩ := q28
  have g32 := g24.oC (k := 2) (by decide) gB30 g25
  have g31 := g24.call (k := 2) (by decide) gB30 hB30
  refine jr_putF (ty := .object RX6) hE dX5_init_25 f21 g32 rfl hinit rfl (by decide +kernel) rfl rfl (Nat.le_of_ble_eq_true rfl) (fun F33 g34 u35 => ?_)
  have g34 : jF L26 F33 o (.inr (5, [.ref q1, .ref q19, .null, .int (0 : Int32), .null, .null, .null, .int (0 : Int32), .null, .null, .null])) := g34
  have g36 := g31.put u35
  refine jr_aload_n hE dX5_init_28 0 rfl ?_
  refine jr_new (ci := 8) (fs := [.null]) hE dX5_init_29 rfl (by decide +kernel) (by decide +kernel) (by decide +kernel) (by decide +kernel) dfX8 ⟨by decide, by decide⟩ (fun q37 F38 n39 g40 u41 => ?_)
  have g42 := g36.new n39 g40 u41
  have g43 := g34.nw n39 u41
  refine jr_dup hE dX5_init_32 rfl ?_
  have e47 : jF (L26 ++ [q37]) F38 q37 (.inr (8, [.null])) := g42.at 6 (by decide)
  refine jr_callNv (n := 0) (As := []) (rest := [.ref q37, .ref o]) hE dX5_init_33 (fun l => c_i8 l G q37) ggX5_init_X8_init (by decide +kernel) (by decide) (by decide +kernel) rfl rfl ⟨by decide, by decide, by decide +kernel⟩ ⟨rfl, rfl, by decide, by decide⟩ ⟨by decide, by decide⟩ rfl rfl (Nat.le_of_ble_eq_true rfl) (e47) (fun L44 F45 q46 => ?_)
  obtain ⟨B48, gB48, hB48⟩ := q46
  have g50 := g42.oC (k := 6) (by decide) gB48 g43
  have g49 := g42.call (k := 6) (by decide) gB48 hB48
  refine jr_putF (ty := .object RX8) hE dX5_init_36 f28 g50 rfl hinit rfl (by decide +kernel) rfl rfl (Nat.le_of_ble_eq_true rfl) (fun F51 g52 u53 => ?_)
  have g52 : jF L44 F51 o (.inr (5, [.ref q1, .ref q19, .ref q37, .int (0 : Int32), .null, .null, .null, .int (0 : Int32), .null, .null, .null])) := g52
  have g54 := g49.put u53
  refine jr_aload_n hE dX5_init_39 0 rfl ?_
  refine jr_iconst (v := (0 : Int32)) hE dX5_init_40 (by decide) ?_
  refine jr_put (ty := .boolean) hE dX5_init_41 f32 g52 rfl (by decide +kernel) rfl rfl (Nat.le_of_ble_eq_true rfl) (fun F55 g56 u57 => ?_)
  have g56 : jF L44 F55 o (.inr (5, [.ref q1, .ref q19, .ref q37, .int (0 : Int32), .null, .null, .null, .int (0 : Int32), .null, .null, .null])) := g56
  have g58 := g54.put u57
  refine jr_aload_n hE dX5_init_44 0 rfl ?_
  refine jr_new (ci := 8) (fs := [.null]) hE dX5_init_45 rfl (by decide +kernel) (by decide +kernel) (by decide +kernel) (by decide +kernel) dfX8 ⟨by decide, by decide⟩ (fun q59 F60 n61 g62 u63 => ?_)
  have g64 := g58.new n61 g62 u63
  have g65 := g56.nw n61 u63
  refine jr_dup hE dX5_init_48 rfl ?_
  have e69 : jF (L44 ++ [q59]) F60 q59 (.inr (8, [.null])) := g64.at 8 (by decide)
  refine jr_callNv (n := 0) (As := []) (rest := [.ref q59, .ref o]) hE dX5_init_49 (fun l => c_i8 l G q59) ggX5_init_X8_init (by decide +kernel) (by decide) (by decide +kernel) rfl rfl ⟨by decide, by decide, by decide +kernel⟩ ⟨rfl, rfl, by decide, by decide⟩ ⟨by decide, by decide⟩ rfl rfl (Nat.le_of_ble_eq_true rfl) (e69) (fun L66 F67 q68 => ?_)
  obtain ⟨B70, gB70, hB70⟩ := q68
  have g72 := g64.oC (k := 8) (by decide) gB70 g65
  have g71 := g64.call (k := 8) (by decide) gB70 hB70
  refine jr_putF (ty := .object RX8) hE dX5_init_52 f36 g72 rfl hinit rfl (by decide +kernel) rfl rfl (Nat.le_of_ble_eq_true rfl) (fun F73 g74 u75 => ?_)
  have g74 : jF L66 F73 o (.inr (5, [.ref q1, .ref q19, .ref q37, .int (0 : Int32), .ref q59, .null, .null, .int (0 : Int32), .null, .null, .null])) := g74
  have g76 := g71.put u75
  refine jr_aload_n hE dX5_init_55 0 rfl ?_
  refine jr_new (ci := 8) (fs := [.null]) hE dX5_init_56 rfl (by decide +kernel) (by decide +kernel) (by decide +kernel) (by decide +kernel) dfX8 ⟨by decide, by decide⟩ (fun q77 F78 n79 g80 u81 => ?_)
  have g82 := g76.new n79 g80 u81
  have g83 := g74.nw n79 u81
  refine jr_dup hE dX5_init_59 rfl ?_
  have e87 : jF (L66 ++ [q77]) F78 q77 (.inr (8, [.null])) := g82.at 10 (by decide)
  refine jr_callNv (n := 0) (As := []) (rest := [.ref q77, .ref o]) hE dX5_init_60 (fun l => c_i8 l G q77) ggX5_init_X8_init (by decide +kernel) (by decide) (by decide +kernel) rfl rfl ⟨by decide, by decide, by decide +kernel⟩ ⟨rfl, rfl, by decide, by decide⟩ ⟨by decide, by decide⟩ rfl rfl (Nat.le_of_ble_eq_true rfl) (e87) (fun L84 F85 q86 => ?_)
  obtain ⟨B88, gB88, hB88⟩ := q86
  have g90 := g82.oC (k := 10) (by decide) gB88 g83
  have g89 := g82.call (k := 10) (by decide) gB88 hB88
  refine jr_putF (ty := .object RX8) hE dX5_init_63 f39 g90 rfl hinit rfl (by decide +kernel) rfl rfl (Nat.le_of_ble_eq_true rfl) (fun F91 g92 u93 => ?_)
  have g92 : jF L84 F91 o (.inr (5, [.ref q1, .ref q19, .ref q37, .int (0 : Int32), .ref q59, .ref q77, .null, .int (0 : Int32), .null, .null, .null])) := g92
  have g94 := g89.put u93
  refine jr_aload_n hE dX5_init_66 0 rfl ?_
  refine jr_new (ci := 0) (fs := [.null, .int 0]) hE dX5_init_67 rfl (by decide +kernel) (by decide +kernel) (by decide +kernel) (by decide +kernel) dfX0 ⟨by decide, by decide⟩ (fun q95 F96 n97 g98 u99 => ?_)
  have g100 := g94.new n97 g98 u99
  have g101 := g92.nw n97 u99
  refine jr_dup hE dX5_init_70 rfl ?_
  refine jr_bipush (v := (66 : Int32)) hE dX5_init_71 (by decide) ?_
  have e105 : jF (L84 ++ [q95]) F96 q95 (.inr (0, [.null, .int 0])) := g100.at 12 (by decide)
  refine jr_callIv (n := 1) (As := [.int (66 : Int32)]) (rest := [.ref q95, .ref o]) hE dX5_init_73 (fun l => c_i0 l G q95 66) ggX5_init_X0_init (by decide +kernel) (by decide +kernel) (by decide +kernel) rfl rfl ⟨by decide, by decide, by decide +kernel⟩ ⟨rfl, rfl, by decide, by decide⟩ ⟨by decide, by decide⟩ rfl rfl (Nat.le_of_ble_eq_true rfl) (⟨e105, by decide⟩) (fun L102 F103 q104 => ?_)
  obtain ⟨B106, gB106, hB106⟩ := q104
  have g108 := g100.oC (k := 12) (by decide) gB106 g101
  have g107 := g100.call (k := 12) (by decide) gB106 hB106
  refine jr_putF (ty := .object RX0) hE dX5_init_76 f42 g108 rfl hinit rfl (by decide +kernel) rfl rfl (Nat.le_of_ble_eq_true rfl) (fun F109 g110 u111 => ?_)
  have g110 : jF L102 F109 o (.inr (5, [.ref q1, .ref q19, .ref q37, .int (0 : Int32), .ref q59, .ref q77, .ref q95, .int (0 : Int32), .null, .null, .null])) := g110
  have g112 := g107.put u111
  refine jr_aload_n hE dX5_init_79 0 rfl ?_
  refine jr_iconst (v := (0 : Int32)) hE dX5_init_80 (by decide) ?_
  refine jr_put (ty := .boolean) hE dX5_init_81 f45 g110 rfl (by decide +kernel) rfl rfl (Nat.le_of_ble_eq_true rfl) (fun F113 g114 u115 => ?_)
  have g114 : jF L102 F113 o (.inr (5, [.ref q1, .ref q19, .ref q37, .int (0 : Int32), .ref q59, .ref q77, .ref q95, .int (0 : Int32), .null, .null, .null])) := g114
  have g116 := g112.put u115
  refine jr_aload_n hE dX5_init_84 0 rfl ?_
  refine jr_new (ci := 0) (fs := [.null, .int 0]) hE dX5_init_85 rfl (by decide +kernel) (by decide +kernel) (by decide +kernel) (by decide +kernel) dfX0 ⟨by decide, by decide⟩ (fun q117 F118 n119 g120 u121 => ?_)
  have g122 := g116.new n119 g120 u121
  have g123 := g114.nw n119 u121
  refine jr_dup hE dX5_init_88 rfl ?_
  refine jr_bipush (v := (66 : Int32)) hE dX5_init_89 (by decide) ?_
  have e127 : jF (L102 ++ [q117]) F118 q117 (.inr (0, [.null, .int 0])) := g122.at 14 (by decide)
  refine jr_callIv (n := 1) (As := [.int (66 : Int32)]) (rest := [.ref q117, .ref o]) hE dX5_init_91 (fun l => c_i0 l G q117 66) ggX5_init_X0_init (by decide +kernel) (by decide +kernel) (by decide +kernel) rfl rfl ⟨by decide, by decide, by decide +kernel⟩ ⟨rfl, rfl, by decide, by decide⟩ ⟨by decide, by decide⟩ rfl rfl (Nat.le_of_ble_eq_true rfl) (⟨e127, by decide⟩) (fun L124 F125 q126 => ?_)
  obtain ⟨B128, gB128, hB128⟩ := q126
  have g130 := g122.oC (k := 14) (by decide) gB128 g123
  have g129 := g122.call (k := 14) (by decide) gB128 hB128
  refine jr_putF (ty := .object RX0) hE dX5_init_94 f48 g130 rfl hinit rfl (by decide +kernel) rfl rfl (Nat.le_of_ble_eq_true rfl) (fun F131 g132 u133 => ?_)
  have g132 : jF L124 F131 o (.inr (5, [.ref q1, .ref q19, .ref q37, .int (0 : Int32), .ref q59, .ref q77, .ref q95, .int (0 : Int32), .ref q117, .null, .null])) := g132
  have g134 := g129.put u133
  refine jr_aload_n hE dX5_init_97 0 rfl ?_
  refine jr_new (ci := 6) (fs := [.null, .null, .null, .int 0]) hE dX5_init_98 rfl (by decide +kernel) (by decide +kernel) (by decide +kernel) (by decide +kernel) dfX6 ⟨by decide, by decide⟩ (fun q135 F136 n137 g138 u139 => ?_)
  have g140 := g134.new n137 g138 u139
  have g141 := g132.nw n137 u139
  refine jr_dup hE dX5_init_101 rfl ?_
  have e145 : jF (L124 ++ [q135]) F136 q135 (.inr (6, [.null, .null, .null, .int 0])) := g140.at 16 (by decide)
  refine jr_callNv (n := 0) (As := []) (rest := [.ref q135, .ref o]) hE dX5_init_102 (fun l => c_i6 l G q135) ggX5_init_X6_init (by decide +kernel) (by decide) (by decide +kernel) rfl rfl ⟨by decide, by decide, by decide +kernel⟩ ⟨rfl, rfl, by decide, by decide⟩ ⟨by decide, by decide⟩ rfl rfl (Nat.le_of_ble_eq_true rfl) (e145) (fun L142 F143 q144 => ?_)
  obtain ⟨B146, gB146, hB146⟩ := q144
  have g148 := g140.oC (k := 16) (by decide) gB146 g141
  have g147 := g140.call (k := 16) (by decide) gB146 hB146
  refine jr_putF (ty := .object RX6) hE dX5_init_105 f51 g148 rfl hinit rfl (by decide +kernel) rfl rfl (Nat.le_of_ble_eq_true rfl) (fun F149 g150 u151 => ?_)
  have g150 : jF L142 F149 o (.inr (5, [.ref q1, .ref q19, .ref q37, .int (0 : Int32), .ref q59, .ref q77, .ref q95, .int (0 : Int32), .ref q117, .ref q135, .null])) := g150
  have g152 := g147.put u151
  refine jr_aload_n hE dX5_init_108 0 rfl ?_
  refine jr_new (ci := 6) (fs := [.null, .null, .null, .int 0]) hE dX5_init_109 rfl (by decide +kernel) (by decide +kernel) (by decide +kernel) (by decide +kernel) dfX6 ⟨by decide, by decide⟩ (fun q153 F154 n155 g156 u157 => ?_)
  have g158 := g152.new n155 g156 u157
  have g159 := g150.nw n155 u157
  refine jr_dup hE dX5_init_112 rfl ?_
  have e163 : jF (L142 ++ [q153]) F154 q153 (.inr (6, [.null, .null, .null, .int 0])) := g158.at 20 (by decide)
  refine jr_callNv (n := 0) (As := []) (rest := [.ref q153, .ref o]) hE dX5_init_113 (fun l => c_i6 l G q153) ggX5_init_X6_init (by decide +kernel) (by decide) (by decide +kernel) rfl rfl ⟨by decide, by decide, by decide +kernel⟩ ⟨rfl, rfl, by decide, by decide⟩ ⟨by decide, by decide⟩ rfl rfl (Nat.le_of_ble_eq_true rfl) (e163) (fun L160 F161 q162 => ?_)
  obtain ⟨B164, gB164, hB164⟩ := q162
  have g166 := g158.oC (k := 20) (by decide) gB164 g159
  have g165 := g158.call (k := 20) (by decide) gB164 hB164
  refine jr_putF (ty := .object RX6) hE dX5_init_116 f54 g166 rfl hinit rfl (by decide +kernel) rfl rfl (Nat.le_of_ble_eq_true rfl) (fun F167 g168 u169 => ?_)
  have g168 : jF L160 F167 o (.inr (5, [.ref q1, .ref q19, .ref q37, .int (0 : Int32), .ref q59, .ref q77, .ref q95, .int (0 : Int32), .ref q117, .ref q135, .ref q153])) := g168
  have g170 := g165.put u169
  exact hR L160 F167 _ _ dX5_init_119 ⟨_, g170.fin (fls (fls (fls (fls (fls (fls (fls (fls (fls (fls (fls (fls (fls (fls (fls (fls (fls (fls (fls (fls (fls (fls (fls (fls fls0 rfl) rfl) rfl) rfl) rfl) rfl) rfl) rfl) rfl) rfl) rfl) rfl) rfl) rfl) rfl) rfl) rfl) rfl) rfl) rfl) rfl) rfl) rfl) rfl), g168.2⟩

