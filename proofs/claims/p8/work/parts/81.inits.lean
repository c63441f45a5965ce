set_option maxHeartbeats 4000000 in
set_option maxRecDepth 100000 in
theorem c_X8_init (l : Launch) (G : Nat → ClassId) (o : Nat) : jCv l yX8_init wsX8_init ({ frames := 1, cells := 1, slots := 9, locals := 20 }) (1) (9) G [.ref o] (fun L F => jF L F o (.inr (8, [.null]))) (fun L F L1 F1 => ∃ h, h ∉ L ∧ L1 = L ++ [h] ∧ jSc G L1 F1 o h 0 ∧ ∀ x, x ≠ o → x ≠ h → F1 x = F x) := by
  refine jm_vI (cc := cX8_init) (maxL := 1) (by decide) rfl (Nat.le_of_ble_eq_true rfl) rfl ?_
  intro E L F hE hinit hR hpre
  have hE : jOk E G _ cX8_init 1 RX8 wsX8_init := hE
  have ho := hpre
  have f7 : jFl RX8 wsX8_init 7 8 0 := ⟨rfl, by decide, by decide +kernel, by decide +kernel⟩
  refine jr_aload_n hE dX8_init_0 0 rfl ?_
  refine jr_objInit hE dX8_init_1 (by decide +kernel) (by decide +kernel) (by decide +kernel) ⟨Nat.le_of_ble_eq_true rfl, Nat.le_of_ble_eq_true rfl⟩ (Nat.le_of_ble_eq_true rfl) ?_
  refine jr_aload_n hE dX8_init_4 0 rfl ?_
  refine jr_bipush (v := (9 : Int32)) hE dX8_init_5 (by decide) ?_
  refine jr_newa (ty := .long) (g := 2) (N := 9) (a0 := (9, .inr (.inl (fun _ => 0)))) hE dX8_init_7 (by decide +kernel) rfl rfl (fun _ e => by cases e) (fun _ => rfl) (by decide) (by decide) (by decide) ⟨by decide, by decide⟩ (fun q1 F2 n5 g3 u4 => ?_)
  have g6 := ho.grow n5 u4
  have g3 : jF (L ++ [q1]) F2 q1 (.inl (G 2, 9, .inr (.inl (fun _ => 0)))) := g3
  refine jr_putF (ty := .array .long) hE dX8_init_9 f7 g6 rfl hinit rfl (by decide +kernel) rfl rfl (Nat.le_of_ble_eq_true rfl) (fun F7 g8 u9 => ?_)
  have g8 : jF (L ++ [q1]) F7 o (.inr (8, [.ref q1])) := g8
  have g10 := g3.upk u9 g6 (Nat.ne_of_beq_eq_false rfl)
  exact hR (L ++ [q1]) F7 _ _ dX8_init_12 ⟨q1, n5, rfl, ⟨_, fun _ => 0, g8, g10, fun _ _ => rfl, fun _ _ => Nat.two_pow_pos 32, Nat.two_pow_pos 34, (dv_zero 9).mp (fun _ _ => rfl)⟩, fun x hx hx2 => (u9 x hx).trans (u4 x hx2)⟩

set_option maxHeartbeats 4000000 in
set_option maxRecDepth 100000 in
theorem c_X1_init (l : Launch) (G : Nat → ClassId) (o : Nat) : jCv l yX1_init wsX1_init ({ frames := 1, cells := 0, slots := 0, locals := 20 }) (0) (0) G [.ref o] (fun L F => True) (fun L F L1 F1 => L1 = L ∧ F1 = F) := by
  refine jm_vI (cc := cX1_init) (maxL := 1) (by decide) rfl (Nat.le_of_ble_eq_true rfl) rfl ?_
  intro E L F hE hinit hR hpre
  have hE : jOk E G _ cX1_init 1 RX1 wsX1_init := hE

  refine jr_aload_n hE dX1_init_0 0 rfl ?_
  refine jr_objInit hE dX1_init_1 (by decide +kernel) (by decide +kernel) (by decide +kernel) ⟨Nat.le_of_ble_eq_true rfl, Nat.le_of_ble_eq_true rfl⟩ (Nat.le_of_ble_eq_true rfl) ?_
  exact hR L F _ _ dX1_init_4 ⟨rfl, rfl⟩

set_option maxHeartbeats 4000000 in
set_option maxRecDepth 100000 in
theorem c_X0_init (l : Launch) (G : Nat → ClassId) (o n : Nat) : jCv l yX0_init wsX0_init ({ frames := 1, cells := 1, slots := n, locals := 20 }) (1) (n) G [.ref o, .int (nI n)] (fun L F => jF L F o (.inr (0, [.null, .int 0])) ∧ n ≤ 100) (fun L F L1 F1 => ∃ h, h ∉ L ∧ L1 = L ++ [h] ∧ jBy G L1 F1 o h n [] ∧ ∀ x, x ≠ o → x ≠ h → F1 x = F x) := by
  refine jm_vI (cc := cX0_init) (maxL := 2) (by decide) rfl (Nat.le_of_ble_eq_true rfl) rfl ?_
  intro E L F hE hinit hR hpre
  have hE : jOk E G _ cX0_init 2 RX0 wsX0_init := hE
  obtain ⟨ho, hn⟩ := hpre
  have f7 : jFl RX0 wsX0_init 7 0 1 := ⟨rfl, by decide, by decide +kernel, by decide +kernel⟩
  have f19 : jFl RX0 wsX0_init 19 0 0 := ⟨rfl, by decide, by decide +kernel, by decide +kernel⟩
  refine jr_aload_n hE dX0_init_0 0 rfl ?_
  refine jr_objInit hE dX0_init_1 (by decide +kernel) (by decide +kernel) (by decide +kernel) ⟨Nat.le_of_ble_eq_true rfl, Nat.le_of_ble_eq_true rfl⟩ (Nat.le_of_ble_eq_true rfl) ?_
  refine jr_aload_n hE dX0_init_4 0 rfl ?_
  refine jr_iconst (v := (0 : Int32)) hE dX0_init_5 (by decide) ?_
  refine jr_put (ty := .int) hE dX0_init_6 f7 ho rfl (by decide +kernel) rfl rfl (Nat.le_of_ble_eq_true rfl) (fun F1 g2 u3 => ?_)
  have g2 : jF L F1 o (.inr (0, [.null, .int (0 : Int32)])) := g2
  refine jr_aload_n hE dX0_init_9 0 rfl ?_
  refine jr_iload_n hE dX0_init_10 1 rfl ?_
  refine jr_iconst (v := (0 : Int32)) hE dX0_init_11 (by decide) ?_
  refine jr_mmax (z := nI n) hE dX0_init_12 (by decide +kernel) (by decide +kernel) (by decide +kernel) (by decide +kernel) ⟨Nat.le_of_ble_eq_true rfl, Nat.le_of_ble_eq_true rfl⟩ ⟨Nat.le_of_ble_eq_true rfl, Nat.zero_le _⟩ (by rw [if_neg (nI_pos (by omega))]) ?_
  refine jr_newa (ty := .byte) (g := 0) (N := n) (a0 := (n, .inl (fun _ => 0))) hE dX0_init_15 (by decide +kernel) rfl rfl (fun _ e => by cases e) (fun _ => rfl) (nI_pos (by omega)) (nI_clamp (by omega)) (by show n * 1 ≤ 536870912; omega) (⟨Nat.le_of_ble_eq_true rfl, by show 0 + n ≤ n; omega⟩) (fun q4 F5 n8 g6 u7 => ?_)
  have g9 := g2.grow n8 u7
  have g6 : jF (L ++ [q4]) F5 q4 (.inl (G 0, n, .inl (fun _ => 0))) := g6
  refine jr_putF (ty := .array .byte) hE dX0_init_17 f19 g9 rfl hinit rfl (by decide +kernel) rfl rfl (Nat.le_of_ble_eq_true rfl) (fun F10 g11 u12 => ?_)
  have g11 : jF (L ++ [q4]) F10 o (.inr (0, [.ref q4, .int (0 : Int32)])) := g11
  have g13 := g6.upk u12 g9 (Nat.ne_of_beq_eq_false rfl)
  rw [show 0 + n = n from Nat.zero_add n]
  exact hR (L ++ [q4]) F10 _ _ dX0_init_20 ⟨q4, n8, rfl, ⟨fun _ => 0, g11, g13, Nat.zero_le _, hn, fun j hj => absurd hj (Nat.not_lt_zero j), fun j hj => absurd hj (Nat.not_lt_zero j)⟩, fun x hx hx2 => (u12 x hx).trans ((u7 x hx2).trans (u3 x hx))⟩

