theorem jTn_lt : ∀ i, i < 9 → jTn.getD i 0 < 100 := by decide

set_option maxHeartbeats 4000000 in
set_option maxRecDepth 100000 in
theorem c_strlen (l : Launch) (G : Nat → ClassId) (i : Nat) : jKi l yJ0_length_8abf5 wsJ0_length_8abf5 ({ frames := 1, cells := 0, slots := 0, locals := 20 }) G [.ref (jT G (10 + i))] (fun L F => i < 9) (fun L F r F1 => F = F1 ∧ r = nI (jTn.getD i 0)) := by
  refine jm_ki (cc := cJ0_length_8abf5) (maxL := 1) (rt := .int) (by decide) rfl (Nat.le_of_ble_eq_true rfl) ?_
  intro E L F hE hR hpre
  have hE : jOk E G _ cJ0_length_8abf5 1 RJ0 wsJ0_length_8abf5 := hE
  have hi := hpre
  refine jr_aload_n hE dJ0_length_8abf5_0 0 rfl ?_
  refine jr_strV hE dJ0_length_8abf5_1 hi (by decide +kernel) ?_
  refine jr_strN (v := nI (jTn.getD i 0)) hE dJ0_length_8abf5_4 hi rfl ?_
  refine jr_aload_n hE dJ0_length_8abf5_5 0 rfl ?_
  refine jr_kTi (n := 0) (As := []) (rest := [.int (nI (jTn.getD i 0))]) hE dJ0_length_8abf5_6 (fun l => c_coder l G i) gJ0_length_8abf5_J0_coder_7d493 rfl hi (by decide +kernel) ⟨rfl, rfl, by decide, by decide⟩ (by decide) rfl rfl (Nat.le_of_ble_eq_true rfl) (hi) (fun r3 F1 q2 => ?_)
  obtain ⟨e, rfl⟩ := q2
  subst e
  refine jr_ishr (z := nI (jTn.getD i 0)) hE dJ0_length_8abf5_9 (sc_shr0 (Nat.lt_trans (jTn_lt i hi) (by decide))) ?_
  exact hR F _ _ _ dJ0_length_8abf5_10 rfl ⟨rfl, rfl⟩

