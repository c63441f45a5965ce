set_option maxHeartbeats 4000000 in
set_option maxRecDepth 100000 in
theorem c_coder (l : Launch) (G : Nat → ClassId) (i : Nat) : jKi l yJ0_coder_7d493 wsJ0_coder_7d493 ({ frames := 0, cells := 0, slots := 0, locals := 0 }) G [.ref (jT G (10 + i))] (fun L F => i < 9) (fun L F r F1 => F = F1 ∧ r = 0) := by
  refine jm_ki (cc := cJ0_coder_7d493) (maxL := 1) (rt := .byte) (by decide) rfl (Nat.le_of_ble_eq_true rfl) ?_
  intro E L F hE hR hpre
  have hE : jOk E G _ cJ0_coder_7d493 1 RJ0 wsJ0_coder_7d493 := hE
  have hi := hpre
  refine jr_gsCS hE dJ0_coder_7d493_0 (by decide +kernel) ?_
  refine jr_if_eq (tgt := 13) hE dJ0_coder_7d493_3 (by decide) (fun c_3 => absurd c_3 (by decide)) (fun c_3 => ?_)
  refine jr_aload_n hE dJ0_coder_7d493_6 0 rfl ?_
  refine jr_strC hE dJ0_coder_7d493_7 hi (by decide +kernel) ?_
  refine jr_goto (tgt := 14) hE dJ0_coder_7d493_10 (by decide) ?_
  exact hR F 0 _ _ dJ0_coder_7d493_14 rfl ⟨rfl, rfl⟩

set_option maxHeartbeats 4000000 in
set_option maxRecDepth 100000 in
theorem c_isLatin1 (l : Launch) (G : Nat → ClassId) (i : Nat) : jKi l yJ0_isLatin1_aae02 wsJ0_isLatin1_aae02 ({ frames := 0, cells := 0, slots := 0, locals := 0 }) G [.ref (jT G (10 + i))] (fun L F => i < 9) (fun L F r F1 => F = F1 ∧ r = 1) := by
  refine jm_ki (cc := cJ0_isLatin1_aae02) (maxL := 1) (rt := .boolean) (by decide) rfl (Nat.le_of_ble_eq_true rfl) ?_
  intro E L F hE hR hpre
  have hE : jOk E G _ cJ0_isLatin1_aae02 1 RJ0 wsJ0_isLatin1_aae02 := hE
  have hi := hpre
  refine jr_gsCS hE dJ0_isLatin1_aae02_0 (by decide +kernel) ?_
  refine jr_if_eq (tgt := 17) hE dJ0_isLatin1_aae02_3 (by decide) (fun c_3 => absurd c_3 (by decide)) (fun c_3 => ?_)
  refine jr_aload_n hE dJ0_isLatin1_aae02_6 0 rfl ?_
  refine jr_strC hE dJ0_isLatin1_aae02_7 hi (by decide +kernel) ?_
  refine jr_if_ne (tgt := 17) hE dJ0_isLatin1_aae02_10 (by decide) (fun c_10 => absurd c_10 (by decide)) (fun c_10 => ?_)
  refine jr_iconst (v := (1 : Int32)) hE dJ0_isLatin1_aae02_13 (by decide) ?_
  refine jr_goto (tgt := 18) hE dJ0_isLatin1_aae02_14 (by decide) ?_
  exact hR F 1 _ _ dJ0_isLatin1_aae02_18 rfl ⟨rfl, rfl⟩

set_option maxHeartbeats 4000000 in
set_option maxRecDepth 100000 in
theorem c_chk3_n (l : Launch) (G : Nat → ClassId) (a n : Nat) : jKi l yJ3_checkIndex_8e157 wsJ3_checkIndex_8e157 ({ frames := 0, cells := 0, slots := 0, locals := 0 }) G [.int (nI a), .int (nI n), .null] (fun L F => a < n ∧ n < 1000) (fun L F r F1 => F = F1 ∧ r = nI a) := by
  refine jm_ki (cc := cJ3_checkIndex_8e157) (maxL := 3) (rt := .int) (by decide) rfl (Nat.le_of_ble_eq_true rfl) ?_
  intro E L F hE hR hpre
  have hE : jOk E G _ cJ3_checkIndex_8e157 3 RJ3 wsJ3_checkIndex_8e157 := hE
  obtain ⟨ha, hn⟩ := hpre
  refine jr_iload_n hE dJ3_checkIndex_8e157_0 0 rfl ?_
  refine jr_if_lt (tgt := 9) hE dJ3_checkIndex_8e157_1 (by decide) (fun c_1 => absurd c_1 (nI_pos (by omega))) (fun c_1 => ?_)
  refine jr_iload_n hE dJ3_checkIndex_8e157_4 0 rfl ?_
  refine jr_iload_n hE dJ3_checkIndex_8e157_5 1 rfl ?_
  refine jr_icmp_lt (tgt := 16) hE dJ3_checkIndex_8e157_6 (by decide) (fun c_6 => ?_) (fun c_6 => absurd (nI_lt (by omega) (by omega)) c_6)
  refine jr_iload_n hE dJ3_checkIndex_8e157_16 0 rfl ?_
  exact hR F _ _ _ dJ3_checkIndex_8e157_17 rfl ⟨rfl, rfl⟩

set_option maxHeartbeats 4000000 in
set_option maxRecDepth 100000 in
theorem c_chk3_r (l : Launch) (G : Nat → ClassId) (a n fq : Nat) : jKi l yJ3_checkIndex_8e157 wsJ3_checkIndex_8e157 ({ frames := 0, cells := 0, slots := 0, locals := 0 }) G [.int (nI a), .int (nI n), .ref fq] (fun L F => a < n ∧ n < 1000) (fun L F r F1 => F = F1 ∧ r = nI a) := by
  refine jm_ki (cc := cJ3_checkIndex_8e157) (maxL := 3) (rt := .int) (by decide) rfl (Nat.le_of_ble_eq_true rfl) ?_
  intro E L F hE hR hpre
  have hE : jOk E G _ cJ3_checkIndex_8e157 3 RJ3 wsJ3_checkIndex_8e157 := hE
  obtain ⟨ha, hn⟩ := hpre
  refine jr_iload_n hE dJ3_checkIndex_8e157_0 0 rfl ?_
  refine jr_if_lt (tgt := 9) hE dJ3_checkIndex_8e157_1 (by decide) (fun c_1 => absurd c_1 (nI_pos (by omega))) (fun c_1 => ?_)
  refine jr_iload_n hE dJ3_checkIndex_8e157_4 0 rfl ?_
  refine jr_iload_n hE dJ3_checkIndex_8e157_5 1 rfl ?_
  refine jr_icmp_lt (tgt := 16) hE dJ3_checkIndex_8e157_6 (by decide) (fun c_6 => ?_) (fun c_6 => absurd (nI_lt (by omega) (by omega)) c_6)
  refine jr_iload_n hE dJ3_checkIndex_8e157_16 0 rfl ?_
  exact hR F _ _ _ dJ3_checkIndex_8e157_17 rfl ⟨rfl, rfl⟩

