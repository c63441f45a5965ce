set_option maxHeartbeats 4000000 in
set_option maxRecDepth 100000 in
theorem c_X1_become (l : Launch) (G : Nat → ClassId) (o a x : Nat) (lo : Nat → Int64) : jKv l yX1_become wsX1_become ({ frames := 0, cells := 0, slots := 0, locals := 0 }) G [.ref o, .ref a] (fun L F => jF L F o (cC lo) ∧ jCo L F a x) (fun L F F1 => jCo L F1 o x ∧ ∀ z, z ∉ [o] → F1 z = F z) := by
  refine jm_kv (cc := cX1_become) (maxL := 2) (by decide) rfl (Nat.le_of_ble_eq_true rfl) ?_
  intro E L F hE hR hpre
  have hE : jOk E G _ cX1_become 2 RX1 wsX1_become := hE

  have f7 : jFl RX1 wsX1_become 7 1 0 := ⟨rfl, by decide, by decide +kernel, by decide +kernel⟩
  have f13 : jFl RX1 wsX1_become 13 1 1 := ⟨rfl, by decide, by decide +kernel, by decide +kernel⟩
  have f16 : jFl RX1 wsX1_become 16 1 2 := ⟨rfl, by decide, by decide +kernel, by decide +kernel⟩
  have f19 : jFl RX1 wsX1_become 19 1 3 := ⟨rfl, by decide, by decide +kernel, by decide +kernel⟩
  have f22 : jFl RX1 wsX1_become 22 1 4 := ⟨rfl, by decide, by decide +kernel, by decide +kernel⟩
  have f25 : jFl RX1 wsX1_become 25 1 5 := ⟨rfl, by decide, by decide +kernel, by decide +kernel⟩
  have f28 : jFl RX1 wsX1_become 28 1 6 := ⟨rfl, by decide, by decide +kernel, by decide +kernel⟩
  have f31 : jFl RX1 wsX1_become 31 1 7 := ⟨rfl, by decide, by decide +kernel, by decide +kernel⟩
  have f34 : jFl RX1 wsX1_become 34 1 8 := ⟨rfl, by decide, by decide +kernel, by decide +kernel⟩
  obtain ⟨ho, ⟨la, ha, hKa, hx⟩⟩ := hpre
  by_cases e : o = a
  · subst e
    have ho : jF L F o (cC la) := ha
    refine jr_aload_n hE dX1_become_0 0 rfl ?_
    refine jr_aload_n hE dX1_become_1 1 rfl ?_
    refine jr_get hE dX1_become_2 f7 ho rfl ?_
    refine jr_put (ty := .long) hE dX1_become_5 f7 ho rfl (by decide +kernel) rfl rfl (Nat.le_of_ble_eq_true rfl) (fun F1 g2 u3 => ?_)
    have g2 : jF L F1 o (.inr (1, [.long (la 0), .long (la 1), .long (la 2), .long (la 3), .long (la 4), .long (la 5), .long (la 6), .long (la 7), .long (la 8)])) := g2
    refine jr_aload_n hE dX1_become_8 0 rfl ?_
    refine jr_aload_n hE dX1_become_9 1 rfl ?_
    refine jr_get hE dX1_become_10 f13 g2 rfl ?_
    refine jr_put (ty := .long) hE dX1_become_13 f13 g2 rfl (by decide +kernel) rfl rfl (Nat.le_of_ble_eq_true rfl) (fun F4 g5 u6 => ?_)
    have g5 : jF L F4 o (.inr (1, [.long (la 0), .long (la 1), .long (la 2), .long (la 3), .long (la 4), .long (la 5), .long (la 6), .long (la 7), .long (la 8)])) := g5
    refine jr_aload_n hE dX1_become_16 0 rfl ?_
    refine jr_aload_n hE dX1_become_17 1 rfl ?_
    refine jr_get hE dX1_become_18 f16 g5 rfl ?_
    refine jr_put (ty := .long) hE dX1_become_21 f16 g5 rfl (by decide +kernel) rfl rfl (Nat.le_of_ble_eq_true rfl) (fun F7 g8 u9 => ?_)
    have g8 : jF L F7 o (.inr (1, [.long (la 0), .long (la 1), .long (la 2), .long (la 3), .long (la 4), .long (la 5), .long (la 6), .long (la 7), .long (la 8)])) := g8
    refine jr_aload_n hE dX1_become_24 0 rfl ?_
    refine jr_aload_n hE dX1_become_25 1 rfl ?_
    refine jr_get hE dX1_become_26 f19 g8 rfl ?_
    refine jr_put (ty := .long) hE dX1_become_29 f19 g8 rfl (by decide +kernel) rfl rfl (Nat.le_of_ble_eq_true rfl) (fun F10 g11 u12 => ?_)
    have g11 : jF L F10 o (.inr (1, [.long (la 0), .long (la 1), .long (la 2), .long (la 3), .long (la 4), .long (la 5), .long (la 6), .long (la 7), .long (la 8)])) := g11
    refine jr_aload_n hE dX1_become_32 0 rfl ?_
    refine jr_aload_n hE dX1_become_33 1 rfl ?_
    refine jr_get hE dX1_become_34 f22 g11 rfl ?_
    refine jr_put (ty := .long) hE dX1_become_37 f22 g11 rfl (by decide +kernel) rfl rfl (Nat.le_of_ble_eq_true rfl) (fun F13 g14 u15 => ?_)
    have g14 : jF L F13 o (.inr (1, [.long (la 0), .long (la 1), .long (la 2), .long (la 3), .long (la 4), .long (la 5), .long (la 6), .long (la 7), .long (la 8)])) := g14
    refine jr_aload_n hE dX1_become_40 0 rfl ?_
    refine jr_aload_n hE dX1_become_41 1 rfl ?_
    refine jr_get hE dX1_become_42 f25 g14 rfl ?_
    refine jr_put (ty := .long) hE dX1_become_45 f25 g14 rfl (by decide +kernel) rfl rfl (Nat.le_of_ble_eq_true rfl) (fun F16 g17 u18 => ?_)
    have g17 : jF L F16 o (.inr (1, [.long (la 0), .long (la 1), .long (la 2), .long (la 3), .long (la 4), .long (la 5), .long (la 6), .long (la 7), .long (la 8)])) := g17
    refine jr_aload_n hE dX1_become_48 0 rfl ?_
    refine jr_aload_n hE dX1_become_49 1 rfl ?_
    refine jr_get hE dX1_become_50 f28 g17 rfl ?_
    refine jr_put (ty := .long) hE dX1_become_53 f28 g17 rfl (by decide +kernel) rfl rfl (Nat.le_of_ble_eq_true rfl) (fun F19 g20 u21 => ?_)
    have g20 : jF L F19 o (.inr (1, [.long (la 0), .long (la 1), .long (la 2), .long (la 3), .long (la 4), .long (la 5), .long (la 6), .long (la 7), .long (la 8)])) := g20
    refine jr_aload_n hE dX1_become_56 0 rfl ?_
    refine jr_aload_n hE dX1_become_57 1 rfl ?_
    refine jr_get hE dX1_become_58 f31 g20 rfl ?_
    refine jr_put (ty := .long) hE dX1_become_61 f31 g20 rfl (by decide +kernel) rfl rfl (Nat.le_of_ble_eq_true rfl) (fun F22 g23 u24 => ?_)
    have g23 : jF L F22 o (.inr (1, [.long (la 0), .long (la 1), .long (la 2), .long (la 3), .long (la 4), .long (la 5), .long (la 6), .long (la 7), .long (la 8)])) := g23
    refine jr_aload_n hE dX1_become_64 0 rfl ?_
    refine jr_aload_n hE dX1_become_65 1 rfl ?_
    refine jr_get hE dX1_become_66 f34 g23 rfl ?_
    refine jr_put (ty := .long) hE dX1_become_69 f34 g23 rfl (by decide +kernel) rfl rfl (Nat.le_of_ble_eq_true rfl) (fun F25 g26 u27 => ?_)
    have g26 : jF L F25 o (.inr (1, [.long (la 0), .long (la 1), .long (la 2), .long (la 3), .long (la 4), .long (la 5), .long (la 6), .long (la 7), .long (la 8)])) := g26
    exact hR F25 _ _ dX1_become_72 ⟨⟨la, g26, hKa, hx⟩, fun z hz => ((u27 z (jne hz 0 rfl)).trans ((u24 z (jne hz 0 rfl)).trans ((u21 z (jne hz 0 rfl)).trans ((u18 z (jne hz 0 rfl)).trans ((u15 z (jne hz 0 rfl)).trans ((u12 z (jne hz 0 rfl)).trans ((u9 z (jne hz 0 rfl)).trans ((u6 z (jne hz 0 rfl)).trans (u3 z (jne hz 0 rfl))))))))))⟩
  · have hnd : [o, a].Nodup := by simp [e]
    refine jr_aload_n hE dX1_become_0 0 rfl ?_
    refine jr_aload_n hE dX1_become_1 1 rfl ?_
    refine jr_get hE dX1_become_2 f7 ha rfl ?_
    refine jr_put (ty := .long) hE dX1_become_5 f7 ho rfl (by decide +kernel) rfl rfl (Nat.le_of_ble_eq_true rfl) (fun F1 g2 u3 => ?_)
    have g2 : jF L F1 o (.inr (1, [.long (la 0), .long (lo 1), .long (lo 2), .long (lo 3), .long (lo 4), .long (lo 5), .long (lo 6), .long (lo 7), .long (lo 8)])) := g2
    have g4 := ha.up u3 (jn2 hnd 1 0 rfl rfl (by decide))
    refine jr_aload_n hE dX1_become_8 0 rfl ?_
    refine jr_aload_n hE dX1_become_9 1 rfl ?_
    refine jr_get hE dX1_become_10 f13 g4 rfl ?_
    refine jr_put (ty := .long) hE dX1_become_13 f13 g2 rfl (by decide +kernel) rfl rfl (Nat.le_of_ble_eq_true rfl) (fun F5 g6 u7 => ?_)
    have g6 : jF L F5 o (.inr (1, [.long (la 0), .long (la 1), .long (lo 2), .long (lo 3), .long (lo 4), .long (lo 5), .long (lo 6), .long (lo 7), .long (lo 8)])) := g6
    have g8 := g4.up u7 (jn2 hnd 1 0 rfl rfl (by decide))
    refine jr_aload_n hE dX1_become_16 0 rfl ?_
    refine jr_aload_n hE dX1_become_17 1 rfl ?_
    refine jr_get hE dX1_become_18 f16 g8 rfl ?_
    refine jr_put (ty := .long) hE dX1_become_21 f16 g6 rfl (by decide +kernel) rfl rfl (Nat.le_of_ble_eq_true rfl) (fun F9 g10 u11 => ?_)
    have g10 : jF L F9 o (.inr (1, [.long (la 0), .long (la 1), .long (la 2), .long (lo 3), .long (lo 4), .long (lo 5), .long (lo 6), .long (lo 7), .long (lo 8)])) := g10
    have g12 := g8.up u11 (jn2 hnd 1 0 rfl rfl (by decide))
    refine jr_aload_n hE dX1_become_24 0 rfl ?_
    refine jr_aload_n hE dX1_become_25 1 rfl ?_
    refine jr_get hE dX1_become_26 f19 g12 rfl ?_
    refine jr_put (ty := .long) hE dX1_become_29 f19 g10 rfl (by decide +kernel) rfl rfl (Nat.le_of_ble_eq_true rfl) (fun F13 g14 u15 => ?_)
    have g14 : jF L F13 o (.inr (1, [.long (la 0), .long (la 1), .long (la 2), .long (la 3), .long (lo 4), .long (lo 5), .long (lo 6), .long (lo 7), .long (lo 8)])) := g14
    have g16 := g12.up u15 (jn2 hnd 1 0 rfl rfl (by decide))
    refine jr_aload_n hE dX1_become_32 0 rfl ?_
    refine jr_aload_n hE dX1_become_33 1 rfl ?_
    refine jr_get hE dX1_become_34 f22 g16 rfl ?_
    refine jr_put (ty := .long) hE dX1_become_37 f22 g14 rfl (by decide +kernel) rfl rfl (Nat.le_of_ble_eq_true rfl) (fun F17 g18 u19 => ?_)
    have g18 : jF L F17 o (.inr (1, [.long (la 0), .long (la 1), .long (la 2), .long (la 3), .long (la 4), .long (lo 5), .long (lo 6), .long (lo 7), .long (lo 8)])) := g18
    have g20 := g16.up u19 (jn2 hnd 1 0 rfl rfl (by decide))
    refine jr_aload_n hE dX1_become_40 0 rfl ?_
    refine jr_aload_n hE dX1_become_41 1 rfl ?_
    refine jr_get hE dX1_become_42 f25 g20 rfl ?_
    refine jr_put (ty := .long) hE dX1_become_45 f25 g18 rfl (by decide +kernel) rfl rfl (Nat.le_of_ble_eq_true rfl) (fun F21 g22 u23 => ?_)
    have g22 : jF L F21 o (.inr (1, [.long (la 0), .long (la 1), .long (la 2), .long (la 3), .long (la 4), .long (la 5), .long (lo 6), .long (lo 7), .long (lo 8)])) := g22
    have g24 := g20.up u23 (jn2 hnd 1 0 rfl rfl (by decide))
    refine jr_aload_n hE dX1_become_48 0 rfl ?_
    refine jr_aload_n hE dX1_become_49 1 rfl ?_
    refine jr_get hE dX1_become_50 f28 g24 rfl ?_
    refine jr_put (ty := .long) hE dX1_become_53 f28 g22 rfl (by decide +kernel) rfl rfl (Nat.le_of_ble_eq_true rfl) (fun F25 g26 u27 => ?_)
    have g26 : jF L F25 o (.inr (1, [.long (la 0), .long (la 1), .long (la 2), .long (la 3), .long (la 4), .long (la 5), .long (la 6), .long (lo 7), .long (lo 8)])) := g26
    have g28 := g24.up u27 (jn2 hnd 1 0 rfl rfl (by decide))
    refine jr_aload_n hE dX1_become_56 0 rfl ?_
    refine jr_aload_n hE dX1_become_57 1 rfl ?_
    refine jr_get hE dX1_become_58 f31 g28 rfl ?_
    refine jr_put (ty := .long) hE dX1_become_61 f31 g26 rfl (by decide +kernel) rfl rfl (Nat.le_of_ble_eq_true rfl) (fun F29 g30 u31 => ?_)
    have g30 : jF L F29 o (.inr (1, [.long (la 0), .long (la 1), .long (la 2), .long (la 3), .long (la 4), .long (la 5), .long (la 6), .long (la 7), .long (lo 8)])) := g30
    have g32 := g28.up u31 (jn2 hnd 1 0 rfl rfl (by decide))
    refine jr_aload_n hE dX1_become_64 0 rfl ?_
    refine jr_aload_n hE dX1_become_65 1 rfl ?_
    refine jr_get hE dX1_become_66 f34 g32 rfl ?_
    refine jr_put (ty := .long) hE dX1_become_69 f34 g30 rfl (by decide +kernel) rfl rfl (Nat.le_of_ble_eq_true rfl) (fun F33 g34 u35 => ?_)
    have g34 : jF L F33 o (.inr (1, [.long (la 0), .long (la 1), .long (la 2), .long (la 3), .long (la 4), .long (la 5), .long (la 6), .long (la 7), .long (la 8)])) := g34
    have g36 := g32.up u35 (jn2 hnd 1 0 rfl rfl (by decide))
    exact hR F33 _ _ dX1_become_72 ⟨⟨la, g34, hKa, hx⟩, fun z hz => ((u35 z (jne hz 0 rfl)).trans ((u31 z (jne hz 0 rfl)).trans ((u27 z (jne hz 0 rfl)).trans ((u23 z (jne hz 0 rfl)).trans ((u19 z (jne hz 0 rfl)).trans ((u15 z (jne hz 0 rfl)).trans ((u11 z (jne hz 0 rfl)).trans ((u7 z (jne hz 0 rfl)).trans (u3 z (jne hz 0 rfl))))))))))⟩

theorem co_carry {L : List Nat} {F1 : Nat → va_E} {o x : Nat} {l1 : Nat → Int64} {V q : Int} (h1 : jF L F1 o (cC l1)) (h2 : cK 536870912 16778240 l1) (h3 : cV l1 = V - (PP : Int) * q) (hV : V % (PP : Int) = (x : Int)) : jCo L F1 o x :=
  ⟨l1, h1, ⟨fun i hi => iv_le (h2.1 i hi) (by decide), iv_le h2.2 (by decide)⟩, by rw [h3, Int.sub_mul_emod_self_left]; exact hV⟩
theorem sub_mod {A B : Int} {x y : Nat} (hA : A % (PP : Int) = x) (hB : B % (PP : Int) = y) (hy : y < PP) : (A - B) % (PP : Int) = ((x + (PP - y)) % PP : Nat) := by
  rw [Int.sub_emod, hA, hB]
  push_cast [Int.ofNat_sub (Nat.le_of_lt hy)]
  rw [show (x : Int) + ((PP : Int) - y) = (x - y) + PP by omega, Int.add_emod_right]
theorem co_lt {L : List Nat} {F : Nat → va_E} {a x : Nat} (h : jCo L F a x) : x < PP := by
  obtain ⟨l, h1, h2, h3⟩ := h
  have := Int.emod_lt_of_pos (cV l) (show (0 : Int) < PP by decide)
  omega

theorem diff_alg_ {la lb v0 : Nat → Int64} : True := trivial
theorem diff_alg {la lb : Nat → Int64} {v0 v1 v2 v3 v4 v5 v6 v7 v8 : Int64} (h0 : v0.toInt = (la 0).toInt - (lb 0).toInt) (h1 : v1.toInt = (la 1).toInt - (lb 1).toInt) (h2 : v2.toInt = (la 2).toInt - (lb 2).toInt) (h3 : v3.toInt = (la 3).toInt - (lb 3).toInt) (h4 : v4.toInt = (la 4).toInt - (lb 4).toInt) (h5 : v5.toInt = (la 5).toInt - (lb 5).toInt) (h6 : v6.toInt = (la 6).toInt - (lb 6).toInt) (h7 : v7.toInt = (la 7).toInt - (lb 7).toInt) (h8 : v8.toInt = (la 8).toInt - (lb 8).toInt) : cV (cl9 v0 v1 v2 v3 v4 v5 v6 v7 v8) = cV la - cV lb := by
  show v0.toInt + v1.toInt * 536870912 + v2.toInt * 536870912 ^ 2 + v3.toInt * 536870912 ^ 3 + v4.toInt * 536870912 ^ 4 + v5.toInt * 536870912 ^ 5 + v6.toInt * 536870912 ^ 6 + v7.toInt * 536870912 ^ 7 + v8.toInt * 536870912 ^ 8 = _
  unfold cV
  omega

set_option maxHeartbeats 4000000 in
set_option maxRecDepth 100000 in
theorem c_X1_difference_s (l : Launch) (G : Nat → ClassId) (o b x y : Nat) : jKv l yX1_difference wsX1_difference ({ frames := 1, cells := 0, slots := 0, locals := 24 }) G [.ref o, .ref o, .ref b] (fun L F => jCo L F o x ∧ jCo L F b y ∧ [o, b].Nodup) (fun L F F1 => jCo L F1 o ((x + (PP - y)) % PP) ∧ ∀ z, z ∉ [o] → F1 z = F z) := by
  refine jm_kv (cc := cX1_difference) (maxL := 3) (by decide) rfl (Nat.le_of_ble_eq_true rfl) ?_
  intro E L F hE hR hpre
  have hE : jOk E G _ cX1_difference 3 RX1 wsX1_difference := hE
  obtain ⟨⟨la, ho, hKa, hx⟩, hcb, hnd⟩ := hpre
  have hylt := co_lt hcb
  obtain ⟨lb, hb, hKb, hy⟩ := hcb
  have f7 : jFl RX1 wsX1_difference 7 1 0 := ⟨rfl, by decide, by decide +kernel, by decide +kernel⟩
  have f13 : jFl RX1 wsX1_difference 13 1 1 := ⟨rfl, by decide, by decide +kernel, by decide +kernel⟩
  have f16 : jFl RX1 wsX1_difference 16 1 2 := ⟨rfl, by decide, by decide +kernel, by decide +kernel⟩
  have f19 : jFl RX1 wsX1_difference 19 1 3 := ⟨rfl, by decide, by decide +kernel, by decide +kernel⟩
  have f22 : jFl RX1 wsX1_difference 22 1 4 := ⟨rfl, by decide, by decide +kernel, by decide +kernel⟩
  have f25 : jFl RX1 wsX1_difference 25 1 5 := ⟨rfl, by decide, by decide +kernel, by decide +kernel⟩
  have f28 : jFl RX1 wsX1_difference 28 1 6 := ⟨rfl, by decide, by decide +kernel, by decide +kernel⟩
  have f31 : jFl RX1 wsX1_difference 31 1 7 := ⟨rfl, by decide, by decide +kernel, by decide +kernel⟩
  have f34 : jFl RX1 wsX1_difference 34 1 8 := ⟨rfl, by decide, by decide +kernel, by decide +kernel⟩
  refine jr_aload_n hE dX1_difference_0 0 rfl ?_
  refine jr_aload_n hE dX1_difference_1 1 rfl ?_
  refine jr_get hE dX1_difference_2 f7 ho rfl ?_
  refine jr_aload_n hE dX1_difference_5 2 rfl ?_
  refine jr_get hE dX1_difference_6 f7 hb rfl ?_
  refine jr_lsub hE dX1_difference_9 rfl ?_
  refine jr_topl (fun v0 ev0 => ?_)
  obtain ⟨E_v0, B_v0⟩ := iv_nm ev0 (iv_sub (hKa.1 0 (by decide)) (hKb.1 0 (by decide)) (R := 1073774592) (by decide))
  refine jr_put (ty := .long) hE dX1_difference_10 f7 ho rfl (by decide +kernel) rfl rfl (Nat.le_of_ble_eq_true rfl) (fun F1 g2 u3 => ?_)
  have g2 : jF L F1 o (.inr (1, [.long v0, .long (la 1), .long (la 2), .long (la 3), .long (la 4), .long (la 5), .long (la 6), .long (la 7), .long (la 8)])) := g2
  have g4 := hb.up u3 (jn2 hnd 1 0 rfl rfl (by decide))
  refine jr_aload_n hE dX1_difference_13 0 rfl ?_
  refine jr_aload_n hE dX1_difference_14 1 rfl ?_
  refine jr_get hE dX1_difference_15 f13 g2 rfl ?_
  refine jr_aload_n hE dX1_difference_18 2 rfl ?_
  refine jr_get hE dX1_difference_19 f13 g4 rfl ?_
  refine jr_lsub hE dX1_difference_22 rfl ?_
  refine jr_topl (fun v1 ev1 => ?_)
  obtain ⟨E_v1, B_v1⟩ := iv_nm ev1 (iv_sub (hKa.1 1 (by decide)) (hKb.1 1 (by decide)) (R := 1073774592) (by decide))
  refine jr_put (ty := .long) hE dX1_difference_23 f13 g2 rfl (by decide +kernel) rfl rfl (Nat.le_of_ble_eq_true rfl) (fun F5 g6 u7 => ?_)
  have g6 : jF L F5 o (.inr (1, [.long v0, .long v1, .long (la 2), .long (la 3), .long (la 4), .long (la 5), .long (la 6), .long (la 7), .long (la 8)])) := g6
  have g8 := g4.up u7 (jn2 hnd 1 0 rfl rfl (by decide))
  refine jr_aload_n hE dX1_difference_26 0 rfl ?_
  refine jr_aload_n hE dX1_difference_27 1 rfl ?_
  refine jr_get hE dX1_difference_28 f16 g6 rfl ?_
  refine jr_aload_n hE dX1_difference_31 2 rfl ?_
  refine jr_get hE dX1_difference_32 f16 g8 rfl ?_
  refine jr_lsub hE dX1_difference_35 rfl ?_
  refine jr_topl (fun v2 ev2 => ?_)
  obtain ⟨E_v2, B_v2⟩ := iv_nm ev2 (iv_sub (hKa.1 2 (by decide)) (hKb.1 2 (by decide)) (R := 1073774592) (by decide))
  refine jr_put (ty := .long) hE dX1_difference_36 f16 g6 rfl (by decide +kernel) rfl rfl (Nat.le_of_ble_eq_true rfl) (fun F9 g10 u11 => ?_)
  have g10 : jF L F9 o (.inr (1, [.long v0, .long v1, .long v2, .long (la 3), .long (la 4), .long (la 5), .long (la 6), .long (la 7), .long (la 8)])) := g10
  have g12 := g8.up u11 (jn2 hnd 1 0 rfl rfl (by decide))
  refine jr_aload_n hE dX1_difference_39 0 rfl ?_
  refine jr_aload_n hE dX1_difference_40 1 rfl ?_
  refine jr_get hE dX1_difference_41 f19 g10 rfl ?_
  refine jr_aload_n hE dX1_difference_44 2 rfl ?_
  refine jr_get hE dX1_difference_45 f19 g12 rfl ?_
  refine jr_lsub hE dX1_difference_48 rfl ?_
  refine jr_topl (fun v3 ev3 => ?_)
  obtain ⟨E_v3, B_v3⟩ := iv_nm ev3 (iv_sub (hKa.1 3 (by decide)) (hKb.1 3 (by decide)) (R := 1073774592) (by decide))
  refine jr_put (ty := .long) hE dX1_difference_49 f19 g10 rfl (by decide +kernel) rfl rfl (Nat.le_of_ble_eq_true rfl) (fun F13 g14 u15 => ?_)
  have g14 : jF L F13 o (.inr (1, [.long v0, .long v1, .long v2, .long v3, .long (la 4), .long (la 5), .long (la 6), .long (la 7), .long (la 8)])) := g14
  have g16 := g12.up u15 (jn2 hnd 1 0 rfl rfl (by decide))
  refine jr_aload_n hE dX1_difference_52 0 rfl ?_
  refine jr_aload_n hE dX1_difference_53 1 rfl ?_
  refine jr_get hE dX1_difference_54 f22 g14 rfl ?_
  refine jr_aload_n hE dX1_difference_57 2 rfl ?_
  refine jr_get hE dX1_difference_58 f22 g16 rfl ?_
  refine jr_lsub hE dX1_difference_61 rfl ?_
  refine jr_topl (fun v4 ev4 => ?_)
  obtain ⟨E_v4, B_v4⟩ := iv_nm ev4 (iv_sub (hKa.1 4 (by decide)) (hKb.1 4 (by decide)) (R := 1073774592) (by decide))
  refine jr_put (ty := .long) hE dX1_difference_62 f22 g14 rfl (by decide +kernel) rfl rfl (Nat.le_of_ble_eq_true rfl) (fun F17 g18 u19 => ?_)
  have g18 : jF L F17 o (.inr (1, [.long v0, .long v1, .long v2, .long v3, .long v4, .long (la 5), .long (la 6), .long (la 7), .long (la 8)])) := g18
  have g20 := g16.up u19 (jn2 hnd 1 0 rfl rfl (by decide))
  refine jr_aload_n hE dX1_difference_65 0 rfl ?_
  refine jr_aload_n hE dX1_difference_66 1 rfl ?_
  refine jr_get hE dX1_difference_67 f25 g18 rfl ?_
  refine jr_aload_n hE dX1_difference_70 2 rfl ?_
  refine jr_get hE dX1_difference_71 f25 g20 rfl ?_
  refine jr_lsub hE dX1_difference_74 rfl ?_
  refine jr_topl (fun v5 ev5 => ?_)
  obtain ⟨E_v5, B_v5⟩ := iv_nm ev5 (iv_sub (hKa.1 5 (by decide)) (hKb.1 5 (by decide)) (R := 1073774592) (by decide))
  refine jr_put (ty := .long) hE dX1_difference_75 f25 g18 rfl (by decide +kernel) rfl rfl (Nat.le_of_ble_eq_true rfl) (fun F21 g22 u23 => ?_)
  have g22 : jF L F21 o (.inr (1, [.long v0, .long v1, .long v2, .long v3, .long v4, .long v5, .long (la 6), .long (la 7), .long (la 8)])) := g22
  have g24 := g20.up u23 (jn2 hnd 1 0 rfl rfl (by decide))
  refine jr_aload_n hE dX1_difference_78 0 rfl ?_
  refine jr_aload_n hE dX1_difference_79 1 rfl ?_
  refine jr_get hE dX1_difference_80 f28 g22 rfl ?_
  refine jr_aload_n hE dX1_difference_83 2 rfl ?_
  refine jr_get hE dX1_difference_84 f28 g24 rfl ?_
  refine jr_lsub hE dX1_difference_87 rfl ?_
  refine jr_topl (fun v6 ev6 => ?_)
  obtain ⟨E_v6, B_v6⟩ := iv_nm ev6 (iv_sub (hKa.1 6 (by decide)) (hKb.1 6 (by decide)) (R := 1073774592) (by decide))
  refine jr_put (ty := .long) hE dX1_difference_88 f28 g22 rfl (by decide +kernel) rfl rfl (Nat.le_of_ble_eq_true rfl) (fun F25 g26 u27 => ?_)
  have g26 : jF L F25 o (.inr (1, [.long v0, .long v1, .long v2, .long v3, .long v4, .long v5, .long v6, .long (la 7), .long (la 8)])) := g26
  have g28 := g24.up u27 (jn2 hnd 1 0 rfl rfl (by decide))
  refine jr_aload_n hE dX1_difference_91 0 rfl ?_
  refine jr_aload_n hE dX1_difference_92 1 rfl ?_
  refine jr_get hE dX1_difference_93 f31 g26 rfl ?_
  refine jr_aload_n hE dX1_difference_96 2 rfl ?_
  refine jr_get hE dX1_difference_97 f31 g28 rfl ?_
  refine jr_lsub hE dX1_difference_100 rfl ?_
  refine jr_topl (fun v7 ev7 => ?_)
  obtain ⟨E_v7, B_v7⟩ := iv_nm ev7 (iv_sub (hKa.1 7 (by decide)) (hKb.1 7 (by decide)) (R := 1073774592) (by decide))
  refine jr_put (ty := .long) hE dX1_difference_101 f31 g26 rfl (by decide +kernel) rfl rfl (Nat.le_of_ble_eq_true rfl) (fun F29 g30 u31 => ?_)
  have g30 : jF L F29 o (.inr (1, [.long v0, .long v1, .long v2, .long v3, .long v4, .long v5, .long v6, .long v7, .long (la 8)])) := g30
  have g32 := g28.up u31 (jn2 hnd 1 0 rfl rfl (by decide))
  refine jr_aload_n hE dX1_difference_104 0 rfl ?_
  refine jr_aload_n hE dX1_difference_105 1 rfl ?_
  refine jr_get hE dX1_difference_106 f34 g30 rfl ?_
  refine jr_aload_n hE dX1_difference_109 2 rfl ?_
  refine jr_get hE dX1_difference_110 f34 g32 rfl ?_
  refine jr_lsub hE dX1_difference_113 rfl ?_
  refine jr_topl (fun v8 ev8 => ?_)
  obtain ⟨E_v8, B_v8⟩ := iv_nm ev8 (iv_sub hKa.2 hKb.2 (R := 33587200) (by decide))
  refine jr_put (ty := .long) hE dX1_difference_114 f34 g30 rfl (by decide +kernel) rfl rfl (Nat.le_of_ble_eq_true rfl) (fun F33 g34 u35 => ?_)
  have g34 : jF L F33 o (.inr (1, [.long v0, .long v1, .long v2, .long v3, .long v4, .long v5, .long v6, .long v7, .long v8])) := g34
  have g36 := g32.up u35 (jn2 hnd 1 0 rfl rfl (by decide))
  refine jr_aload_n hE dX1_difference_117 0 rfl ?_
  have hraw : jF L F33 o (cC (cl9 v0 v1 v2 v3 v4 v5 v6 v7 v8)) := g34
  have hKr : cK 17179869184 17179869184 (cl9 v0 v1 v2 v3 v4 v5 v6 v7 v8) := cK_of (iv_le B_v0 (by decide)) (iv_le B_v1 (by decide)) (iv_le B_v2 (by decide)) (iv_le B_v3 (by decide)) (iv_le B_v4 (by decide)) (iv_le B_v5 (by decide)) (iv_le B_v6 (by decide)) (iv_le B_v7 (by decide)) (iv_le B_v8 (by decide))
  have hval : cV (cl9 v0 v1 v2 v3 v4 v5 v6 v7 v8) % (PP : Int) = (((x + (PP - y)) % PP : Nat) : Int) := by rw [diff_alg E_v0 E_v1 E_v2 E_v3 E_v4 E_v5 E_v6 E_v7 E_v8]; exact sub_mod hx hy hylt
  refine jr_kVv (ci := 1) (n := 0) (As := []) (rest := []) hE dX1_difference_118 (fun l => c_X1_carry l G o _) gX1_difference_X1_carry rfl hraw rfl (by decide +kernel) ⟨rfl, rfl, by decide, by decide⟩ (by decide) rfl rfl (Nat.le_of_ble_eq_true rfl) (⟨hraw, hKr⟩) (fun F37 q38 => ?_)
  obtain ⟨l1, c1, c2, c3, c4, c5, fr1⟩ := q38
  exact hR F37 _ _ dX1_difference_121 ⟨co_carry c1 c2 c3 hval, fun z hz => (fr1 z hz).trans ((u35 z (jne hz 0 rfl)).trans ((u31 z (jne hz 0 rfl)).trans ((u27 z (jne hz 0 rfl)).trans ((u23 z (jne hz 0 rfl)).trans ((u19 z (jne hz 0 rfl)).trans ((u15 z (jne hz 0 rfl)).trans ((u11 z (jne hz 0 rfl)).trans ((u7 z (jne hz 0 rfl)).trans (u3 z (jne hz 0 rfl))))))))))⟩

set_option maxHeartbeats 4000000 in
set_option maxRecDepth 100000 in
theorem c_X1_difference_o (l : Launch) (G : Nat → ClassId) (o a b x y : Nat) (lo : Nat → Int64) : jKv l yX1_difference wsX1_difference ({ frames := 1, cells := 0, slots := 0, locals := 24 }) G [.ref o, .ref a, .ref b] (fun L F => jF L F o (cC lo) ∧ jCo L F a x ∧ jCo L F b y ∧ [o, a, b].Nodup) (fun L F F1 => jCo L F1 o ((x + (PP - y)) % PP) ∧ ∀ z, z ∉ [o] → F1 z = F z) := by
  refine jm_kv (cc := cX1_difference) (maxL := 3) (by decide) rfl (Nat.le_of_ble_eq_true rfl) ?_
  intro E L F hE hR hpre
  have hE : jOk E G _ cX1_difference 3 RX1 wsX1_difference := hE
  obtain ⟨ho, ⟨la, ha, hKa, hx⟩, hcb, hnd⟩ := hpre
  have hylt := co_lt hcb
  obtain ⟨lb, hb, hKb, hy⟩ := hcb
  have f7 : jFl RX1 wsX1_difference 7 1 0 := ⟨rfl, by decide, by decide +kernel, by decide +kernel⟩
  have f13 : jFl RX1 wsX1_difference 13 1 1 := ⟨rfl, by decide, by decide +kernel, by decide +kernel⟩
  have f16 : jFl RX1 wsX1_difference 16 1 2 := ⟨rfl, by decide, by decide +kernel, by decide +kernel⟩
  have f19 : jFl RX1 wsX1_difference 19 1 3 := ⟨rfl, by decide, by decide +kernel, by decide +kernel⟩
  have f22 : jFl RX1 wsX1_difference 22 1 4 := ⟨rfl, by decide, by decide +kernel, by decide +kernel⟩
  have f25 : jFl RX1 wsX1_difference 25 1 5 := ⟨rfl, by decide, by decide +kernel, by decide +kernel⟩
  have f28 : jFl RX1 wsX1_difference 28 1 6 := ⟨rfl, by decide, by decide +kernel, by decide +kernel⟩
  have f31 : jFl RX1 wsX1_difference 31 1 7 := ⟨rfl, by decide, by decide +kernel, by decide +kernel⟩
  have f34 : jFl RX1 wsX1_difference 34 1 8 := ⟨rfl, by decide, by decide +kernel, by decide +kernel⟩
  refine jr_aload_n hE dX1_difference_0 0 rfl ?_
  refine jr_aload_n hE dX1_difference_1 1 rfl ?_
  refine jr_get hE dX1_difference_2 f7 ha rfl ?_
  refine jr_aload_n hE dX1_difference_5 2 rfl ?_
  refine jr_get hE dX1_difference_6 f7 hb rfl ?_
  refine jr_lsub hE dX1_difference_9 rfl ?_
  refine jr_topl (fun v0 ev0 => ?_)
  obtain ⟨E_v0, B_v0⟩ := iv_nm ev0 (iv_sub (hKa.1 0 (by decide)) (hKb.1 0 (by decide)) (R := 1073774592) (by decide))
  refine jr_put (ty := .long) hE dX1_difference_10 f7 ho rfl (by decide +kernel) rfl rfl (Nat.le_of_ble_eq_true rfl) (fun F1 g2 u3 => ?_)
  have g2 : jF L F1 o (.inr (1, [.long v0, .long (lo 1), .long (lo 2), .long (lo 3), .long (lo 4), .long (lo 5), .long (lo 6), .long (lo 7), .long (lo 8)])) := g2
  have g4 := ha.up u3 (jn2 hnd 1 0 rfl rfl (by decide))
  have g5 := hb.up u3 (jn2 hnd 2 0 rfl rfl (by decide))
  refine jr_aload_n hE dX1_difference_13 0 rfl ?_
  refine jr_aload_n hE dX1_difference_14 1 rfl ?_
  refine jr_get hE dX1_difference_15 f13 g4 rfl ?_
  refine jr_aload_n hE dX1_difference_18 2 rfl ?_
  refine jr_get hE dX1_difference_19 f13 g5 rfl ?_
  refine jr_lsub hE dX1_difference_22 rfl ?_
  refine jr_topl (fun v1 ev1 => ?_)
  obtain ⟨E_v1, B_v1⟩ := iv_nm ev1 (iv_sub (hKa.1 1 (by decide)) (hKb.1 1 (by decide)) (R := 1073774592) (by decide))
  refine jr_put (ty := .long) hE dX1_difference_23 f13 g2 rfl (by decide +kernel) rfl rfl (Nat.le_of_ble_eq_true rfl) (fun F6 g7 u8 => ?_)
  have g7 : jF L F6 o (.inr (1, [.long v0, .long v1, .long (lo 2), .long (lo 3), .long (lo 4), .long (lo 5), .long (lo 6), .long (lo 7), .long (lo 8)])) := g7
  have g9 := g4.up u8 (jn2 hnd 1 0 rfl rfl (by decide))
  have g10 := g5.up u8 (jn2 hnd 2 0 rfl rfl (by decide))
  refine jr_aload_n hE dX1_difference_26 0 rfl ?_
  refine jr_aload_n hE dX1_difference_27 1 rfl ?_
  refine jr_get hE dX1_difference_28 f16 g9 rfl ?_
  refine jr_aload_n hE dX1_difference_31 2 rfl ?_
  refine jr_get hE dX1_difference_32 f16 g10 rfl ?_
  refine jr_lsub hE dX1_difference_35 rfl ?_
  refine jr_topl (fun v2 ev2 => ?_)
  obtain ⟨E_v2, B_v2⟩ := iv_nm ev2 (iv_sub (hKa.1 2 (by decide)) (hKb.1 2 (by decide)) (R := 1073774592) (by decide))
  refine jr_put (ty := .long) hE dX1_difference_36 f16 g7 rfl (by decide +kernel) rfl rfl (Nat.le_of_ble_eq_true rfl) (fun F11 g12 u13 => ?_)
  have g12 : jF L F11 o (.inr (1, [.long v0, .long v1, .long v2, .long (lo 3), .long (lo 4), .long (lo 5), .long (lo 6), .long (lo 7), .long (lo 8)])) := g12
  have g14 := g9.up u13 (jn2 hnd 1 0 rfl rfl (by decide))
  have g15 := g10.up u13 (jn2 hnd 2 0 rfl rfl (by decide))
  refine jr_aload_n hE dX1_difference_39 0 rfl ?_
  refine jr_aload_n hE dX1_difference_40 1 rfl ?_
  refine jr_get hE dX1_difference_41 f19 g14 rfl ?_
  refine jr_aload_n hE dX1_difference_44 2 rfl ?_
  refine jr_get hE dX1_difference_45 f19 g15 rfl ?_
  refine jr_lsub hE dX1_difference_48 rfl ?_
  refine jr_topl (fun v3 ev3 => ?_)
  obtain ⟨E_v3, B_v3⟩ := iv_nm ev3 (iv_sub (hKa.1 3 (by decide)) (hKb.1 3 (by decide)) (R := 1073774592) (by decide))
  refine jr_put (ty := .long) hE dX1_difference_49 f19 g12 rfl (by decide +kernel) rfl rfl (Nat.le_of_ble_eq_true rfl) (fun F16 g17 u18 => ?_)
  have g17 : jF L F16 o (.inr (1, [.long v0, .long v1, .long v2, .long v3, .long (lo 4), .long (lo 5), .long (lo 6), .long (lo 7), .long (lo 8)])) := g17
  have g19 := g14.up u18 (jn2 hnd 1 0 rfl rfl (by decide))
  have g20 := g15.up u18 (jn2 hnd 2 0 rfl rfl (by decide))
  refine jr_aload_n hE dX1_difference_52 0 rfl ?_
  refine jr_aload_n hE dX1_difference_53 1 rfl ?_
  refine jr_get hE dX1_difference_54 f22 g19 rfl ?_
  refine jr_aload_n hE dX1_difference_57 2 rfl ?_
  refine jr_get hE dX1_difference_58 f22 g20 rfl ?_
  refine jr_lsub hE dX1_difference_61 rfl ?_
  refine jr_topl (fun v4 ev4 => ?_)
  obtain ⟨E_v4, B_v4⟩ := iv_nm ev4 (iv_sub (hKa.1 4 (by decide)) (hKb.1 4 (by decide)) (R := 1073774592) (by decide))
  refine jr_put (ty := .long) hE dX1_difference_62 f22 g17 rfl (by decide +kernel) rfl rfl (Nat.le_of_ble_eq_true rfl) (fun F21 g22 u23 => ?_)
  have g22 : jF L F21 o (.inr (1, [.long v0, .long v1, .long v2, .long v3, .long v4, .long (lo 5), .long (lo 6), .long (lo 7), .long (lo 8)])) := g22
  have g24 := g19.up u23 (jn2 hnd 1 0 rfl rfl (by decide))
  have g25 := g20.up u23 (jn2 hnd 2 0 rfl rfl (by decide))
  refine jr_aload_n hE dX1_difference_65 0 rfl ?_
  refine jr_aload_n hE dX1_difference_66 1 rfl ?_
  refine jr_get hE dX1_difference_67 f25 g24 rfl ?_
  refine jr_aload_n hE dX1_difference_70 2 rfl ?_
  refine jr_get hE dX1_difference_71 f25 g25 rfl ?_
  refine jr_lsub hE dX1_difference_74 rfl ?_
  refine jr_topl (fun v5 ev5 => ?_)
  obtain ⟨E_v5, B_v5⟩ := iv_nm ev5 (iv_sub (hKa.1 5 (by decide)) (hKb.1 5 (by decide)) (R := 1073774592) (by decide))
  refine jr_put (ty := .long) hE dX1_difference_75 f25 g22 rfl (by decide +kernel) rfl rfl (Nat.le_of_ble_eq_true rfl) (fun F26 g27 u28 => ?_)
  have g27 : jF L F26 o (.inr (1, [.long v0, .long v1, .long v2, .long v3, .long v4, .long v5, .long (lo 6), .long (lo 7), .long (lo 8)])) := g27
  have g29 := g24.up u28 (jn2 hnd 1 0 rfl rfl (by decide))
  have g30 := g25.up u28 (jn2 hnd 2 0 rfl rfl (by decide))
  refine jr_aload_n hE dX1_difference_78 0 rfl ?_
  refine jr_aload_n hE dX1_difference_79 1 rfl ?_
  refine jr_get hE dX1_difference_80 f28 g29 rfl ?_
  refine jr_aload_n hE dX1_difference_83 2 rfl ?_
  refine jr_get hE dX1_difference_84 f28 g30 rfl ?_
  refine jr_lsub hE dX1_difference_87 rfl ?_
  refine jr_topl (fun v6 ev6 => ?_)
  obtain ⟨E_v6, B_v6⟩ := iv_nm ev6 (iv_sub (hKa.1 6 (by decide)) (hKb.1 6 (by decide)) (R := 1073774592) (by decide))
  refine jr_put (ty := .long) hE dX1_difference_88 f28 g27 rfl (by decide +kernel) rfl rfl (Nat.le_of_ble_eq_true rfl) (fun F31 g32 u33 => ?_)
  have g32 : jF L F31 o (.inr (1, [.long v0, .long v1, .long v2, .long v3, .long v4, .long v5, .long v6, .long (lo 7), .long (lo 8)])) := g32
  have g34 := g29.up u33 (jn2 hnd 1 0 rfl rfl (by decide))
  have g35 := g30.up u33 (jn2 hnd 2 0 rfl rfl (by decide))
  refine jr_aload_n hE dX1_difference_91 0 rfl ?_
  refine jr_aload_n hE dX1_difference_92 1 rfl ?_
  refine jr_get hE dX1_difference_93 f31 g34 rfl ?_
  refine jr_aload_n hE dX1_difference_96 2 rfl ?_
  refine jr_get hE dX1_difference_97 f31 g35 rfl ?_
  refine jr_lsub hE dX1_difference_100 rfl ?_
  refine jr_topl (fun v7 ev7 => ?_)
  obtain ⟨E_v7, B_v7⟩ := iv_nm ev7 (iv_sub (hKa.1 7 (by decide)) (hKb.1 7 (by decide)) (R := 1073774592) (by decide))
  refine jr_put (ty := .long) hE dX1_difference_101 f31 g32 rfl (by decide +kernel) rfl rfl (Nat.le_of_ble_eq_true rfl) (fun F36 g37 u38 => ?_)
  have g37 : jF L F36 o (.inr (1, [.long v0, .long v1, .long v2, .long v3, .long v4, .long v5, .long v6, .long v7, .long (lo 8)])) := g37
  have g39 := g34.up u38 (jn2 hnd 1 0 rfl rfl (by decide))
  have g40 := g35.up u38 (jn2 hnd 2 0 rfl rfl (by decide))
  refine jr_aload_n hE dX1_difference_104 0 rfl ?_
  refine jr_aload_n hE dX1_difference_105 1 rfl ?_
  refine jr_get hE dX1_difference_106 f34 g39 rfl ?_
  refine jr_aload_n hE dX1_difference_109 2 rfl ?_
  refine jr_get hE dX1_difference_110 f34 g40 rfl ?_
  refine jr_lsub hE dX1_difference_113 rfl ?_
  refine jr_topl (fun v8 ev8 => ?_)
  obtain ⟨E_v8, B_v8⟩ := iv_nm ev8 (iv_sub hKa.2 hKb.2 (R := 33587200) (by decide))
  refine jr_put (ty := .long) hE dX1_difference_114 f34 g37 rfl (by decide +kernel) rfl rfl (Nat.le_of_ble_eq_true rfl) (fun F41 g42 u43 => ?_)
  have g42 : jF L F41 o (.inr (1, [.long v0, .long v1, .long v2, .long v3, .long v4, .long v5, .long v6, .long v7, .long v8])) := g42
  have g44 := g39.up u43 (jn2 hnd 1 0 rfl rfl (by decide))
  have g45 := g40.up u43 (jn2 hnd 2 0 rfl rfl (by decide))
  refine jr_aload_n hE dX1_difference_117 0 rfl ?_
  have hraw : jF L F41 o (cC (cl9 v0 v1 v2 v3 v4 v5 v6 v7 v8)) := g42
  have hKr : cK 17179869184 17179869184 (cl9 v0 v1 v2 v3 v4 v5 v6 v7 v8) := cK_of (iv_le B_v0 (by decide)) (iv_le B_v1 (by decide)) (iv_le B_v2 (by decide)) (iv_le B_v3 (by decide)) (iv_le B_v4 (by decide)) (iv_le B_v5 (by decide)) (iv_le B_v6 (by decide)) (iv_le B_v7 (by decide)) (iv_le B_v8 (by decide))
  have hval : cV (cl9 v0 v1 v2 v3 v4 v5 v6 v7 v8) % (PP : Int) = (((x + (PP - y)) % PP : Nat) : Int) := by rw [diff_alg E_v0 E_v1 E_v2 E_v3 E_v4 E_v5 E_v6 E_v7 E_v8]; exact sub_mod hx hy hylt
  refine jr_kVv (ci := 1) (n := 0) (As := []) (rest := []) hE dX1_difference_118 (fun l => c_X1_carry l G o _) gX1_difference_X1_carry rfl hraw rfl (by decide +kernel) ⟨rfl, rfl, by decide, by decide⟩ (by decide) rfl rfl (Nat.le_of_ble_eq_true rfl) (⟨hraw, hKr⟩) (fun F46 q47 => ?_)
  obtain ⟨l1, c1, c2, c3, c4, c5, fr1⟩ := q47
  exact hR F46 _ _ dX1_difference_121 ⟨co_carry c1 c2 c3 hval, fun z hz => (fr1 z hz).trans ((u43 z (jne hz 0 rfl)).trans ((u38 z (jne hz 0 rfl)).trans ((u33 z (jne hz 0 rfl)).trans ((u28 z (jne hz 0 rfl)).trans ((u23 z (jne hz 0 rfl)).trans ((u18 z (jne hz 0 rfl)).trans ((u13 z (jne hz 0 rfl)).trans ((u8 z (jne hz 0 rfl)).trans (u3 z (jne hz 0 rfl))))))))))⟩

theorem mult_alg {la : Nat → Int64} {k : Int} {v0 v1 v2 v3 v4 v5 v6 v7 v8 : Int64} (h0 : v0.toInt = (la 0).toInt * k) (h1 : v1.toInt = (la 1).toInt * k) (h2 : v2.toInt = (la 2).toInt * k) (h3 : v3.toInt = (la 3).toInt * k) (h4 : v4.toInt = (la 4).toInt * k) (h5 : v5.toInt = (la 5).toInt * k) (h6 : v6.toInt = (la 6).toInt * k) (h7 : v7.toInt = (la 7).toInt * k) (h8 : v8.toInt = (la 8).toInt * k) : cV (cl9 v0 v1 v2 v3 v4 v5 v6 v7 v8) = k * cV la := by
  show v0.toInt + v1.toInt * 536870912 + v2.toInt * 536870912 ^ 2 + v3.toInt * 536870912 ^ 3 + v4.toInt * 536870912 ^ 4 + v5.toInt * 536870912 ^ 5 + v6.toInt * 536870912 ^ 6 + v7.toInt * 536870912 ^ 7 + v8.toInt * 536870912 ^ 8 = _
  unfold cV
  rw [h0, h1, h2, h3, h4, h5, h6, h7, h8]
  grind
theorem mul_mod_k {A k : Int} {x : Nat} (hA : A % (PP : Int) = x) : (k * A) % (PP : Int) = (((k * (x : Int)) % (PP : Int)).toNat : Int) := by
  rw [Int.mul_emod, hA, Int.toNat_of_nonneg (Int.emod_nonneg _ (by decide))]
  conv => rhs; rw [Int.mul_emod]
  rw [Int.emod_eq_of_lt (Int.natCast_nonneg x) (by have := Int.emod_lt_of_pos A (show (0 : Int) < PP by decide); omega)]

set_option maxHeartbeats 4000000 in
set_option maxRecDepth 100000 in
theorem c_X1_multiple (l : Launch) (G : Nat → ClassId) (o x : Nat) (fc : Int32) (k : Int) : jKv l yX1_multiple wsX1_multiple ({ frames := 1, cells := 0, slots := 0, locals := 24 }) G [.ref o, .ref o, .int fc] (fun L F => jCo L F o x ∧ iv fc.toInt64 k 8) (fun L F F1 => jCo L F1 o ((k * (x : Int)) % (PP : Int)).toNat ∧ ∀ z, z ∉ [o] → F1 z = F z) := by
  refine jm_kv (cc := cX1_multiple) (maxL := 3) (by decide) rfl (Nat.le_of_ble_eq_true rfl) ?_
  intro E L F hE hR hpre
  have hE : jOk E G _ cX1_multiple 3 RX1 wsX1_multiple := hE
  obtain ⟨⟨la, ho, hKa, hx⟩, hk64⟩ := hpre
  have f7 : jFl RX1 wsX1_multiple 7 1 0 := ⟨rfl, by decide, by decide +kernel, by decide +kernel⟩
  have f13 : jFl RX1 wsX1_multiple 13 1 1 := ⟨rfl, by decide, by decide +kernel, by decide +kernel⟩
  have f16 : jFl RX1 wsX1_multiple 16 1 2 := ⟨rfl, by decide, by decide +kernel, by decide +kernel⟩
  have f19 : jFl RX1 wsX1_multiple 19 1 3 := ⟨rfl, by decide, by decide +kernel, by decide +kernel⟩
  have f22 : jFl RX1 wsX1_multiple 22 1 4 := ⟨rfl, by decide, by decide +kernel, by decide +kernel⟩
  have f25 : jFl RX1 wsX1_multiple 25 1 5 := ⟨rfl, by decide, by decide +kernel, by decide +kernel⟩
  have f28 : jFl RX1 wsX1_multiple 28 1 6 := ⟨rfl, by decide, by decide +kernel, by decide +kernel⟩
  have f31 : jFl RX1 wsX1_multiple 31 1 7 := ⟨rfl, by decide, by decide +kernel, by decide +kernel⟩
  have f34 : jFl RX1 wsX1_multiple 34 1 8 := ⟨rfl, by decide, by decide +kernel, by decide +kernel⟩
  refine jr_aload_n hE dX1_multiple_0 0 rfl ?_
  refine jr_aload_n hE dX1_multiple_1 1 rfl ?_
  refine jr_get hE dX1_multiple_2 f7 ho rfl ?_
  refine jr_iload_n hE dX1_multiple_5 2 rfl ?_
  refine jr_i2l hE dX1_multiple_6 rfl ?_
  refine jr_lmul hE dX1_multiple_7 rfl ?_
  refine jr_topl (fun v0 ev0 => ?_)
  obtain ⟨E_v0, B_v0⟩ := iv_nm ev0 (iv_mul (hKa.1 0 (by decide)) hk64 (R := 4295098368) (by decide))
  refine jr_put (ty := .long) hE dX1_multiple_8 f7 ho rfl (by decide +kernel) rfl rfl (Nat.le_of_ble_eq_true rfl) (fun F1 g2 u3 => ?_)
  have g2 : jF L F1 o (.inr (1, [.long v0, .long (la 1), .long (la 2), .long (la 3), .long (la 4), .long (la 5), .long (la 6), .long (la 7), .long (la 8)])) := g2
  refine jr_aload_n hE dX1_multiple_11 0 rfl ?_
  refine jr_aload_n hE dX1_multiple_12 1 rfl ?_
  refine jr_get hE dX1_multiple_13 f13 g2 rfl ?_
  refine jr_iload_n hE dX1_multiple_16 2 rfl ?_
  refine jr_i2l hE dX1_multiple_17 rfl ?_
  refine jr_lmul hE dX1_multiple_18 rfl ?_
  refine jr_topl (fun v1 ev1 => ?_)
  obtain ⟨E_v1, B_v1⟩ := iv_nm ev1 (iv_mul (hKa.1 1 (by decide)) hk64 (R := 4295098368) (by decide))
  refine jr_put (ty := .long) hE dX1_multiple_19 f13 g2 rfl (by decide +kernel) rfl rfl (Nat.le_of_ble_eq_true rfl) (fun F4 g5 u6 => ?_)
  have g5 : jF L F4 o (.inr (1, [.long v0, .long v1, .long (la 2), .long (la 3), .long (la 4), .long (la 5), .long (la 6), .long (la 7), .long (la 8)])) := g5
  refine jr_aload_n hE dX1_multiple_22 0 rfl ?_
  refine jr_aload_n hE dX1_multiple_23 1 rfl ?_
  refine jr_get hE dX1_multiple_24 f16 g5 rfl ?_
  refine jr_iload_n hE dX1_multiple_27 2 rfl ?_
  refine jr_i2l hE dX1_multiple_28 rfl ?_
  refine jr_lmul hE dX1_multiple_29 rfl ?_
  refine jr_topl (fun v2 ev2 => ?_)
  obtain ⟨E_v2, B_v2⟩ := iv_nm ev2 (iv_mul (hKa.1 2 (by decide)) hk64 (R := 4295098368) (by decide))
  refine jr_put (ty := .long) hE dX1_multiple_30 f16 g5 rfl (by decide +kernel) rfl rfl (Nat.le_of_ble_eq_true rfl) (fun F7 g8 u9 => ?_)
  have g8 : jF L F7 o (.inr (1, [.long v0, .long v1, .long v2, .long (la 3), .long (la 4), .long (la 5), .long (la 6), .long (la 7), .long (la 8)])) := g8
  refine jr_aload_n hE dX1_multiple_33 0 rfl ?_
  refine jr_aload_n hE dX1_multiple_34 1 rfl ?_
  refine jr_get hE dX1_multiple_35 f19 g8 rfl ?_
  refine jr_iload_n hE dX1_multiple_38 2 rfl ?_
  refine jr_i2l hE dX1_multiple_39 rfl ?_
  refine jr_lmul hE dX1_multiple_40 rfl ?_
  refine jr_topl (fun v3 ev3 => ?_)
  obtain ⟨E_v3, B_v3⟩ := iv_nm ev3 (iv_mul (hKa.1 3 (by decide)) hk64 (R := 4295098368) (by decide))
  refine jr_put (ty := .long) hE dX1_multiple_41 f19 g8 rfl (by decide +kernel) rfl rfl (Nat.le_of_ble_eq_true rfl) (fun F10 g11 u12 => ?_)
  have g11 : jF L F10 o (.inr (1, [.long v0, .long v1, .long v2, .long v3, .long (la 4), .long (la 5), .long (la 6), .long (la 7), .long (la 8)])) := g11
  refine jr_aload_n hE dX1_multiple_44 0 rfl ?_
  refine jr_aload_n hE dX1_multiple_45 1 rfl ?_
  refine jr_get hE dX1_multiple_46 f22 g11 rfl ?_
  refine jr_iload_n hE dX1_multiple_49 2 rfl ?_
  refine jr_i2l hE dX1_multiple_50 rfl ?_
  refine jr_lmul hE dX1_multiple_51 rfl ?_
  refine jr_topl (fun v4 ev4 => ?_)
  obtain ⟨E_v4, B_v4⟩ := iv_nm ev4 (iv_mul (hKa.1 4 (by decide)) hk64 (R := 4295098368) (by decide))
  refine jr_put (ty := .long) hE dX1_multiple_52 f22 g11 rfl (by decide +kernel) rfl rfl (Nat.le_of_ble_eq_true rfl) (fun F13 g14 u15 => ?_)
  have g14 : jF L F13 o (.inr (1, [.long v0, .long v1, .long v2, .long v3, .long v4, .long (la 5), .long (la 6), .long (la 7), .long (la 8)])) := g14
  refine jr_aload_n hE dX1_multiple_55 0 rfl ?_
  refine jr_aload_n hE dX1_multiple_56 1 rfl ?_
  refine jr_get hE dX1_multiple_57 f25 g14 rfl ?_
  refine jr_iload_n hE dX1_multiple_60 2 rfl ?_
  refine jr_i2l hE dX1_multiple_61 rfl ?_
  refine jr_lmul hE dX1_multiple_62 rfl ?_
  refine jr_topl (fun v5 ev5 => ?_)
  obtain ⟨E_v5, B_v5⟩ := iv_nm ev5 (iv_mul (hKa.1 5 (by decide)) hk64 (R := 4295098368) (by decide))
  refine jr_put (ty := .long) hE dX1_multiple_63 f25 g14 rfl (by decide +kernel) rfl rfl (Nat.le_of_ble_eq_true rfl) (fun F16 g17 u18 => ?_)
  have g17 : jF L F16 o (.inr (1, [.long v0, .long v1, .long v2, .long v3, .long v4, .long v5, .long (la 6), .long (la 7), .long (la 8)])) := g17
  refine jr_aload_n hE dX1_multiple_66 0 rfl ?_
  refine jr_aload_n hE dX1_multiple_67 1 rfl ?_
  refine jr_get hE dX1_multiple_68 f28 g17 rfl ?_
  refine jr_iload_n hE dX1_multiple_71 2 rfl ?_
  refine jr_i2l hE dX1_multiple_72 rfl ?_
  refine jr_lmul hE dX1_multiple_73 rfl ?_
  refine jr_topl (fun v6 ev6 => ?_)
  obtain ⟨E_v6, B_v6⟩ := iv_nm ev6 (iv_mul (hKa.1 6 (by decide)) hk64 (R := 4295098368) (by decide))
  refine jr_put (ty := .long) hE dX1_multiple_74 f28 g17 rfl (by decide +kernel) rfl rfl (Nat.le_of_ble_eq_true rfl) (fun F19 g20 u21 => ?_)
  have g20 : jF L F19 o (.inr (1, [.long v0, .long v1, .long v2, .long v3, .long v4, .long v5, .long v6, .long (la 7), .long (la 8)])) := g20
  refine jr_aload_n hE dX1_multiple_77 0 rfl ?_
  refine jr_aload_n hE dX1_multiple_78 1 rfl ?_
  refine jr_get hE dX1_multiple_79 f31 g20 rfl ?_
  refine jr_iload_n hE dX1_multiple_82 2 rfl ?_
  refine jr_i2l hE dX1_multiple_83 rfl ?_
  refine jr_lmul hE dX1_multiple_84 rfl ?_
  refine jr_topl (fun v7 ev7 => ?_)
  obtain ⟨E_v7, B_v7⟩ := iv_nm ev7 (iv_mul (hKa.1 7 (by decide)) hk64 (R := 4295098368) (by decide))
  refine jr_put (ty := .long) hE dX1_multiple_85 f31 g20 rfl (by decide +kernel) rfl rfl (Nat.le_of_ble_eq_true rfl) (fun F22 g23 u24 => ?_)
  have g23 : jF L F22 o (.inr (1, [.long v0, .long v1, .long v2, .long v3, .long v4, .long v5, .long v6, .long v7, .long (la 8)])) := g23
  refine jr_aload_n hE dX1_multiple_88 0 rfl ?_
  refine jr_aload_n hE dX1_multiple_89 1 rfl ?_
  refine jr_get hE dX1_multiple_90 f34 g23 rfl ?_
  refine jr_iload_n hE dX1_multiple_93 2 rfl ?_
  refine jr_i2l hE dX1_multiple_94 rfl ?_
  refine jr_lmul hE dX1_multiple_95 rfl ?_
  refine jr_topl (fun v8 ev8 => ?_)
  obtain ⟨E_v8, B_v8⟩ := iv_nm ev8 (iv_mul hKa.2 hk64 (R := 134348800) (by decide))
  refine jr_put (ty := .long) hE dX1_multiple_96 f34 g23 rfl (by decide +kernel) rfl rfl (Nat.le_of_ble_eq_true rfl) (fun F25 g26 u27 => ?_)
  have g26 : jF L F25 o (.inr (1, [.long v0, .long v1, .long v2, .long v3, .long v4, .long v5, .long v6, .long v7, .long v8])) := g26
  refine jr_aload_n hE dX1_multiple_99 0 rfl ?_
  have hraw : jF L F25 o (cC (cl9 v0 v1 v2 v3 v4 v5 v6 v7 v8)) := g26
  have hKr : cK 17179869184 17179869184 (cl9 v0 v1 v2 v3 v4 v5 v6 v7 v8) := cK_of (iv_le B_v0 (by decide)) (iv_le B_v1 (by decide)) (iv_le B_v2 (by decide)) (iv_le B_v3 (by decide)) (iv_le B_v4 (by decide)) (iv_le B_v5 (by decide)) (iv_le B_v6 (by decide)) (iv_le B_v7 (by decide)) (iv_le B_v8 (by decide))
  have hval : cV (cl9 v0 v1 v2 v3 v4 v5 v6 v7 v8) % (PP : Int) = ((((k * (x : Int)) % (PP : Int)).toNat : Nat) : Int) := by rw [mult_alg E_v0 E_v1 E_v2 E_v3 E_v4 E_v5 E_v6 E_v7 E_v8]; exact mul_mod_k hx
  refine jr_kVv (ci := 1) (n := 0) (As := []) (rest := []) hE dX1_multiple_100 (fun l => c_X1_carry l G o _) gX1_multiple_X1_carry rfl hraw rfl (by decide +kernel) ⟨rfl, rfl, by decide, by decide⟩ (by decide) rfl rfl (Nat.le_of_ble_eq_true rfl) (⟨hraw, hKr⟩) (fun F28 q29 => ?_)
  obtain ⟨l1, c1, c2, c3, c4, c5, fr1⟩ := q29
  exact hR F28 _ _ dX1_multiple_103 ⟨co_carry c1 c2 c3 hval, fun z hz => (fr1 z hz).trans ((u27 z (jne hz 0 rfl)).trans ((u24 z (jne hz 0 rfl)).trans ((u21 z (jne hz 0 rfl)).trans ((u18 z (jne hz 0 rfl)).trans ((u15 z (jne hz 0 rfl)).trans ((u12 z (jne hz 0 rfl)).trans ((u9 z (jne hz 0 rfl)).trans ((u6 z (jne hz 0 rfl)).trans (u3 z (jne hz 0 rfl))))))))))⟩

theorem small_alg {la : Nat → Int64} {n : Nat} {v0 : Int64} (h0 : v0.toInt = (la 0).toInt + (n : Int)) : cV (cl9 v0 (la 1) (la 2) (la 3) (la 4) (la 5) (la 6) (la 7) (la 8)) = cV la + n := by
  show v0.toInt + (la 1).toInt * 536870912 + (la 2).toInt * 536870912 ^ 2 + (la 3).toInt * 536870912 ^ 3 + (la 4).toInt * 536870912 ^ 4 + (la 5).toInt * 536870912 ^ 5 + (la 6).toInt * 536870912 ^ 6 + (la 7).toInt * 536870912 ^ 7 + (la 8).toInt * 536870912 ^ 8 = _
  unfold cV
  omega
theorem add_mod_n {A : Int} {x n : Nat} (hA : A % (PP : Int) = x) : (A + n) % (PP : Int) = ((x + n) % PP : Nat) := by
  rw [Int.add_emod, hA]
  norm_cast
  rw [Nat.add_mod_mod]

set_option maxHeartbeats 4000000 in
set_option maxRecDepth 100000 in
theorem c_X1_addSmall (l : Launch) (G : Nat → ClassId) (o x n : Nat) : jKv l yX1_addSmall wsX1_addSmall ({ frames := 1, cells := 0, slots := 0, locals := 24 }) G [.ref o, .int (nI n)] (fun L F => jCo L F o x ∧ n ≤ 100) (fun L F F1 => jCo L F1 o ((x + n) % PP) ∧ ∀ z, z ∉ [o] → F1 z = F z) := by
  refine jm_kv (cc := cX1_addSmall) (maxL := 2) (by decide) rfl (Nat.le_of_ble_eq_true rfl) ?_
  intro E L F hE hR hpre
  have hE : jOk E G _ cX1_addSmall 2 RX1 wsX1_addSmall := hE
  obtain ⟨⟨la, ho, hKa, hx⟩, hn⟩ := hpre
  have hn64 : iv (nI n).toInt64 (n : Int) 100 := by
    rw [nI_l (by omega)]
    exact ⟨lN_toInt (by omega), by omega, by omega⟩
  have f7 : jFl RX1 wsX1_addSmall 7 1 0 := ⟨rfl, by decide, by decide +kernel, by decide +kernel⟩
  refine jr_aload_n hE dX1_addSmall_0 0 rfl ?_
  refine jr_dup hE dX1_addSmall_1 rfl ?_
  refine jr_get hE dX1_addSmall_2 f7 ho rfl ?_
  refine jr_iload_n hE dX1_addSmall_5 1 rfl ?_
  refine jr_i2l hE dX1_addSmall_6 rfl ?_
  refine jr_ladd hE dX1_addSmall_7 rfl ?_
  refine jr_topl (fun v0 ev0 => ?_)
  obtain ⟨E_v0, B_v0⟩ := iv_nm ev0 (iv_add (hKa.1 0 (by decide)) hn64 (R := 536887396) (by decide))
  refine jr_put (ty := .long) hE dX1_addSmall_8 f7 ho rfl (by decide +kernel) rfl rfl (Nat.le_of_ble_eq_true rfl) (fun F1 g2 u3 => ?_)
  have g2 : jF L F1 o (.inr (1, [.long v0, .long (la 1), .long (la 2), .long (la 3), .long (la 4), .long (la 5), .long (la 6), .long (la 7), .long (la 8)])) := g2
  refine jr_aload_n hE dX1_addSmall_11 0 rfl ?_
  have hraw : jF L F1 o (cC (cl9 v0 (la 1) (la 2) (la 3) (la 4) (la 5) (la 6) (la 7) (la 8))) := g2
  have hKr : cK 17179869184 17179869184 (cl9 v0 (la 1) (la 2) (la 3) (la 4) (la 5) (la 6) (la 7) (la 8)) := cK_of (iv_le B_v0 (by decide)) (iv_le (hKa.1 1 (by decide)) (by decide)) (iv_le (hKa.1 2 (by decide)) (by decide)) (iv_le (hKa.1 3 (by decide)) (by decide)) (iv_le (hKa.1 4 (by decide)) (by decide)) (iv_le (hKa.1 5 (by decide)) (by decide)) (iv_le (hKa.1 6 (by decide)) (by decide)) (iv_le (hKa.1 7 (by decide)) (by decide)) (iv_le hKa.2 (by decide))
  have hval : cV (cl9 v0 (la 1) (la 2) (la 3) (la 4) (la 5) (la 6) (la 7) (la 8)) % (PP : Int) = (((x + n) % PP : Nat) : Int) := by rw [small_alg E_v0]; exact add_mod_n hx
  refine jr_kVv (ci := 1) (n := 0) (As := []) (rest := []) hE dX1_addSmall_12 (fun l => c_X1_carry l G o _) gX1_addSmall_X1_carry rfl hraw rfl (by decide +kernel) ⟨rfl, rfl, by decide, by decide⟩ (by decide) rfl rfl (Nat.le_of_ble_eq_true rfl) (⟨hraw, hKr⟩) (fun F4 q5 => ?_)
  obtain ⟨l1, c1, c2, c3, c4, c5, fr1⟩ := q5
  exact hR F4 _ _ dX1_addSmall_15 ⟨co_carry c1 c2 c3 hval, fun z hz => (fr1 z hz).trans (u3 z (jne hz 0 rfl))⟩

def sqn (x : Nat) : Nat → Nat
  | 0 => x
  | n + 1 => sqn x n * sqn x n % PP

set_option maxHeartbeats 4000000 in
set_option maxRecDepth 100000 in
theorem c_X1_raise (l : Launch) (G : Nat → ClassId) (o a c n x y : Nat) (lo : Nat → Int64) : jKv l yX1_raise wsX1_raise ({ frames := 1, cells := 0, slots := 0, locals := 80 }) G [.ref o, .ref a, .int (nI n), .ref c] (fun L F => jF L F o (cC lo) ∧ jCo L F a x ∧ jCo L F c y ∧ [o, c].Nodup ∧ n < 1000) (fun L F F1 => jCo L F1 o (sqn x n * y % PP) ∧ ∀ z, z ∉ [o] → F1 z = F z) := by
  refine jm_kv (cc := cX1_raise) (maxL := 5) (by decide) rfl (Nat.le_of_ble_eq_true rfl) ?_
  intro E L F hE hR hpre
  have hE : jOk E G _ cX1_raise 5 RX1 wsX1_raise := hE

  obtain ⟨ho, hA, hC, hnd, hn⟩ := hpre
  have loop : ∀ (r i : Nat) (F2 : Nat → va_E), i + r = n → jCo L F2 o (sqn x i) → (∀ z, z ∉ [o] → F2 z = F z) → J E L F2 0 0 8 [(4, .int (nI i)), (0, .ref o), (1, .ref a), (2, .int (nI n)), (3, .ref c)] [] := by
    intro r
    induction r with
    | zero =>
      intro i F2 hin hO hfr
      obtain ⟨lq, hq⟩ := hO.cell
      refine jr_iload hE dX1_raise_8 0 rfl ?_
      refine jr_iload_n hE dX1_raise_10 3 rfl ?_
      refine jr_icmp_ge (tgt := 26) hE dX1_raise_11 (by decide) (fun c_11 => ?_) (fun c_11 => absurd (nI_le (by omega) (by omega)) c_11)
      refine jr_aload_n hE dX1_raise_26 1 rfl ?_
      refine jr_aload_n hE dX1_raise_27 1 rfl ?_
      refine jr_aload_n hE dX1_raise_28 4 rfl ?_
      refine jr_kVv (ci := 1) (n := 2) (As := [.ref o, .ref c]) (rest := []) hE dX1_raise_29 (fun l => c_X1_product l G o o c (sqn x i) y lq) gX1_raise_X1_product rfl hq rfl (by decide +kernel) ⟨rfl, rfl, by decide, by decide⟩ (by decide) rfl rfl (Nat.le_of_ble_eq_true rfl) (⟨hq, hO, hC.fr (hfr c (jn hnd 1 [0] rfl rfl (by decide)))⟩) (fun F1 q2 => ?_)
      obtain ⟨hO2, fr2⟩ := q2
      exact hR F1 _ _ dX1_raise_32 ⟨by rw [show n = i by omega]; exact hO2, fun z hz => (fr2 z hz).trans (hfr z hz)⟩
    | succ r ih =>
      intro i F2 hin hO hfr
      obtain ⟨lq, hq⟩ := hO.cell
      refine jr_iload hE dX1_raise_8 0 rfl ?_
      refine jr_iload_n hE dX1_raise_10 3 rfl ?_
      refine jr_icmp_ge (tgt := 26) hE dX1_raise_11 (by decide) (fun c_11 => absurd c_11 (nI_ge (by omega) (by omega))) (fun c_11 => ?_)
      refine jr_aload_n hE dX1_raise_14 1 rfl ?_
      refine jr_aload_n hE dX1_raise_15 1 rfl ?_
      refine jr_aload_n hE dX1_raise_16 1 rfl ?_
      refine jr_kVv (ci := 1) (n := 2) (As := [.ref o, .ref o]) (rest := []) hE dX1_raise_17 (fun l => c_X1_product l G o o o (sqn x i) (sqn x i) lq) gX1_raise_X1_product rfl hq rfl (by decide +kernel) ⟨rfl, rfl, by decide, by decide⟩ (by decide) rfl rfl (Nat.le_of_ble_eq_true rfl) (⟨hq, hO, hO⟩) (fun F1 q2 => ?_)
      obtain ⟨hO2, fr2⟩ := q2
      refine jr_iinc (v := nI (i + 1)) (lv' := [(4, .int (nI (i + 1))), (0, .ref o), (1, .ref a), (2, .int (nI n)), (3, .ref c)]) hE dX1_raise_20 0 rfl (nI_1 _) (by decide) rfl ?_
      refine jr_goto (tgt := 8) hE dX1_raise_23 (by decide) ?_
      exact ih (i + 1) F1 (by omega) hO2 (fun z hz => (fr2 z hz).trans (hfr z hz))
  refine jr_aload_n hE dX1_raise_0 0 rfl ?_
  refine jr_aload_n hE dX1_raise_1 1 rfl ?_
  refine jr_kVv (ci := 1) (n := 1) (As := [.ref a]) (rest := []) hE dX1_raise_2 (fun l => c_X1_become l G o a x lo) gX1_raise_X1_become rfl ho rfl (by decide +kernel) ⟨rfl, rfl, by decide, by decide⟩ (by decide) rfl rfl (Nat.le_of_ble_eq_true rfl) (⟨ho, hA⟩) (fun F1 q2 => ?_)
  obtain ⟨hO, fr1⟩ := q2
  refine jr_iconst (v := (0 : Int32)) hE dX1_raise_5 (by decide) ?_
  refine jr_istore (lv' := [(4, .int (0 : Int32)), (0, .ref o), (1, .ref a), (2, .int (nI n)), (3, .ref c)]) hE dX1_raise_6 (by decide) rfl ?_
  exact loop n 0 F1 (by omega) hO fr1

