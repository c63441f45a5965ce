/-! coordinates by their bits -/
def dg (V i : Nat) : Nat := V / 536870912 ^ i % 536870912
theorem dg_lt (V i : Nat) : dg V i < 536870912 := Nat.mod_lt _ (by decide)
theorem dg_step (V i : Nat) : V / 536870912 ^ i = dg V i + 536870912 * (V / 536870912 ^ (i + 1)) := by
  unfold dg
  rw [Nat.pow_succ, ← Nat.div_div_eq_div_mul]
  exact (Nat.mod_add_div _ _).symm
theorem dg_sum {V : Nat} (h : V < 2 ^ 256) : V = dg V 0 + dg V 1 * 536870912 + dg V 2 * 536870912 ^ 2 + dg V 3 * 536870912 ^ 3 + dg V 4 * 536870912 ^ 4 + dg V 5 * 536870912 ^ 5 + dg V 6 * 536870912 ^ 6 + dg V 7 * 536870912 ^ 7 + dg V 8 * 536870912 ^ 8 ∧ dg V 8 < 16777216 := by
  have h0 := dg_step V 0
  have h1 := dg_step V 1
  have h2 := dg_step V 2
  have h3 := dg_step V 3
  have h4 := dg_step V 4
  have h5 := dg_step V 5
  have h6 := dg_step V 6
  have h7 := dg_step V 7
  have h8 : V / 536870912 ^ 8 = dg V 8 := by
    unfold dg
    exact (Nat.mod_eq_of_lt (Nat.div_lt_of_lt_mul (Nat.lt_trans h (by decide)))).symm
  have h9 : V / 536870912 ^ 8 < 16777216 := Nat.div_lt_of_lt_mul (Nat.lt_of_lt_of_le h (by decide))
  rw [Nat.pow_zero, Nat.div_one] at h0
  simp only [Nat.reduceAdd] at h0 h1 h2 h3 h4 h5 h6 h7
  rw [Nat.pow_one] at h0 h1
  omega
theorem dg_uniq {V d0 d1 d2 d3 d4 d5 d6 d7 d8 : Nat} (h0 : d0 < 536870912) (h1 : d1 < 536870912) (h2 : d2 < 536870912) (h3 : d3 < 536870912) (h4 : d4 < 536870912) (h5 : d5 < 536870912) (h6 : d6 < 536870912) (h7 : d7 < 536870912) (h8 : d8 < 536870912) (hV : V = d0 + 536870912 * (d1 + 536870912 * (d2 + 536870912 * (d3 + 536870912 * (d4 + 536870912 * (d5 + 536870912 * (d6 + 536870912 * (d7 + 536870912 * d8)))))))) : dg V 0 = d0 ∧ dg V 1 = d1 ∧ dg V 2 = d2 ∧ dg V 3 = d3 ∧ dg V 4 = d4 ∧ dg V 5 = d5 ∧ dg V 6 = d6 ∧ dg V 7 = d7 ∧ dg V 8 = d8 := by
  have key : ∀ (i a b : Nat), a < 536870912 → V / 536870912 ^ i = a + 536870912 * b → dg V i = a ∧ V / 536870912 ^ (i + 1) = b := by
    intro i a b ha hb
    have := dg_step V i
    have := dg_lt V i
    omega
  obtain ⟨a0, b0⟩ := key 0 _ _ h0 (by rw [Nat.pow_zero, Nat.div_one]; exact hV)
  obtain ⟨a1, b1⟩ := key 1 _ _ h1 b0
  obtain ⟨a2, b2⟩ := key 2 _ _ h2 b1
  obtain ⟨a3, b3⟩ := key 3 _ _ h3 b2
  obtain ⟨a4, b4⟩ := key 4 _ _ h4 b3
  obtain ⟨a5, b5⟩ := key 5 _ _ h5 b4
  obtain ⟨a6, b6⟩ := key 6 _ _ h6 b5
  obtain ⟨a7, b7⟩ := key 7 _ _ h7 b6
  obtain ⟨a8, b8⟩ := key 8 d8 0 h8 (by rw [b7]; rfl)
  exact ⟨a0, a1, a2, a3, a4, a5, a6, a7, a8⟩
def cd (V : Nat) : Nat → Int64 := fun i => lN (dg V i)
theorem cd_toInt (V i : Nat) : (cd V i).toInt = (dg V i : Int) := pk_lT (Nat.lt_trans (dg_lt V i) (by decide))
/-- a coordinate by its bits -/
def jCd (L : List Nat) (F : Nat → va_E) (a V : Nat) : Prop := jF L F a (cC (cd V)) ∧ V < 2 ^ 256
theorem jCd.co {L : List Nat} {F : Nat → va_E} {a V : Nat} (h : jCd L F a V) : jCo L F a (V % PP) := by
  have hs := dg_sum h.2
  have hb := dg_lt V
  refine ⟨cd V, h.1, ⟨fun i hi => ⟨rfl, ?_, ?_⟩, rfl, ?_, ?_⟩, ?_⟩
  · rw [cd_toInt]; omega
  · rw [cd_toInt]; have := hb i; omega
  · rw [cd_toInt]; omega
  · rw [cd_toInt]; omega
  · have e : cV (cd V) = (V : Int) := by
      unfold cV
      rw [cd_toInt, cd_toInt, cd_toInt, cd_toInt, cd_toInt, cd_toInt, cd_toInt, cd_toInt, cd_toInt]
      have h1 := congrArg (fun n : Nat => (n : Int)) hs.1
      simp only [Int.natCast_add, Int.natCast_mul, Int.natCast_pow] at h1
      exact h1.symm
    rw [e]; norm_cast
theorem jCd.fr {L : List Nat} {F F' : Nat → va_E} {a x : Nat} (h : jCd L F a x) (e : F' a = F a) : jCd L F' a x := ⟨h.1.fr e, h.2⟩
theorem or_shl {a b k : Nat} {c : Int32} (ha : a < 2 ^ k) (hk : k < 64) (hs : (c.toInt64 &&& 63) = lN k) : lN a ||| lN b <<< (c.toInt64 &&& 63) = lN (a + b * 2 ^ k) := by
  rw [lshl_mul _ k hk hs, lN_mul]
  have e : (2 : Nat) ^ 64 = 2 ^ k * 2 ^ (64 - k) := by rw [← Nat.pow_add, show k + (64 - k) = 64 by omega]
  have e1 : b * 2 ^ k % 2 ^ 64 = 2 ^ k * (b % 2 ^ (64 - k)) := by rw [e, Nat.mul_comm, Nat.mul_mod_mul_left]
  have hlt : 2 ^ k * (b % 2 ^ (64 - k)) + a < 2 ^ 64 := by
    rw [e]
    have h1 : b % 2 ^ (64 - k) + 1 ≤ 2 ^ (64 - k) := Nat.mod_lt _ (Nat.two_pow_pos _)
    have h2 := Nat.mul_le_mul_left (2 ^ k) h1
    rw [Nat.mul_add, Nat.mul_one] at h2
    omega
  have h9 := Nat.two_pow_add_eq_or_of_lt ha (b % 2 ^ (64 - k))
  rw [wb_mod (b * 2 ^ k), wb_mod (a + b * 2 ^ k), ← Nat.add_mod_mod, e1]
  generalize 2 ^ k * (b % 2 ^ (64 - k)) = m at *
  rw [wb_or (by omega) (by omega), Nat.mod_eq_of_lt (by omega), Nat.or_comm, ← h9, Nat.add_comm]
theorem mk29 (n : Nat) : lN n &&& 536870911 = lN (n % 536870912) := by
  rw [wb_mod]
  have h := wb_mask (n := n % 2 ^ 64) (k := 29) (Nat.mod_lt _ (by decide)) (by decide)
  rw [show (536870911 : Int64) = lN (2 ^ 29 - 1) from rfl, h]
  congr 1
  omega
theorem ushr {n k : Nat} {c : Int32} (hn : n < 2 ^ 64) (hk : k < 64) (hs : c = nI k) : ((lN n).toUInt64 >>> (c.toInt64.toUInt64 &&& Int64.toUInt64 63)).toInt64 = lN (n / 2 ^ k) := by
  rw [hs]; exact wb_shr hn hk

theorem bw_0 {V w0 w1 w2 w3 : Nat} (hV : V = w0 + w1 * 2 ^ 64 + w2 * 2 ^ 128 + w3 * 2 ^ 192) (h0 : w0 < 2 ^ 64) (h1 : w1 < 2 ^ 64) (h2 : w2 < 2 ^ 64) : w0 % 536870912 = dg V 0 := by
  unfold dg
  omega

theorem bw_1 {V w0 w1 w2 w3 : Nat} (hV : V = w0 + w1 * 2 ^ 64 + w2 * 2 ^ 128 + w3 * 2 ^ 192) (h0 : w0 < 2 ^ 64) (h1 : w1 < 2 ^ 64) (h2 : w2 < 2 ^ 64) : w0 / 2 ^ 29 % 536870912 = dg V 1 := by
  unfold dg
  omega

theorem bw_2 {V w0 w1 w2 w3 : Nat} (hV : V = w0 + w1 * 2 ^ 64 + w2 * 2 ^ 128 + w3 * 2 ^ 192) (h0 : w0 < 2 ^ 64) (h1 : w1 < 2 ^ 64) (h2 : w2 < 2 ^ 64) : (w0 / 2 ^ 58 + w1 * 2 ^ 6) % 536870912 = dg V 2 := by
  unfold dg
  omega

theorem bw_3 {V w0 w1 w2 w3 : Nat} (hV : V = w0 + w1 * 2 ^ 64 + w2 * 2 ^ 128 + w3 * 2 ^ 192) (h0 : w0 < 2 ^ 64) (h1 : w1 < 2 ^ 64) (h2 : w2 < 2 ^ 64) : w1 / 2 ^ 23 % 536870912 = dg V 3 := by
  unfold dg
  omega

theorem bw_4 {V w0 w1 w2 w3 : Nat} (hV : V = w0 + w1 * 2 ^ 64 + w2 * 2 ^ 128 + w3 * 2 ^ 192) (h0 : w0 < 2 ^ 64) (h1 : w1 < 2 ^ 64) (h2 : w2 < 2 ^ 64) : (w1 / 2 ^ 52 + w2 * 2 ^ 12) % 536870912 = dg V 4 := by
  unfold dg
  omega

theorem bw_5 {V w0 w1 w2 w3 : Nat} (hV : V = w0 + w1 * 2 ^ 64 + w2 * 2 ^ 128 + w3 * 2 ^ 192) (h0 : w0 < 2 ^ 64) (h1 : w1 < 2 ^ 64) (h2 : w2 < 2 ^ 64) : w2 / 2 ^ 17 % 536870912 = dg V 5 := by
  unfold dg
  omega

theorem bw_6 {V w0 w1 w2 w3 : Nat} (hV : V = w0 + w1 * 2 ^ 64 + w2 * 2 ^ 128 + w3 * 2 ^ 192) (h0 : w0 < 2 ^ 64) (h1 : w1 < 2 ^ 64) (h2 : w2 < 2 ^ 64) : (w2 / 2 ^ 46 + w3 * 2 ^ 18) % 536870912 = dg V 6 := by
  unfold dg
  omega

theorem bw_7 {V w0 w1 w2 w3 : Nat} (hV : V = w0 + w1 * 2 ^ 64 + w2 * 2 ^ 128 + w3 * 2 ^ 192) (h0 : w0 < 2 ^ 64) (h1 : w1 < 2 ^ 64) (h2 : w2 < 2 ^ 64) : w3 / 2 ^ 11 % 536870912 = dg V 7 := by
  unfold dg
  omega

theorem bw_8 {V w0 w1 w2 w3 : Nat} (hV : V = w0 + w1 * 2 ^ 64 + w2 * 2 ^ 128 + w3 * 2 ^ 192) (h0 : w0 < 2 ^ 64) (h1 : w1 < 2 ^ 64) (h2 : w2 < 2 ^ 64) (h3 : w3 < 2 ^ 64) : w3 / 2 ^ 40 = dg V 8 := by
  unfold dg
  omega

set_option maxHeartbeats 4000000 in
set_option maxRecDepth 100000 in
theorem c_X1_becomeWords (l : Launch) (G : Nat → ClassId) (o V w0 w1 w2 w3 : Nat) (lo : Nat → Int64) : jKv l yX1_becomeWords wsX1_becomeWords ({ frames := 0, cells := 0, slots := 0, locals := 0 }) G [.ref o, .long (lN w3), .long (lN w2), .long (lN w1), .long (lN w0)] (fun L F => jF L F o (cC lo) ∧ V = w0 + w1 * 2 ^ 64 + w2 * 2 ^ 128 + w3 * 2 ^ 192 ∧ w0 < 2 ^ 64 ∧ w1 < 2 ^ 64 ∧ w2 < 2 ^ 64 ∧ w3 < 2 ^ 64) (fun L F F1 => jCd L F1 o V ∧ ∀ z, z ∉ [o] → F1 z = F z) := by
  refine jm_kv (cc := cX1_becomeWords) (maxL := 9) (by decide) rfl (Nat.le_of_ble_eq_true rfl) ?_
  intro E L F hE hR hpre
  have hE : jOk E G _ cX1_becomeWords 9 RX1 wsX1_becomeWords := hE
  obtain ⟨ho, hV, hw0, hw1, hw2, hw3⟩ := hpre
  have f7 : jFl RX1 wsX1_becomeWords 7 1 0 := ⟨rfl, by decide, by decide +kernel, by decide +kernel⟩
  have f13 : jFl RX1 wsX1_becomeWords 13 1 1 := ⟨rfl, by decide, by decide +kernel, by decide +kernel⟩
  have f16 : jFl RX1 wsX1_becomeWords 16 1 2 := ⟨rfl, by decide, by decide +kernel, by decide +kernel⟩
  have f19 : jFl RX1 wsX1_becomeWords 19 1 3 := ⟨rfl, by decide, by decide +kernel, by decide +kernel⟩
  have f22 : jFl RX1 wsX1_becomeWords 22 1 4 := ⟨rfl, by decide, by decide +kernel, by decide +kernel⟩
  have f25 : jFl RX1 wsX1_becomeWords 25 1 5 := ⟨rfl, by decide, by decide +kernel, by decide +kernel⟩
  have f28 : jFl RX1 wsX1_becomeWords 28 1 6 := ⟨rfl, by decide, by decide +kernel, by decide +kernel⟩
  have f31 : jFl RX1 wsX1_becomeWords 31 1 7 := ⟨rfl, by decide, by decide +kernel, by decide +kernel⟩
  have f34 : jFl RX1 wsX1_becomeWords 34 1 8 := ⟨rfl, by decide, by decide +kernel, by decide +kernel⟩
  refine jr_aload_n hE dX1_becomeWords_0 0 rfl ?_
  refine jr_lload hE dX1_becomeWords_1 4 rfl ?_
  refine jr_ldc2 (v := (536870911 : Int64)) hE dX1_becomeWords_3 (by decide +kernel) ?_
  refine jr_land (z := cd V 0) hE dX1_becomeWords_6 (by rw [mk29]; exact congrArg lN (bw_0 hV hw0 hw1 hw2)) ?_
  refine jr_put (ty := .long) hE dX1_becomeWords_7 f7 ho rfl (by decide +kernel) rfl rfl (Nat.le_of_ble_eq_true rfl) (fun F1 g2 u3 => ?_)
  have g2 : jF L F1 o (.inr (1, [.long (cd V 0), .long (lo 1), .long (lo 2), .long (lo 3), .long (lo 4), .long (lo 5), .long (lo 6), .long (lo 7), .long (lo 8)])) := g2
  refine jr_aload_n hE dX1_becomeWords_10 0 rfl ?_
  refine jr_lload hE dX1_becomeWords_11 4 rfl ?_
  refine jr_bipush (v := (29 : Int32)) hE dX1_becomeWords_13 (by decide) ?_
  refine jr_lushr (z := lN (w0 / 2 ^ 29)) hE dX1_becomeWords_15 (ushr hw0 (by decide) rfl) ?_
  refine jr_ldc2 (v := (536870911 : Int64)) hE dX1_becomeWords_16 (by decide +kernel) ?_
  refine jr_land (z := cd V 1) hE dX1_becomeWords_19 (by rw [mk29]; exact congrArg lN (bw_1 hV hw0 hw1 hw2)) ?_
  refine jr_put (ty := .long) hE dX1_becomeWords_20 f13 g2 rfl (by decide +kernel) rfl rfl (Nat.le_of_ble_eq_true rfl) (fun F4 g5 u6 => ?_)
  have g5 : jF L F4 o (.inr (1, [.long (cd V 0), .long (cd V 1), .long (lo 2), .long (lo 3), .long (lo 4), .long (lo 5), .long (lo 6), .long (lo 7), .long (lo 8)])) := g5
  refine jr_aload_n hE dX1_becomeWords_23 0 rfl ?_
  refine jr_lload hE dX1_becomeWords_24 4 rfl ?_
  refine jr_bipush (v := (58 : Int32)) hE dX1_becomeWords_26 (by decide) ?_
  refine jr_lushr (z := lN (w0 / 2 ^ 58)) hE dX1_becomeWords_28 (ushr hw0 (by decide) rfl) ?_
  refine jr_lload hE dX1_becomeWords_29 3 rfl ?_
  refine jr_bipush (v := (6 : Int32)) hE dX1_becomeWords_31 (by decide) ?_
  refine jr_lshl (z := lN w1 <<< ((6 : Int32).toInt64 &&& 63)) hE dX1_becomeWords_33 rfl ?_
  refine jr_lor (z := lN (w0 / 2 ^ 58 + w1 * 2 ^ 6)) hE dX1_becomeWords_34 (or_shl (by omega) (by decide) (by decide)) ?_
  refine jr_ldc2 (v := (536870911 : Int64)) hE dX1_becomeWords_35 (by decide +kernel) ?_
  refine jr_land (z := cd V 2) hE dX1_becomeWords_38 (by rw [mk29]; exact congrArg lN (bw_2 hV hw0 hw1 hw2)) ?_
  refine jr_put (ty := .long) hE dX1_becomeWords_39 f16 g5 rfl (by decide +kernel) rfl rfl (Nat.le_of_ble_eq_true rfl) (fun F7 g8 u9 => ?_)
  have g8 : jF L F7 o (.inr (1, [.long (cd V 0), .long (cd V 1), .long (cd V 2), .long (lo 3), .long (lo 4), .long (lo 5), .long (lo 6), .long (lo 7), .long (lo 8)])) := g8
  refine jr_aload_n hE dX1_becomeWords_42 0 rfl ?_
  refine jr_lload hE dX1_becomeWords_43 3 rfl ?_
  refine jr_bipush (v := (23 : Int32)) hE dX1_becomeWords_45 (by decide) ?_
  refine jr_lushr (z := lN (w1 / 2 ^ 23)) hE dX1_becomeWords_47 (ushr hw1 (by decide) rfl) ?_
  refine jr_ldc2 (v := (536870911 : Int64)) hE dX1_becomeWords_48 (by decide +kernel) ?_
  refine jr_land (z := cd V 3) hE dX1_becomeWords_51 (by rw [mk29]; exact congrArg lN (bw_3 hV hw0 hw1 hw2)) ?_
  refine jr_put (ty := .long) hE dX1_becomeWords_52 f19 g8 rfl (by decide +kernel) rfl rfl (Nat.le_of_ble_eq_true rfl) (fun F10 g11 u12 => ?_)
  have g11 : jF L F10 o (.inr (1, [.long (cd V 0), .long (cd V 1), .long (cd V 2), .long (cd V 3), .long (lo 4), .long (lo 5), .long (lo 6), .long (lo 7), .long (lo 8)])) := g11
  refine jr_aload_n hE dX1_becomeWords_55 0 rfl ?_
  refine jr_lload hE dX1_becomeWords_56 3 rfl ?_
  refine jr_bipush (v := (52 : Int32)) hE dX1_becomeWords_58 (by decide) ?_
  refine jr_lushr (z := lN (w1 / 2 ^ 52)) hE dX1_becomeWords_60 (ushr hw1 (by decide) rfl) ?_
  refine jr_lload_n hE dX1_becomeWords_61 2 rfl ?_
  refine jr_bipush (v := (12 : Int32)) hE dX1_becomeWords_62 (by decide) ?_
  refine jr_lshl (z := lN w2 <<< ((12 : Int32).toInt64 &&& 63)) hE dX1_becomeWords_64 rfl ?_
  refine jr_lor (z := lN (w1 / 2 ^ 52 + w2 * 2 ^ 12)) hE dX1_becomeWords_65 (or_shl (by omega) (by decide) (by decide)) ?_
  refine jr_ldc2 (v := (536870911 : Int64)) hE dX1_becomeWords_66 (by decide +kernel) ?_
  refine jr_land (z := cd V 4) hE dX1_becomeWords_69 (by rw [mk29]; exact congrArg lN (bw_4 hV hw0 hw1 hw2)) ?_
  refine jr_put (ty := .long) hE dX1_becomeWords_70 f22 g11 rfl (by decide +kernel) rfl rfl (Nat.le_of_ble_eq_true rfl) (fun F13 g14 u15 => ?_)
  have g14 : jF L F13 o (.inr (1, [.long (cd V 0), .long (cd V 1), .long (cd V 2), .long (cd V 3), .long (cd V 4), .long (lo 5), .long (lo 6), .long (lo 7), .long (lo 8)])) := g14
  refine jr_aload_n hE dX1_becomeWords_73 0 rfl ?_
  refine jr_lload_n hE dX1_becomeWords_74 2 rfl ?_
  refine jr_bipush (v := (17 : Int32)) hE dX1_becomeWords_75 (by decide) ?_
  refine jr_lushr (z := lN (w2 / 2 ^ 17)) hE dX1_becomeWords_77 (ushr hw2 (by decide) rfl) ?_
  refine jr_ldc2 (v := (536870911 : Int64)) hE dX1_becomeWords_78 (by decide +kernel) ?_
  refine jr_land (z := cd V 5) hE dX1_becomeWords_81 (by rw [mk29]; exact congrArg lN (bw_5 hV hw0 hw1 hw2)) ?_
  refine jr_put (ty := .long) hE dX1_becomeWords_82 f25 g14 rfl (by decide +kernel) rfl rfl (Nat.le_of_ble_eq_true rfl) (fun F16 g17 u18 => ?_)
  have g17 : jF L F16 o (.inr (1, [.long (cd V 0), .long (cd V 1), .long (cd V 2), .long (cd V 3), .long (cd V 4), .long (cd V 5), .long (lo 6), .long (lo 7), .long (lo 8)])) := g17
  refine jr_aload_n hE dX1_becomeWords_85 0 rfl ?_
  refine jr_lload_n hE dX1_becomeWords_86 2 rfl ?_
  refine jr_bipush (v := (46 : Int32)) hE dX1_becomeWords_87 (by decide) ?_
  refine jr_lushr (z := lN (w2 / 2 ^ 46)) hE dX1_becomeWords_89 (ushr hw2 (by decide) rfl) ?_
  refine jr_lload_n hE dX1_becomeWords_90 1 rfl ?_
  refine jr_bipush (v := (18 : Int32)) hE dX1_becomeWords_91 (by decide) ?_
  refine jr_lshl (z := lN w3 <<< ((18 : Int32).toInt64 &&& 63)) hE dX1_becomeWords_93 rfl ?_
  refine jr_lor (z := lN (w2 / 2 ^ 46 + w3 * 2 ^ 18)) hE dX1_becomeWords_94 (or_shl (by omega) (by decide) (by decide)) ?_
  refine jr_ldc2 (v := (536870911 : Int64)) hE dX1_becomeWords_95 (by decide +kernel) ?_
  refine jr_land (z := cd V 6) hE dX1_becomeWords_98 (by rw [mk29]; exact congrArg lN (bw_6 hV hw0 hw1 hw2)) ?_
  refine jr_put (ty := .long) hE dX1_becomeWords_99 f28 g17 rfl (by decide +kernel) rfl rfl (Nat.le_of_ble_eq_true rfl) (fun F19 g20 u21 => ?_)
  have g20 : jF L F19 o (.inr (1, [.long (cd V 0), .long (cd V 1), .long (cd V 2), .long (cd V 3), .long (cd V 4), .long (cd V 5), .long (cd V 6), .long (lo 7), .long (lo 8)])) := g20
  refine jr_aload_n hE dX1_becomeWords_102 0 rfl ?_
  refine jr_lload_n hE dX1_becomeWords_103 1 rfl ?_
  refine jr_bipush (v := (11 : Int32)) hE dX1_becomeWords_104 (by decide) ?_
  refine jr_lushr (z := lN (w3 / 2 ^ 11)) hE dX1_becomeWords_106 (ushr hw3 (by decide) rfl) ?_
  refine jr_ldc2 (v := (536870911 : Int64)) hE dX1_becomeWords_107 (by decide +kernel) ?_
  refine jr_land (z := cd V 7) hE dX1_becomeWords_110 (by rw [mk29]; exact congrArg lN (bw_7 hV hw0 hw1 hw2)) ?_
  refine jr_put (ty := .long) hE dX1_becomeWords_111 f31 g20 rfl (by decide +kernel) rfl rfl (Nat.le_of_ble_eq_true rfl) (fun F22 g23 u24 => ?_)
  have g23 : jF L F22 o (.inr (1, [.long (cd V 0), .long (cd V 1), .long (cd V 2), .long (cd V 3), .long (cd V 4), .long (cd V 5), .long (cd V 6), .long (cd V 7), .long (lo 8)])) := g23
  refine jr_aload_n hE dX1_becomeWords_114 0 rfl ?_
  refine jr_lload_n hE dX1_becomeWords_115 1 rfl ?_
  refine jr_bipush (v := (40 : Int32)) hE dX1_becomeWords_116 (by decide) ?_
  refine jr_lushr (z := cd V 8) hE dX1_becomeWords_118 ((ushr (k := 40) hw3 (by decide) rfl).trans (congrArg lN (bw_8 hV hw0 hw1 hw2 hw3))) ?_
  refine jr_put (ty := .long) hE dX1_becomeWords_119 f34 g23 rfl (by decide +kernel) rfl rfl (Nat.le_of_ble_eq_true rfl) (fun F25 g26 u27 => ?_)
  have g26 : jF L F25 o (.inr (1, [.long (cd V 0), .long (cd V 1), .long (cd V 2), .long (cd V 3), .long (cd V 4), .long (cd V 5), .long (cd V 6), .long (cd V 7), .long (cd V 8)])) := g26
  exact hR F25 _ _ dX1_becomeWords_122 ⟨⟨g26, by omega⟩, fun z hz => ((u27 z (jne hz 0 rfl)).trans ((u24 z (jne hz 0 rfl)).trans ((u21 z (jne hz 0 rfl)).trans ((u18 z (jne hz 0 rfl)).trans ((u15 z (jne hz 0 rfl)).trans ((u12 z (jne hz 0 rfl)).trans ((u9 z (jne hz 0 rfl)).trans ((u6 z (jne hz 0 rfl)).trans (u3 z (jne hz 0 rfl))))))))))⟩

theorem and_max {a b n : Nat} (ha : a < 2 ^ n) (hb : b < 2 ^ n) : a &&& b = 2 ^ n - 1 ↔ a = 2 ^ n - 1 ∧ b = 2 ^ n - 1 := by
  have h1 := Nat.and_le_left (n := a) (m := b)
  have h2 := Nat.and_le_right (n := a) (m := b)
  constructor
  · intro h; omega
  · intro h; rw [h.1, h.2, Nat.and_self]
def nA (V : Nat) : Nat := dg V 2 &&& dg V 3 &&& dg V 4 &&& dg V 5 &&& dg V 6 &&& dg V 7
theorem nA_iff (V : Nat) : nA V = 536870911 ↔ dg V 2 = 536870911 ∧ dg V 3 = 536870911 ∧ dg V 4 = 536870911 ∧ dg V 5 = 536870911 ∧ dg V 6 = 536870911 ∧ dg V 7 = 536870911 := by
  have hb := dg_lt V
  have A : ∀ {a b : Nat}, a < 536870912 → b < 536870912 → (a &&& b = 536870911 ↔ a = 536870911 ∧ b = 536870911) := fun ha hb => and_max (n := 29) ha hb
  have B : ∀ {a b : Nat}, a < 536870912 → a &&& b < 536870912 := fun ha => Nat.lt_of_le_of_lt Nat.and_le_left ha
  unfold nA
  have b2 := hb 2
  have b3 := B (b := dg V 3) b2
  have b4 := B (b := dg V 4) b3
  have b5 := B (b := dg V 5) b4
  have b6 := B (b := dg V 6) b5
  rw [A b6 (hb 7), A b5 (hb 6), A b4 (hb 5), A b3 (hb 4), A b2 (hb 3)]
  simp only [and_assoc]
theorem nA_lt (V : Nat) : nA V < 536870912 := by
  have := dg_lt V 7
  exact Nat.lt_of_le_of_lt Nat.and_le_right this
theorem PP_nat : PP = 115792089237316195423570985008687907853269984665640564039457584007908834671663 := by decide
theorem bp_not {V : Nat} (h : V < 2 ^ 256) (hn : ¬ (nA V = 536870911 ∧ dg V 8 = 16777215)) : V < PP := by
  rcases Nat.lt_or_ge V PP with q | q
  · exact q
  · exfalso
    apply hn
    rw [nA_iff]
    have hs := dg_sum h
    have hb := dg_lt V
    have b0 := hb 0
    have b1 := hb 1
    have b2 := hb 2
    have b3 := hb 3
    have b4 := hb 4
    have b5 := hb 5
    have b6 := hb 6
    have b7 := hb 7
    rw [PP_nat] at q
    generalize dg V 0 = d0 at *
    generalize dg V 1 = d1 at *
    generalize dg V 2 = d2 at *
    generalize dg V 3 = d3 at *
    generalize dg V 4 = d4 at *
    generalize dg V 5 = d5 at *
    generalize dg V 6 = d6 at *
    generalize dg V 7 = d7 at *
    generalize dg V 8 = d8 at *
    clear hb
    omega
theorem bp_full {V : Nat} (h : V < 2 ^ 256) (hf : nA V = 536870911 ∧ dg V 8 = 16777215) : V = PP + (dg V 0 + dg V 1 * 536870912) - 288230371856743471 ∧ (V < PP ↔ dg V 0 + dg V 1 * 536870912 < 288230371856743471) := by
  have hs := (dg_sum h).1
  obtain ⟨h2, h3, h4, h5, h6, h7⟩ := (nA_iff V).mp hf.1
  have h8 := hf.2
  rw [h2, h3, h4, h5, h6, h7, h8] at hs
  rw [PP_nat]
  omega

theorem lt64 (V i : Nat) : dg V i < 2 ^ 64 := Nat.lt_trans (dg_lt V i) (by decide)
theorem lt63 (V i : Nat) : dg V i < 2 ^ 63 := Nat.lt_trans (dg_lt V i) (by decide)

set_option maxHeartbeats 4000000 in
set_option maxRecDepth 100000 in
theorem c_X1_isBelowP (l : Launch) (G : Nat → ClassId) (o V : Nat) : jKi l yX1_isBelowP wsX1_isBelowP ({ frames := 0, cells := 0, slots := 0, locals := 0 }) G [.ref o] (fun L F => jCd L F o V) (fun L F r F1 => F = F1 ∧ r = b2i (V < PP)) := by
  refine jm_ki (cc := cX1_isBelowP) (maxL := 2) (rt := .boolean) (by decide) rfl (Nat.le_of_ble_eq_true rfl) ?_
  intro E L F hE hR hpre
  have hE : jOk E G _ cX1_isBelowP 2 RX1 wsX1_isBelowP := hE
  obtain ⟨ho, hV⟩ := hpre
  have f16 : jFl RX1 wsX1_isBelowP 16 1 2 := ⟨rfl, by decide, by decide +kernel, by decide +kernel⟩
  have f19 : jFl RX1 wsX1_isBelowP 19 1 3 := ⟨rfl, by decide, by decide +kernel, by decide +kernel⟩
  have f22 : jFl RX1 wsX1_isBelowP 22 1 4 := ⟨rfl, by decide, by decide +kernel, by decide +kernel⟩
  have f25 : jFl RX1 wsX1_isBelowP 25 1 5 := ⟨rfl, by decide, by decide +kernel, by decide +kernel⟩
  have f28 : jFl RX1 wsX1_isBelowP 28 1 6 := ⟨rfl, by decide, by decide +kernel, by decide +kernel⟩
  have f31 : jFl RX1 wsX1_isBelowP 31 1 7 := ⟨rfl, by decide, by decide +kernel, by decide +kernel⟩
  have f34 : jFl RX1 wsX1_isBelowP 34 1 8 := ⟨rfl, by decide, by decide +kernel, by decide +kernel⟩
  have f7 : jFl RX1 wsX1_isBelowP 7 1 0 := ⟨rfl, by decide, by decide +kernel, by decide +kernel⟩
  have f13 : jFl RX1 wsX1_isBelowP 13 1 1 := ⟨rfl, by decide, by decide +kernel, by decide +kernel⟩
  refine jr_aload_n hE dX1_isBelowP_0 0 rfl ?_
  refine jr_get hE dX1_isBelowP_1 f16 ho rfl ?_
  refine jr_aload_n hE dX1_isBelowP_4 0 rfl ?_
  refine jr_get hE dX1_isBelowP_5 f19 ho rfl ?_
  refine jr_land (z := lN (dg V 2 &&& dg V 3)) hE dX1_isBelowP_8 (wb_and (lt64 V _) (lt64 V _)) ?_
  refine jr_aload_n hE dX1_isBelowP_9 0 rfl ?_
  refine jr_get hE dX1_isBelowP_10 f22 ho rfl ?_
  refine jr_land (z := lN (dg V 2 &&& dg V 3 &&& dg V 4)) hE dX1_isBelowP_13 (wb_and (Nat.lt_of_le_of_lt Nat.and_le_right (lt64 V _)) (lt64 V _)) ?_
  refine jr_aload_n hE dX1_isBelowP_14 0 rfl ?_
  refine jr_get hE dX1_isBelowP_15 f25 ho rfl ?_
  refine jr_land (z := lN (dg V 2 &&& dg V 3 &&& dg V 4 &&& dg V 5)) hE dX1_isBelowP_18 (wb_and (Nat.lt_of_le_of_lt Nat.and_le_right (lt64 V _)) (lt64 V _)) ?_
  refine jr_aload_n hE dX1_isBelowP_19 0 rfl ?_
  refine jr_get hE dX1_isBelowP_20 f28 ho rfl ?_
  refine jr_land (z := lN (dg V 2 &&& dg V 3 &&& dg V 4 &&& dg V 5 &&& dg V 6)) hE dX1_isBelowP_23 (wb_and (Nat.lt_of_le_of_lt Nat.and_le_right (lt64 V _)) (lt64 V _)) ?_
  refine jr_aload_n hE dX1_isBelowP_24 0 rfl ?_
  refine jr_get hE dX1_isBelowP_25 f31 ho rfl ?_
  refine jr_land (z := lN (nA V)) hE dX1_isBelowP_28 (wb_and (Nat.lt_of_le_of_lt Nat.and_le_right (lt64 V _)) (lt64 V _)) ?_
  refine jr_ldc2 (v := (536870911 : Int64)) hE dX1_isBelowP_29 (by decide +kernel) ?_
  refine jr_lcmp hE dX1_isBelowP_32 ?_
  refine jr_if_ne (tgt := 51) hE dX1_isBelowP_33 (by decide) (fun c33 => ?_) (fun c33 => ?_)
  · refine jr_iconst (v := (0 : Int32)) hE dX1_isBelowP_51 (by decide) ?_
    refine jr_istore_n (lv' := [(1, .int (0 : Int32)), (0, .ref o)]) hE dX1_isBelowP_52 (by decide) rfl ?_
    refine jr_iload_n hE dX1_isBelowP_53 0 rfl ?_
    refine jr_if_eq (tgt := 76) hE dX1_isBelowP_54 (by decide) (fun c_54 => ?_) (fun c_54 => absurd (rfl) c_54)
    refine jr_iconst (v := (1 : Int32)) hE dX1_isBelowP_76 (by decide) ?_
    refine jr_goto (tgt := 81) hE dX1_isBelowP_77 (by decide) ?_
    exact hR F 1 _ _ dX1_isBelowP_81 rfl ⟨rfl, (b2i_t (bp_not hV (fun h => c33 ((cmp0 (b := 536870911) (Nat.lt_trans (nA_lt V) (by decide)) (by decide)).mpr h.1)))).symm⟩
  · refine jr_aload_n hE dX1_isBelowP_36 0 rfl ?_
    refine jr_get hE dX1_isBelowP_37 f34 ho rfl ?_
    refine jr_ldc2 (v := (16777215 : Int64)) hE dX1_isBelowP_40 (by decide +kernel) ?_
    refine jr_lcmp hE dX1_isBelowP_43 ?_
    refine jr_if_ne (tgt := 51) hE dX1_isBelowP_44 (by decide) (fun c44 => ?_) (fun c44 => ?_)
    · refine jr_iconst (v := (0 : Int32)) hE dX1_isBelowP_51 (by decide) ?_
      refine jr_istore_n (lv' := [(1, .int (0 : Int32)), (0, .ref o)]) hE dX1_isBelowP_52 (by decide) rfl ?_
      refine jr_iload_n hE dX1_isBelowP_53 0 rfl ?_
      refine jr_if_eq (tgt := 76) hE dX1_isBelowP_54 (by decide) (fun c_54 => ?_) (fun c_54 => absurd (rfl) c_54)
      refine jr_iconst (v := (1 : Int32)) hE dX1_isBelowP_76 (by decide) ?_
      refine jr_goto (tgt := 81) hE dX1_isBelowP_77 (by decide) ?_
      exact hR F 1 _ _ dX1_isBelowP_81 rfl ⟨rfl, (b2i_t (bp_not hV (fun h => c44 ((cmp0 (b := 16777215) (lt63 V 8) (by decide)).mpr h.2)))).symm⟩
    · refine jr_iconst (v := (1 : Int32)) hE dX1_isBelowP_47 (by decide) ?_
      refine jr_goto (tgt := 52) hE dX1_isBelowP_48 (by decide) ?_
      refine jr_istore_n (lv' := [(1, .int (1 : Int32)), (0, .ref o)]) hE dX1_isBelowP_52 (by decide) rfl ?_
      refine jr_iload_n hE dX1_isBelowP_53 0 rfl ?_
      refine jr_if_eq (tgt := 76) hE dX1_isBelowP_54 (by decide) (fun c_54 => absurd c_54 (by decide)) (fun c_54 => ?_)
      have hf : nA V = 536870911 ∧ dg V 8 = 16777215 := ⟨(cmp0 (b := 536870911) (Nat.lt_trans (nA_lt V) (by decide)) (by decide)).mp c33, (cmp0 (b := 16777215) (lt63 V 8) (by decide)).mp c44⟩
      have hbp := (bp_full hV hf).2
      have b0 := dg_lt V 0
      have b1 := dg_lt V 1
      refine jr_aload_n hE dX1_isBelowP_57 1 rfl ?_
      refine jr_get hE dX1_isBelowP_58 f7 ho rfl ?_
      refine jr_aload_n hE dX1_isBelowP_61 1 rfl ?_
      refine jr_get hE dX1_isBelowP_62 f13 ho rfl ?_
      refine jr_bipush (v := (29 : Int32)) hE dX1_isBelowP_65 (by decide) ?_
      refine jr_lshl (z := cd V 1 <<< ((29 : Int32).toInt64 &&& 63)) hE dX1_isBelowP_67 rfl ?_
      refine jr_lor (z := lN (dg V 0 + dg V 1 * 2 ^ 29)) hE dX1_isBelowP_68 (or_shl (dg_lt V 0) (by decide) (by decide)) ?_
      refine jr_ldc2 (v := (288230371856743471 : Int64)) hE dX1_isBelowP_69 (by decide +kernel) ?_
      refine jr_lcmp hE dX1_isBelowP_72 ?_
      refine jr_if_ge (tgt := 80) hE dX1_isBelowP_73 (by decide) (fun c73 => ?_) (fun c73 => ?_)
      · refine jr_iconst (v := (0 : Int32)) hE dX1_isBelowP_80 (by decide) ?_
        exact hR F 0 _ _ dX1_isBelowP_81 rfl ⟨rfl, (b2i_f (fun h => by
          have h1 := (cmpge (b := 288230371856743471) (by omega) (by decide)).mp c73
          have h2 := hbp.mp h
          omega)).symm⟩
      · refine jr_iconst (v := (1 : Int32)) hE dX1_isBelowP_76 (by decide) ?_
        refine jr_goto (tgt := 81) hE dX1_isBelowP_77 (by decide) ?_
        exact hR F 1 _ _ dX1_isBelowP_81 rfl ⟨rfl, (b2i_t (hbp.mpr (by
          rcases Nat.lt_or_ge (dg V 0 + dg V 1 * 536870912) 288230371856743471 with q | q
          · exact q
          · exact absurd ((cmpge (b := 288230371856743471) (by omega) (by decide)).mpr q) c73))).symm⟩

theorem no_alg {a0 b0 a1 b1 a2 b2 a3 b3 a4 b4 a5 b5 a6 b6 a7 b7 a8 b8 : Int} (ha0 : 0 ≤ a0 ∧ a0 < 536870912) (ha1 : 0 ≤ a1 ∧ a1 < 536870912) (ha2 : 0 ≤ a2 ∧ a2 < 536870912) (ha3 : 0 ≤ a3 ∧ a3 < 536870912) (ha4 : 0 ≤ a4 ∧ a4 < 536870912) (ha5 : 0 ≤ a5 ∧ a5 < 536870912) (ha6 : 0 ≤ a6 ∧ a6 < 536870912) (ha7 : 0 ≤ a7 ∧ a7 < 536870912) (ha8 : -1024 ≤ a8 ∧ a8 ≤ 16778240) (hb0 : 0 ≤ b0 ∧ b0 < 536870912) (hb1 : 0 ≤ b1 ∧ b1 < 536870912) (hb2 : 0 ≤ b2 ∧ b2 < 536870912) (hb3 : 0 ≤ b3 ∧ b3 < 536870912) (hb4 : 0 ≤ b4 ∧ b4 < 536870912) (hb5 : 0 ≤ b5 ∧ b5 < 536870912) (hb6 : 0 ≤ b6 ∧ b6 < 536870912) (hb7 : 0 ≤ b7 ∧ b7 < 536870912) (hv : b0 + b1 * 536870912 + b2 * 536870912 ^ 2 + b3 * 536870912 ^ 3 + b4 * 536870912 ^ 4 + b5 * 536870912 ^ 5 + b6 * 536870912 ^ 6 + b7 * 536870912 ^ 7 + b8 * 536870912 ^ 8 = a0 + a1 * 536870912 + a2 * 536870912 ^ 2 + a3 * 536870912 ^ 3 + a4 * 536870912 ^ 4 + a5 * 536870912 ^ 5 + a6 * 536870912 ^ 6 + a7 * 536870912 ^ 7 + a8 * 536870912 ^ 8 - (536870912 ^ 8 * 16777216 - 4294968273) * (a8 / 16777216)) : 0 ≤ b0 + b1 * 536870912 + b2 * 536870912 ^ 2 + b3 * 536870912 ^ 3 + b4 * 536870912 ^ 4 + b5 * 536870912 ^ 5 + b6 * 536870912 ^ 6 + b7 * 536870912 ^ 7 + b8 * 536870912 ^ 8 ∧ b0 + b1 * 536870912 + b2 * 536870912 ^ 2 + b3 * 536870912 ^ 3 + b4 * 536870912 ^ 4 + b5 * 536870912 ^ 5 + b6 * 536870912 ^ 6 + b7 * 536870912 ^ 7 + b8 * 536870912 ^ 8 < 2 ^ 256 ∧ 0 ≤ b8 ∧ b8 < 16777216 := by
  have q : a8 / 16777216 = -1 ∨ a8 / 16777216 = 0 ∨ a8 / 16777216 = 1 := by omega
  rcases q with q | q | q <;> (rw [q] at hv; omega)

theorem nv {V n0 n1 n2 n3 n4 n5 n6 n7 n8 : Nat} (h : (n0 : Int) + (n1 : Int) * 536870912 + (n2 : Int) * 536870912 ^ 2 + (n3 : Int) * 536870912 ^ 3 + (n4 : Int) * 536870912 ^ 4 + (n5 : Int) * 536870912 ^ 5 + (n6 : Int) * 536870912 ^ 6 + (n7 : Int) * 536870912 ^ 7 + (n8 : Int) * 536870912 ^ 8 = (V : Int)) : V = n0 + 536870912 * (n1 + 536870912 * (n2 + 536870912 * (n3 + 536870912 * (n4 + 536870912 * (n5 + 536870912 * (n6 + 536870912 * (n7 + 536870912 * n8))))))) := by
  omega

theorem no_dig {a b : Nat → Int64} (ha : ∀ i, i < 8 → 0 ≤ (a i).toInt ∧ (a i).toInt < 536870912) (ha8 : iv (a 8) (a 8).toInt 16778240) (ha9 : -1024 ≤ (a 8).toInt) (hb : ∀ i, i < 8 → 0 ≤ (b i).toInt ∧ (b i).toInt < 536870912) (hv : cV b = cV a - (PP : Int) * ((a 8).toInt / 16777216)) : ∃ V : Nat, cV b = (V : Int) ∧ V < 2 ^ 256 ∧ ∀ i, i < 9 → b i = cd V i := by
  have a0 := ha 0 (by decide)
  have a1 := ha 1 (by decide)
  have a2 := ha 2 (by decide)
  have a3 := ha 3 (by decide)
  have a4 := ha 4 (by decide)
  have a5 := ha 5 (by decide)
  have a6 := ha 6 (by decide)
  have a7 := ha 7 (by decide)
  have b0 := hb 0 (by decide)
  have b1 := hb 1 (by decide)
  have b2 := hb 2 (by decide)
  have b3 := hb 3 (by decide)
  have b4 := hb 4 (by decide)
  have b5 := hb 5 (by decide)
  have b6 := hb 6 (by decide)
  have b7 := hb 7 (by decide)
  have a8 : -1024 ≤ (a 8).toInt ∧ (a 8).toInt ≤ 16778240 := ⟨ha9, ha8.2.2⟩
  have hb8 : 0 ≤ cV b ∧ cV b < 2 ^ 256 ∧ 0 ≤ (b 8).toInt ∧ (b 8).toInt < 16777216 := by
    rw [PP_eq] at hv
    unfold cV at hv ⊢
    exact no_alg a0 a1 a2 a3 a4 a5 a6 a7 a8 b0 b1 b2 b3 b4 b5 b6 b7 hv
  obtain ⟨c1, c2, c3, c4⟩ := hb8
  obtain ⟨V, hV⟩ := Int.eq_ofNat_of_zero_le c1
  obtain ⟨n0, e0⟩ := Int.eq_ofNat_of_zero_le b0.1
  obtain ⟨n1, e1⟩ := Int.eq_ofNat_of_zero_le b1.1
  obtain ⟨n2, e2⟩ := Int.eq_ofNat_of_zero_le b2.1
  obtain ⟨n3, e3⟩ := Int.eq_ofNat_of_zero_le b3.1
  obtain ⟨n4, e4⟩ := Int.eq_ofNat_of_zero_le b4.1
  obtain ⟨n5, e5⟩ := Int.eq_ofNat_of_zero_le b5.1
  obtain ⟨n6, e6⟩ := Int.eq_ofNat_of_zero_le b6.1
  obtain ⟨n7, e7⟩ := Int.eq_ofNat_of_zero_le b7.1
  obtain ⟨n8, e8⟩ := Int.eq_ofNat_of_zero_le c3
  have hVn := nv (V := V) (by have h := hV; unfold cV at h; rw [e0, e1, e2, e3, e4, e5, e6, e7, e8] at h; exact h)
  have hlt : ∀ {z : Int} {n : Nat}, z = (n : Int) → z < 536870912 → n < 536870912 := by
    intro z n h1 h2; omega
  have hu := dg_uniq (hlt e0 b0.2) (hlt e1 b1.2) (hlt e2 b2.2) (hlt e3 b3.2) (hlt e4 b4.2) (hlt e5 b5.2) (hlt e6 b6.2) (hlt e7 b7.2) (hlt e8 (Int.lt_trans c4 (by decide))) hVn
  have fin : ∀ (x : Int64) (i n : Nat), x.toInt = (n : Int) → dg V i = n → x = cd V i := by
    intro x i n h1 h2
    apply Int64.toInt_inj.mp
    rw [cd_toInt, h2]; exact h1
  obtain ⟨u0, u1, u2, u3, u4, u5, u6, u7, u8⟩ := hu
  have hVb : V < 2 ^ 256 := by
    rw [hV] at c2
    exact Int.ofNat_lt.mp c2
  refine ⟨V, hV, hVb, fun i hi => ?_⟩
  match i, hi with
  | 0, _ => exact fin _ 0 _ e0 u0
  | 1, _ => exact fin _ 1 _ e1 u1
  | 2, _ => exact fin _ 2 _ e2 u2
  | 3, _ => exact fin _ 3 _ e3 u3
  | 4, _ => exact fin _ 4 _ e4 u4
  | 5, _ => exact fin _ 5 _ e5 u5
  | 6, _ => exact fin _ 6 _ e6 u6
  | 7, _ => exact fin _ 7 _ e7 u7
  | 8, _ => exact fin _ 8 _ e8 u8
  | n + 9, h => exact absurd h (by omega)

set_option maxHeartbeats 4000000 in
set_option maxRecDepth 100000 in
theorem c_X1_normalize (l : Launch) (G : Nat → ClassId) (o x : Nat) : jKv l yX1_normalize wsX1_normalize ({ frames := 1, cells := 0, slots := 0, locals := 28 }) G [.ref o] (fun L F => jCo L F o x) (fun L F F1 => jCd L F1 o x ∧ ∀ z, z ∉ [o] → F1 z = F z) := by
  refine jm_kv (cc := cX1_normalize) (maxL := 3) (by decide) rfl (Nat.le_of_ble_eq_true rfl) ?_
  intro E L F hE hR hpre
  have hE : jOk E G _ cX1_normalize 3 RX1 wsX1_normalize := hE
  obtain ⟨lm, ho, hK, hx⟩ := hpre
  have f7 : jFl RX1 wsX1_normalize 7 1 0 := ⟨rfl, by decide, by decide +kernel, by decide +kernel⟩
  have f13 : jFl RX1 wsX1_normalize 13 1 1 := ⟨rfl, by decide, by decide +kernel, by decide +kernel⟩
  refine jr_aload_n hE dX1_normalize_0 0 rfl ?_
  refine jr_kVv (ci := 1) (n := 0) (As := []) (rest := []) hE dX1_normalize_1 (fun l => c_X1_carry l G o _) gX1_normalize_X1_carry rfl ho rfl (by decide +kernel) ⟨rfl, rfl, by decide, by decide⟩ (by decide) rfl rfl (Nat.le_of_ble_eq_true rfl) (⟨ho, ⟨fun i hi => iv_le (hK.1 i hi) (by decide), iv_le hK.2 (by decide)⟩⟩) (fun F1 q2 => ?_)
  obtain ⟨l1, g1, k1, v1, n1, x1, r1⟩ := q2
  refine jr_aload_n hE dX1_normalize_4 0 rfl ?_
  refine jr_kVv (ci := 1) (n := 0) (As := []) (rest := []) hE dX1_normalize_5 (fun l => c_X1_carry l G o _) gX1_normalize_X1_carry rfl g1 rfl (by decide +kernel) ⟨rfl, rfl, by decide, by decide⟩ (by decide) rfl rfl (Nat.le_of_ble_eq_true rfl) (⟨g1, ⟨fun i hi => iv_le (k1.1 i hi) (by decide), iv_le k1.2 (by decide)⟩⟩) (fun F3 q4 => ?_)
  obtain ⟨l2, g2, k2, v2, n2, x2, r2⟩ := q4
  obtain ⟨V, hV, hVb, hdl⟩ := no_dig n1 k1.2 x1 n2 v2
  have hd : jCd L F3 o V := ⟨by have e := g2; rw [show cC l2 = cC (cd V) by simp only [cC, hdl 0 (by decide), hdl 1 (by decide), hdl 2 (by decide), hdl 3 (by decide), hdl 4 (by decide), hdl 5 (by decide), hdl 6 (by decide), hdl 7 (by decide), hdl 8 (by decide)]] at e; exact e, hVb⟩
  have hVx : V % PP = x := by
    have h1 : (V : Int) % (PP : Int) = x := by rw [← hV, v2, Int.sub_mul_emod_self_left, v1, Int.sub_mul_emod_self_left]; exact hx
    have h2 : ((V % PP : Nat) : Int) = (x : Int) := by rw [← h1]; norm_cast
    exact Int.ofNat_inj.mp h2
  have hfr : ∀ z, z ∉ [o] → F3 z = F z := fun z hz => (r2 z hz).trans (r1 z hz)
  refine jr_aload_n hE dX1_normalize_8 0 rfl ?_
  refine jr_kVi (ci := 1) (n := 0) (As := []) (rest := []) hE dX1_normalize_9 (fun l => c_X1_isBelowP l G o V) gX1_normalize_X1_isBelowP rfl hd.1 rfl (by decide +kernel) ⟨rfl, rfl, by decide, by decide⟩ (by decide) rfl rfl (Nat.le_of_ble_eq_true rfl) (hd) (fun r7 F5 q6 => ?_)
  obtain ⟨e, rfl⟩ := q6
  subst e
  refine jr_if_eq (tgt := 16) hE dX1_normalize_12 (by decide) (fun c12 => ?_) (fun c12 => ?_)
  · have hge : ¬ V < PP := fun q => by rw [b2i_t q] at c12; exact absurd c12 (by decide)
    have hf : nA V = 536870911 ∧ dg V 8 = 16777215 := Classical.byContradiction (fun q => hge (bp_not hVb q))
    have hbp := bp_full hVb hf
    have b0 := dg_lt V 0
    have b1 := dg_lt V 1
    have hlo : 288230371856743471 ≤ dg V 0 + dg V 1 * 536870912 := by
      rcases Nat.lt_or_ge (dg V 0 + dg V 1 * 536870912) 288230371856743471 with q | q
      · exact absurd (hbp.2.mpr q) hge
      · exact q
    have hxe : x = dg V 0 + dg V 1 * 536870912 - 288230371856743471 := by
      rw [← hVx, Nat.mod_eq_sub_mod (Nat.le_of_not_lt hge), Nat.mod_eq_of_lt (by rw [PP_nat] at *; omega)]
      rw [PP_nat] at *
      omega
    refine jr_aload_n hE dX1_normalize_16 0 rfl ?_
    refine jr_get hE dX1_normalize_17 f7 hd.1 rfl ?_
    refine jr_aload_n hE dX1_normalize_20 0 rfl ?_
    refine jr_get hE dX1_normalize_21 f13 hd.1 rfl ?_
    refine jr_bipush (v := (29 : Int32)) hE dX1_normalize_24 (by decide) ?_
    refine jr_lshl (z := cd V 1 <<< ((29 : Int32).toInt64 &&& 63)) hE dX1_normalize_26 rfl ?_
    refine jr_lor (z := lN (dg V 0 + dg V 1 * 2 ^ 29)) hE dX1_normalize_27 (or_shl (dg_lt V 0) (by decide) (by decide)) ?_
    refine jr_ldc2 (v := (288230371856743471 : Int64)) hE dX1_normalize_28 (by decide +kernel) ?_
    refine jr_lsub (z := lN x) hE dX1_normalize_31 (by rw [hxe]; exact lN_sub (a := dg V 0 + dg V 1 * 2 ^ 29) (b := 288230371856743471) hlo) ?_
    refine jr_lstore_n (lv' := [(1, .long (lN x)), (0, .ref o)]) hE dX1_normalize_32 (by decide) rfl ?_
    refine jr_aload_n hE dX1_normalize_33 1 rfl ?_
    refine jr_lconst (v := (0 : Int64)) hE dX1_normalize_34 (by decide) ?_
    refine jr_lconst (v := (0 : Int64)) hE dX1_normalize_35 (by decide) ?_
    refine jr_lconst (v := (0 : Int64)) hE dX1_normalize_36 (by decide) ?_
    refine jr_lload_n hE dX1_normalize_37 0 rfl ?_
    refine jr_kVv (ci := 1) (n := 4) (As := [.long (0 : Int64), .long (0 : Int64), .long (0 : Int64), .long (lN x)]) (rest := []) hE dX1_normalize_38 (fun l => c_X1_becomeWords l G o x x 0 0 0 _) gX1_normalize_X1_becomeWords rfl hd.1 rfl (by decide +kernel) ⟨rfl, rfl, by decide, by decide⟩ (by decide) rfl rfl (Nat.le_of_ble_eq_true rfl) (⟨hd.1, by omega, by rw [hxe]; omega, by decide, by decide, by decide⟩) (fun F8 q9 => ?_)
    obtain ⟨hdx, r3⟩ := q9
    exact hR F8 _ _ dX1_normalize_41 ⟨hdx, fun z hz => (r3 z hz).trans (hfr z hz)⟩
  · exact hR _ _ _ dX1_normalize_15 ⟨by
      have hlt : V < PP := by
        rcases Nat.lt_or_ge V PP with q | q
        · exact q
        · exact absurd (b2i_f (Nat.not_lt.mpr q)) c12
      rw [← hVx, Nat.mod_eq_of_lt hlt]; exact hd, hfr⟩

theorem num32 {bs : List Nat} {st : Nat} (h : st + 32 ≤ bs.length) : bnum ((bs.drop st).take 32) = bnum ((bs.drop (st + 24)).take 8) + bnum ((bs.drop (st + 16)).take 8) * 2 ^ 64 + bnum ((bs.drop (st + 8)).take 8) * 2 ^ 128 + bnum ((bs.drop st).take 8) * 2 ^ 192 := by
  have step : ∀ (a n : Nat), a + 8 + n ≤ bs.length → bnum ((bs.drop a).take (8 + n)) = bnum ((bs.drop a).take 8) * 256 ^ n + bnum ((bs.drop (a + 8)).take n) := by
    intro a n hn
    rw [List.take_add, bnum_app, List.drop_drop]
    congr 2
    rw [List.length_take, List.length_drop]
    congr 1
    omega
  have h1 := step st 24 (by omega)
  have h2 := step (st + 8) 16 (by omega)
  have h3 := step (st + 16) 8 (by omega)
  simp only [Nat.reduceAdd, Nat.add_assoc] at h1 h2 h3
  rw [h1, h2, h3, show (256 : Nat) ^ 24 = 2 ^ 192 by decide, show (256 : Nat) ^ 16 = 2 ^ 128 by decide, show (256 : Nat) ^ 8 = 2 ^ 64 by decide]
  generalize bnum ((bs.drop (st + 24)).take 8) = a
  generalize bnum ((bs.drop (st + 16)).take 8) = b
  generalize bnum ((bs.drop (st + 8)).take 8) = c
  generalize bnum ((bs.drop st).take 8) = d
  omega

set_option maxHeartbeats 4000000 in
set_option maxRecDepth 100000 in
theorem c_X1_take (l : Launch) (G : Nat → ClassId) (o ob hb cap st : Nat) (lo : Nat → Int64) (bs : List Nat) : jKi l yX1_take wsX1_take ({ frames := 2, cells := 0, slots := 0, locals := 46 }) G [.ref o, .ref ob, .int (nI st)] (fun L F => jF L F o (cC lo) ∧ jBy G L F ob hb cap bs ∧ st + 32 ≤ bs.length) (fun L F r F1 => jCd L F1 o (bnum ((bs.drop st).take 32)) ∧ (∀ z, z ∉ [o] → F1 z = F z) ∧ r = b2i (bnum ((bs.drop st).take 32) < PP)) := by
  refine jm_ki (cc := cX1_take) (maxL := 3) (rt := .boolean) (by decide) rfl (Nat.le_of_ble_eq_true rfl) ?_
  intro E L F hE hR hpre
  have hE : jOk E G _ cX1_take 3 RX1 wsX1_take := hE
  obtain ⟨ho, hB, hlen⟩ := hpre
  have hcp := hB.cap
  refine jr_aload_n hE dX1_take_0 0 rfl ?_
  refine jr_aload_n hE dX1_take_1 1 rfl ?_
  refine jr_iload_n hE dX1_take_2 2 rfl ?_
  refine jr_bipush (v := (8 : Int32)) hE dX1_take_3 (by decide) ?_
  refine jr_kVl (ci := 0) (n := 2) (As := [.int (nI st), .int (8 : Int32)]) (rest := [.ref o]) hE dX1_take_5 (fun l => c_X0_number l G ob hb cap st 8 bs) gX1_take_X0_number rfl hB.ob rfl (by decide +kernel) ⟨rfl, rfl, by decide, by decide⟩ (by decide) rfl rfl (Nat.le_of_ble_eq_true rfl) (⟨hB, by omega, by decide⟩) (fun r3 F1 q2 => ?_)
  obtain ⟨e, rfl⟩ := q2
  subst e
  refine jr_aload_n hE dX1_take_8 1 rfl ?_
  refine jr_iload_n hE dX1_take_9 2 rfl ?_
  refine jr_bipush (v := (8 : Int32)) hE dX1_take_10 (by decide) ?_
  refine jr_iadd (z := nI (st + 8)) hE dX1_take_12 (nI_add st 8) ?_
  refine jr_bipush (v := (8 : Int32)) hE dX1_take_13 (by decide) ?_
  refine jr_kVl (ci := 0) (n := 2) (As := [.int (nI (st + 8)), .int (8 : Int32)]) (rest := [.long (lN (bnum ((bs.drop st).take 8))), .ref o]) hE dX1_take_15 (fun l => c_X0_number l G ob hb cap (st + 8) 8 bs) gX1_take_X0_number rfl hB.ob rfl (by decide +kernel) ⟨rfl, rfl, by decide, by decide⟩ (by decide) rfl rfl (Nat.le_of_ble_eq_true rfl) (⟨hB, by omega, by decide⟩) (fun r6 F4 q5 => ?_)
  obtain ⟨e, rfl⟩ := q5
  subst e
  refine jr_aload_n hE dX1_take_18 1 rfl ?_
  refine jr_iload_n hE dX1_take_19 2 rfl ?_
  refine jr_bipush (v := (16 : Int32)) hE dX1_take_20 (by decide) ?_
  refine jr_iadd (z := nI (st + 16)) hE dX1_take_22 (nI_add st 16) ?_
  refine jr_bipush (v := (8 : Int32)) hE dX1_take_23 (by decide) ?_
  refine jr_kVl (ci := 0) (n := 2) (As := [.int (nI (st + 16)), .int (8 : Int32)]) (rest := [.long (lN (bnum ((bs.drop (st + 8)).take 8))), .long (lN (bnum ((bs.drop st).take 8))), .ref o]) hE dX1_take_25 (fun l => c_X0_number l G ob hb cap (st + 16) 8 bs) gX1_take_X0_number rfl hB.ob rfl (by decide +kernel) ⟨rfl, rfl, by decide, by decide⟩ (by decide) rfl rfl (Nat.le_of_ble_eq_true rfl) (⟨hB, by omega, by decide⟩) (fun r9 F7 q8 => ?_)
  obtain ⟨e, rfl⟩ := q8
  subst e
  refine jr_aload_n hE dX1_take_28 1 rfl ?_
  refine jr_iload_n hE dX1_take_29 2 rfl ?_
  refine jr_bipush (v := (24 : Int32)) hE dX1_take_30 (by decide) ?_
  refine jr_iadd (z := nI (st + 24)) hE dX1_take_32 (nI_add st 24) ?_
  refine jr_bipush (v := (8 : Int32)) hE dX1_take_33 (by decide) ?_
  refine jr_kVl (ci := 0) (n := 2) (As := [.int (nI (st + 24)), .int (8 : Int32)]) (rest := [.long (lN (bnum ((bs.drop (st + 16)).take 8))), .long (lN (bnum ((bs.drop (st + 8)).take 8))), .long (lN (bnum ((bs.drop st).take 8))), .ref o]) hE dX1_take_35 (fun l => c_X0_number l G ob hb cap (st + 24) 8 bs) gX1_take_X0_number rfl hB.ob rfl (by decide +kernel) ⟨rfl, rfl, by decide, by decide⟩ (by decide) rfl rfl (Nat.le_of_ble_eq_true rfl) (⟨hB, by omega, by decide⟩) (fun r12 F10 q11 => ?_)
  obtain ⟨e, rfl⟩ := q11
  subst e
  refine jr_kVv (ci := 1) (n := 4) (As := [.long (lN (bnum ((bs.drop st).take 8))), .long (lN (bnum ((bs.drop (st + 8)).take 8))), .long (lN (bnum ((bs.drop (st + 16)).take 8))), .long (lN (bnum ((bs.drop (st + 24)).take 8)))]) (rest := []) hE dX1_take_38 (fun l => c_X1_becomeWords l G o _ _ _ _ _ lo) gX1_take_X1_becomeWords rfl ho rfl (by decide +kernel) ⟨rfl, rfl, by decide, by decide⟩ (by decide) rfl rfl (Nat.le_of_ble_eq_true rfl) (⟨ho, num32 hlen, hB.num_lt (st + 24) 8 (by omega), hB.num_lt (st + 16) 8 (by omega), hB.num_lt (st + 8) 8 (by omega), hB.num_lt st 8 (by omega)⟩) (fun F13 q14 => ?_)
  obtain ⟨hd, fr1⟩ := q14
  refine jr_aload_n hE dX1_take_41 0 rfl ?_
  refine jr_kVi (ci := 1) (n := 0) (As := []) (rest := []) hE dX1_take_42 (fun l => c_X1_isBelowP l G o _) gX1_take_X1_isBelowP rfl hd.1 rfl (by decide +kernel) ⟨rfl, rfl, by decide, by decide⟩ (by decide) rfl rfl (Nat.le_of_ble_eq_true rfl) (hd) (fun r17 F15 q16 => ?_)
  obtain ⟨e, rfl⟩ := q16
  subst e
  exact hR _ _ _ _ dX1_take_45 (b2i_z _) ⟨hd, fr1, rfl⟩

theorem bex_split (x m : Nat) : ∀ n, bex (x / 256 ^ m) n ++ bex x m = bex x (m + n)
  | 0 => rfl
  | n + 1 => by
    rw [bex, List.cons_append, bex_split x m n, ← Nat.add_assoc, bex, Nat.div_div_eq_div_mul, ← Nat.pow_add]
theorem bex_mod (y : Nat) : ∀ n, n ≤ 8 → bex (y % 2 ^ 64) n = bex y n
  | 0, _ => rfl
  | n + 1, h => by
    rw [bex, bex, bex_mod y n (by omega)]
    congr 1
    have e : (2 : Nat) ^ 64 = 256 ^ n * 256 ^ (8 - n) := by rw [← Nat.pow_add, show n + (8 - n) = 8 by omega]
    have e2 : (256 : Nat) ^ (8 - n) = 256 * 256 ^ (7 - n) := by rw [show 8 - n = (7 - n) + 1 by omega, Nat.pow_succ, Nat.mul_comm]
    have h1 := Nat.mod_add_div y (2 ^ 64)
    have h2 : y / 256 ^ n = y % 2 ^ 64 / 256 ^ n + 256 * (256 ^ (7 - n) * (y / 2 ^ 64)) := by
      conv => lhs; rw [← h1]
      rw [e, e2, Nat.mul_assoc, Nat.add_mul_div_left _ _ (Nat.pow_pos (by decide)), Nat.mul_assoc]
    rw [h2, Nat.add_mul_mod_self_left]
theorem nb_word (y n : Nat) (hn : n ≤ 8) : nb (lN y) n = bex y n := by
  rw [wb_mod, nb_bex (Nat.mod_lt _ (by decide)), bex_mod y n hn]
theorem bex32 (x : Nat) : bex (x / 2 ^ 192) 8 ++ (bex (x / 2 ^ 128) 8 ++ (bex (x / 2 ^ 64) 8 ++ bex x 8)) = bex x 32 := by
  rw [show (2 : Nat) ^ 64 = 256 ^ 8 by decide, show (2 : Nat) ^ 128 = 256 ^ 16 by decide, show (2 : Nat) ^ 192 = 256 ^ 24 by decide, bex_split x 8 8, bex_split x 16 8, bex_split x 24 8]
theorem wd_3 {V : Nat} (h : V < 2 ^ 256) : dg V 6 / 2 ^ 18 + dg V 7 * 2 ^ 11 + dg V 8 * 2 ^ 40 = V / 2 ^ 192 := by
  have hs := dg_sum h
  have b0 := dg_lt V 0
  have b1 := dg_lt V 1
  have b2 := dg_lt V 2
  have b3 := dg_lt V 3
  have b4 := dg_lt V 4
  have b5 := dg_lt V 5
  have b6 := dg_lt V 6
  have b7 := dg_lt V 7
  omega
theorem wd_2 {V : Nat} (h : V < 2 ^ 256) : (dg V 4 / 2 ^ 12 + dg V 5 * 2 ^ 17 + dg V 6 * 2 ^ 46) % 2 ^ 64 = V / 2 ^ 128 % 2 ^ 64 := by
  have hs := dg_sum h
  have b0 := dg_lt V 0
  have b1 := dg_lt V 1
  have b2 := dg_lt V 2
  have b3 := dg_lt V 3
  have b4 := dg_lt V 4
  have b5 := dg_lt V 5
  have b6 := dg_lt V 6
  have b7 := dg_lt V 7
  omega
theorem wd_1 {V : Nat} (h : V < 2 ^ 256) : (dg V 2 / 2 ^ 6 + dg V 3 * 2 ^ 23 + dg V 4 * 2 ^ 52) % 2 ^ 64 = V / 2 ^ 64 % 2 ^ 64 := by
  have hs := dg_sum h
  have b0 := dg_lt V 0
  have b1 := dg_lt V 1
  have b2 := dg_lt V 2
  have b3 := dg_lt V 3
  have b4 := dg_lt V 4
  have b5 := dg_lt V 5
  have b6 := dg_lt V 6
  have b7 := dg_lt V 7
  omega
theorem wd_0 {V : Nat} (h : V < 2 ^ 256) : (dg V 0 + dg V 1 * 2 ^ 29 + dg V 2 * 2 ^ 58) % 2 ^ 64 = V % 2 ^ 64 := by
  have hs := dg_sum h
  have b0 := dg_lt V 0
  have b1 := dg_lt V 1
  have b2 := dg_lt V 2
  have b3 := dg_lt V 3
  have b4 := dg_lt V 4
  have b5 := dg_lt V 5
  have b6 := dg_lt V 6
  have b7 := dg_lt V 7
  omega
theorem lN_eqm {a b : Nat} (h : a % 2 ^ 64 = b % 2 ^ 64) : lN a = lN b := by rw [wb_mod a, h, ← wb_mod]

theorem cd_ok {x : Nat} (h : x < 2 ^ 256) (hx : x < PP) : cK 536887296 16793600 (cd x) ∧ cV (cd x) % (PP : Int) = (x : Int) := by
  have hs := dg_sum h
  have hb := dg_lt x
  refine ⟨⟨fun i hi => ⟨rfl, ?_, ?_⟩, rfl, ?_, ?_⟩, ?_⟩
  · rw [cd_toInt]; omega
  · rw [cd_toInt]; have := hb i; omega
  · rw [cd_toInt]; omega
  · rw [cd_toInt]; omega
  · have e : cV (cd x) = (x : Int) := by
      unfold cV
      rw [cd_toInt, cd_toInt, cd_toInt, cd_toInt, cd_toInt, cd_toInt, cd_toInt, cd_toInt, cd_toInt]
      have h1 := congrArg (fun n : Nat => (n : Int)) hs.1
      simp only [Int.natCast_add, Int.natCast_mul, Int.natCast_pow] at h1
      exact h1.symm
    rw [e]
    norm_cast
    exact Nat.mod_eq_of_lt hx
theorem jCd.co' {L : List Nat} {F : Nat → va_E} {a x : Nat} (h : jCd L F a x) (hx : x < PP) : jCo L F a x := ⟨cd x, h.1, cd_ok h.2 hx⟩

set_option maxHeartbeats 4000000 in
set_option maxRecDepth 100000 in
theorem c_X1_addTo (l : Launch) (G : Nat → ClassId) (o ob hb cap x : Nat) (bs : List Nat) : jKv l yX1_addTo wsX1_addTo ({ frames := 2, cells := 0, slots := 0, locals := 50 }) G [.ref o, .ref ob] (fun L F => jCo L F o x ∧ jBy G L F ob hb cap bs ∧ bs.length + 32 ≤ cap ∧ [o, ob, hb].Nodup) (fun L F F1 => jCd L F1 o x ∧ jBy G L F1 ob hb cap (bs ++ bex x 32) ∧ ∀ z, z ∉ [o, ob, hb] → F1 z = F z) := by
  refine jm_kv (cc := cX1_addTo) (maxL := 2) (by decide) rfl (Nat.le_of_ble_eq_true rfl) ?_
  intro E L F hE hR hpre
  have hE : jOk E G _ cX1_addTo 2 RX1 wsX1_addTo := hE
  obtain ⟨hC, hB, hlen, hnd⟩ := hpre
  have hxl := co_lt hC
  obtain ⟨lc, hc0⟩ := hC.cell
  have f28 : jFl RX1 wsX1_addTo 28 1 6 := ⟨rfl, by decide, by decide +kernel, by decide +kernel⟩
  have f31 : jFl RX1 wsX1_addTo 31 1 7 := ⟨rfl, by decide, by decide +kernel, by decide +kernel⟩
  have f34 : jFl RX1 wsX1_addTo 34 1 8 := ⟨rfl, by decide, by decide +kernel, by decide +kernel⟩
  have f22 : jFl RX1 wsX1_addTo 22 1 4 := ⟨rfl, by decide, by decide +kernel, by decide +kernel⟩
  have f25 : jFl RX1 wsX1_addTo 25 1 5 := ⟨rfl, by decide, by decide +kernel, by decide +kernel⟩
  have f16 : jFl RX1 wsX1_addTo 16 1 2 := ⟨rfl, by decide, by decide +kernel, by decide +kernel⟩
  have f19 : jFl RX1 wsX1_addTo 19 1 3 := ⟨rfl, by decide, by decide +kernel, by decide +kernel⟩
  have f7 : jFl RX1 wsX1_addTo 7 1 0 := ⟨rfl, by decide, by decide +kernel, by decide +kernel⟩
  have f13 : jFl RX1 wsX1_addTo 13 1 1 := ⟨rfl, by decide, by decide +kernel, by decide +kernel⟩
  refine jr_aload_n hE dX1_addTo_0 0 rfl ?_
  refine jr_kVv (ci := 1) (n := 0) (As := []) (rest := []) hE dX1_addTo_1 (fun l => c_X1_normalize l G o x) gX1_addTo_X1_normalize rfl hc0 rfl (by decide +kernel) ⟨rfl, rfl, by decide, by decide⟩ (by decide) rfl rfl (Nat.le_of_ble_eq_true rfl) (hC) (fun F1 q2 => ?_)
  obtain ⟨hd, fr0⟩ := q2
  have hB0 := hB.fr (fr0 ob (jn hnd 1 [0] rfl rfl (by decide))) (fr0 hb (jn hnd 2 [0] rfl rfl (by decide)))
  have b0 := dg_lt x 0
  have b2 := dg_lt x 2
  have b3 := dg_lt x 3
  have b4 := dg_lt x 4
  have b5 := dg_lt x 5
  have b6 := dg_lt x 6
  have b7 := dg_lt x 7
  have b1 := dg_lt x 1
  refine jr_aload_n hE dX1_addTo_4 1 rfl ?_
  refine jr_aload_n hE dX1_addTo_5 0 rfl ?_
  refine jr_get hE dX1_addTo_6 f28 hd.1 rfl ?_
  refine jr_bipush (v := (18 : Int32)) hE dX1_addTo_9 (by decide) ?_
  refine jr_lushr (z := lN (dg x 6 / 2 ^ 18)) hE dX1_addTo_11 (ushr (k := 18) (lt64 x 6) (by decide) rfl) ?_
  refine jr_aload_n hE dX1_addTo_12 0 rfl ?_
  refine jr_get hE dX1_addTo_13 f31 hd.1 rfl ?_
  refine jr_bipush (v := (11 : Int32)) hE dX1_addTo_16 (by decide) ?_
  refine jr_lshl (z := cd x 7 <<< ((11 : Int32).toInt64 &&& 63)) hE dX1_addTo_18 rfl ?_
  refine jr_lor (z := lN (dg x 6 / 2 ^ 18 + dg x 7 * 2 ^ 11)) hE dX1_addTo_19 (or_shl (by omega) (by decide) (by decide)) ?_
  refine jr_aload_n hE dX1_addTo_20 0 rfl ?_
  refine jr_get hE dX1_addTo_21 f34 hd.1 rfl ?_
  refine jr_bipush (v := (40 : Int32)) hE dX1_addTo_24 (by decide) ?_
  refine jr_lshl (z := cd x 8 <<< ((40 : Int32).toInt64 &&& 63)) hE dX1_addTo_26 rfl ?_
  refine jr_lor (z := lN (dg x 6 / 2 ^ 18 + dg x 7 * 2 ^ 11 + dg x 8 * 2 ^ 40)) hE dX1_addTo_27 (or_shl (by omega) (by decide) (by decide)) ?_
  refine jr_bipush (v := (8 : Int32)) hE dX1_addTo_28 (by decide) ?_
  refine jr_kVv (ci := 0) (n := 2) (As := [.long (lN (dg x 6 / 2 ^ 18 + dg x 7 * 2 ^ 11 + dg x 8 * 2 ^ 40)), .int (8 : Int32)]) (rest := []) hE dX1_addTo_30 (fun l => c_X0_addNumber l G ob hb cap 8 _ (lN (dg x 6 / 2 ^ 18 + dg x 7 * 2 ^ 11 + dg x 8 * 2 ^ 40))) gX1_addTo_X0_addNumber rfl hB0.ob rfl (by decide +kernel) ⟨rfl, rfl, by decide, by decide⟩ (by decide) rfl rfl (Nat.le_of_ble_eq_true rfl) (⟨hB0, by omega, by decide⟩) (fun F3 q4 => ?_)
  obtain ⟨hB1, fr1⟩ := q4
  have d1 := hd.1.fr (fr1 o (jn hnd 0 [1, 2] rfl rfl (by decide)))
  refine jr_aload_n hE dX1_addTo_33 1 rfl ?_
  refine jr_aload_n hE dX1_addTo_34 0 rfl ?_
  refine jr_get hE dX1_addTo_35 f22 d1 rfl ?_
  refine jr_bipush (v := (12 : Int32)) hE dX1_addTo_38 (by decide) ?_
  refine jr_lushr (z := lN (dg x 4 / 2 ^ 12)) hE dX1_addTo_40 (ushr (k := 12) (lt64 x 4) (by decide) rfl) ?_
  refine jr_aload_n hE dX1_addTo_41 0 rfl ?_
  refine jr_get hE dX1_addTo_42 f25 d1 rfl ?_
  refine jr_bipush (v := (17 : Int32)) hE dX1_addTo_45 (by decide) ?_
  refine jr_lshl (z := cd x 5 <<< ((17 : Int32).toInt64 &&& 63)) hE dX1_addTo_47 rfl ?_
  refine jr_lor (z := lN (dg x 4 / 2 ^ 12 + dg x 5 * 2 ^ 17)) hE dX1_addTo_48 (or_shl (by omega) (by decide) (by decide)) ?_
  refine jr_aload_n hE dX1_addTo_49 0 rfl ?_
  refine jr_get hE dX1_addTo_50 f28 d1 rfl ?_
  refine jr_bipush (v := (46 : Int32)) hE dX1_addTo_53 (by decide) ?_
  refine jr_lshl (z := cd x 6 <<< ((46 : Int32).toInt64 &&& 63)) hE dX1_addTo_55 rfl ?_
  refine jr_lor (z := lN (dg x 4 / 2 ^ 12 + dg x 5 * 2 ^ 17 + dg x 6 * 2 ^ 46)) hE dX1_addTo_56 (or_shl (by omega) (by decide) (by decide)) ?_
  refine jr_bipush (v := (8 : Int32)) hE dX1_addTo_57 (by decide) ?_
  refine jr_kVv (ci := 0) (n := 2) (As := [.long (lN (dg x 4 / 2 ^ 12 + dg x 5 * 2 ^ 17 + dg x 6 * 2 ^ 46)), .int (8 : Int32)]) (rest := []) hE dX1_addTo_59 (fun l => c_X0_addNumber l G ob hb cap 8 _ (lN (dg x 4 / 2 ^ 12 + dg x 5 * 2 ^ 17 + dg x 6 * 2 ^ 46))) gX1_addTo_X0_addNumber rfl hB1.ob rfl (by decide +kernel) ⟨rfl, rfl, by decide, by decide⟩ (by decide) rfl rfl (Nat.le_of_ble_eq_true rfl) (⟨hB1, by simp only [List.length_append, nb_len]; omega, by decide⟩) (fun F5 q6 => ?_)
  obtain ⟨hB2, fr2⟩ := q6
  have d2 := d1.fr (fr2 o (jn hnd 0 [1, 2] rfl rfl (by decide)))
  refine jr_aload_n hE dX1_addTo_62 1 rfl ?_
  refine jr_aload_n hE dX1_addTo_63 0 rfl ?_
  refine jr_get hE dX1_addTo_64 f16 d2 rfl ?_
  refine jr_bipush (v := (6 : Int32)) hE dX1_addTo_67 (by decide) ?_
  refine jr_lushr (z := lN (dg x 2 / 2 ^ 6)) hE dX1_addTo_69 (ushr (k := 6) (lt64 x 2) (by decide) rfl) ?_
  refine jr_aload_n hE dX1_addTo_70 0 rfl ?_
  refine jr_get hE dX1_addTo_71 f19 d2 rfl ?_
  refine jr_bipush (v := (23 : Int32)) hE dX1_addTo_74 (by decide) ?_
  refine jr_lshl (z := cd x 3 <<< ((23 : Int32).toInt64 &&& 63)) hE dX1_addTo_76 rfl ?_
  refine jr_lor (z := lN (dg x 2 / 2 ^ 6 + dg x 3 * 2 ^ 23)) hE dX1_addTo_77 (or_shl (by omega) (by decide) (by decide)) ?_
  refine jr_aload_n hE dX1_addTo_78 0 rfl ?_
  refine jr_get hE dX1_addTo_79 f22 d2 rfl ?_
  refine jr_bipush (v := (52 : Int32)) hE dX1_addTo_82 (by decide) ?_
  refine jr_lshl (z := cd x 4 <<< ((52 : Int32).toInt64 &&& 63)) hE dX1_addTo_84 rfl ?_
  refine jr_lor (z := lN (dg x 2 / 2 ^ 6 + dg x 3 * 2 ^ 23 + dg x 4 * 2 ^ 52)) hE dX1_addTo_85 (or_shl (by omega) (by decide) (by decide)) ?_
  refine jr_bipush (v := (8 : Int32)) hE dX1_addTo_86 (by decide) ?_
  refine jr_kVv (ci := 0) (n := 2) (As := [.long (lN (dg x 2 / 2 ^ 6 + dg x 3 * 2 ^ 23 + dg x 4 * 2 ^ 52)), .int (8 : Int32)]) (rest := []) hE dX1_addTo_88 (fun l => c_X0_addNumber l G ob hb cap 8 _ (lN (dg x 2 / 2 ^ 6 + dg x 3 * 2 ^ 23 + dg x 4 * 2 ^ 52))) gX1_addTo_X0_addNumber rfl hB2.ob rfl (by decide +kernel) ⟨rfl, rfl, by decide, by decide⟩ (by decide) rfl rfl (Nat.le_of_ble_eq_true rfl) (⟨hB2, by simp only [List.length_append, nb_len]; omega, by decide⟩) (fun F7 q8 => ?_)
  obtain ⟨hB3, fr3⟩ := q8
  have d3 := d2.fr (fr3 o (jn hnd 0 [1, 2] rfl rfl (by decide)))
  refine jr_aload_n hE dX1_addTo_91 1 rfl ?_
  refine jr_aload_n hE dX1_addTo_92 0 rfl ?_
  refine jr_get hE dX1_addTo_93 f7 d3 rfl ?_
  refine jr_aload_n hE dX1_addTo_96 0 rfl ?_
  refine jr_get hE dX1_addTo_97 f13 d3 rfl ?_
  refine jr_bipush (v := (29 : Int32)) hE dX1_addTo_100 (by decide) ?_
  refine jr_lshl (z := cd x 1 <<< ((29 : Int32).toInt64 &&& 63)) hE dX1_addTo_102 rfl ?_
  refine jr_lor (z := lN (dg x 0 + dg x 1 * 2 ^ 29)) hE dX1_addTo_103 (or_shl (by omega) (by decide) (by decide)) ?_
  refine jr_aload_n hE dX1_addTo_104 0 rfl ?_
  refine jr_get hE dX1_addTo_105 f16 d3 rfl ?_
  refine jr_bipush (v := (58 : Int32)) hE dX1_addTo_108 (by decide) ?_
  refine jr_lshl (z := cd x 2 <<< ((58 : Int32).toInt64 &&& 63)) hE dX1_addTo_110 rfl ?_
  refine jr_lor (z := lN (dg x 0 + dg x 1 * 2 ^ 29 + dg x 2 * 2 ^ 58)) hE dX1_addTo_111 (or_shl (by omega) (by decide) (by decide)) ?_
  refine jr_bipush (v := (8 : Int32)) hE dX1_addTo_112 (by decide) ?_
  refine jr_kVv (ci := 0) (n := 2) (As := [.long (lN (dg x 0 + dg x 1 * 2 ^ 29 + dg x 2 * 2 ^ 58)), .int (8 : Int32)]) (rest := []) hE dX1_addTo_114 (fun l => c_X0_addNumber l G ob hb cap 8 _ (lN (dg x 0 + dg x 1 * 2 ^ 29 + dg x 2 * 2 ^ 58))) gX1_addTo_X0_addNumber rfl hB3.ob rfl (by decide +kernel) ⟨rfl, rfl, by decide, by decide⟩ (by decide) rfl rfl (Nat.le_of_ble_eq_true rfl) (⟨hB3, by simp only [List.length_append, nb_len]; omega, by decide⟩) (fun F9 q10 => ?_)
  obtain ⟨hB4, fr4⟩ := q10
  have d4 := d3.fr (fr4 o (jn hnd 0 [1, 2] rfl rfl (by decide)))
  rw [nb_word _ 8 (by decide), nb_word _ 8 (by decide), nb_word _ 8 (by decide), nb_word _ 8 (by decide)] at hB4
  rw [← bex_mod (dg x 4 / 2 ^ 12 + dg x 5 * 2 ^ 17 + dg x 6 * 2 ^ 46) 8 (by decide), ← bex_mod (dg x 2 / 2 ^ 6 + dg x 3 * 2 ^ 23 + dg x 4 * 2 ^ 52) 8 (by decide), ← bex_mod (dg x 0 + dg x 1 * 2 ^ 29 + dg x 2 * 2 ^ 58) 8 (by decide), wd_3 hd.2, wd_2 hd.2, wd_1 hd.2, wd_0 hd.2, bex_mod _ 8 (by decide), bex_mod _ 8 (by decide), bex_mod _ 8 (by decide), List.append_assoc, List.append_assoc, List.append_assoc, bex32] at hB4
  exact hR F9 _ _ dX1_addTo_117 ⟨⟨d4, hd.2⟩, hB4, fun z hz => (fr4 z (jnsub (V := [ob, hb]) hz [1, 2] rfl)).trans ((fr3 z (jnsub (V := [ob, hb]) hz [1, 2] rfl)).trans ((fr2 z (jnsub (V := [ob, hb]) hz [1, 2] rfl)).trans ((fr1 z (jnsub (V := [ob, hb]) hz [1, 2] rfl)).trans (fr0 z (jnsub (V := [o]) hz [0] rfl)))))⟩

