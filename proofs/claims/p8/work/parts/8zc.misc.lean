/-! THE REFERENCE'S in, isRow, isSecret, isSpent, mix, challenge -/
theorem cmp_lt {x y : Int64} : lg_cmp x y < 0 ↔ x.toInt < y.toInt := by
  unfold lg_cmp
  by_cases h : x > y
  · rw [if_pos h]
    have h2 := Int64.lt_iff_toInt_lt.mp h
    constructor
    · intro q; exact absurd q (by decide)
    · intro q; omega
  · rw [if_neg h]
    by_cases e : x = y
    · rw [if_pos e, e]
      constructor
      · intro q; exact absurd q (by decide)
      · intro q; omega
    · rw [if_neg e]
      constructor
      · intro _
        have h2 : ¬ y.toInt < x.toInt := fun q => h (Int64.lt_iff_toInt_lt.mpr q)
        have h3 : x.toInt ≠ y.toInt := fun q => e (Int64.toInt_inj.mp q)
        omega
      · intro _; decide
theorem cmp_gt {x y : Int64} : 0 < lg_cmp x y ↔ y.toInt < x.toInt := by
  unfold lg_cmp
  by_cases h : x > y
  · rw [if_pos h]
    exact ⟨fun _ => Int64.lt_iff_toInt_lt.mp h, fun _ => by decide⟩
  · rw [if_neg h]
    have h2 : ¬ y.toInt < x.toInt := fun q => h (Int64.lt_iff_toInt_lt.mpr q)
    by_cases e : x = y
    · rw [if_pos e]
      exact ⟨fun q => absurd q (by decide), fun q => absurd q h2⟩
    · rw [if_neg e]
      exact ⟨fun q => absurd q (by decide), fun q => absurd q h2⟩
/-- a row's number -/
abbrev rowP (r : Int32) : Prop := 0 ≤ r.toInt ∧ r.toInt ≤ 15
theorem rowP_nI {r : Int32} (h : rowP r) : ∃ k, k < 16 ∧ r = nI k := by
  refine ⟨r.toInt.toNat, by omega, ?_⟩
  apply Int32.toInt_inj.mp
  rw [nI_toInt (by omega)]
  omega
theorem nI_rowP {k : Nat} (h : k < 16) : rowP (nI k) := by
  unfold rowP
  rw [nI_toInt (by omega)]
  omega

set_option maxHeartbeats 4000000 in
set_option maxRecDepth 100000 in
theorem c_m_in (l : Launch) (G : Nat → ClassId) (x lo hi : Int64) : jKi l yX12_in wsX12_in ({ frames := 0, cells := 0, slots := 0, locals := 0 }) G [.long x, .long lo, .long hi] (fun L F => True) (fun L F r F1 => F = F1 ∧ r = b2i (lo.toInt ≤ x.toInt ∧ x.toInt ≤ hi.toInt)) := by
  refine jm_ki (cc := cX12_in) (maxL := 6) (rt := .boolean) (by decide) rfl (Nat.le_of_ble_eq_true rfl) ?_
  intro E L F hE hR hpre
  have hE : jOk E G _ cX12_in 6 RX12 wsX12_in := hE

  refine jr_lload_n hE dX12_in_0 0 rfl ?_
  refine jr_lload_n hE dX12_in_1 1 rfl ?_
  refine jr_lcmp hE dX12_in_2 ?_
  refine jr_if_lt (tgt := 17) hE dX12_in_3 (by decide) (fun c3 => ?_) (fun c3 => ?_)
  · refine jr_iconst (v := (0 : Int32)) hE dX12_in_17 (by decide) ?_
    have h := cmp_lt.mp c3
    exact hR F 0 _ _ dX12_in_18 rfl ⟨rfl, (b2i_f (fun e => by have := e.1; omega)).symm⟩
  · refine jr_lload_n hE dX12_in_6 0 rfl ?_
    refine jr_lload hE dX12_in_7 2 rfl ?_
    refine jr_lcmp hE dX12_in_9 ?_
    refine jr_if_gt (tgt := 17) hE dX12_in_10 (by decide) (fun c10 => ?_) (fun c10 => ?_)
    · refine jr_iconst (v := (0 : Int32)) hE dX12_in_17 (by decide) ?_
      have h := cmp_gt.mp c10
      exact hR F 0 _ _ dX12_in_18 rfl ⟨rfl, (b2i_f (fun e => by have := e.2; omega)).symm⟩
    · refine jr_iconst (v := (1 : Int32)) hE dX12_in_13 (by decide) ?_
      refine jr_goto (tgt := 18) hE dX12_in_14 (by decide) ?_
      exact hR F 1 _ _ dX12_in_18 rfl ⟨rfl, (b2i_t ⟨Int.not_lt.mp (fun q => c3 (cmp_lt.mpr q)), Int.not_lt.mp (fun q => c10 (cmp_gt.mpr q))⟩).symm⟩

theorem cmp_nlt {x y : Int64} (h : ¬ lg_cmp x y < 0) : y.toInt ≤ x.toInt := by
  have : ¬ x.toInt < y.toInt := fun q => h (cmp_lt.mpr q)
  omega

theorem i2l_T (r : Int32) : r.toInt64.toInt = r.toInt := Int32.toInt_toInt64 r

set_option maxHeartbeats 4000000 in
set_option maxRecDepth 100000 in
theorem c_m_isRow (l : Launch) (G : Nat → ClassId) (r : Int32) : jKi l yX12_isRow wsX12_isRow ({ frames := 1, cells := 0, slots := 0, locals := 25 }) G [.int r] (fun L F => True) (fun L F q F1 => F = F1 ∧ q = b2i (rowP r)) := by
  refine jm_ki (cc := cX12_isRow) (maxL := 1) (rt := .boolean) (by decide) rfl (Nat.le_of_ble_eq_true rfl) ?_
  intro E L F hE hR hpre
  have hE : jOk E G _ cX12_isRow 1 RX12 wsX12_isRow := hE

  refine jr_iload_n hE dX12_isRow_0 0 rfl ?_
  refine jr_i2l hE dX12_isRow_1 rfl ?_
  refine jr_lconst (v := (0 : Int64)) hE dX12_isRow_2 (by decide) ?_
  refine jr_ldc2 (v := (15 : Int64)) hE dX12_isRow_3 (by decide +kernel) ?_
  refine jr_kSi (n := 3) (As := [.long r.toInt64, .long (0 : Int64), .long (15 : Int64)]) (rest := []) hE dX12_isRow_6 (fun l => c_m_in l G r.toInt64 0 15) gX12_isRow_X12_in rfl (by decide +kernel) ⟨rfl, rfl, by decide, by decide⟩ (by decide) rfl rfl (Nat.le_of_ble_eq_true rfl) (trivial) (fun r3 F1 q2 => ?_)
  obtain ⟨eq2, rq2⟩ := q2
  subst eq2 rq2
  rw [show b2i ((0 : Int64).toInt ≤ r.toInt64.toInt ∧ r.toInt64.toInt ≤ (15 : Int64).toInt) = b2i (rowP r) by rw [i2l_T]; rfl]
  exact hR F _ _ _ dX12_isRow_9 (b2i_z _) ⟨rfl, rfl⟩

set_option maxHeartbeats 4000000 in
set_option maxRecDepth 100000 in
theorem c_m_isSpent (l : Launch) (G : Nat → ClassId) (o : Nat) (a : Nat → Nat) (v : Nat → Int32) (n : Nat → Option Nat) (g : Nat → Nat → Int64) (w : Nat → Nat → Int32) (wk c : Nat) : jKi l yX12_isSpent wsX12_isSpent ({ frames := 0, cells := 0, slots := 0, locals := 0 }) G [.ref o, .int (nI c)] (fun L F => MW G L F o a v n g w ∧ v 31 = nI wk ∧ wk ≤ 1000 ∧ c ≤ 1000) (fun L F r F1 => F = F1 ∧ r = b2i (48 < wk + c)) := by
  refine jm_ki (cc := cX12_isSpent) (maxL := 2) (rt := .boolean) (by decide) rfl (Nat.le_of_ble_eq_true rfl) ?_
  intro E L F hE hR hpre
  have hE : jOk E G _ cX12_isSpent 2 RX12 wsX12_isSpent := hE
  obtain ⟨M0, hwk, hw1, hc1⟩ := hpre
  have f478 : jFl RX12 wsX12_isSpent 478 12 31 := ⟨rfl, by decide, by decide +kernel, by decide +kernel⟩
  refine jr_aload_n hE dX12_isSpent_0 0 rfl ?_
  refine jr_get hE dX12_isSpent_1 f478 M0.ob rfl ?_
  rw [hwk]
  refine jr_iload_n hE dX12_isSpent_4 1 rfl ?_
  refine jr_iadd (z := nI (wk + c)) hE dX12_isSpent_5 (nI_add _ _) ?_
  refine jr_bipush (v := (48 : Int32)) hE dX12_isSpent_6 (by decide) ?_
  refine jr_icmp_le (tgt := 15) hE dX12_isSpent_8 (by decide) (fun c8 => ?_) (fun c8 => ?_)
  · refine jr_iconst (v := (0 : Int32)) hE dX12_isSpent_15 (by decide) ?_
    exact hR F 0 _ _ dX12_isSpent_16 rfl ⟨rfl, (b2i_f (fun e => nI_ge (a := 48) (b := wk + c) (by omega) (by omega) c8)).symm⟩
  · refine jr_iconst (v := (1 : Int32)) hE dX12_isSpent_11 (by decide) ?_
    refine jr_goto (tgt := 16) hE dX12_isSpent_12 (by decide) ?_
    exact hR F 1 _ _ dX12_isSpent_16 rfl ⟨rfl, (b2i_t (Classical.byContradiction (fun q => c8 (nI_le (b := 48) (by omega) (by decide))))).symm⟩

set_option maxHeartbeats 4000000 in
set_option maxRecDepth 100000 in
theorem c_m_isSecret (l : Launch) (G : Nat → ClassId) (o : Nat) (a : Nat → Nat) (v : Nat → Int32) (n : Nat → Option Nat) (g : Nat → Nat → Int64) (w : Nat → Nat → Int32) (r sz : Nat) : jKi l yX12_isSecret wsX12_isSecret ({ frames := 1, cells := 0, slots := 0, locals := 26 }) G [.ref o, .int (nI r)] (fun L F => MW G L F o a v n g w ∧ mK n g ∧ r < 16 ∧ w 8 r = nI sz ∧ sz ≤ 100 ∧ (sz = 32 → bB (w 9) (100 * r) 32)) (fun L F q F1 => ∃ n', MW G L F1 o a v n' g w ∧ (∀ k, k ∉ [62] → n' k = n k) ∧ (sz = 32 → n' 62 = some (bnum (bl (w 9) (100 * r) 32))) ∧ q = b2i (sz = 32 ∧ (bnum (bl (w 9) (100 * r) 32)) ≠ 0 ∧ (bnum (bl (w 9) (100 * r) 32)) < NN) ∧ mO o a F F1) := by
  refine jm_ki (cc := cX12_isSecret) (maxL := 2) (rt := .boolean) (by decide) rfl (Nat.le_of_ble_eq_true rfl) ?_
  intro E L F hE hR hpre
  have hE : jOk E G _ cX12_isSecret 2 RX12 wsX12_isSecret := hE
  obtain ⟨M0, hK, hr, hsz, hsl, hB⟩ := hpre
  have f96 : jFl RX12 wsX12_isSecret 96 12 8 := ⟨rfl, by decide, by decide +kernel, by decide +kernel⟩
  have f305 : jFl RX12 wsX12_isSecret 305 12 62 := ⟨rfl, by decide, by decide +kernel, by decide +kernel⟩
  have f100 : jFl RX12 wsX12_isSecret 100 12 9 := ⟨rfl, by decide, by decide +kernel, by decide +kernel⟩
  have f27 : jFl RX12 wsX12_isSecret 27 12 1 := ⟨rfl, by decide, by decide +kernel, by decide +kernel⟩
  refine jr_aload_n hE dX12_isSecret_0 0 rfl ?_
  refine jr_get hE dX12_isSecret_1 f96 M0.ob rfl ?_
  refine jr_iload_n hE dX12_isSecret_4 1 rfl ?_
  refine jr_iald (v := nI sz) hE dX12_isSecret_5 (M0.I (k := 8) (N := 16) (by decide)) (vp_in_nI (by omega) (by decide)) (by rw [nI_clamp (by omega)]; exact hsz) ?_
  refine jr_bipush (v := (32 : Int32)) hE dX12_isSecret_6 (by decide) ?_
  refine jr_icmp_eq (tgt := 13) hE dX12_isSecret_8 (by decide) (fun c8 => ?_) (fun c8 => ?_)
  · have h32 : sz = 32 := (nI_eq (by omega) (by decide)).mp c8
    refine jr_aload_n hE dX12_isSecret_13 0 rfl ?_
    refine jr_get hE dX12_isSecret_14 f305 M0.ob rfl ?_
    refine jr_aload_n hE dX12_isSecret_17 0 rfl ?_
    refine jr_get hE dX12_isSecret_18 f100 M0.ob rfl ?_
    refine jr_bipush (v := (100 : Int32)) hE dX12_isSecret_21 (by decide) ?_
    refine jr_iload_n hE dX12_isSecret_23 1 rfl ?_
    refine jr_imul (z := nI (100 * r)) hE dX12_isSecret_24 (pk_mul 100 r) ?_
    refine jr_kSv (n := 3) (As := [.ref (a 62), .ref (a 9), .int (nI (100 * r))]) (rest := []) hE dX12_isSecret_25 (fun l => c_m_numberOf l G o a v n g w 62 9 (100 * r) 1600) gX12_isSecret_X12_numberOf rfl (by decide +kernel) ⟨rfl, rfl, by decide, by decide⟩ (by decide) rfl rfl (Nat.le_of_ble_eq_true rfl) (⟨M0, by decide, by decide, by omega, by decide, hB h32⟩) (fun F1 q2 => ?_)
    obtain ⟨M1, O1⟩ := q2
    have hn1 : ∃ n1, n1 = uz n 62 (some (bnum (bl (w 9) (100 * r) 32))) := ⟨_, rfl⟩
    obtain ⟨n1, hn1⟩ := hn1
    rw [← hn1] at M1
    have h62 : n1 62 = some (bnum (bl (w 9) (100 * r) 32)) := by rw [hn1, uz_s]
    have hof : ∀ k, k ∉ [62] → n1 k = n k := fun k hk => by rw [hn1, uz_n _ _ (jne hk 0 rfl)]
    refine jr_aload_n hE dX12_isSecret_28 0 rfl ?_
    refine jr_get hE dX12_isSecret_29 f305 M1.ob rfl ?_
    refine jr_kSi (n := 1) (As := [.ref (a 62)]) (rest := []) hE dX12_isSecret_32 (fun l => c_m_isNull l G o a v n1 g w 62 (bnum (bl (w 9) (100 * r) 32))) gX12_isSecret_X12_isNull rfl (by decide +kernel) ⟨rfl, rfl, by decide, by decide⟩ (by decide) rfl rfl (Nat.le_of_ble_eq_true rfl) (⟨M1, by decide, h62⟩) (fun r5 F3 q4 => ?_)
    obtain ⟨eq4, rq4⟩ := q4
    subst eq4 rq4
    refine jr_if_ne (tgt := 56) hE dX12_isSecret_35 (by decide) (fun c35 => ?_) (fun c35 => ?_)
    · refine jr_iconst (v := (0 : Int32)) hE dX12_isSecret_56 (by decide) ?_
      exact hR F1 0 _ _ dX12_isSecret_57 rfl ⟨n1, M1, hof, fun _ => h62, (b2i_f (fun e => e.2.1 (b2i_1 c35))).symm, O1⟩
    · refine jr_aload_n hE dX12_isSecret_38 0 rfl ?_
      refine jr_get hE dX12_isSecret_39 f305 M1.ob rfl ?_
      refine jr_aload_n hE dX12_isSecret_42 0 rfl ?_
      refine jr_get hE dX12_isSecret_43 f27 M1.ob rfl ?_
      refine jr_kSi (n := 2) (As := [.ref (a 62), .ref (a 1)]) (rest := []) hE dX12_isSecret_46 (fun l => c_m_isBelow l G o a v n1 g w 62 1 (bnum (bl (w 9) (100 * r) 32)) NN) gX12_isSecret_X12_isBelow rfl (by decide +kernel) ⟨rfl, rfl, by decide, by decide⟩ (by decide) rfl rfl (Nat.le_of_ble_eq_true rfl) (⟨M1, by decide, by decide, h62, (hof 1 (by decide)).trans hK.2.1⟩) (fun r8 F6 q7 => ?_)
      obtain ⟨eq7, rq7⟩ := q7
      subst eq7 rq7
      refine jr_if_eq (tgt := 56) hE dX12_isSecret_49 (by decide) (fun c49 => ?_) (fun c49 => ?_)
      · refine jr_iconst (v := (0 : Int32)) hE dX12_isSecret_56 (by decide) ?_
        exact hR F1 0 _ _ dX12_isSecret_57 rfl ⟨n1, M1, hof, fun _ => h62, (b2i_f (fun e => by rw [b2i_t e.2.2] at c49; exact absurd c49 (by decide))).symm, O1⟩
      · refine jr_iconst (v := (1 : Int32)) hE dX12_isSecret_52 (by decide) ?_
        refine jr_goto (tgt := 57) hE dX12_isSecret_53 (by decide) ?_
        exact hR F1 1 _ _ dX12_isSecret_57 rfl ⟨n1, M1, hof, fun _ => h62, (b2i_t ⟨h32, fun e => by rw [b2i_t e] at c35; exact absurd c35 (by decide), b2i_1 c49⟩).symm, O1⟩
  · refine jr_iconst (v := (0 : Int32)) hE dX12_isSecret_11 (by decide) ?_
    have h32 : sz ≠ 32 := fun e => c8 (by rw [e]; rfl)
    exact hR F 0 _ _ dX12_isSecret_12 rfl ⟨n, M0, fun _ _ => rfl, fun e => absurd e h32, (b2i_f (fun e => h32 e.1)).symm, mO.rf o a F⟩

set_option maxHeartbeats 4000000 in
set_option maxRecDepth 100000 in
theorem c_m_challenge (l : Launch) (G : Nat → ClassId) (o : Nat) (a : Nat → Nat) (v : Nat → Int32) (n : Nat → Option Nat) (g : Nat → Nat → Int64) (w : Nat → Nat → Int32) (kt kx ky kb fr m N x y : Nat) : jKv l yX12_challenge wsX12_challenge ({ frames := 5, cells := 0, slots := 0, locals := 118 }) G [.ref o, .ref (a kt), .ref (a kx), .ref (a ky), .ref (a kb), .int (nI fr), .int (nI m)] (fun L F => MW G L F o a v n g w ∧ mK n g ∧ tgOK w ∧ rdOK w ∧ lv8 kt ∧ l8 kx ∧ l8 ky ∧ n kx = some x ∧ n ky = some y ∧ ik kb N ∧ kb ∉ [53, 54, 55, 56, 58, 59] ∧ fr + m ≤ N ∧ N < 2 ^ 30 ∧ m ≤ 100 ∧ bB (w kb) fr m) (fun L F F1 => ∃ v' w', MW G L F1 o a v' (uz n kt (some (bnum (sha (sha (tgb 2) ++ sha (tgb 2) ++ bex x 32 ++ bex y 32 ++ bl (w kb) fr m)) % NN))) g w' ∧ (∀ k, k ≠ 57 → v' k = v k) ∧ (∀ z, nin6 z → w' z = w z) ∧ mO o a F F1) := by
  refine jm_kv (cc := cX12_challenge) (maxL := 7) (by decide) rfl (Nat.le_of_ble_eq_true rfl) ?_
  intro E L F hE hR hpre
  have hE : jOk E G _ cX12_challenge 7 RX12 wsX12_challenge := hE
  obtain ⟨M0, hK, htg, hrd, hkt, hkx, hky, hx, hy, hkb, hkb6, hN, hN2, hm, hB⟩ := hpre
  refine jr_aload_n hE dX12_challenge_0 0 rfl ?_
  refine jr_iconst (v := (2 : Int32)) hE dX12_challenge_1 (by decide) ?_
  refine jr_kVv (ci := 12) (n := 1) (As := [.int (2 : Int32)]) (rest := []) hE dX12_challenge_2 (fun l => c_m_begin l G o a v n g w 2) gX12_challenge_X12_begin rfl M0.ob rfl (by decide +kernel) ⟨rfl, rfl, by decide, by decide⟩ (by decide) rfl rfl (Nat.le_of_ble_eq_true rfl) (⟨M0, by decide, htg, hrd⟩) (fun F1 q2 => ?_)
  obtain ⟨v1, w1, M1, hv1, hw1, hX1, O1⟩ := q2
  refine jr_aload_n hE dX12_challenge_5 0 rfl ?_
  refine jr_aload_n hE dX12_challenge_6 2 rfl ?_
  refine jr_kVv (ci := 12) (n := 1) (As := [.ref (a kx)]) (rest := []) hE dX12_challenge_7 (fun l => c_m_putNumber l G o a v1 n g w1 _ kx x) gX12_challenge_X12_putNumber rfl M1.ob rfl (by decide +kernel) ⟨rfl, rfl, by decide, by decide⟩ (by decide) rfl rfl (Nat.le_of_ble_eq_true rfl) (⟨M1, hX1, hkx, hx, by rw [List.length_append, sha_len]; decide⟩) (fun F3 q4 => ?_)
  obtain ⟨v2, w2, M2, hv2, hw2, hX2, O2⟩ := q4
  refine jr_aload_n hE dX12_challenge_10 0 rfl ?_
  refine jr_aload_n hE dX12_challenge_11 3 rfl ?_
  refine jr_kVv (ci := 12) (n := 1) (As := [.ref (a ky)]) (rest := []) hE dX12_challenge_12 (fun l => c_m_putNumber l G o a v2 n g w2 _ ky y) gX12_challenge_X12_putNumber rfl M2.ob rfl (by decide +kernel) ⟨rfl, rfl, by decide, by decide⟩ (by decide) rfl rfl (Nat.le_of_ble_eq_true rfl) (⟨M2, hX2, hky, hy, by simp only [List.length_append, sha_len, bex_len]; decide⟩) (fun F5 q6 => ?_)
  obtain ⟨v3, w3, M3, hv3, hw3, hX3, O3⟩ := q6
  have hkw : w3 kb = w kb := (hw3 kb (jne hkb6 3 rfl)).trans ((hw2 kb (jne hkb6 3 rfl)).trans (hw1 kb hkb6))
  refine jr_aload_n hE dX12_challenge_15 0 rfl ?_
  refine jr_aload hE dX12_challenge_16 4 rfl ?_
  refine jr_iload hE dX12_challenge_18 5 rfl ?_
  refine jr_iload hE dX12_challenge_20 6 rfl ?_
  refine jr_kVv (ci := 12) (n := 3) (As := [.ref (a kb), .int (nI fr), .int (nI m)]) (rest := []) hE dX12_challenge_22 (fun l => c_m_putAll l G o a v3 n g w3 _ kb fr m N) gX12_challenge_X12_putAll rfl M3.ob rfl (by decide +kernel) ⟨rfl, rfl, by decide, by decide⟩ (by decide) rfl rfl (Nat.le_of_ble_eq_true rfl) (⟨M3, hX3, hkb, jne hkb6 3 rfl, hN, hN2, by simp only [List.length_append, sha_len, bex_len]; omega, by rw [hkw]; exact hB⟩) (fun F7 q8 => ?_)
  obtain ⟨v4, w4, M4, hv4, hw4, hX4, O4⟩ := q8
  rw [hkw] at hX4
  have hout : ∀ z, nin6 z → w4 z = w z := fun z hz => (hw4 z (jne hz 3 rfl)).trans ((hw3 z (jne hz 3 rfl)).trans ((hw2 z (jne hz 3 rfl)).trans (hw1 z hz)))
  have hrd4 : rdOK w4 := fun j hj => by rw [hout 52 (by decide)]; exact hrd j hj
  refine jr_aload_n hE dX12_challenge_25 0 rfl ?_
  refine jr_aload_n hE dX12_challenge_26 1 rfl ?_
  refine jr_kVv (ci := 12) (n := 1) (As := [.ref (a kt)]) (rest := []) hE dX12_challenge_27 (fun l => c_m_endNumber l G o a v4 n g w4 _ kt _) gX12_challenge_X12_endNumber rfl M4.ob rfl (by decide +kernel) ⟨rfl, rfl, by decide, by decide⟩ (by decide) rfl rfl (Nat.le_of_ble_eq_true rfl) (⟨M4, hK, hX4, hrd4, hkt, rfl⟩) (fun F9 q10 => ?_)
  obtain ⟨w5, M5, hw5, hs5, O5⟩ := q10
  exact hR F9 _ _ dX12_challenge_30 ⟨v4, w5, M5, fun k hk => (hv4 k hk).trans ((hv3 k hk).trans ((hv2 k hk).trans (hv1 k hk))), fun z hz => (hw5 z (jnsub (V := [53, 54, 55, 58]) hz [0, 1, 2, 4] rfl)).trans (hout z hz), O1.tr (O2.tr (O3.tr (O4.tr O5)))⟩

