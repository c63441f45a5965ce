/-! THE REFERENCE'S small methods: comparisons, differences, bytes -/
theorem mN_eq {d e : Nat → Nat} (hd : ∀ j, j < 8 → d j < 2 ^ 32) (he : ∀ j, j < 8 → e j < 2 ^ 32) : dv d 8 = dv e 8 ↔ ∀ j, j < 8 → d j = e j := by
  constructor
  · intro h
    have key : ∀ m, m ≤ 8 → ∀ j, j < 8 → 8 - m ≤ j → d j = e j := by
      intro m
      induction m with
      | zero => intro _ j hj h2; omega
      | succ m ih =>
        intro hm j hj h2
        rcases Nat.lt_or_ge j (8 - m) with q | q
        · rcases Nat.lt_trichotomy (d j) (e j) with r | r | r
          · have := dv_lex (d := d) (e := e) 8 hj (fun i hi hi2 => ih (by omega) i hi (by omega)) r hd
            omega
          · exact r
          · have := dv_lex (d := e) (e := d) 8 hj (fun i hi hi2 => (ih (by omega) i hi (by omega)).symm) r he
            omega
        · exact ih (by omega) j hj q
    exact fun j hj => key 8 (Nat.le_refl 8) j hj (by omega)
  · exact fun h => dv_congr 8 h
theorem or8 {x0 x1 x2 x3 x4 x5 x6 x7 : Nat} : x0 ||| x1 ||| x2 ||| x3 ||| x4 ||| x5 ||| x6 ||| x7 = 0 ↔ (x0 = 0 ∧ x1 = 0 ∧ x2 = 0 ∧ x3 = 0 ∧ x4 = 0 ∧ x5 = 0 ∧ x6 = 0 ∧ x7 = 0) := by
  simp only [Nat.or_eq_zero_iff]
  constructor
  · rintro ⟨⟨⟨⟨⟨⟨⟨h0, h1⟩, h2⟩, h3⟩, h4⟩, h5⟩, h6⟩, h7⟩
    exact ⟨h0, h1, h2, h3, h4, h5, h6, h7⟩
  · rintro ⟨h0, h1, h2, h3, h4, h5, h6, h7⟩
    exact ⟨⟨⟨⟨⟨⟨⟨h0, h1⟩, h2⟩, h3⟩, h4⟩, h5⟩, h6⟩, h7⟩
theorem or_b {a b : Nat} (ha : a < 2 ^ 32) (hb : b < 2 ^ 32) : a ||| b < 2 ^ 32 := Nat.or_lt_two_pow ha hb
theorem wb_or32 {a b : Nat} (ha : a < 2 ^ 32) (hb : b < 2 ^ 32) : lN a ||| lN b = lN (a ||| b) := wb_or (by omega) (by omega)

set_option maxHeartbeats 4000000 in
set_option maxRecDepth 100000 in
theorem c_m_isNull (l : Launch) (G : Nat → ClassId) (o : Nat) (a : Nat → Nat) (v : Nat → Int32) (n : Nat → Option Nat) (g : Nat → Nat → Int64) (w : Nat → Nat → Int32) (ka x : Nat) : jKi l yX12_isNull wsX12_isNull ({ frames := 0, cells := 0, slots := 0, locals := 0 }) G [.ref (a ka)] (fun L F => MW G L F o a v n g w ∧ l8 ka ∧ n ka = some x) (fun L F r F1 => F = F1 ∧ r = b2i (x = 0)) := by
  refine jm_ki (cc := cX12_isNull) (maxL := 1) (rt := .boolean) (by decide) rfl (Nat.le_of_ble_eq_true rfl) ?_
  intro E L F hE hR hpre
  have hE : jOk E G _ cX12_isNull 1 RX12 wsX12_isNull := hE
  obtain ⟨⟨s, H0, hn, hg⟩, hka, hx⟩ := hpre
  obtain ⟨d, h1, h2, h3⟩ := hn ka x hx
  have hz : d 0 ||| d 1 ||| d 2 ||| d 3 ||| d 4 ||| d 5 ||| d 6 ||| d 7 = 0 ↔ x = 0 := by
    rw [or8, ← h3, ← dv_zero 8]
    constructor
    · rintro ⟨q0, q1, q2, q3, q4, q5, q6, q7⟩ j hj
      match j, hj with
      | 0, _ => exact q0
      | 1, _ => exact q1
      | 2, _ => exact q2
      | 3, _ => exact q3
      | 4, _ => exact q4
      | 5, _ => exact q5
      | 6, _ => exact q6
      | 7, _ => exact q7
      | j + 8, hj => omega
    · intro q
      exact ⟨q 0 (by decide), q 1 (by decide), q 2 (by decide), q 3 (by decide), q 4 (by decide), q 5 (by decide), q 6 (by decide), q 7 (by decide)⟩
  have hb : d 0 ||| d 1 ||| d 2 ||| d 3 ||| d 4 ||| d 5 ||| d 6 ||| d 7 < 2 ^ 32 := (or_b (or_b (or_b (or_b (or_b (or_b (or_b (h2 0 (by decide)) (h2 1 (by decide))) (h2 2 (by decide))) (h2 3 (by decide))) (h2 4 (by decide))) (h2 5 (by decide))) (h2 6 (by decide))) (h2 7 (by decide)))
  refine jr_aload_n hE dX12_isNull_0 0 rfl ?_
  refine jr_iconst (v := (0 : Int32)) hE dX12_isNull_1 (by decide) ?_
  refine jr_lald (v := lN (d 0)) hE dX12_isNull_2 (H0.L (k := ka) (n := 8) hka) (vp_in_nI (n := 0) (by decide) (by decide)) (h1 0 (by decide)) ?_
  refine jr_aload_n hE dX12_isNull_3 0 rfl ?_
  refine jr_iconst (v := (1 : Int32)) hE dX12_isNull_4 (by decide) ?_
  refine jr_lald (v := lN (d 1)) hE dX12_isNull_5 (H0.L (k := ka) (n := 8) hka) (vp_in_nI (n := 1) (by decide) (by decide)) (h1 1 (by decide)) ?_
  refine jr_lor (z := lN (d 0 ||| d 1)) hE dX12_isNull_6 (wb_or32 (h2 0 (by decide)) (h2 1 (by decide))) ?_
  refine jr_aload_n hE dX12_isNull_7 0 rfl ?_
  refine jr_iconst (v := (2 : Int32)) hE dX12_isNull_8 (by decide) ?_
  refine jr_lald (v := lN (d 2)) hE dX12_isNull_9 (H0.L (k := ka) (n := 8) hka) (vp_in_nI (n := 2) (by decide) (by decide)) (h1 2 (by decide)) ?_
  refine jr_lor (z := lN (d 0 ||| d 1 ||| d 2)) hE dX12_isNull_10 (wb_or32 (or_b (h2 0 (by decide)) (h2 1 (by decide))) (h2 2 (by decide))) ?_
  refine jr_aload_n hE dX12_isNull_11 0 rfl ?_
  refine jr_iconst (v := (3 : Int32)) hE dX12_isNull_12 (by decide) ?_
  refine jr_lald (v := lN (d 3)) hE dX12_isNull_13 (H0.L (k := ka) (n := 8) hka) (vp_in_nI (n := 3) (by decide) (by decide)) (h1 3 (by decide)) ?_
  refine jr_lor (z := lN (d 0 ||| d 1 ||| d 2 ||| d 3)) hE dX12_isNull_14 (wb_or32 (or_b (or_b (h2 0 (by decide)) (h2 1 (by decide))) (h2 2 (by decide))) (h2 3 (by decide))) ?_
  refine jr_aload_n hE dX12_isNull_15 0 rfl ?_
  refine jr_iconst (v := (4 : Int32)) hE dX12_isNull_16 (by decide) ?_
  refine jr_lald (v := lN (d 4)) hE dX12_isNull_17 (H0.L (k := ka) (n := 8) hka) (vp_in_nI (n := 4) (by decide) (by decide)) (h1 4 (by decide)) ?_
  refine jr_lor (z := lN (d 0 ||| d 1 ||| d 2 ||| d 3 ||| d 4)) hE dX12_isNull_18 (wb_or32 (or_b (or_b (or_b (h2 0 (by decide)) (h2 1 (by decide))) (h2 2 (by decide))) (h2 3 (by decide))) (h2 4 (by decide))) ?_
  refine jr_aload_n hE dX12_isNull_19 0 rfl ?_
  refine jr_iconst (v := (5 : Int32)) hE dX12_isNull_20 (by decide) ?_
  refine jr_lald (v := lN (d 5)) hE dX12_isNull_21 (H0.L (k := ka) (n := 8) hka) (vp_in_nI (n := 5) (by decide) (by decide)) (h1 5 (by decide)) ?_
  refine jr_lor (z := lN (d 0 ||| d 1 ||| d 2 ||| d 3 ||| d 4 ||| d 5)) hE dX12_isNull_22 (wb_or32 (or_b (or_b (or_b (or_b (h2 0 (by decide)) (h2 1 (by decide))) (h2 2 (by decide))) (h2 3 (by decide))) (h2 4 (by decide))) (h2 5 (by decide))) ?_
  refine jr_aload_n hE dX12_isNull_23 0 rfl ?_
  refine jr_bipush (v := (6 : Int32)) hE dX12_isNull_24 (by decide) ?_
  refine jr_lald (v := lN (d 6)) hE dX12_isNull_26 (H0.L (k := ka) (n := 8) hka) (vp_in_nI (n := 6) (by decide) (by decide)) (h1 6 (by decide)) ?_
  refine jr_lor (z := lN (d 0 ||| d 1 ||| d 2 ||| d 3 ||| d 4 ||| d 5 ||| d 6)) hE dX12_isNull_27 (wb_or32 (or_b (or_b (or_b (or_b (or_b (h2 0 (by decide)) (h2 1 (by decide))) (h2 2 (by decide))) (h2 3 (by decide))) (h2 4 (by decide))) (h2 5 (by decide))) (h2 6 (by decide))) ?_
  refine jr_aload_n hE dX12_isNull_28 0 rfl ?_
  refine jr_bipush (v := (7 : Int32)) hE dX12_isNull_29 (by decide) ?_
  refine jr_lald (v := lN (d 7)) hE dX12_isNull_31 (H0.L (k := ka) (n := 8) hka) (vp_in_nI (n := 7) (by decide) (by decide)) (h1 7 (by decide)) ?_
  refine jr_lor (z := lN (d 0 ||| d 1 ||| d 2 ||| d 3 ||| d 4 ||| d 5 ||| d 6 ||| d 7)) hE dX12_isNull_32 (wb_or32 (or_b (or_b (or_b (or_b (or_b (or_b (h2 0 (by decide)) (h2 1 (by decide))) (h2 2 (by decide))) (h2 3 (by decide))) (h2 4 (by decide))) (h2 5 (by decide))) (h2 6 (by decide))) (h2 7 (by decide))) ?_
  refine jr_lconst (v := (0 : Int64)) hE dX12_isNull_33 (by decide) ?_
  refine jr_lcmp hE dX12_isNull_34 ?_
  refine jr_if_ne (tgt := 42) hE dX12_isNull_35 (by decide) (fun c35 => ?_) (fun c35 => ?_)
  · refine jr_iconst (v := (0 : Int32)) hE dX12_isNull_42 (by decide) ?_
    exact hR F 0 _ _ dX12_isNull_43 rfl ⟨rfl, (b2i_f (fun e => c35 ((cmp0 (b := 0) (by omega) (by decide)).mpr (hz.mpr e)))).symm⟩
  · refine jr_iconst (v := (1 : Int32)) hE dX12_isNull_38 (by decide) ?_
    refine jr_goto (tgt := 43) hE dX12_isNull_39 (by decide) ?_
    exact hR F 1 _ _ dX12_isNull_43 rfl ⟨rfl, (b2i_t (hz.mp ((cmp0 (b := 0) (by omega) (by decide)).mp (c35)))).symm⟩

set_option maxHeartbeats 4000000 in
set_option maxRecDepth 100000 in
theorem c_m_isSame (l : Launch) (G : Nat → ClassId) (o : Nat) (a : Nat → Nat) (v : Nat → Int32) (n : Nat → Option Nat) (g : Nat → Nat → Int64) (w : Nat → Nat → Int32) (ka kb x y : Nat) : jKi l yX12_isSame wsX12_isSame ({ frames := 0, cells := 0, slots := 0, locals := 0 }) G [.ref (a ka), .ref (a kb)] (fun L F => MW G L F o a v n g w ∧ l8 ka ∧ l8 kb ∧ n ka = some x ∧ n kb = some y) (fun L F r F1 => F = F1 ∧ r = b2i (x = y)) := by
  refine jm_ki (cc := cX12_isSame) (maxL := 4) (rt := .boolean) (by decide) rfl (Nat.le_of_ble_eq_true rfl) ?_
  intro E L F hE hR hpre
  have hE : jOk E G _ cX12_isSame 4 RX12 wsX12_isSame := hE

  obtain ⟨⟨s, H0, hn, hg⟩, hka, hkb, hx, hy⟩ := hpre
  obtain ⟨d, h1, h2, h3⟩ := hn ka x hx
  obtain ⟨e, k1, k2, k3⟩ := hn kb y hy
  have loop : ∀ (r0 i : Nat) (b : Int32), i + r0 = 8 → b = b2i (∀ j, j < i → d j = e j) → J E L F 0 0 4 [(3, .int (nI i)), (2, .int b), (0, .ref (a ka)), (1, .ref (a kb))] [] := by
    intro r0
    induction r0 with
    | zero =>
      intro i b hi hb
      refine jr_iload_n hE dX12_isSame_4 0 rfl ?_
      refine jr_bipush (v := (8 : Int32)) hE dX12_isSame_5 (by decide) ?_
      refine jr_icmp_ge (tgt := 36) hE dX12_isSame_7 (by decide) (fun c_7 => ?_) (fun c_7 => absurd (nI_le (a := 8) (by omega) (by omega)) c_7)
      refine jr_iload_n hE dX12_isSame_36 1 rfl ?_
      exact hR F b _ _ dX12_isSame_37 (by rw [hb]; exact b2i_z _) ⟨rfl, by
        rw [hb, show i = 8 by omega]
        by_cases q : ∀ j, j < 8 → d j = e j
        · rw [b2i_t q, b2i_t (by rw [← h3, ← k3]; exact (mN_eq h2 k2).mpr q)]
        · rw [b2i_f q, b2i_f (fun e0 => q ((mN_eq h2 k2).mp (by rw [h3, k3]; exact e0)))]⟩
    | succ r0 ih =>
      intro i b hi hb
      have hdi := h2 i (by omega)
      have hei := k2 i (by omega)
      refine jr_iload_n hE dX12_isSame_4 0 rfl ?_
      refine jr_bipush (v := (8 : Int32)) hE dX12_isSame_5 (by decide) ?_
      refine jr_icmp_ge (tgt := 36) hE dX12_isSame_7 (by decide) (fun c_7 => absurd c_7 (nI_ge (b := 8) (by omega) (by omega))) (fun c_7 => ?_)
      refine jr_iload_n hE dX12_isSame_10 1 rfl ?_
      refine jr_if_eq (tgt := 28) hE dX12_isSame_11 (by decide) (fun c11 => ?_) (fun c11 => ?_)
      · refine jr_iconst (v := (0 : Int32)) hE dX12_isSame_28 (by decide) ?_
        refine jr_istore_n (lv' := [(2, .int (0 : Int32)), (3, .int (nI i)), (0, .ref (a ka)), (1, .ref (a kb))]) hE dX12_isSame_29 (by decide) rfl ?_
        refine jr_iinc (v := nI (i + 1)) (lv' := [(3, .int (nI (i + 1))), (2, .int (0 : Int32)), (0, .ref (a ka)), (1, .ref (a kb))]) hE dX12_isSame_30 1 rfl (nI_1 _) (by decide) rfl ?_
        refine jr_goto (tgt := 4) hE dX12_isSame_33 (by decide) ?_
        refine jr_lv (lv' := [(3, .int (nI (i + 1))), (2, .int (0 : Int32)), (0, .ref (a ka)), (1, .ref (a kb))]) [0, 1, 2, 3] rfl ?_
        exact ih (i + 1) 0 (by omega) ((b2i_f (fun q => by
          rw [b2i_t (fun j hj => q j (by omega))] at hb
          rw [hb] at c11
          exact absurd c11 (by decide))).symm)
      · refine jr_aload_n hE dX12_isSame_14 2 rfl ?_
        refine jr_iload_n hE dX12_isSame_15 0 rfl ?_
        refine jr_lald (v := lN (d i)) hE dX12_isSame_16 (H0.L (k := ka) (n := 8) hka) (vp_in_nI (by omega) (by omega)) (by rw [nI_clamp (by omega)]; exact h1 i (by omega)) ?_
        refine jr_aload_n hE dX12_isSame_17 3 rfl ?_
        refine jr_iload_n hE dX12_isSame_18 0 rfl ?_
        refine jr_lald (v := lN (e i)) hE dX12_isSame_19 (H0.L (k := kb) (n := 8) hkb) (vp_in_nI (by omega) (by omega)) (by rw [nI_clamp (by omega)]; exact k1 i (by omega)) ?_
        refine jr_lcmp hE dX12_isSame_20 ?_
        refine jr_if_ne (tgt := 28) hE dX12_isSame_21 (by decide) (fun c21 => ?_) (fun c21 => ?_)
        · refine jr_iconst (v := (0 : Int32)) hE dX12_isSame_28 (by decide) ?_
          refine jr_istore_n (lv' := [(2, .int (0 : Int32)), (3, .int (nI i)), (0, .ref (a ka)), (1, .ref (a kb))]) hE dX12_isSame_29 (by decide) rfl ?_
          refine jr_iinc (v := nI (i + 1)) (lv' := [(3, .int (nI (i + 1))), (2, .int (0 : Int32)), (0, .ref (a ka)), (1, .ref (a kb))]) hE dX12_isSame_30 1 rfl (nI_1 _) (by decide) rfl ?_
          refine jr_goto (tgt := 4) hE dX12_isSame_33 (by decide) ?_
          refine jr_lv (lv' := [(3, .int (nI (i + 1))), (2, .int (0 : Int32)), (0, .ref (a ka)), (1, .ref (a kb))]) [0, 1, 2, 3] rfl ?_
          exact ih (i + 1) 0 (by omega) ((b2i_f (fun q => c21 ((cmp0 (by omega) (by omega)).mpr (q i (Nat.lt_succ_self i))))).symm)
        · refine jr_iconst (v := (1 : Int32)) hE dX12_isSame_24 (by decide) ?_
          refine jr_goto (tgt := 29) hE dX12_isSame_25 (by decide) ?_
          refine jr_istore_n (lv' := [(2, .int (1 : Int32)), (3, .int (nI i)), (0, .ref (a ka)), (1, .ref (a kb))]) hE dX12_isSame_29 (by decide) rfl ?_
          refine jr_iinc (v := nI (i + 1)) (lv' := [(3, .int (nI (i + 1))), (2, .int (1 : Int32)), (0, .ref (a ka)), (1, .ref (a kb))]) hE dX12_isSame_30 1 rfl (nI_1 _) (by decide) rfl ?_
          refine jr_goto (tgt := 4) hE dX12_isSame_33 (by decide) ?_
          refine jr_lv (lv' := [(3, .int (nI (i + 1))), (2, .int (1 : Int32)), (0, .ref (a ka)), (1, .ref (a kb))]) [0, 1, 2, 3] rfl ?_
          exact ih (i + 1) 1 (by omega) ((b2i_t (fun j hj => by
            rcases Nat.lt_or_ge j i with q | q
            · exact b2i_1 (p := ∀ j, j < i → d j = e j) (by rw [← hb]; exact c11) j q
            · rw [show j = i by omega]
              exact (cmp0 (by omega) (by omega)).mp c21)).symm)
  refine jr_iconst (v := (1 : Int32)) hE dX12_isSame_0 (by decide) ?_
  refine jr_istore_n (lv' := [(2, .int (1 : Int32)), (0, .ref (a ka)), (1, .ref (a kb))]) hE dX12_isSame_1 (by decide) rfl ?_
  refine jr_iconst (v := (0 : Int32)) hE dX12_isSame_2 (by decide) ?_
  refine jr_istore_n (lv' := [(3, .int (0 : Int32)), (2, .int (1 : Int32)), (0, .ref (a ka)), (1, .ref (a kb))]) hE dX12_isSame_3 (by decide) rfl ?_
  exact loop 8 0 1 rfl (b2i_t (fun j hj => absurd hj (Nat.not_lt_zero j))).symm

set_option maxHeartbeats 4000000 in
set_option maxRecDepth 100000 in
theorem c_m_isBelow (l : Launch) (G : Nat → ClassId) (o : Nat) (a : Nat → Nat) (v : Nat → Int32) (n : Nat → Option Nat) (g : Nat → Nat → Int64) (w : Nat → Nat → Int32) (ka kb x y : Nat) : jKi l yX12_isBelow wsX12_isBelow ({ frames := 0, cells := 0, slots := 0, locals := 0 }) G [.ref (a ka), .ref (a kb)] (fun L F => MW G L F o a v n g w ∧ l8 ka ∧ l8 kb ∧ n ka = some x ∧ n kb = some y) (fun L F r F1 => F = F1 ∧ r = b2i (x < y)) := by
  refine jm_ki (cc := cX12_isBelow) (maxL := 3) (rt := .boolean) (by decide) rfl (Nat.le_of_ble_eq_true rfl) ?_
  intro E L F hE hR hpre
  have hE : jOk E G _ cX12_isBelow 3 RX12 wsX12_isBelow := hE

  obtain ⟨⟨s, H0, hn, hg⟩, hka, hkb, hx, hy⟩ := hpre
  obtain ⟨d, h1, h2, h3⟩ := hn ka x hx
  obtain ⟨e, k1, k2, k3⟩ := hn kb y hy
  have loop : ∀ (k : Nat), k ≤ 8 → (∀ j, j < 8 → k ≤ j → d j = e j) → J E L F 0 0 3 [(2, .int (nI k - 1)), (0, .ref (a ka)), (1, .ref (a kb))] [] := by
    intro k
    induction k with
    | zero =>
      intro hk8 hge
      refine jr_iload_n hE dX12_isBelow_3 0 rfl ?_
      refine jr_if_lt (tgt := 39) hE dX12_isBelow_4 (by decide) (fun c_4 => ?_) (fun c_4 => absurd (by decide) c_4)
      refine jr_iconst (v := (0 : Int32)) hE dX12_isBelow_39 (by decide) ?_
      exact hR F 0 _ _ dX12_isBelow_40 rfl ⟨rfl, (b2i_f (by rw [← h3, ← k3, dv_congr 8 (fun j hj => hge j hj (Nat.zero_le j))]; exact Nat.lt_irrefl _)).symm⟩
    | succ k ih =>
      intro hk8 hge
      have hk : k < 8 := hk8
      have hdk := h2 k hk
      have hek := k2 k hk
      rw [nI_pred]
      refine jr_iload_n hE dX12_isBelow_3 0 rfl ?_
      refine jr_if_lt (tgt := 39) hE dX12_isBelow_4 (by decide) (fun c_4 => absurd c_4 (nI_pos (by omega))) (fun c_4 => ?_)
      refine jr_aload_n hE dX12_isBelow_7 1 rfl ?_
      refine jr_iload_n hE dX12_isBelow_8 0 rfl ?_
      refine jr_lald (v := lN (d k)) hE dX12_isBelow_9 (H0.L (k := ka) (n := 8) hka) (vp_in_nI (by omega) (by omega)) (by rw [nI_clamp (by omega)]; exact h1 k (by omega)) ?_
      refine jr_aload_n hE dX12_isBelow_10 2 rfl ?_
      refine jr_iload_n hE dX12_isBelow_11 0 rfl ?_
      refine jr_lald (v := lN (e k)) hE dX12_isBelow_12 (H0.L (k := kb) (n := 8) hkb) (vp_in_nI (by omega) (by omega)) (by rw [nI_clamp (by omega)]; exact k1 k (by omega)) ?_
      refine jr_lcmp hE dX12_isBelow_13 ?_
      refine jr_if_eq (tgt := 33) hE dX12_isBelow_14 (by decide) (fun c14 => ?_) (fun c14 => ?_)
      · refine jr_iinc (v := nI k - 1) (lv' := [(2, .int (nI k - 1)), (0, .ref (a ka)), (1, .ref (a kb))]) hE dX12_isBelow_33 0 rfl (im1 _) (by decide) rfl ?_
        refine jr_goto (tgt := 3) hE dX12_isBelow_36 (by decide) ?_
        exact ih (by omega) (fun j hj hj2 => by
          rcases Nat.lt_or_ge k j with q | q
          · exact hge j hj q
          · rw [show j = k by omega]; exact (cmp0 (by omega) (by omega)).mp c14)
      · refine jr_aload_n hE dX12_isBelow_17 1 rfl ?_
        refine jr_iload_n hE dX12_isBelow_18 0 rfl ?_
        refine jr_lald (v := lN (d k)) hE dX12_isBelow_19 (H0.L (k := ka) (n := 8) hka) (vp_in_nI (by omega) (by omega)) (by rw [nI_clamp (by omega)]; exact h1 k (by omega)) ?_
        refine jr_aload_n hE dX12_isBelow_20 2 rfl ?_
        refine jr_iload_n hE dX12_isBelow_21 0 rfl ?_
        refine jr_lald (v := lN (e k)) hE dX12_isBelow_22 (H0.L (k := kb) (n := 8) hkb) (vp_in_nI (by omega) (by omega)) (by rw [nI_clamp (by omega)]; exact k1 k (by omega)) ?_
        refine jr_lcmp hE dX12_isBelow_23 ?_
        refine jr_if_ge (tgt := 31) hE dX12_isBelow_24 (by decide) (fun c24 => ?_) (fun c24 => ?_)
        · refine jr_iconst (v := (0 : Int32)) hE dX12_isBelow_31 (by decide) ?_
          exact hR F 0 _ _ dX12_isBelow_32 rfl ⟨rfl, (b2i_f (fun hlt => by
            have q1 := (cmpge (by omega) (by omega)).mp c24
            have q2 : d k ≠ e k := fun q => c14 ((cmp0 (by omega) (by omega)).mpr q)
            have q3 := dv_lex (d := e) (e := d) 8 hk (fun j hj hj2 => (hge j hj (by omega)).symm) (by omega) k2
            rw [k3, h3] at q3
            omega)).symm⟩
        · refine jr_iconst (v := (1 : Int32)) hE dX12_isBelow_27 (by decide) ?_
          refine jr_goto (tgt := 32) hE dX12_isBelow_28 (by decide) ?_
          exact hR F 1 _ _ dX12_isBelow_32 rfl ⟨rfl, (b2i_t (by
            have q1 : d k < e k := by
              rcases Nat.lt_or_ge (d k) (e k) with q | q
              · exact q
              · exact absurd ((cmpge (by omega) (by omega)).mpr q) c24
            have q3 := dv_lex (d := d) (e := e) 8 hk (fun j hj hj2 => hge j hj (by omega)) q1 h2
            rw [h3, k3] at q3
            exact q3)).symm⟩
  refine jr_bipush (v := (7 : Int32)) hE dX12_isBelow_0 (by decide) ?_
  refine jr_istore_n (lv' := [(2, .int (7 : Int32)), (0, .ref (a ka)), (1, .ref (a kb))]) hE dX12_isBelow_2 (by decide) rfl ?_
  exact loop 8 (Nat.le_refl 8) (fun j hj h8 => absurd hj (by omega))

theorem tk_v1 {x y c : Nat} (h : y + c ≤ x) (hx : x < 2 ^ 32) : lN x - lN y - lN c = lN (x - y - c) := by
  rw [lN_sub (by omega), lN_sub (by omega)]
theorem tk_v2 {x y c : Nat} (h : x < y + c) (hy : y < 2 ^ 32) (hc : c ≤ 1) : lN x - lN y - lN c = lN (2 ^ 64 + x - y - c) := by
  rw [lN_subw (by omega), lN_subw (by omega), wb_mod]
  congr 1
  omega
theorem tk_neg {m : Nat} (h : m < 2 ^ 64) (h2 : 2 ^ 63 ≤ m) : lN m < 0 := by
  rw [Int64.lt_iff_toInt_lt, ← Int64.toInt_toBitVec, BitVec.toInt_eq_toNat_cond, wb_tn h]
  split
  · omega
  · show (m : Int) - ((2 ^ 64 : Nat) : Int) < 0
    omega
theorem tk_step {x y c x1 m : Nat} (hx : x < 2 ^ 32) (hy : y < 2 ^ 32) (hc : c ≤ 1) : ∃ lo c', (lN x - lN y - lN c) &&& 4294967295 = lN lo ∧ lo < 2 ^ 32 ∧ c' ≤ 1 ∧ (0 ≤ lg_cmp (lN x - lN y - lN c) 0 → c' = 0) ∧ (¬ 0 ≤ lg_cmp (lN x - lN y - lN c) 0 → c' = 1) ∧ lo + y + c = x + c' * 2 ^ 32 := by
  rcases Nat.lt_or_ge x (y + c) with q | q
  · rw [tk_v2 q hy hc, m32 _ (by omega)]
    refine ⟨_, 1, rfl, by omega, Nat.le_refl 1, fun h => ?_, fun _ => rfl, by omega⟩
    exfalso
    have hn := tk_neg (m := 2 ^ 64 + x - y - c) (by omega) (by omega)
    unfold lg_cmp at h
    rw [if_neg (fun hgt => by have p1 := Int64.lt_iff_toInt_lt.mp hgt; have p2 := Int64.lt_iff_toInt_lt.mp hn; omega), if_neg (by intro e; rw [e] at hn; exact absurd hn (by decide))] at h
    exact absurd h (by decide)
  · rw [tk_v1 q hx, m32 _ (by omega)]
    refine ⟨_, 0, rfl, by omega, by omega, fun _ => rfl, fun h => ?_, by omega⟩
    exact absurd ((cmpge (b := 0) (by omega) (by decide)).mpr (Nat.zero_le _)) h
theorem tk_inv {t e d : Nat → Nat} {i c c' l : Nat} (h : dv t i + dv e i = dv d i + c * 2 ^ (32 * i)) (hs : l + e i + c = d i + c' * 2 ^ 32) : dv (du t i l) (i + 1) + dv e (i + 1) = dv d (i + 1) + c' * 2 ^ (32 * (i + 1)) := by
  rw [show 32 * (i + 1) = 32 * i + 32 by omega, Nat.pow_add, dv, dv, dv, dv_du (Nat.le_refl _), du_s]
  have q : (l + e i + c) * 2 ^ (32 * i) = (d i + c' * 2 ^ 32) * 2 ^ (32 * i) := by rw [hs]
  rw [Nat.add_mul, Nat.add_mul, Nat.add_mul, Nat.mul_assoc, Nat.mul_comm (2 ^ 32)] at q
  omega
theorem tk_end {t x y c B : Nat} (h : t + y = x + c * B) (ht : t < B) (hy : y < B) (hx : x < B) : t = (x + B - y) % B := by
  have hB : 0 < B := by omega
  match c, h with
  | 0, h => rw [show x + B - y = t + B by omega, Nat.add_mod_right, Nat.mod_eq_of_lt ht]
  | 1, h => rw [show x + B - y = t by omega, Nat.mod_eq_of_lt ht]
  | c + 2, h =>
    rw [Nat.add_mul] at h
    have := Nat.zero_le (c * B)
    omega

set_option maxHeartbeats 4000000 in
set_option maxRecDepth 100000 in
theorem c_m_take (l : Launch) (G : Nat → ClassId) (o : Nat) (a : Nat → Nat) (v : Nat → Int32) (n : Nat → Option Nat) (g : Nat → Nat → Int64) (w : Nat → Nat → Int32) (kt ka kb x y : Nat) : jKv l yX12_take wsX12_take ({ frames := 0, cells := 0, slots := 0, locals := 0 }) G [.ref (a kt), .ref (a ka), .ref (a kb)] (fun L F => MW G L F o a v n g w ∧ l8 kt ∧ l8 ka ∧ l8 kb ∧ n ka = some x ∧ n kb = some y) (fun L F F1 => MW G L F1 o a v (uz n kt (some ((x + 2 ^ 256 - y) % 2 ^ 256))) g w ∧ mO o a F F1) := by
  refine jm_kv (cc := cX12_take) (maxL := 8) (by decide) rfl (Nat.le_of_ble_eq_true rfl) ?_
  intro E L F hE hR hpre
  have hE : jOk E G _ cX12_take 8 RX12 wsX12_take := hE

  obtain ⟨⟨s, H0, hn, hg⟩, hkt, hka, hkb, hx, hy⟩ := hpre
  have hxb := (hn ka x hx).lt
  have hyb := (hn kb y hy).lt
  obtain ⟨d, h1, h2, h3⟩ := hn ka x hx
  obtain ⟨e, k1, k2, k3⟩ := hn kb y hy
  have loop : ∀ (r0 i : Nat) (F2 : Nat → va_E) (f : Nat → Int64) (t : Nat → Nat) (c : Nat), i + r0 = 8 → RW G L F2 o a v (uz s kt f) w → (∀ j, j < i → f j = lN (t j)) → (∀ j, i ≤ j → j < 8 → f j = s kt j) → c ≤ 1 → (∀ j, j < i → t j < 2 ^ 32) → dv t i + dv e i = dv d i + c * 2 ^ (32 * i) → mO o a F F2 → J E L F2 0 0 5 [(5, .int (nI i)), (3, .long (lN c)), (0, .ref (a kt)), (1, .ref (a ka)), (2, .ref (a kb))] [] := by
    intro r0
    induction r0 with
    | zero =>
      intro i F2 f t c hi H hf hf2 hc ht hinv O
      refine jr_iload hE dX12_take_5 0 rfl ?_
      refine jr_bipush (v := (8 : Int32)) hE dX12_take_7 (by decide) ?_
      refine jr_icmp_ge (tgt := 54) hE dX12_take_9 (by decide) (fun c_9 => ?_) (fun c_9 => absurd (nI_le (a := 8) (by omega) (by omega)) c_9)
      have h8 : i = 8 := by omega
      subst h8
      rw [h3, k3] at hinv
      have hT := tk_end hinv (dv_lt 8 (fun j hj => ht j hj)) hyb hxb
      exact hR F2 _ _ dX12_take_54 ⟨⟨_, H, mw_set hn hg hkt (q := some ((x + 2 ^ 256 - y) % 2 ^ 256)) (fun z e => by
        cases e
        exact ⟨t, fun j hj => hf j hj, fun j hj => ht j hj, hT⟩)⟩, O⟩
    | succ r0 ih =>
      intro i F2 f t c hi H hf hf2 hc ht hinv O
      obtain ⟨lo, c', hl, hlo, hc', hc0, hc1, hs⟩ := tk_step (x1 := 0) (m := 0) (h2 i (by omega)) (k2 i (by omega)) hc
      refine jr_iload hE dX12_take_5 0 rfl ?_
      refine jr_bipush (v := (8 : Int32)) hE dX12_take_7 (by decide) ?_
      refine jr_icmp_ge (tgt := 54) hE dX12_take_9 (by decide) (fun c_9 => absurd c_9 (nI_ge (b := 8) (by omega) (by omega))) (fun c_9 => ?_)
      refine jr_aload_n hE dX12_take_12 3 rfl ?_
      refine jr_iload hE dX12_take_13 0 rfl ?_
      refine jr_lald (v := lN (d i)) hE dX12_take_15 (H.L (k := ka) (n := 8) hka) (vp_in_nI (by omega) (by omega)) (by rw [nI_clamp (by omega)]; exact (uz_rd (hf2 i (Nat.le_refl i) (by omega))).trans (h1 i (by omega))) ?_
      refine jr_aload_n hE dX12_take_16 4 rfl ?_
      refine jr_iload hE dX12_take_17 0 rfl ?_
      refine jr_lald (v := lN (e i)) hE dX12_take_19 (H.L (k := kb) (n := 8) hkb) (vp_in_nI (by omega) (by omega)) (by rw [nI_clamp (by omega)]; exact (uz_rd (hf2 i (Nat.le_refl i) (by omega))).trans (k1 i (by omega))) ?_
      refine jr_lsub hE dX12_take_20 rfl ?_
      refine jr_lload_n hE dX12_take_21 1 rfl ?_
      refine jr_lsub hE dX12_take_22 rfl ?_
      refine jr_lstore (lv' := [(6, .long (((lN (d i)) - (lN (e i))) - (lN c))), (5, .int (nI i)), (3, .long (lN c)), (0, .ref (a kt)), (1, .ref (a ka)), (2, .ref (a kb))]) hE dX12_take_23 (by decide) rfl ?_
      refine jr_aload_n hE dX12_take_25 3 rfl ?_
      refine jr_iload hE dX12_take_26 1 rfl ?_
      refine jr_lload hE dX12_take_28 0 rfl ?_
      refine jr_ldc2 (v := (4294967295 : Int64)) hE dX12_take_30 (by decide +kernel) ?_
      refine jr_land (z := lN lo) hE dX12_take_33 hl ?_
      refine jr_last hE dX12_take_34 (H.L (k := kt) (n := 8) hkt) (vp_in_nI (by omega) (by omega)) (fun F1 g2 u3 => ?_)
      have H4 := H.setL (k := kt) (n := 8) hkt g2 u3
      have O5 := O.st (k := kt) hkt.1 hkt.k u3
      rw [uz_uz, uz_s] at H4
      refine jr_lload hE dX12_take_35 0 rfl ?_
      refine jr_lconst (v := (0 : Int64)) hE dX12_take_37 (by decide) ?_
      refine jr_lcmp hE dX12_take_38 ?_
      refine jr_if_ge (tgt := 46) hE dX12_take_39 (by decide) (fun c39 => ?_) (fun c39 => ?_)
      · refine jr_lconst (v := (0 : Int64)) hE dX12_take_46 (by decide) ?_
        refine jr_lstore_n (lv' := [(3, .long (0 : Int64)), (6, .long (((lN (d i)) - (lN (e i))) - (lN c))), (5, .int (nI i)), (0, .ref (a kt)), (1, .ref (a ka)), (2, .ref (a kb))]) hE dX12_take_47 (by decide) rfl ?_
        refine jr_iinc (v := nI (i + 1)) (lv' := [(5, .int (nI (i + 1))), (3, .long (0 : Int64)), (6, .long (((lN (d i)) - (lN (e i))) - (lN c))), (0, .ref (a kt)), (1, .ref (a ka)), (2, .ref (a kb))]) hE dX12_take_48 2 rfl (nI_1 _) (by decide) rfl ?_
        refine jr_goto (tgt := 5) hE dX12_take_51 (by decide) ?_
        refine jr_lv (lv' := [(5, .int (nI (i + 1))), (3, .long (0 : Int64)), (0, .ref (a kt)), (1, .ref (a ka)), (2, .ref (a kb))]) [0, 1, 3, 4, 5] rfl ?_
        exact ih (i + 1) F1 _ (du t i lo) 0 (by omega) H4 (fun j hj => by
          by_cases q : j = i
          · rw [q, vL_s _ _ (by omega), du_s]
          · rw [vL_n _ _ (by omega) q, du_n q]; exact hf j (by omega)) (fun j hj hj8 => by rw [vL_n _ _ (by omega) (by omega)]; exact hf2 j (by omega) hj8) (by decide) (fun j hj => by
          by_cases q : j = i
          · rw [q, du_s]; exact hlo
          · rw [du_n q]; exact ht j (by omega)) (tk_inv hinv (by rw [hs, hc0 c39])) O5
      · refine jr_lconst (v := (1 : Int64)) hE dX12_take_42 (by decide) ?_
        refine jr_goto (tgt := 47) hE dX12_take_43 (by decide) ?_
        refine jr_lstore_n (lv' := [(3, .long (1 : Int64)), (6, .long (((lN (d i)) - (lN (e i))) - (lN c))), (5, .int (nI i)), (0, .ref (a kt)), (1, .ref (a ka)), (2, .ref (a kb))]) hE dX12_take_47 (by decide) rfl ?_
        refine jr_iinc (v := nI (i + 1)) (lv' := [(5, .int (nI (i + 1))), (3, .long (1 : Int64)), (6, .long (((lN (d i)) - (lN (e i))) - (lN c))), (0, .ref (a kt)), (1, .ref (a ka)), (2, .ref (a kb))]) hE dX12_take_48 2 rfl (nI_1 _) (by decide) rfl ?_
        refine jr_goto (tgt := 5) hE dX12_take_51 (by decide) ?_
        refine jr_lv (lv' := [(5, .int (nI (i + 1))), (3, .long (1 : Int64)), (0, .ref (a kt)), (1, .ref (a ka)), (2, .ref (a kb))]) [0, 1, 3, 4, 5] rfl ?_
        exact ih (i + 1) F1 _ (du t i lo) 1 (by omega) H4 (fun j hj => by
          by_cases q : j = i
          · rw [q, vL_s _ _ (by omega), du_s]
          · rw [vL_n _ _ (by omega) q, du_n q]; exact hf j (by omega)) (fun j hj hj8 => by rw [vL_n _ _ (by omega) (by omega)]; exact hf2 j (by omega) hj8) (by decide) (fun j hj => by
          by_cases q : j = i
          · rw [q, du_s]; exact hlo
          · rw [du_n q]; exact ht j (by omega)) (tk_inv hinv (by rw [hs, hc1 c39])) O5
  refine jr_lconst (v := (0 : Int64)) hE dX12_take_0 (by decide) ?_
  refine jr_lstore_n (lv' := [(3, .long (0 : Int64)), (0, .ref (a kt)), (1, .ref (a ka)), (2, .ref (a kb))]) hE dX12_take_1 (by decide) rfl ?_
  refine jr_iconst (v := (0 : Int32)) hE dX12_take_2 (by decide) ?_
  refine jr_istore (lv' := [(5, .int (0 : Int32)), (3, .long (0 : Int64)), (0, .ref (a kt)), (1, .ref (a ka)), (2, .ref (a kb))]) hE dX12_take_3 (by decide) rfl ?_
  exact loop 8 0 F (s kt) (fun _ => 0) 0 rfl (by rw [uz_id]; exact H0) (fun j hj => absurd hj (Nat.not_lt_zero j)) (fun j _ _ => rfl) (Nat.zero_le 1) (fun j hj => absurd hj (Nat.not_lt_zero j)) rfl (mO.rf o a F)

