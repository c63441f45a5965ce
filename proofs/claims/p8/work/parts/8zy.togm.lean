/-! THE REFERENCE'S together -/
/-- the sum of the rows' numbers modulo N -/
def tgS (R : Nat → List Nat) (b : Nat) : Nat → Nat
  | 0 => 0
  | k + 1 => (tgS R b k + bnum (R (b + k))) % NN
abbrev tgP (R : Nat → List Nat) (b m : Nat) : Prop := ∀ j, j < m → (R (b + j)).length = 32 ∧ bnum (R (b + j)) < NN
noncomputable def stTog (s : ST) (r f : Int32) : Int32 × ST := if rowP r ∧ rowP f ∧ rn f + s.2.2.2.1.length ≤ 16 then (match s.2.2.2.2.2.2 with
  | none => (-2, s)
  | some t => if tgP s.1 (rn f) s.2.2.2.1.length then (64, setR s (rn r) (bex t.2.2.2.1 32 ++ bex (tgS s.1 (rn f) s.2.2.2.1.length) 32)) else (-2, s)) else (-1, s)
theorem stTog_n {s : ST} {r f : Int32} (h : rowP r ∧ rowP f ∧ rn f + s.2.2.2.1.length ≤ 16) (q : s.2.2.2.2.2.2 = none) : stTog s r f = (-2, s) := by
  unfold stTog
  rw [if_pos h, q]
theorem stTog_s {s : ST} {r f : Int32} {t : SSe} (h : rowP r ∧ rowP f ∧ rn f + s.2.2.2.1.length ≤ 16) (q : s.2.2.2.2.2.2 = some t) : stTog s r f = if tgP s.1 (rn f) s.2.2.2.1.length then (64, setR s (rn r) (bex t.2.2.2.1 32 ++ bex (tgS s.1 (rn f) s.2.2.2.1.length) 32)) else (-2, s) := by
  unfold stTog
  rw [if_pos h, q]
theorem seI_n {v : Nat → Int32} {n : Nat → Option Nat} {w : Nat → Nat → Int32} {t : S2} (h : seI v n w t) (q : t.2.2.2.2.2 = none) : v 24 = 0 := by
  unfold seI at h
  rwa [q] at h
/-- what a session holds -/
theorem seI_s {v : Nat → Int32} {n : Nat → Option Nat} {w : Nat → Nat → Int32} {t : S2} {s : SSe} (h : seI v n w t) (q : t.2.2.2.2.2 = some s) : v 24 = 1 ∧ 1 ≤ t.2.2.1.length ∧ bl (w 25) 0 66 = s.1 ∧ (∀ b, b ∈ s.1 → b < 256) ∧ n 26 = some s.2.1 ∧ n 27 = some s.2.2.1 ∧ n 28 = some s.2.2.2.1 ∧ v 29 = bi s.2.2.2.2 ∧ s.2.1 < NN ∧ s.2.2.1 < NN ∧ s.2.2.2.1 < PP ∧ (∃ x y : Nat, qS (w 17) t.2.2.1.length t.2.2.1.length = some (x, y) ∧ v 30 = b2i (y % 2 = 1)) ∧ ∀ j, j < t.2.2.1.length → t.2.2.2.2.1 j ≠ none := by
  unfold seI at h
  rwa [q] at h
theorem nI_le16 {x : Nat} (h : x < 100) (c : nI x ≤ (16 : Int32)) : x ≤ 16 := by
  have q := Int32.le_iff_toInt_le.mp c
  rw [nI_toInt (by omega), show (16 : Int32).toInt = 16 by decide] at q
  omega

set_option maxHeartbeats 4000000 in
set_option maxRecDepth 100000 in
theorem c_m_together (l : Launch) (G : Nat → ClassId) (o : Nat) (a : Nat → Nat) (v : Nat → Int32) (n : Nat → Option Nat) (g : Nat → Nat → Int64) (w : Nat → Nat → Int32) (s : ST) (r f : Int32) : jKi l yX12_together wsX12_together ({ frames := 3, cells := 0, slots := 0, locals := 86 }) G [.ref o, .int r, .int f] (fun L F => mI G L F o a v n g w s) (fun L F q F1 => ∃ v' n' g' w', mI G L F1 o a v' n' g' w' (stTog s r f).2 ∧ q = (stTog s r f).1 ∧ mO o a F F1) := by
  refine jm_ki (cc := cX12_together) (maxL := 4) (rt := .int) (by decide) rfl (Nat.le_of_ble_eq_true rfl) ?_
  intro E L F hE hR hpre
  have hE : jOk E G _ cX12_together 4 RX12 wsX12_together := hE

  have f533 : jFl RX12 wsX12_together 533 12 16 := ⟨rfl, by decide, by decide +kernel, by decide +kernel⟩
  have f529 : jFl RX12 wsX12_together 529 12 24 := ⟨rfl, by decide, by decide +kernel, by decide +kernel⟩
  have f338 : jFl RX12 wsX12_together 338 12 73 := ⟨rfl, by decide, by decide +kernel, by decide +kernel⟩
  have f302 : jFl RX12 wsX12_together 302 12 61 := ⟨rfl, by decide, by decide +kernel, by decide +kernel⟩
  have f149 : jFl RX12 wsX12_together 149 12 28 := ⟨rfl, by decide, by decide +kernel, by decide +kernel⟩
  have f96 : jFl RX12 wsX12_together 96 12 8 := ⟨rfl, by decide, by decide +kernel, by decide +kernel⟩
  have f335 : jFl RX12 wsX12_together 335 12 72 := ⟨rfl, by decide, by decide +kernel, by decide +kernel⟩
  have f100 : jFl RX12 wsX12_together 100 12 9 := ⟨rfl, by decide, by decide +kernel, by decide +kernel⟩
  have f27 : jFl RX12 wsX12_together 27 12 1 := ⟨rfl, by decide, by decide +kernel, by decide +kernel⟩
  have hI := hpre
  obtain ⟨M0, hK, hC, htg, hrd, hRW, hpI⟩ := id hpre
  have hwk48 := hpI.2.1.2
  have hs4 := hpI.2.2.1.2.1
  have hse := hpI.2.2.2.2.2
  rcases hSe : s.2.2.2.2.2.2 with _ | ⟨te⟩
  · have hz0 := 0
    refine jr_iload_n hE dX12_together_0 1 rfl ?_
    refine jr_kSi (n := 1) (As := [.int r]) (rest := []) hE dX12_together_1 (fun l => c_m_isRow l G r) gX12_together_X12_isRow rfl (by decide +kernel) ⟨rfl, rfl, by decide, by decide⟩ (by decide) rfl rfl (Nat.le_of_ble_eq_true rfl) (trivial) (fun r3 F1 q2 => ?_)
    obtain ⟨eq2, rq2⟩ := q2
    subst eq2 rq2
    refine jr_if_eq (tgt := 25) hE dX12_together_4 (by decide) (fun c4 => ?_) (fun c4 => ?_)
    · refine jr_iconst (v := (-1 : Int32)) hE dX12_together_25 (by decide) ?_
      have e : stTog s r f = (-1, s) := by
        unfold stTog
        rw [if_neg (fun h => absurd (b2i_t h.1) (by rw [c4]; decide))]
      exact hR F _ _ _ dX12_together_26 rfl ⟨v, n, g, w, by rw [e]; exact hI, by rw [e], mO.rf o a F⟩
    · have hrk : rowP r := b2i_1 c4
      obtain ⟨k, hk, rfl⟩ := rowP_nI hrk
      obtain ⟨z1k, z2k, z3k, z4k⟩ := hRW k hk
      have hrnk := nI_rn hk
      refine jr_iload_n hE dX12_together_7 2 rfl ?_
      refine jr_kSi (n := 1) (As := [.int f]) (rest := []) hE dX12_together_8 (fun l => c_m_isRow l G f) gX12_together_X12_isRow rfl (by decide +kernel) ⟨rfl, rfl, by decide, by decide⟩ (by decide) rfl rfl (Nat.le_of_ble_eq_true rfl) (trivial) (fun r6 F4 q5 => ?_)
      obtain ⟨eq5, rq5⟩ := q5
      subst eq5 rq5
      refine jr_if_eq (tgt := 25) hE dX12_together_11 (by decide) (fun c11 => ?_) (fun c11 => ?_)
      · refine jr_iconst (v := (-1 : Int32)) hE dX12_together_25 (by decide) ?_
        have e : stTog s (nI k) f = (-1, s) := by
          unfold stTog
          rw [if_neg (fun h => absurd (b2i_t h.2.1) (by rw [c11]; decide))]
        exact hR F _ _ _ dX12_together_26 rfl ⟨v, n, g, w, by rw [e]; exact hI, by rw [e], mO.rf o a F⟩
      · have hrb : rowP f := b2i_1 c11
        obtain ⟨b, hb, rfl⟩ := rowP_nI hrb
        obtain ⟨z1b, z2b, z3b, z4b⟩ := hRW b hb
        have hrnb := nI_rn hb
        refine jr_iload_n hE dX12_together_14 2 rfl ?_
        refine jr_aload_n hE dX12_together_15 0 rfl ?_
        refine jr_get hE dX12_together_16 f533 M0.ob rfl ?_
        rw [hpI.2.2.1.1]
        refine jr_iadd (z := nI (b + s.2.2.2.1.length)) hE dX12_together_19 (nI_add _ _) ?_
        refine jr_bipush (v := (16 : Int32)) hE dX12_together_20 (by decide) ?_
        refine jr_icmp_le (tgt := 27) hE dX12_together_22 (by decide) (fun c22 => ?_) (fun c22 => ?_)
        · have h16 : b + s.2.2.2.1.length ≤ 16 := nI_le16 (by omega) c22
          refine jr_aload_n hE dX12_together_27 0 rfl ?_
          refine jr_get hE dX12_together_28 f529 M0.ob rfl ?_
          rw [(seI_n hse hSe)]
          refine jr_if_ne (tgt := 37) hE dX12_together_31 (by decide) (fun c_31 => absurd c_31 (by decide)) (fun c_31 => ?_)
          refine jr_bipush (v := (-2 : Int32)) hE dX12_together_34 (by decide) ?_
          have e := stTog_n ⟨nI_rowP hk, nI_rowP hb, by rw [hrnb]; exact h16⟩ hSe
          exact hR F _ _ _ dX12_together_36 rfl ⟨v, n, g, w, by rw [e]; exact hI, by rw [e], mO.rf o a F⟩
        · refine jr_iconst (v := (-1 : Int32)) hE dX12_together_25 (by decide) ?_
          have e : stTog s (nI k) (nI b) = (-1, s) := by
            unfold stTog
            rw [if_neg (fun h => c22 (nI_le (b := 16) (by have := h.2.2; rw [hrnb] at this; exact this) (by decide)))]
          exact hR F _ _ _ dX12_together_26 rfl ⟨v, n, g, w, by rw [e]; exact hI, by rw [e], mO.rf o a F⟩
  · obtain ⟨h24, _, h25, hb25, h26, h27, h28, h29, _⟩ := seI_s hse hSe
    refine jr_iload_n hE dX12_together_0 1 rfl ?_
    refine jr_kSi (n := 1) (As := [.int r]) (rest := []) hE dX12_together_1 (fun l => c_m_isRow l G r) gX12_together_X12_isRow rfl (by decide +kernel) ⟨rfl, rfl, by decide, by decide⟩ (by decide) rfl rfl (Nat.le_of_ble_eq_true rfl) (trivial) (fun r3 F1 q2 => ?_)
    obtain ⟨eq2, rq2⟩ := q2
    subst eq2 rq2
    refine jr_if_eq (tgt := 25) hE dX12_together_4 (by decide) (fun c4 => ?_) (fun c4 => ?_)
    · refine jr_iconst (v := (-1 : Int32)) hE dX12_together_25 (by decide) ?_
      have e : stTog s r f = (-1, s) := by
        unfold stTog
        rw [if_neg (fun h => absurd (b2i_t h.1) (by rw [c4]; decide))]
      exact hR F _ _ _ dX12_together_26 rfl ⟨v, n, g, w, by rw [e]; exact hI, by rw [e], mO.rf o a F⟩
    · have hrk : rowP r := b2i_1 c4
      obtain ⟨k, hk, rfl⟩ := rowP_nI hrk
      obtain ⟨z1k, z2k, z3k, z4k⟩ := hRW k hk
      have hrnk := nI_rn hk
      refine jr_iload_n hE dX12_together_7 2 rfl ?_
      refine jr_kSi (n := 1) (As := [.int f]) (rest := []) hE dX12_together_8 (fun l => c_m_isRow l G f) gX12_together_X12_isRow rfl (by decide +kernel) ⟨rfl, rfl, by decide, by decide⟩ (by decide) rfl rfl (Nat.le_of_ble_eq_true rfl) (trivial) (fun r6 F4 q5 => ?_)
      obtain ⟨eq5, rq5⟩ := q5
      subst eq5 rq5
      refine jr_if_eq (tgt := 25) hE dX12_together_11 (by decide) (fun c11 => ?_) (fun c11 => ?_)
      · refine jr_iconst (v := (-1 : Int32)) hE dX12_together_25 (by decide) ?_
        have e : stTog s (nI k) f = (-1, s) := by
          unfold stTog
          rw [if_neg (fun h => absurd (b2i_t h.2.1) (by rw [c11]; decide))]
        exact hR F _ _ _ dX12_together_26 rfl ⟨v, n, g, w, by rw [e]; exact hI, by rw [e], mO.rf o a F⟩
      · have hrb : rowP f := b2i_1 c11
        obtain ⟨b, hb, rfl⟩ := rowP_nI hrb
        obtain ⟨z1b, z2b, z3b, z4b⟩ := hRW b hb
        have hrnb := nI_rn hb
        refine jr_iload_n hE dX12_together_14 2 rfl ?_
        refine jr_aload_n hE dX12_together_15 0 rfl ?_
        refine jr_get hE dX12_together_16 f533 M0.ob rfl ?_
        rw [hpI.2.2.1.1]
        refine jr_iadd (z := nI (b + s.2.2.2.1.length)) hE dX12_together_19 (nI_add _ _) ?_
        refine jr_bipush (v := (16 : Int32)) hE dX12_together_20 (by decide) ?_
        refine jr_icmp_le (tgt := 27) hE dX12_together_22 (by decide) (fun c22 => ?_) (fun c22 => ?_)
        · have h16 : b + s.2.2.2.1.length ≤ 16 := nI_le16 (by omega) c22
          refine jr_aload_n hE dX12_together_27 0 rfl ?_
          refine jr_get hE dX12_together_28 f529 M0.ob rfl ?_
          rw [h24]
          refine jr_if_ne (tgt := 37) hE dX12_together_31 (by decide) (fun c31 => ?_) (fun c31 => ?_)
          · refine jr_aload_n hE dX12_together_37 0 rfl ?_
            refine jr_get hE dX12_together_38 f338 M0.ob rfl ?_
            refine jr_lconst (v := (0 : Int64)) hE dX12_together_41 (by decide) ?_
            refine jr_kSv (n := 2) (As := [.ref (a 73), .long (0 : Int64)]) (rest := []) hE dX12_together_42 (fun l => c_m_small l G o a v n g w 73 0) gX12_together_X12_small rfl (by decide +kernel) ⟨rfl, rfl, by decide, by decide⟩ (by decide) rfl rfl (Nat.le_of_ble_eq_true rfl) (⟨M0, by decide, by decide⟩) (fun F7 q8 => ?_)
            obtain ⟨M9, P9⟩ := q8
            have O9 := (mO.rf o a F).tr P9
            obtain ⟨n9, e9, hf9, hv9⟩ := uz_ab n 73 (some 0)
            rw [e9] at M9
            refine jr_iconst (v := (0 : Int32)) hE dX12_together_45 (by decide) ?_
            refine jr_istore_n (lv' := [(3, .int (0 : Int32)), (0, .ref o), (1, .int (nI k)), (2, .int (nI b))]) hE dX12_together_46 (by decide) rfl ?_
            have loop : ∀ (r0 i : Nat) (F4 : Nat → va_E) (n2 : Nat → Option Nat), i + r0 = s.2.2.2.1.length → MW G L F4 o a v n2 g w → (∀ z, z ∉ [72, 73] → n2 z = n z) → n2 73 = some (tgS s.1 b i) → tgP s.1 b i → mO o a F F4 → J E L F4 0 0 47 [(3, .int (nI i)), (0, .ref o), (1, .int (nI k)), (2, .int (nI b))] [] := by
              intro r0
              induction r0 with
              | zero =>
                intro i F4 n2 hi M4 hnf h73 hP O4
                have hiN : i = s.2.2.2.1.length := by omega
                subst hiN
                refine jr_iload_n hE dX12_together_47 0 rfl ?_
                refine jr_aload_n hE dX12_together_48 1 rfl ?_
                refine jr_get hE dX12_together_49 f533 M4.ob rfl ?_
                rw [hpI.2.2.1.1]
                refine jr_icmp_ge (tgt := 128) hE dX12_together_52 (by decide) (fun c_52 => ?_) (fun c_52 => absurd (nI_le (a := s.2.2.2.1.length) (by omega) (by omega)) c_52)
                refine jr_aload_n hE dX12_together_128 1 rfl ?_
                refine jr_get hE dX12_together_129 f302 M4.ob rfl ?_
                refine jr_iconst (v := (0 : Int32)) hE dX12_together_132 (by decide) ?_
                refine jr_aload_n hE dX12_together_133 1 rfl ?_
                refine jr_get hE dX12_together_134 f149 M4.ob rfl ?_
                have hN10 : n2 28 = some te.2.2.2.1 := (hnf 28 (by decide)).trans h28
                refine jr_kSv (n := 3) (As := [.ref (a 61), .int (0 : Int32), .ref (a 28)]) (rest := []) hE dX12_together_137 (fun l => c_m_bytesOf l G o a v n2 g w 61 0 28 66 te.2.2.2.1) gX12_together_X12_bytesOf rfl (by decide +kernel) ⟨rfl, rfl, by decide, by decide⟩ (by decide) rfl rfl (Nat.le_of_ble_eq_true rfl) (⟨M4, by decide, by decide, by decide, by decide, hN10⟩) (fun F11 q12 => ?_)
                obtain ⟨M13, P13⟩ := q12
                have O13 := O4.tr P13
                obtain ⟨w13, e13, hw13, hx13⟩ := uz_ab w 61 (wrt (w 61) 0 (bex te.2.2.2.1 32))
                rw [e13] at M13
                have ho13 : bl (w13 61) 0 32 = bex te.2.2.2.1 32 := by rw [hx13]; exact bl_w0 (bex_len _ _) (bex_lt _ _)
                refine jr_aload_n hE dX12_together_140 1 rfl ?_
                refine jr_get hE dX12_together_141 f302 M13.ob rfl ?_
                refine jr_bipush (v := (32 : Int32)) hE dX12_together_144 (by decide) ?_
                refine jr_aload_n hE dX12_together_146 1 rfl ?_
                refine jr_get hE dX12_together_147 f338 M13.ob rfl ?_
                refine jr_kSv (n := 3) (As := [.ref (a 61), .int (32 : Int32), .ref (a 73)]) (rest := []) hE dX12_together_150 (fun l => c_m_bytesOf l G o a v n2 g w13 61 32 73 66 (tgS s.1 b s.2.2.2.1.length)) gX12_together_X12_bytesOf rfl (by decide +kernel) ⟨rfl, rfl, by decide, by decide⟩ (by decide) rfl rfl (Nat.le_of_ble_eq_true rfl) (⟨M13, by decide, by decide, by decide, by decide, h73⟩) (fun F14 q15 => ?_)
                obtain ⟨M16, P16⟩ := q15
                have O16 := O13.tr P16
                obtain ⟨w16, e16, hw16, hx16⟩ := uz_ab w13 61 (wrt (w13 61) 32 (bex (tgS s.1 b s.2.2.2.1.length) 32))
                rw [e16] at M16
                have ho16 : bl (w16 61) 0 64 = bex te.2.2.2.1 32 ++ bex (tgS s.1 b s.2.2.2.1.length) 32 := by rw [hx16]; exact bl_ext ho13 (bex_len _ _) (bex_lt _ _) rfl
                refine jr_aload_n hE dX12_together_153 1 rfl ?_
                refine jr_iload_n hE dX12_together_154 2 rfl ?_
                refine jr_bipush (v := (64 : Int32)) hE dX12_together_155 (by decide) ?_
                refine jr_kVi (ci := 12) (n := 2) (As := [.int (nI k), .int (64 : Int32)]) (rest := []) hE dX12_together_157 (fun l => c_m_gives l G o a v n2 g w16 k 64) gX12_together_X12_gives rfl M16.ob rfl (by decide +kernel) ⟨rfl, rfl, by decide, by decide⟩ (by decide) rfl rfl (Nat.le_of_ble_eq_true rfl) (⟨M16, hk, by decide⟩) (fun r19 F17 q18 => ?_)
                obtain ⟨w20, M20, h920, h820, hw20, rfl, P20⟩ := q18
                have O20 := O16.tr P20
                rw [ho16, show w16 9 = w 9 from ((hw16 9 (by decide)).trans (hw13 9 (by decide)))] at h920
                rw [show w16 8 = w 8 from ((hw16 8 (by decide)).trans (hw13 8 (by decide)))] at h820
                have e := stTog_s ⟨nI_rowP hk, nI_rowP hb, by rw [hrnb]; exact h16⟩ hSe
                rw [hrnb, hrnk] at e
                rw [if_pos hP] at e
                have hvF : ∀ z, z ∉ [999] → v z = v z := (fun z hz => rfl)
                have hnF : ∀ z, z ∉ [72, 73] → n2 z = n z := (fun z hz => (hnf z (jnsub (V := [72, 73]) hz [0, 1] rfl)))
                have hwF : ∀ z, z ∉ [8, 9, 61] → w20 z = w z := (fun z hz => ((hw20 z (jne hz 0 rfl) (jne hz 1 rfl)).trans ((hw16 z (jnsub (V := [61]) hz [2] rfl)).trans (hw13 z (jnsub (V := [61]) hz [2] rfl)))))
                
                have hln : (bex te.2.2.2.1 32 ++ bex (tgS s.1 b s.2.2.2.1.length) 32).length = 64 := by simp only [List.length_append, bex_len]
                exact hR F17 _ _ _ dX12_together_160 rfl ⟨_, _, _, _, by rw [e]; exact hI.rowk (k := k) (l := bex te.2.2.2.1 32 ++ bex (tgS s.1 b s.2.2.2.1.length) 32) (c := s.2.2.1) M20 hpI.2.1.1 (hpI.2.1.2) (fun z hz => hvF z (jdj rfl hz)) (fun z hz => hnF z (jdj rfl hz)) (fun z hz => hwF z (jdj rfl hz)) (by rw [h820, hln]) h920 (by rw [hln]; decide) (app_lt (bex_lt _ _) (bex_lt _ _)), by rw [e]; rfl, O20⟩
              | succ r0 ih =>
                intro i F4 n2 hi M4 hnf h73 hP O4
                refine jr_iload_n hE dX12_together_47 0 rfl ?_
                refine jr_aload_n hE dX12_together_48 1 rfl ?_
                refine jr_get hE dX12_together_49 f533 M4.ob rfl ?_
                rw [hpI.2.2.1.1]
                refine jr_icmp_ge (tgt := 128) hE dX12_together_52 (by decide) (fun c_52 => absurd c_52 (nI_ge (b := s.2.2.2.1.length) (by omega) (by omega))) (fun c_52 => ?_)
                refine jr_aload_n hE dX12_together_55 1 rfl ?_
                refine jr_get hE dX12_together_56 f96 M4.ob rfl ?_
                refine jr_iload_n hE dX12_together_59 3 rfl ?_
                refine jr_iload_n hE dX12_together_60 0 rfl ?_
                refine jr_iadd (z := nI (b + i)) hE dX12_together_61 (nI_add _ _) ?_
                refine jr_iald (v := nI (s.1 (b + i)).length) hE dX12_together_62 (M4.I (k := 8) (N := 16) (by decide)) (vp_in_nI (by omega) (by decide)) (by rw [nI_clamp (by omega)]; exact (hRW (b + i) (by omega)).1) ?_
                refine jr_bipush (v := (32 : Int32)) hE dX12_together_63 (by decide) ?_
                refine jr_icmp_eq (tgt := 71) hE dX12_together_65 (by decide) (fun c65 => ?_) (fun c65 => ?_)
                · obtain ⟨y1, y2, y3, y4⟩ := hRW (b + i) (by omega)
                  have hl5 : (s.1 (b + i)).length = 32 := (nI_eq (by omega) (by decide)).mp c65
                  have z5 : bl (w 9) (100 * (b + i)) 32 = s.1 (b + i) := by have q := y2; rw [hl5] at q; exact q
                  refine jr_aload_n hE dX12_together_71 1 rfl ?_
                  refine jr_get hE dX12_together_72 f335 M4.ob rfl ?_
                  refine jr_aload_n hE dX12_together_75 1 rfl ?_
                  refine jr_get hE dX12_together_76 f100 M4.ob rfl ?_
                  refine jr_bipush (v := (100 : Int32)) hE dX12_together_79 (by decide) ?_
                  refine jr_iload_n hE dX12_together_81 3 rfl ?_
                  refine jr_iload_n hE dX12_together_82 0 rfl ?_
                  refine jr_iadd (z := nI (b + i)) hE dX12_together_83 (nI_add _ _) ?_
                  refine jr_imul (z := nI (100 * (b + i))) hE dX12_together_84 (pk_mul 100 (b + i)) ?_
                  refine jr_kSv (n := 3) (As := [.ref (a 72), .ref (a 9), .int (nI (100 * (b + i)))]) (rest := []) hE dX12_together_85 (fun l => c_m_numberOf l G o a v n2 g w 72 9 (100 * (b + i)) 1600) gX12_together_X12_numberOf rfl (by decide +kernel) ⟨rfl, rfl, by decide, by decide⟩ (by decide) rfl rfl (Nat.le_of_ble_eq_true rfl) (⟨M4, by decide, by decide, by omega, by decide, bB_of z5 y4⟩) (fun F22 q23 => ?_)
                  obtain ⟨M24, P24⟩ := q23
                  have O24 := O4.tr P24
                  rw [z5] at M24
                  obtain ⟨n24, e24, hf24, hv24⟩ := uz_ab n2 72 (some (bnum (s.1 (b + i))))
                  rw [e24] at M24
                  refine jr_aload_n hE dX12_together_88 1 rfl ?_
                  refine jr_get hE dX12_together_89 f335 M24.ob rfl ?_
                  refine jr_aload_n hE dX12_together_92 1 rfl ?_
                  refine jr_get hE dX12_together_93 f27 M24.ob rfl ?_
                  have hN25 : n24 1 = some NN := ((hf24 1 (by decide)).trans (hnf 1 (by decide))).trans hK.2.1
                  refine jr_kSi (n := 2) (As := [.ref (a 72), .ref (a 1)]) (rest := []) hE dX12_together_96 (fun l => c_m_isBelow l G o a v n24 g w 72 1 (bnum (s.1 (b + i))) NN) gX12_together_X12_isBelow rfl (by decide +kernel) ⟨rfl, rfl, by decide, by decide⟩ (by decide) rfl rfl (Nat.le_of_ble_eq_true rfl) (⟨M24, by decide, by decide, hv24, hN25⟩) (fun r28 F26 q27 => ?_)
                  obtain ⟨eq27, rq27⟩ := q27
                  subst eq27 rq27
                  refine jr_if_ne (tgt := 105) hE dX12_together_99 (by decide) (fun c99 => ?_) (fun c99 => ?_)
                  · refine jr_aload_n hE dX12_together_105 1 rfl ?_
                    refine jr_aload_n hE dX12_together_106 1 rfl ?_
                    refine jr_get hE dX12_together_107 f338 M24.ob rfl ?_
                    refine jr_aload_n hE dX12_together_110 1 rfl ?_
                    refine jr_get hE dX12_together_111 f338 M24.ob rfl ?_
                    refine jr_aload_n hE dX12_together_114 1 rfl ?_
                    refine jr_get hE dX12_together_115 f335 M24.ob rfl ?_
                    refine jr_iconst (v := (1 : Int32)) hE dX12_together_118 (by decide) ?_
                    have hN29 : n24 73 = some (tgS s.1 b i) := (hf24 73 (by decide)).trans h73
                    have hK30 : mK n24 g := hK.fr ((hf24 0 (by decide)).trans (hnf 0 (by decide))) ((hf24 1 (by decide)).trans (hnf 1 (by decide))) ((hf24 32 (by decide)).trans (hnf 32 (by decide))) ((hf24 33 (by decide)).trans (hnf 33 (by decide)))
                    refine jr_kVv (ci := 12) (n := 4) (As := [.ref (a 73), .ref (a 73), .ref (a 72), .int (1 : Int32)]) (rest := []) hE dX12_together_119 (fun l => c_m_add l G o a v n24 g w 73 73 72 (tgS s.1 b i) (bnum (s.1 (b + i))) true) gX12_together_X12_add rfl M24.ob rfl (by decide +kernel) ⟨rfl, rfl, by decide, by decide⟩ (by decide) rfl rfl (Nat.le_of_ble_eq_true rfl) (⟨M24, hK30, by decide, by decide, by decide, hN29, hv24⟩) (fun F31 q32 => ?_)
                    obtain ⟨M33, P33⟩ := q32
                    have O33 := O24.tr P33
                    have M33 : MW G L F31 o a v (uz n24 73 (some (((tgS s.1 b i) + (bnum (s.1 (b + i)))) % NN))) g w := M33
                    obtain ⟨n33, e33, hf33, hv33⟩ := uz_ab n24 73 (some (((tgS s.1 b i) + (bnum (s.1 (b + i)))) % NN))
                    rw [e33] at M33
                    refine jr_iinc (v := nI (i + 1)) (lv' := [(3, .int (nI (i + 1))), (0, .ref o), (1, .int (nI k)), (2, .int (nI b))]) hE dX12_together_122 0 rfl (nI_1 _) (by decide) rfl ?_
                    refine jr_goto (tgt := 47) hE dX12_together_125 (by decide) ?_
                    refine jr_lv (lv' := [(3, .int (nI (i + 1))), (0, .ref o), (1, .int (nI k)), (2, .int (nI b))]) [0, 1, 2, 3] rfl ?_
                    exact ih (i + 1) F31 n33 (by omega) M33 (fun z hz => ((hf33 z (jnsub (V := [73]) hz [1] rfl)).trans ((hf24 z (jnsub (V := [72]) hz [0] rfl)).trans (hnf z (jnsub (V := [72, 73]) hz [0, 1] rfl))))) hv33 (fun t ht => by
                      rcases Nat.lt_or_ge t i with q | q
                      · exact hP t q
                      · rw [show t = i by omega]
                        exact ⟨hl5, b2i_1 c99⟩) O33
                  · refine jr_bipush (v := (-2 : Int32)) hE dX12_together_102 (by decide) ?_
                    have e := stTog_s ⟨nI_rowP hk, nI_rowP hb, by rw [hrnb]; exact h16⟩ hSe
                    rw [hrnb, hrnk] at e
                    rw [if_neg (fun h => absurd (b2i_t (h i (by omega)).2) (by rw [c99]; decide))] at e
                    have hvF : ∀ z, z ∉ [999] → v z = v z := (fun z hz => rfl)
                    have hnF : ∀ z, z ∉ [72, 73] → n24 z = n z := (fun z hz => ((hf24 z (jnsub (V := [72]) hz [0] rfl)).trans (hnf z (jnsub (V := [72, 73]) hz [0, 1] rfl))))
                    have hwF : ∀ z, z ∉ [999] → w z = w z := (fun z hz => rfl)
                    
                    exact hR F22 _ _ _ dX12_together_104 rfl ⟨_, _, _, _, by rw [e]; exact hI.keep (c := s.2.2.1) M24 hpI.2.1.1 (hpI.2.1.2) (fun z hz => hvF z (jdj rfl hz)) (fun z hz => hnF z (jdj rfl hz)) (fun z hz => hwF z (jdj rfl hz)), by rw [e], O24⟩
                · refine jr_bipush (v := (-2 : Int32)) hE dX12_together_68 (by decide) ?_
                  have e := stTog_s ⟨nI_rowP hk, nI_rowP hb, by rw [hrnb]; exact h16⟩ hSe
                  rw [hrnb, hrnk] at e
                  rw [if_neg (fun h => c65 (by rw [(h i (by omega)).1]; rfl))] at e
                  have hvF : ∀ z, z ∉ [999] → v z = v z := (fun z hz => rfl)
                  have hnF : ∀ z, z ∉ [72, 73] → n2 z = n z := (fun z hz => (hnf z (jnsub (V := [72, 73]) hz [0, 1] rfl)))
                  have hwF : ∀ z, z ∉ [999] → w z = w z := (fun z hz => rfl)
                  
                  exact hR F4 _ _ _ dX12_together_70 rfl ⟨_, _, _, _, by rw [e]; exact hI.keep (c := s.2.2.1) M4 hpI.2.1.1 (hpI.2.1.2) (fun z hz => hvF z (jdj rfl hz)) (fun z hz => hnF z (jdj rfl hz)) (fun z hz => hwF z (jdj rfl hz)), by rw [e], O4⟩
            exact loop s.2.2.2.1.length 0 F7 n9 (by omega) M9 (fun z hz => (hf9 z (jnsub (V := [73]) hz [1] rfl))) hv9 (fun t ht => absurd ht (Nat.not_lt_zero t)) O9
          · exact absurd c31 (by decide)
        · refine jr_iconst (v := (-1 : Int32)) hE dX12_together_25 (by decide) ?_
          have e : stTog s (nI k) (nI b) = (-1, s) := by
            unfold stTog
            rw [if_neg (fun h => c22 (nI_le (b := 16) (by have := h.2.2; rw [hrnb] at this; exact this) (by decide)))]
          exact hR F _ _ _ dX12_together_26 rfl ⟨v, n, g, w, by rw [e]; exact hI, by rw [e], mO.rf o a F⟩

