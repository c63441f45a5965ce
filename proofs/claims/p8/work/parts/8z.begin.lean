/-! THE REFERENCE'S begin, gives -/
def tAt (i : Nat) : Nat := [0, 11, 24, 41, 52, 70, 79, 90, 105].getD i 0
def tBt (j : Nat) : Nat := [66, 73, 80, 48, 51, 52, 48, 47, 97, 117, 120, 66, 73, 80, 48, 51, 52, 48, 47, 110, 111, 110, 99, 101, 66, 73, 80, 48, 51, 52, 48, 47, 99, 104, 97, 108, 108, 101, 110, 103, 101, 75, 101, 121, 65, 103, 103, 32, 108, 105, 115, 116, 75, 101, 121, 65, 103, 103, 32, 99, 111, 101, 102, 102, 105, 99, 105, 101, 110, 116, 77, 117, 83, 105, 103, 47, 97, 117, 120, 77, 117, 83, 105, 103, 47, 110, 111, 110, 99, 101, 77, 117, 83, 105, 103, 47, 110, 111, 110, 99, 101, 99, 111, 101, 102].getD j 0
def tgOK (w : Nat → Nat → Int32) : Prop := (∀ i, i < 9 → w 50 i = nI (tAt i)) ∧ ∀ j, j < 105 → w 51 j = nI (tBt j)
theorem tA_le : ∀ i, i < 8 → tAt i ≤ tAt (i + 1) ∧ tAt (i + 1) - tAt i ≤ 20 ∧ tAt (i + 1) ≤ 105 := by decide
theorem tB_lt : ∀ j, j < 105 → tBt j < 256 := by decide
theorem tg_eq : ∀ i, i < 8 → (List.range (tAt (i + 1) - tAt i)).map (fun k => tBt (tAt i + k)) = tgb i := by decide +kernel
theorem r32 : ∀ k, k < 64 → (nI k) - (nI k) / (32 : Int32) * 32 = nI (k % 32) := by decide +kernel
abbrev nin6 (z : Nat) : Prop := z ∉ [53, 54, 55, 56, 58, 59]

set_option maxHeartbeats 4000000 in
set_option maxRecDepth 100000 in
theorem c_m_begin (l : Launch) (G : Nat → ClassId) (o : Nat) (a : Nat → Nat) (v : Nat → Int32) (n : Nat → Option Nat) (g : Nat → Nat → Int64) (w : Nat → Nat → Int32) (i : Nat) : jKv l yX12_begin wsX12_begin ({ frames := 3, cells := 0, slots := 0, locals := 77 }) G [.ref o, .int (nI i)] (fun L F => MW G L F o a v n g w ∧ i < 8 ∧ tgOK w ∧ rdOK w) (fun L F F1 => ∃ v' w', MW G L F1 o a v' n g w' ∧ (∀ k, k ≠ 57 → v' k = v k) ∧ (∀ k, nin6 k → w' k = w k) ∧ tX v' w' (sha (tgb i) ++ sha (tgb i)) ∧ mO o a F F1) := by
  refine jm_kv (cc := cX12_begin) (maxL := 4) (by decide) rfl (Nat.le_of_ble_eq_true rfl) ?_
  intro E L F hE hR hpre
  have hE : jOk E G _ cX12_begin 4 RX12 wsX12_begin := hE

  have f208 : jFl RX12 wsX12_begin 208 12 50 := ⟨rfl, by decide, by decide +kernel, by decide +kernel⟩
  have f296 : jFl RX12 wsX12_begin 296 12 59 := ⟨rfl, by decide, by decide +kernel, by decide +kernel⟩
  have f211 : jFl RX12 wsX12_begin 211 12 51 := ⟨rfl, by decide, by decide +kernel, by decide +kernel⟩
  have f450 : jFl RX12 wsX12_begin 450 12 57 := ⟨rfl, by decide, by decide +kernel, by decide +kernel⟩
  have f290 : jFl RX12 wsX12_begin 290 12 56 := ⟨rfl, by decide, by decide +kernel, by decide +kernel⟩
  have f293 : jFl RX12 wsX12_begin 293 12 58 := ⟨rfl, by decide, by decide +kernel, by decide +kernel⟩
  obtain ⟨M0, hi, htg, hrd⟩ := hpre
  have hle := tA_le i hi
  have loopB : ∀ (f0 : Nat → Int32) (w1 : Nat → Nat → Int32), (∀ z, nin4 z → w1 z = uz w 59 f0 z) → bl (w1 58) 0 32 = sha (tgb i) → ∀ (r0 k : Nat) (F3 : Nat → va_E) (f : Nat → Int32), k + r0 = 64 → MW G L F3 o a v n g (uz w1 56 f) → (∀ j, j < k → f j = w1 58 (j % 32)) → mO o a F F3 → J E L F3 0 0 59 [(3, .int (nI k)), (2, .int (nI (tAt (i + 1) - tAt i))), (0, .ref o), (1, .int (nI i))] [] := by
    intro f0 w1 hw1 hs1 r0
    induction r0 with
    | zero =>
      intro k F3 f hk H3 hf O3
      refine jr_iload_n hE dX12_begin_59 0 rfl ?_
      refine jr_bipush (v := (64 : Int32)) hE dX12_begin_60 (by decide) ?_
      refine jr_icmp_ge (tgt := 86) hE dX12_begin_62 (by decide) (fun c_62 => ?_) (fun c_62 => absurd (nI_le (a := 64) (by omega) (by omega)) c_62)
      refine jr_aload_n hE dX12_begin_86 2 rfl ?_
      refine jr_bipush (v := (64 : Int32)) hE dX12_begin_87 (by decide) ?_
      refine jr_put (ty := .int) hE dX12_begin_89 f450 H3.ob rfl (by decide +kernel) rfl rfl (Nat.le_of_ble_eq_true rfl) (fun F1 g2 u3 => ?_)
      have H4 := H3.setV (v' := uz v 57 (64 : Int32)) g2 u3
      have O5 := O3.so u3
      have hD : ∀ t, t + 32 ≤ 64 → t % 32 = 0 → bl f t 32 = sha (tgb i) := fun t h1 h2 => by
        rw [← hs1]
        unfold bl
        apply List.map_congr_left
        intro j hj
        have hj2 := List.mem_range.mp hj
        unfold bt
        rw [hf (t + j) (by omega), show (t + j) % 32 = 0 + j by omega]
      exact hR F1 _ _ dX12_begin_92 ⟨_, _, H4, fun z hz => uz_n _ _ hz, fun z hz => by
        rw [uz_n _ _ (jne hz 3 rfl)]
        exact (hw1 z (jnsub (V := [53, 54, 55, 58]) hz [0, 1, 2, 4] rfl)).trans (uz_n _ _ (jne hz 5 rfl)), ⟨by rw [uz_s, List.length_append, sha_len]; rfl, by
        rw [List.length_append, sha_len, uz_s, bl_app, hD 0 (by decide) rfl, hD (0 + 32) (by decide) rfl], by rw [List.length_append, sha_len]; decide, fun b hb => (List.mem_append.mp hb).elim (sha_lt _ b) (sha_lt _ b)⟩, O5⟩
    | succ r0 ihB =>
      intro k F3 f hk H3 hf O3
      refine jr_iload_n hE dX12_begin_59 0 rfl ?_
      refine jr_bipush (v := (64 : Int32)) hE dX12_begin_60 (by decide) ?_
      refine jr_icmp_ge (tgt := 86) hE dX12_begin_62 (by decide) (fun c_62 => absurd c_62 (nI_ge (b := 64) (by omega) (by omega))) (fun c_62 => ?_)
      refine jr_aload_n hE dX12_begin_65 2 rfl ?_
      refine jr_get hE dX12_begin_66 f290 H3.ob rfl ?_
      refine jr_iload_n hE dX12_begin_69 0 rfl ?_
      refine jr_aload_n hE dX12_begin_70 2 rfl ?_
      refine jr_get hE dX12_begin_71 f293 H3.ob rfl ?_
      refine jr_iload_n hE dX12_begin_74 0 rfl ?_
      refine jr_bipush (v := (32 : Int32)) hE dX12_begin_75 (by decide) ?_
      refine jr_irem (z := nI (k % 32)) hE dX12_begin_77 (by decide) (r32 k (by omega)) ?_
      refine jr_iald (v := w1 58 (k % 32)) hE dX12_begin_78 (H3.I (k := 58) (N := 32) (by decide)) (vp_in_nI (n := k % 32) (by omega) (by decide)) (by rw [nI_clamp (by omega)]; rfl) ?_
      refine jr_iast hE dX12_begin_79 (H3.I (k := 56) (N := 400) (by decide)) (vp_in_nI (by omega) (by decide)) (fun F1 g2 u3 => ?_)
      have H4 := H3.setI (k := 56) (N := 400) (by decide) g2 u3
      have O5 := O3.st (k := 56) (by decide) (by decide) u3
      rw [uz_uz, uz_s] at H4
      refine jr_iinc (v := nI (k + 1)) (lv' := [(3, .int (nI (k + 1))), (2, .int (nI (tAt (i + 1) - tAt i))), (0, .ref o), (1, .int (nI i))]) hE dX12_begin_80 0 rfl (nI_1 _) (by decide) rfl ?_
      refine jr_goto (tgt := 59) hE dX12_begin_83 (by decide) ?_
      refine jr_lv (lv' := [(3, .int (nI (k + 1))), (2, .int (nI (tAt (i + 1) - tAt i))), (0, .ref o), (1, .int (nI i))]) [0, 1, 2, 3] rfl ?_
      exact ihB (k + 1) F1 _ (by omega) H4 (fun j hj => by
        rw [nI_clamp (by omega)]
        show (if j = k then _ else f j) = _
        by_cases e : j = k
        · rw [if_pos e, e]
        · rw [if_neg e]; exact hf j (by omega)) O5
  have loopA : ∀ (r0 k : Nat) (F2 : Nat → va_E) (f : Nat → Int32), k + r0 = (tAt (i + 1) - tAt i) → MW G L F2 o a v n g (uz w 59 f) → (∀ j, j < k → f j = nI (tBt (tAt i + j))) → mO o a F F2 → J E L F2 0 0 18 [(3, .int (nI k)), (2, .int (nI (tAt (i + 1) - tAt i))), (0, .ref o), (1, .int (nI i))] [] := by
    intro r0
    induction r0 with
    | zero =>
      intro k F2 f hk H hf O
      have hbt : ∀ j, j < (tAt (i + 1) - tAt i) → bt f (0 + j) = tBt (tAt i + j) := fun j hj => by
        rw [Nat.zero_add]
        exact bt_of (hf j (by omega)) (Nat.lt_trans (tB_lt _ (by omega)) (by decide))
      have htb : bB (uz w 59 f 59) 0 (tAt (i + 1) - tAt i) := by
        rw [uz_s]
        exact fun j hj => by rw [hbt j hj]; exact tB_lt _ (by omega)
      have htl : bl (uz w 59 f 59) 0 (tAt (i + 1) - tAt i) = tgb i := by
        rw [uz_s, ← tg_eq i hi]
        exact List.map_congr_left (fun j hj => hbt j (List.mem_range.mp hj))
      refine jr_iload_n hE dX12_begin_18 0 rfl ?_
      refine jr_iload_n hE dX12_begin_19 1 rfl ?_
      refine jr_icmp_ge (tgt := 48) hE dX12_begin_20 (by decide) (fun c_20 => ?_) (fun c_20 => absurd (nI_le (by omega) (by omega)) c_20)
      refine jr_aload_n hE dX12_begin_48 2 rfl ?_
      refine jr_aload_n hE dX12_begin_49 2 rfl ?_
      refine jr_get hE dX12_begin_50 f296 H.ob rfl ?_
      refine jr_iload_n hE dX12_begin_53 1 rfl ?_
      refine jr_kVv (ci := 12) (n := 2) (As := [.ref (a 59), .int (nI (tAt (i + 1) - tAt i))]) (rest := []) hE dX12_begin_54 (fun l => c_m_hashOf l G o a v n g (uz w 59 f) 59 (tAt (i + 1) - tAt i) 20) gX12_begin_X12_hashOf rfl H.ob rfl (by decide +kernel) ⟨rfl, rfl, by decide, by decide⟩ (by decide) rfl rfl (Nat.le_of_ble_eq_true rfl) (⟨H, by decide, by decide, by omega, hle.2.1, by decide, htb, hrd⟩) (fun F1 q2 => ?_)
      obtain ⟨w1, M1, hw1, hs1, O1'⟩ := q2
      have O1 := O.tr O1'
      rw [htl] at hs1
      refine jr_iconst (v := (0 : Int32)) hE dX12_begin_57 (by decide) ?_
      refine jr_istore_n (lv' := [(3, .int (0 : Int32)), (2, .int (nI (tAt (i + 1) - tAt i))), (0, .ref o), (1, .int (nI i))]) hE dX12_begin_58 (by decide) rfl ?_
      refine jr_lv (lv' := [(3, .int (0 : Int32)), (2, .int (nI (tAt (i + 1) - tAt i))), (0, .ref o), (1, .int (nI i))]) [0, 1, 2, 3] rfl ?_
      exact loopB f w1 hw1 hs1 64 0 F1 (w1 56) rfl (by rw [uz_id]; exact M1) (fun j hj => absurd hj (Nat.not_lt_zero j)) O1
    | succ r0 ih =>
      intro k F2 f hk H hf O
      refine jr_iload_n hE dX12_begin_18 0 rfl ?_
      refine jr_iload_n hE dX12_begin_19 1 rfl ?_
      refine jr_icmp_ge (tgt := 48) hE dX12_begin_20 (by decide) (fun c_20 => absurd c_20 (nI_ge (by omega) (by omega))) (fun c_20 => ?_)
      refine jr_aload_n hE dX12_begin_23 2 rfl ?_
      refine jr_get hE dX12_begin_24 f296 H.ob rfl ?_
      refine jr_iload_n hE dX12_begin_27 0 rfl ?_
      refine jr_aload_n hE dX12_begin_28 2 rfl ?_
      refine jr_get hE dX12_begin_29 f211 H.ob rfl ?_
      refine jr_aload_n hE dX12_begin_32 2 rfl ?_
      refine jr_get hE dX12_begin_33 f208 H.ob rfl ?_
      refine jr_iload_n hE dX12_begin_36 3 rfl ?_
      refine jr_iald (v := nI (tAt (i))) hE dX12_begin_37 (H.I (k := 50) (N := 9) (by decide)) (vp_in_nI (by omega) (by decide)) (by rw [nI_clamp (by omega)]; exact htg.1 i (by omega)) ?_
      refine jr_iload_n hE dX12_begin_38 0 rfl ?_
      refine jr_iadd (z := nI (tAt i + k)) hE dX12_begin_39 (nI_add _ _) ?_
      refine jr_iald (v := nI (tBt (tAt i + k))) hE dX12_begin_40 (H.I (k := 51) (N := 105) (by decide)) (vp_in_nI (by omega) (by decide)) (by rw [nI_clamp (by omega)]; exact htg.2 _ (by omega)) ?_
      refine jr_iast hE dX12_begin_41 (H.I (k := 59) (N := 20) (by decide)) (vp_in_nI (by omega) (by decide)) (fun F1 g2 u3 => ?_)
      have H4 := H.setI (k := 59) (N := 20) (by decide) g2 u3
      have O5 := O.st (k := 59) (by decide) (by decide) u3
      rw [uz_uz, uz_s] at H4
      refine jr_iinc (v := nI (k + 1)) (lv' := [(3, .int (nI (k + 1))), (2, .int (nI (tAt (i + 1) - tAt i))), (0, .ref o), (1, .int (nI i))]) hE dX12_begin_42 0 rfl (nI_1 _) (by decide) rfl ?_
      refine jr_goto (tgt := 18) hE dX12_begin_45 (by decide) ?_
      refine jr_lv (lv' := [(3, .int (nI (k + 1))), (2, .int (nI (tAt (i + 1) - tAt i))), (0, .ref o), (1, .int (nI i))]) [0, 1, 2, 3] rfl ?_
      exact ih (k + 1) F1 _ (by omega) H4 (fun j hj => by
        rw [nI_clamp (by omega)]
        show (if j = k then _ else f j) = _
        by_cases e : j = k
        · rw [if_pos e, e]
        · rw [if_neg e]; exact hf j (by omega)) O5
  refine jr_aload_n hE dX12_begin_0 0 rfl ?_
  refine jr_get hE dX12_begin_1 f208 M0.ob rfl ?_
  refine jr_iload_n hE dX12_begin_4 1 rfl ?_
  refine jr_iconst (v := (1 : Int32)) hE dX12_begin_5 (by decide) ?_
  refine jr_iadd (z := nI (i + 1)) hE dX12_begin_6 (nI_1 _) ?_
  refine jr_iald (v := nI (tAt (i + 1))) hE dX12_begin_7 (M0.I (k := 50) (N := 9) (by decide)) (vp_in_nI (by omega) (by decide)) (by rw [nI_clamp (by omega)]; exact htg.1 (i + 1) (by omega)) ?_
  refine jr_aload_n hE dX12_begin_8 0 rfl ?_
  refine jr_get hE dX12_begin_9 f208 M0.ob rfl ?_
  refine jr_iload_n hE dX12_begin_12 1 rfl ?_
  refine jr_iald (v := nI (tAt (i))) hE dX12_begin_13 (M0.I (k := 50) (N := 9) (by decide)) (vp_in_nI (by omega) (by decide)) (by rw [nI_clamp (by omega)]; exact htg.1 i (by omega)) ?_
  refine jr_isub (z := nI (tAt (i + 1) - tAt i)) hE dX12_begin_14 (pk_sub hle.1) ?_
  refine jr_istore_n (lv' := [(2, .int (nI (tAt (i + 1) - tAt i))), (0, .ref o), (1, .int (nI i))]) hE dX12_begin_15 (by decide) rfl ?_
  refine jr_iconst (v := (0 : Int32)) hE dX12_begin_16 (by decide) ?_
  refine jr_istore_n (lv' := [(3, .int (0 : Int32)), (2, .int (nI (tAt (i + 1) - tAt i))), (0, .ref o), (1, .int (nI i))]) hE dX12_begin_17 (by decide) rfl ?_
  refine jr_lv (lv' := [(3, .int (0 : Int32)), (2, .int (nI (tAt (i + 1) - tAt i))), (0, .ref o), (1, .int (nI i))]) [0, 1, 2, 3] rfl ?_
  exact loopA (tAt (i + 1) - tAt i) 0 F (w 59) (by omega) (by rw [uz_id]; exact M0) (fun j hj => absurd hj (Nat.not_lt_zero j)) (mO.rf o a F)

set_option maxHeartbeats 4000000 in
set_option maxRecDepth 100000 in
theorem c_m_gives (l : Launch) (G : Nat → ClassId) (o : Nat) (a : Nat → Nat) (v : Nat → Int32) (n : Nat → Option Nat) (g : Nat → Nat → Int64) (w : Nat → Nat → Int32) (r m : Nat) : jKi l yX12_gives wsX12_gives ({ frames := 0, cells := 0, slots := 0, locals := 0 }) G [.ref o, .int (nI r), .int (nI m)] (fun L F => MW G L F o a v n g w ∧ r < 16 ∧ m ≤ 66) (fun L F q F1 => ∃ w', MW G L F1 o a v n g w' ∧ w' 9 = wrt (w 9) (100 * r) (bl (w 61) 0 m) ∧ w' 8 = upd (w 8) r (nI m) ∧ (∀ z, z ≠ 8 → z ≠ 9 → w' z = w z) ∧ q = nI m ∧ mO o a F F1) := by
  refine jm_ki (cc := cX12_gives) (maxL := 4) (rt := .int) (by decide) rfl (Nat.le_of_ble_eq_true rfl) ?_
  intro E L F hE hR hpre
  have hE : jOk E G _ cX12_gives 4 RX12 wsX12_gives := hE

  have f96 : jFl RX12 wsX12_gives 96 12 8 := ⟨rfl, by decide, by decide +kernel, by decide +kernel⟩
  have f100 : jFl RX12 wsX12_gives 100 12 9 := ⟨rfl, by decide, by decide +kernel, by decide +kernel⟩
  have f302 : jFl RX12 wsX12_gives 302 12 61 := ⟨rfl, by decide, by decide +kernel, by decide +kernel⟩
  obtain ⟨M0, hr, hm⟩ := hpre
  have loop : ∀ (r0 k : Nat) (F2 : Nat → va_E) (f : Nat → Int32), k + r0 = m → MW G L F2 o a v n g (uz w 9 f) → f = wrt (w 9) (100 * r) (bl (w 61) 0 k) → mO o a F F2 → J E L F2 0 0 2 [(3, .int (nI k)), (0, .ref o), (1, .int (nI r)), (2, .int (nI m))] [] := by
    intro r0
    induction r0 with
    | zero =>
      intro k F2 f hk H hf O
      refine jr_iload_n hE dX12_gives_2 0 rfl ?_
      refine jr_iload_n hE dX12_gives_3 3 rfl ?_
      refine jr_icmp_ge (tgt := 30) hE dX12_gives_4 (by decide) (fun c_4 => ?_) (fun c_4 => absurd (nI_le (by omega) (by omega)) c_4)
      refine jr_aload_n hE dX12_gives_30 1 rfl ?_
      refine jr_get hE dX12_gives_31 f96 H.ob rfl ?_
      refine jr_iload_n hE dX12_gives_34 2 rfl ?_
      refine jr_iload_n hE dX12_gives_35 3 rfl ?_
      refine jr_iast hE dX12_gives_36 (H.I (k := 8) (N := 16) (by decide)) (vp_in_nI (by omega) (by decide)) (fun F1 g2 u3 => ?_)
      have H4 := H.setI (k := 8) (N := 16) (by decide) g2 u3
      have O5 := O.st (k := 8) (by decide) (by decide) u3
      refine jr_iload_n hE dX12_gives_37 3 rfl ?_
      rw [show k = m by omega] at hf
      exact hR F1 _ _ _ dX12_gives_38 rfl ⟨_, H4, by rw [uz_n _ _ (show (9 : Nat) ≠ 8 by decide), uz_s]; exact hf, by rw [uz_s, nI_clamp (by omega)]; rfl, fun z h1 h2 => by rw [uz_n _ _ h1, uz_n _ _ h2], rfl, O5⟩
    | succ r0 ih =>
      intro k F2 f hk H hf O
      refine jr_iload_n hE dX12_gives_2 0 rfl ?_
      refine jr_iload_n hE dX12_gives_3 3 rfl ?_
      refine jr_icmp_ge (tgt := 30) hE dX12_gives_4 (by decide) (fun c_4 => absurd c_4 (nI_ge (by omega) (by omega))) (fun c_4 => ?_)
      refine jr_aload_n hE dX12_gives_7 1 rfl ?_
      refine jr_get hE dX12_gives_8 f100 H.ob rfl ?_
      refine jr_bipush (v := (100 : Int32)) hE dX12_gives_11 (by decide) ?_
      refine jr_iload_n hE dX12_gives_13 2 rfl ?_
      refine jr_imul (z := nI (100 * r)) hE dX12_gives_14 (pk_mul 100 r) ?_
      refine jr_iload_n hE dX12_gives_15 0 rfl ?_
      refine jr_iadd (z := nI (100 * r + k)) hE dX12_gives_16 (nI_add _ _) ?_
      refine jr_aload_n hE dX12_gives_17 1 rfl ?_
      refine jr_get hE dX12_gives_18 f302 H.ob rfl ?_
      refine jr_iload_n hE dX12_gives_21 0 rfl ?_
      refine jr_iald (v := nI (bt (w 61) (0 + k))) hE dX12_gives_22 (H.I (k := 61) (N := 66) (by decide)) (vp_in_nI (by omega) (by decide)) (by rw [nI_clamp (by omega), Nat.zero_add]; exact bt_nI _ _) ?_
      refine jr_iast hE dX12_gives_23 (H.I (k := 9) (N := 1600) (by decide)) (vp_in_nI (by omega) (by decide)) (fun F1 g2 u3 => ?_)
      have H4 := H.setI (k := 9) (N := 1600) (by decide) g2 u3
      have O5 := O.st (k := 9) (by decide) (by decide) u3
      rw [uz_uz, uz_s] at H4
      refine jr_iinc (v := nI (k + 1)) (lv' := [(3, .int (nI (k + 1))), (0, .ref o), (1, .int (nI r)), (2, .int (nI m))]) hE dX12_gives_24 0 rfl (nI_1 _) (by decide) rfl ?_
      refine jr_goto (tgt := 2) hE dX12_gives_27 (by decide) ?_
      refine jr_lv (lv' := [(3, .int (nI (k + 1))), (0, .ref o), (1, .int (nI r)), (2, .int (nI m))]) [0, 1, 2, 3] rfl ?_
      exact ih (k + 1) F1 _ (by omega) H4 (by rw [wrt_snoc hf (bl_len _ _ _) rfl (by omega), bl_s]) O5
  refine jr_iconst (v := (0 : Int32)) hE dX12_gives_0 (by decide) ?_
  refine jr_istore_n (lv' := [(3, .int (0 : Int32)), (0, .ref o), (1, .int (nI r)), (2, .int (nI m))]) hE dX12_gives_1 (by decide) rfl ?_
  refine jr_lv (lv' := [(3, .int (0 : Int32)), (0, .ref o), (1, .int (nI r)), (2, .int (nI m))]) [0, 1, 2, 3] rfl ?_
  exact loop m 0 F (w 9) (by omega) (by rw [uz_id]; exact M0) (by rw [show bl (w 61) 0 0 = [] from rfl, wrt_nil]) (mO.rf o a F)

