/-! THE REFERENCE'S isNonceTold, share, forget, makeNonce -/
/-- a number modulo N, or its negative -/
def ngN (q : Bool) (x : Nat) : Nat := if q = true ∧ x ≠ 0 then NN - x else x

set_option maxHeartbeats 4000000 in
set_option maxRecDepth 100000 in
theorem c_m_isNonceTold (l : Launch) (G : Nat → ClassId) (o : Nat) (a : Nat → Nat) (v : Nat → Int32) (n : Nat → Option Nat) (g : Nat → Nat → Int64) (w : Nat → Nat → Int32) (j : Nat) (hn : Bool) : jKi l yX12_isNonceTold wsX12_isNonceTold ({ frames := 0, cells := 0, slots := 0, locals := 0 }) G [.ref o, .int (nI j)] (fun L F => MW G L F o a v n g w ∧ j < 4 ∧ w 18 j = bi hn) (fun L F r F1 => F = F1 ∧ r = b2i (hn = true ∧ bl (w 21) (66 * j) 66 = bl (w 23) (66 * j) 66)) := by
  refine jm_ki (cc := cX12_isNonceTold) (maxL := 4) (rt := .boolean) (by decide) rfl (Nat.le_of_ble_eq_true rfl) ?_
  intro E L F hE hR hpre
  have hE : jOk E G _ cX12_isNonceTold 4 RX12 wsX12_isNonceTold := hE

  have f121 : jFl RX12 wsX12_isNonceTold 121 12 18 := ⟨rfl, by decide, by decide +kernel, by decide +kernel⟩
  have f131 : jFl RX12 wsX12_isNonceTold 131 12 21 := ⟨rfl, by decide, by decide +kernel, by decide +kernel⟩
  have f137 : jFl RX12 wsX12_isNonceTold 137 12 23 := ⟨rfl, by decide, by decide +kernel, by decide +kernel⟩
  obtain ⟨M0, hj, hb0⟩ := hpre
  have loop : ∀ (r0 k : Nat) (b : Int32), k + r0 = 66 → b = b2i (hn = true ∧ ∀ t, t < k → w 21 (66 * j + t) = w 23 (66 * j + t)) → J E L F 0 0 9 [(3, .int (nI k)), (2, .int b), (0, .ref o), (1, .int (nI j))] [] := by
    intro r0
    induction r0 with
    | zero =>
      intro k b hk hb
      refine jr_iload_n hE dX12_isNonceTold_9 0 rfl ?_
      refine jr_bipush (v := (66 : Int32)) hE dX12_isNonceTold_10 (by decide) ?_
      refine jr_icmp_ge (tgt := 56) hE dX12_isNonceTold_12 (by decide) (fun c_12 => ?_) (fun c_12 => absurd (nI_le (a := 66) (by omega) (by omega)) c_12)
      refine jr_iload_n hE dX12_isNonceTold_56 1 rfl ?_
      exact hR F b _ _ dX12_isNonceTold_57 (by rw [hb]; exact b2i_z _) ⟨rfl, by
        rw [hb, show k = 66 by omega]
        by_cases q : hn = true ∧ ∀ t, t < 66 → w 21 (66 * j + t) = w 23 (66 * j + t)
        · rw [b2i_t q, b2i_t ⟨q.1, bl_eq2.mp q.2⟩]
        · rw [b2i_f q, b2i_f (fun e => q ⟨e.1, bl_eq2.mpr e.2⟩)]⟩
    | succ r0 ih =>
      intro k b hk hb
      refine jr_iload_n hE dX12_isNonceTold_9 0 rfl ?_
      refine jr_bipush (v := (66 : Int32)) hE dX12_isNonceTold_10 (by decide) ?_
      refine jr_icmp_ge (tgt := 56) hE dX12_isNonceTold_12 (by decide) (fun c_12 => absurd c_12 (nI_ge (b := 66) (by omega) (by omega))) (fun c_12 => ?_)
      refine jr_iload_n hE dX12_isNonceTold_15 1 rfl ?_
      refine jr_if_eq (tgt := 48) hE dX12_isNonceTold_16 (by decide) (fun c16 => ?_) (fun c16 => ?_)
      · refine jr_iconst (v := (0 : Int32)) hE dX12_isNonceTold_48 (by decide) ?_
        refine jr_istore_n (lv' := [(2, .int (0 : Int32)), (3, .int (nI k)), (0, .ref o), (1, .int (nI j))]) hE dX12_isNonceTold_49 (by decide) rfl ?_
        refine jr_iinc (v := nI (k + 1)) (lv' := [(3, .int (nI (k + 1))), (2, .int (0 : Int32)), (0, .ref o), (1, .int (nI j))]) hE dX12_isNonceTold_50 1 rfl (nI_1 _) (by decide) rfl ?_
        refine jr_goto (tgt := 9) hE dX12_isNonceTold_53 (by decide) ?_
        refine jr_lv (lv' := [(3, .int (nI (k + 1))), (2, .int (0 : Int32)), (0, .ref o), (1, .int (nI j))]) [0, 1, 2, 3] rfl ?_
        exact ih (k + 1) 0 (by omega) ((b2i_f (fun q => by
          rw [b2i_t ⟨q.1, fun k hk => q.2 k (by omega)⟩] at hb
          rw [hb] at c16
          exact absurd c16 (by decide))).symm)
      · refine jr_aload_n hE dX12_isNonceTold_19 2 rfl ?_
        refine jr_get hE dX12_isNonceTold_20 f131 M0.ob rfl ?_
        refine jr_bipush (v := (66 : Int32)) hE dX12_isNonceTold_23 (by decide) ?_
        refine jr_iload_n hE dX12_isNonceTold_25 3 rfl ?_
        refine jr_imul (z := nI (66 * j)) hE dX12_isNonceTold_26 (pk_mul 66 j) ?_
        refine jr_iload_n hE dX12_isNonceTold_27 0 rfl ?_
        refine jr_iadd (z := nI (66 * j + k)) hE dX12_isNonceTold_28 (nI_add _ _) ?_
        refine jr_iald (v := w 21 (66 * j + k)) hE dX12_isNonceTold_29 (M0.I (k := 21) (N := 264) (by decide)) (vp_in_nI (by omega) (by decide)) (by rw [nI_clamp (by omega)]) ?_
        refine jr_aload_n hE dX12_isNonceTold_30 2 rfl ?_
        refine jr_get hE dX12_isNonceTold_31 f137 M0.ob rfl ?_
        refine jr_bipush (v := (66 : Int32)) hE dX12_isNonceTold_34 (by decide) ?_
        refine jr_iload_n hE dX12_isNonceTold_36 3 rfl ?_
        refine jr_imul (z := nI (66 * j)) hE dX12_isNonceTold_37 (pk_mul 66 j) ?_
        refine jr_iload_n hE dX12_isNonceTold_38 0 rfl ?_
        refine jr_iadd (z := nI (66 * j + k)) hE dX12_isNonceTold_39 (nI_add _ _) ?_
        refine jr_iald (v := w 23 (66 * j + k)) hE dX12_isNonceTold_40 (M0.I (k := 23) (N := 264) (by decide)) (vp_in_nI (by omega) (by decide)) (by rw [nI_clamp (by omega)]) ?_
        refine jr_icmp_ne (tgt := 48) hE dX12_isNonceTold_41 (by decide) (fun c41 => ?_) (fun c41 => ?_)
        · refine jr_iconst (v := (0 : Int32)) hE dX12_isNonceTold_48 (by decide) ?_
          refine jr_istore_n (lv' := [(2, .int (0 : Int32)), (3, .int (nI k)), (0, .ref o), (1, .int (nI j))]) hE dX12_isNonceTold_49 (by decide) rfl ?_
          refine jr_iinc (v := nI (k + 1)) (lv' := [(3, .int (nI (k + 1))), (2, .int (0 : Int32)), (0, .ref o), (1, .int (nI j))]) hE dX12_isNonceTold_50 1 rfl (nI_1 _) (by decide) rfl ?_
          refine jr_goto (tgt := 9) hE dX12_isNonceTold_53 (by decide) ?_
          refine jr_lv (lv' := [(3, .int (nI (k + 1))), (2, .int (0 : Int32)), (0, .ref o), (1, .int (nI j))]) [0, 1, 2, 3] rfl ?_
          exact ih (k + 1) 0 (by omega) ((b2i_f (fun q => c41 (q.2 k (Nat.lt_succ_self k)))).symm)
        · refine jr_iconst (v := (1 : Int32)) hE dX12_isNonceTold_44 (by decide) ?_
          refine jr_goto (tgt := 49) hE dX12_isNonceTold_45 (by decide) ?_
          refine jr_istore_n (lv' := [(2, .int (1 : Int32)), (3, .int (nI k)), (0, .ref o), (1, .int (nI j))]) hE dX12_isNonceTold_49 (by decide) rfl ?_
          refine jr_iinc (v := nI (k + 1)) (lv' := [(3, .int (nI (k + 1))), (2, .int (1 : Int32)), (0, .ref o), (1, .int (nI j))]) hE dX12_isNonceTold_50 1 rfl (nI_1 _) (by decide) rfl ?_
          refine jr_goto (tgt := 9) hE dX12_isNonceTold_53 (by decide) ?_
          refine jr_lv (lv' := [(3, .int (nI (k + 1))), (2, .int (1 : Int32)), (0, .ref o), (1, .int (nI j))]) [0, 1, 2, 3] rfl ?_
          exact ih (k + 1) 1 (by omega) ((b2i_t (by
            have hp := b2i_1 (p := hn = true ∧ ∀ t, t < k → w 21 (66 * j + t) = w 23 (66 * j + t)) (by rw [← hb]; exact c16)
            exact ⟨hp.1, fun t ht => by
              rcases Nat.lt_or_ge t k with q | q
              · exact hp.2 t q
              · rw [show t = k by omega]
                exact c41⟩)).symm)
  refine jr_aload_n hE dX12_isNonceTold_0 0 rfl ?_
  refine jr_get hE dX12_isNonceTold_1 f121 M0.ob rfl ?_
  refine jr_iload_n hE dX12_isNonceTold_4 1 rfl ?_
  refine jr_zald (v := (bi hn)) hE dX12_isNonceTold_5 (M0.Z (k := 18) (N := 4) (by decide)) (vp_in_nI (by omega) (by decide)) (by rw [nI_clamp (by omega)]; exact hb0) ?_
  refine jr_istore_n (lv' := [(2, .int (bi hn)), (0, .ref o), (1, .int (nI j))]) hE dX12_isNonceTold_6 (by decide) rfl ?_
  refine jr_iconst (v := (0 : Int32)) hE dX12_isNonceTold_7 (by decide) ?_
  refine jr_istore_n (lv' := [(3, .int (0 : Int32)), (2, .int (bi hn)), (0, .ref o), (1, .int (nI j))]) hE dX12_isNonceTold_8 (by decide) rfl ?_
  refine jr_lv (lv' := [(3, .int (0 : Int32)), (2, .int (bi hn)), (0, .ref o), (1, .int (nI j))]) [0, 1, 2, 3] rfl ?_
  exact loop 66 0 (bi hn) rfl (by
    cases hn
    · exact (b2i_f (fun e => by cases e.1)).symm
    · exact (b2i_t ⟨rfl, fun k hk => absurd hk (Nat.not_lt_zero k)⟩).symm)

set_option maxHeartbeats 4000000 in
set_option maxRecDepth 100000 in
theorem c_m_share (l : Launch) (G : Nat → ClassId) (o : Nat) (a : Nat → Nat) (v : Nat → Int32) (n : Nat → Option Nat) (g : Nat → Nat → Int64) (w : Nat → Nat → Int32) (j sg e : Nat) (q : Bool) : jKv l yX12_share wsX12_share ({ frames := 6, cells := 0, slots := 0, locals := 142 }) G [.ref o, .ref (a 66), .int (nI j)] (fun L F => MW G L F o a v n g w ∧ mK n g ∧ tgOK w ∧ rdOK w ∧ v 16 = nI sg ∧ j < sg ∧ sg ≤ 4 ∧ bB (w 17) 0 (33 * sg) ∧ n 27 = some e ∧ v 30 = bi q) (fun L F F1 => ∃ n' v' w', MW G L F1 o a v' n' g w' ∧ (∀ k, k ∉ [66, 76] → n' k = n k) ∧ n' 66 = some (ngN q (e * wK (w 17) sg j % NN)) ∧ (∀ k, k ≠ 57 → v' k = v k) ∧ (∀ z, nin7 z → w' z = w z) ∧ mO o a F F1) := by
  refine jm_kv (cc := cX12_share) (maxL := 3) (by decide) rfl (Nat.le_of_ble_eq_true rfl) ?_
  intro E L F hE hR hpre
  have hE : jOk E G _ cX12_share 3 RX12 wsX12_share := hE
  obtain ⟨M0, hK, htg, hrd, hsg, hj, hs4, hB, he, hq⟩ := hpre
  have f347 : jFl RX12 wsX12_share 347 12 76 := ⟨rfl, by decide, by decide +kernel, by decide +kernel⟩
  have f146 : jFl RX12 wsX12_share 146 12 27 := ⟨rfl, by decide, by decide +kernel, by decide +kernel⟩
  have f578 : jFl RX12 wsX12_share 578 12 30 := ⟨rfl, by decide, by decide +kernel, by decide +kernel⟩
  have f27 : jFl RX12 wsX12_share 27 12 1 := ⟨rfl, by decide, by decide +kernel, by decide +kernel⟩
  refine jr_aload_n hE dX12_share_0 0 rfl ?_
  refine jr_aload_n hE dX12_share_1 0 rfl ?_
  refine jr_get hE dX12_share_2 f347 M0.ob rfl ?_
  refine jr_iload_n hE dX12_share_5 2 rfl ?_
  refine jr_kVv (ci := 12) (n := 2) (As := [.ref (a 76), .int (nI j)]) (rest := []) hE dX12_share_6 (fun l => c_m_weigh l G o a v n g w 76 j sg) gX12_share_X12_weigh rfl M0.ob rfl (by decide +kernel) ⟨rfl, rfl, by decide, by decide⟩ (by decide) rfl rfl (Nat.le_of_ble_eq_true rfl) (⟨M0, hK, htg, hrd, by decide, hsg, hj, hs4, hB⟩) (fun F1 q2 => ?_)
  obtain ⟨v1, w1, M1, hv1, hw1, O1⟩ := q2
  obtain ⟨n1, hn1⟩ : ∃ n1, n1 = uz n 76 (some (wK (w 17) sg j)) := ⟨_, rfl⟩
  have M1 : MW G L F1 o a v1 n1 g w1 := by rw [hn1]; exact M1
  have hf1 : ∀ k, k ∉ [76] → n1 k = n k := fun k hk => by rw [hn1, uz_n _ _ (jne hk 0 rfl)]
  have h76 : n1 76 = some (wK (w 17) sg j) := by rw [hn1, uz_s]
  have hq1 : v1 30 = bi q := (hv1 30 (by decide)).trans hq
  refine jr_aload_n hE dX12_share_9 0 rfl ?_
  refine jr_aload_n hE dX12_share_10 1 rfl ?_
  refine jr_aload_n hE dX12_share_11 0 rfl ?_
  refine jr_get hE dX12_share_12 f146 M1.ob rfl ?_
  refine jr_aload_n hE dX12_share_15 0 rfl ?_
  refine jr_get hE dX12_share_16 f347 M1.ob rfl ?_
  refine jr_iconst (v := (1 : Int32)) hE dX12_share_19 (by decide) ?_
  refine jr_kVv (ci := 12) (n := 4) (As := [.ref (a 66), .ref (a 27), .ref (a 76), .int (1 : Int32)]) (rest := []) hE dX12_share_20 (fun l => c_m_times l G o a v1 n1 g w1 66 27 76 e (wK (w 17) sg j) true) gX12_share_X12_times rfl M1.ob rfl (by decide +kernel) ⟨rfl, rfl, by decide, by decide⟩ (by decide) rfl rfl (Nat.le_of_ble_eq_true rfl) (⟨M1, hK.fr (hf1 0 (by decide)) (hf1 1 (by decide)) (hf1 32 (by decide)) (hf1 33 (by decide)), by decide, by decide, by decide, (hf1 27 (by decide)).trans he, h76⟩) (fun F3 q4 => ?_)
  obtain ⟨M2, O2'⟩ := q4
  have O2 := O1.tr O2'
  obtain ⟨n2, hn2⟩ : ∃ n2, n2 = uz n1 66 (some (e * wK (w 17) sg j % NN)) := ⟨_, rfl⟩
  have M2 : MW G L F3 o a v1 n2 g w1 := by rw [hn2]; exact M2
  have hf2 : ∀ k, k ∉ [66, 76] → n2 k = n k := fun k hk => by rw [hn2, uz_n _ _ (jne hk 0 rfl)]; exact hf1 k (jnsub (V := [76]) hk [1] rfl)
  have h66 : n2 66 = some (e * wK (w 17) sg j % NN) := by rw [hn2, uz_s]
  refine jr_aload_n hE dX12_share_23 0 rfl ?_
  refine jr_get hE dX12_share_24 f578 M2.ob rfl ?_
  rw [hq1]
  refine jr_if_eq (tgt := 46) hE dX12_share_27 (by decide) (fun c27 => ?_) (fun c27 => ?_)
  · have hqf := bi_0 c27
    exact hR F3 _ _ dX12_share_46 ⟨n2, v1, w1, M2, hf2, by rw [h66, hqf]; rfl, hv1, hw1, O2⟩
  · refine jr_aload_n hE dX12_share_30 1 rfl ?_
    have hqt := bi_1 c27
    refine jr_kSi (n := 1) (As := [.ref (a 66)]) (rest := []) hE dX12_share_31 (fun l => c_m_isNull l G o a v1 n2 g w1 66 (e * wK (w 17) sg j % NN)) gX12_share_X12_isNull rfl (by decide +kernel) ⟨rfl, rfl, by decide, by decide⟩ (by decide) rfl rfl (Nat.le_of_ble_eq_true rfl) (⟨M2, by decide, h66⟩) (fun r7 F5 q6 => ?_)
    obtain ⟨e9, r9⟩ := q6
    subst e9 r9
    refine jr_if_ne (tgt := 46) hE dX12_share_34 (by decide) (fun c34 => ?_) (fun c34 => ?_)
    · have hx0 := b2i_1 c34
      exact hR F3 _ _ dX12_share_46 ⟨n2, v1, w1, M2, hf2, by
        rw [h66]
        unfold ngN
        rw [if_neg (fun q0 => q0.2 hx0)], hv1, hw1, O2⟩
    · refine jr_aload_n hE dX12_share_37 1 rfl ?_
      refine jr_aload_n hE dX12_share_38 0 rfl ?_
      refine jr_get hE dX12_share_39 f27 M2.ob rfl ?_
      refine jr_aload_n hE dX12_share_42 1 rfl ?_
      have hx0 : (e * wK (w 17) sg j % NN) ≠ 0 := fun q0 => by
        rw [b2i_t q0] at c34
        exact absurd c34 (by decide)
      refine jr_kSv (n := 3) (As := [.ref (a 66), .ref (a 1), .ref (a 66)]) (rest := []) hE dX12_share_43 (fun l => c_m_take l G o a v1 n2 g w1 66 1 66 NN (e * wK (w 17) sg j % NN)) gX12_share_X12_take rfl (by decide +kernel) ⟨rfl, rfl, by decide, by decide⟩ (by decide) rfl rfl (Nat.le_of_ble_eq_true rfl) (⟨M2, by decide, by decide, by decide, (hf2 1 (by decide)).trans hK.2.1, h66⟩) (fun F8 q9 => ?_)
      obtain ⟨M3, O3⟩ := q9
      rw [neg_tk hx0 (Nat.mod_lt _ NN0) NN_256] at M3
      exact hR F8 _ _ dX12_share_46 ⟨_, v1, w1, M3, fun k hk => (uz_n _ _ (jne hk 0 rfl)).trans (hf2 k hk), by
        rw [uz_s]
        unfold ngN
        rw [if_pos ⟨hqt, hx0⟩], hv1, hw1, O2.tr O3⟩

theorem nar0 : vp_nar .boolean 0 = 0 := by decide
theorem nar1 : vp_nar .boolean 1 = 1 := by decide
theorem uz_cm {α : Type} (s : Nat → α) {k j : Nat} (f h : α) (e : k ≠ j) : uz (uz s k f) j h = uz (uz s j h) k f := by
  funext t
  unfold uz
  by_cases q : t = j
  · rw [if_pos q, if_neg (fun e2 => e (e2.symm.trans q)), if_pos q]
  · rw [if_neg q]
    by_cases q2 : t = k
    · rw [if_pos q2, if_pos q2]
    · rw [if_neg q2, if_neg q2, if_neg q]

set_option maxHeartbeats 4000000 in
set_option maxRecDepth 100000 in
theorem c_m_forget (l : Launch) (G : Nat → ClassId) (o : Nat) (a : Nat → Nat) (v : Nat → Int32) (n : Nat → Option Nat) (g : Nat → Nat → Int64) (w : Nat → Nat → Int32) (q : Bool) : jKv l yX12_forget wsX12_forget ({ frames := 0, cells := 0, slots := 0, locals := 0 }) G [.ref o, .int (bi q)] (fun L F => MW G L F o a v n g w) (fun L F F1 => ∃ v' w', MW G L F1 o a v' n g w' ∧ v' 24 = 0 ∧ v' 16 = (if q = true then 0 else v 16) ∧ (∀ k, k ≠ 16 → k ≠ 24 → v' k = v k) ∧ (∀ t, t < 4 → w' 18 t = 0 ∧ w' 22 t = 0) ∧ (∀ z, z ≠ 18 → z ≠ 22 → w' z = w z) ∧ mO o a F F1) := by
  refine jm_kv (cc := cX12_forget) (maxL := 3) (by decide) rfl (Nat.le_of_ble_eq_true rfl) ?_
  intro E L F hE hR hpre
  have hE : jOk E G _ cX12_forget 3 RX12 wsX12_forget := hE

  have f529 : jFl RX12 wsX12_forget 529 12 24 := ⟨rfl, by decide, by decide +kernel, by decide +kernel⟩
  have f533 : jFl RX12 wsX12_forget 533 12 16 := ⟨rfl, by decide, by decide +kernel, by decide +kernel⟩
  have f121 : jFl RX12 wsX12_forget 121 12 18 := ⟨rfl, by decide, by decide +kernel, by decide +kernel⟩
  have f134 : jFl RX12 wsX12_forget 134 12 22 := ⟨rfl, by decide, by decide +kernel, by decide +kernel⟩
  have M0 := hpre
  have loop : ∀ (r0 k : Nat) (F2 : Nat → va_E) (f h : Nat → Int32), k + r0 = 4 → MW G L F2 o a v n g (uz (uz w 18 f) 22 h) → (∀ t, t < k → f t = 0 ∧ h t = 0) → mO o a F F2 → J E L F2 0 0 2 [(2, .int (nI k)), (0, .ref o), (1, .int (bi q))] [] := by
    intro r0
    induction r0 with
    | zero =>
      intro k F2 f h hk H hf O
      refine jr_iload_n hE dX12_forget_2 0 rfl ?_
      refine jr_iconst (v := (4 : Int32)) hE dX12_forget_3 (by decide) ?_
      refine jr_icmp_ge (tgt := 27) hE dX12_forget_4 (by decide) (fun c_4 => ?_) (fun c_4 => absurd (nI_le (a := 4) (by omega) (by omega)) c_4)
      refine jr_aload_n hE dX12_forget_27 1 rfl ?_
      refine jr_iconst (v := (0 : Int32)) hE dX12_forget_28 (by decide) ?_
      refine jr_put (ty := .boolean) hE dX12_forget_29 f529 H.ob rfl (by decide +kernel) rfl rfl (Nat.le_of_ble_eq_true rfl) (fun F1 g2 u3 => ?_)
      have H4 := H.setV (v' := uz v 24 (0 : Int32)) g2 u3
      have O5 := O.so u3
      refine jr_aload_n hE dX12_forget_32 1 rfl ?_
      refine jr_iload_n hE dX12_forget_33 2 rfl ?_
      refine jr_if_eq (tgt := 41) hE dX12_forget_34 (by decide) (fun c34 => ?_) (fun c34 => ?_)
      · refine jr_aload_n hE dX12_forget_41 1 rfl ?_
        refine jr_get hE dX12_forget_42 f533 H4.ob rfl ?_
        refine jr_put (ty := .int) hE dX12_forget_45 f533 H4.ob rfl (by decide +kernel) rfl rfl (Nat.le_of_ble_eq_true rfl) (fun F6 g7 u8 => ?_)
        have H9 := H4.setV (v' := uz (uz v 24 (0 : Int32)) 16 ((uz v 24 (0 : Int32)) 16)) g7 u8
        have O10 := O5.so u8
        exact hR F6 _ _ dX12_forget_48 ⟨_, _, H9, uz_n _ _ (by decide), by rw [uz_s, bi_0 c34]; rfl, fun t h1 h2 => (uz_n _ _ h1).trans (uz_n _ _ h2), fun t ht => hf t (by omega), fun z h1 h2 => (uz_n _ _ h2).trans (uz_n _ _ h1), O10⟩
      · refine jr_iconst (v := (0 : Int32)) hE dX12_forget_37 (by decide) ?_
        refine jr_goto (tgt := 45) hE dX12_forget_38 (by decide) ?_
        refine jr_put (ty := .int) hE dX12_forget_45 f533 H4.ob rfl (by decide +kernel) rfl rfl (Nat.le_of_ble_eq_true rfl) (fun F11 g12 u13 => ?_)
        have H14 := H4.setV (v' := uz (uz v 24 (0 : Int32)) 16 (0 : Int32)) g12 u13
        have O15 := O5.so u13
        exact hR F11 _ _ dX12_forget_48 ⟨_, _, H14, uz_n _ _ (by decide), by rw [uz_s, bi_1 c34]; rfl, fun t h1 h2 => (uz_n _ _ h1).trans (uz_n _ _ h2), fun t ht => hf t (by omega), fun z h1 h2 => (uz_n _ _ h2).trans (uz_n _ _ h1), O15⟩
    | succ r0 ih =>
      intro k F2 f h hk H hf O
      refine jr_iload_n hE dX12_forget_2 0 rfl ?_
      refine jr_iconst (v := (4 : Int32)) hE dX12_forget_3 (by decide) ?_
      refine jr_icmp_ge (tgt := 27) hE dX12_forget_4 (by decide) (fun c_4 => absurd c_4 (nI_ge (b := 4) (by omega) (by omega))) (fun c_4 => ?_)
      refine jr_aload_n hE dX12_forget_7 1 rfl ?_
      refine jr_get hE dX12_forget_8 f121 H.ob rfl ?_
      refine jr_iload_n hE dX12_forget_11 0 rfl ?_
      refine jr_iconst (v := (0 : Int32)) hE dX12_forget_12 (by decide) ?_
      refine jr_zast hE dX12_forget_13 (H.Z (k := 18) (N := 4) (by decide)) (vp_in_nI (by omega) (by decide)) (fun F1 g2 u3 => ?_)
      have H4 := H.setZ (k := 18) (N := 4) (by decide) g2 u3
      have O5 := O.st (k := 18) (by decide) (by decide) u3
      rw [uz_cm (uz w 18 f) (k := 22) (j := 18) h _ (by decide), uz_uz, nar0] at H4
      have H4 : MW G L F1 o a v n g (uz (uz w 18 (upd f (nI k).toNatClampNeg 0)) 22 h) := H4
      refine jr_aload_n hE dX12_forget_14 1 rfl ?_
      refine jr_get hE dX12_forget_15 f134 H4.ob rfl ?_
      refine jr_iload_n hE dX12_forget_18 0 rfl ?_
      refine jr_iconst (v := (0 : Int32)) hE dX12_forget_19 (by decide) ?_
      refine jr_zast hE dX12_forget_20 (H4.Z (k := 22) (N := 4) (by decide)) (vp_in_nI (by omega) (by decide)) (fun F6 g7 u8 => ?_)
      have H9 := H4.setZ (k := 22) (N := 4) (by decide) g7 u8
      have O10 := O5.st (k := 22) (by decide) (by decide) u8
      rw [uz_uz, uz_s, nar0] at H9
      refine jr_iinc (v := nI (k + 1)) (lv' := [(2, .int (nI (k + 1))), (0, .ref o), (1, .int (bi q))]) hE dX12_forget_21 0 rfl (nI_1 _) (by decide) rfl ?_
      refine jr_goto (tgt := 2) hE dX12_forget_24 (by decide) ?_
      refine jr_lv (lv' := [(2, .int (nI (k + 1))), (0, .ref o), (1, .int (bi q))]) [0, 1, 2] rfl ?_
      exact ih (k + 1) F6 _ _ (by omega) H9 (fun t ht => by
        rw [nI_clamp (by omega)]
        show (if t = k then _ else f t) = _ ∧ (if t = k then _ else h t) = _
        by_cases e : t = k
        · rw [if_pos e, if_pos e]
          exact ⟨rfl, rfl⟩
        · rw [if_neg e, if_neg e]; exact hf t (by omega)) O10
  refine jr_iconst (v := (0 : Int32)) hE dX12_forget_0 (by decide) ?_
  refine jr_istore_n (lv' := [(2, .int (0 : Int32)), (0, .ref o), (1, .int (bi q))]) hE dX12_forget_1 (by decide) rfl ?_
  refine jr_lv (lv' := [(2, .int (0 : Int32)), (0, .ref o), (1, .int (bi q))]) [0, 1, 2] rfl ?_
  exact loop 4 0 F (w 18) (w 22) rfl (by rw [uz_id, uz_id]; exact M0) (fun k hk => absurd hk (Nat.not_lt_zero k)) (mO.rf o a F)

