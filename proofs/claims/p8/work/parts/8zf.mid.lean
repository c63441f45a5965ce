/-! THE REFERENCE'S isOf, mix, isNonceTold, share, forget, isSigner -/
theorem bl_eq2 {f h : Nat → Int32} {s t n : Nat} : (∀ k, k < n → f (s + k) = h (t + k)) ↔ bl f s n = bl h t n := by
  constructor
  · intro q
    unfold bl
    apply List.map_congr_left
    intro k hk
    unfold bt
    rw [q k (List.mem_range.mp hk)]
  · intro q k hk
    have h1 := bl_get f s n k hk
    rw [q, bl_get h t n k hk] at h1
    rw [bt_nI f (s + k), bt_nI h (t + k), h1]
theorem pbE_lt (A : EP) : ∀ b, b ∈ pbE A → b < 256 := by
  intro b hb
  cases A with
  | none => rw [List.eq_of_mem_replicate hb]; decide
  | some a =>
    rcases List.mem_cons.mp hb with q | q
    · rw [q]; split <;> decide
    · exact bex_lt _ _ b q
theorem xor32 {x y : Nat} (hx : x < 2 ^ 32) (hy : y < 2 ^ 32) : nI x ^^^ nI y = nI (x ^^^ y) := by
  apply Int32.toBitVec_inj.mp
  rw [Int32.toBitVec_xor]
  show BitVec.ofNat 32 x ^^^ BitVec.ofNat 32 y = BitVec.ofNat 32 (x ^^^ y)
  apply BitVec.eq_of_toNat_eq
  rw [BitVec.toNat_xor, BitVec.toNat_ofNat, BitVec.toNat_ofNat, BitVec.toNat_ofNat, Nat.mod_eq_of_lt hx, Nat.mod_eq_of_lt hy, Nat.mod_eq_of_lt (Nat.xor_lt_two_pow hx hy)]
/-- two rows of 32 bytes, bit by bit -/
def xorL (p q : List Nat) : List Nat := (List.range 32).map (fun i => p.getD i 0 ^^^ q.getD i 0)
theorem gd_lt {l : List Nat} (h : ∀ b, b ∈ l → b < 256) (i : Nat) : l.getD i 0 < 256 := by
  rw [List.getD_eq_getElem?_getD]
  by_cases q : i < l.length
  · rw [List.getElem?_eq_getElem q]; exact h _ (List.getElem_mem q)
  · rw [List.getElem?_eq_none (by omega)]; decide

set_option maxHeartbeats 4000000 in
set_option maxRecDepth 100000 in
theorem c_m_isOf (l : Launch) (G : Nat → ClassId) (o : Nat) (a : Nat → Nat) (v : Nat → Int32) (n : Nat → Option Nat) (g : Nat → Nat → Int64) (w : Nat → Nat → Int32) (j wk d : Nat) : jKi l yX12_isOf wsX12_isOf ({ frames := 7, cells := 0, slots := 0, locals := 172 }) G [.ref o, .int (nI j)] (fun L F => MW G L F o a v n g w ∧ mK n g ∧ mC n ∧ v 31 = nI wk ∧ n 62 = some d ∧ j < 4) (fun L F r F1 => ∃ n' v' w', MW G L F1 o a v' n' g w' ∧ (∀ k, k ∉ [34, 35, 36, 37, 38, 39, 40, 41, 42, 43, 44, 45, 46, 47] → n' k = n k) ∧ v' 31 = nI (wk + 1) ∧ (∀ k, k ≠ 31 → v' k = v k) ∧ (∀ z, z ≠ 79 → w' z = w z) ∧ bl (w' 79) 0 33 = pbE (emul PP d GE) ∧ r = b2i (pbE (emul PP d GE) = bl (w 17) (33 * j) 33) ∧ mO o a F F1) := by
  refine jm_ki (cc := cX12_isOf) (maxL := 4) (rt := .boolean) (by decide) rfl (Nat.le_of_ble_eq_true rfl) ?_
  intro E L F hE hR hpre
  have hE : jOk E G _ cX12_isOf 4 RX12 wsX12_isOf := hE

  have f478 : jFl RX12 wsX12_isOf 478 12 31 := ⟨rfl, by decide, by decide +kernel, by decide +kernel⟩
  have f305 : jFl RX12 wsX12_isOf 305 12 62 := ⟨rfl, by decide, by decide +kernel, by decide +kernel⟩
  have f353 : jFl RX12 wsX12_isOf 353 12 79 := ⟨rfl, by decide, by decide +kernel, by decide +kernel⟩
  have f118 : jFl RX12 wsX12_isOf 118 12 17 := ⟨rfl, by decide, by decide +kernel, by decide +kernel⟩
  obtain ⟨M0, hK, hC, hwk, hd, hj⟩ := hpre
  have loop : ∀ (F3 : Nat → va_E) (n2 : Nat → Option Nat) (w3 : Nat → Nat → Int32), MW G L F3 o a (uz v 31 (nI (wk + 1))) n2 g w3 → (∀ k, k ∉ [34, 35, 36, 37, 38, 39, 40, 41, 42, 43, 44, 45, 46, 47] → n2 k = n k) → bl (w3 79) 0 33 = pbE (emul PP d GE) → w3 17 = w 17 → (∀ z, z ≠ 79 → w3 z = w z) → mO o a F F3 → ∀ (r0 k : Nat) (b : Int32), k + r0 = 33 → b = b2i (∀ t, t < k → w3 79 (0 + t) = w3 17 (33 * j + t)) → J E L F3 0 0 35 [(3, .int (nI k)), (2, .int b), (0, .ref o), (1, .int (nI j))] [] := by
    intro F3 n2 w3 M3 hn2 h79 h17 hwo O3 r0
    induction r0 with
    | zero =>
      intro k b hk hb
      refine jr_iload_n hE dX12_isOf_35 0 rfl ?_
      refine jr_bipush (v := (33 : Int32)) hE dX12_isOf_36 (by decide) ?_
      refine jr_icmp_ge (tgt := 77) hE dX12_isOf_38 (by decide) (fun c_38 => ?_) (fun c_38 => absurd (nI_le (a := 33) (by omega) (by omega)) c_38)
      refine jr_iload_n hE dX12_isOf_77 1 rfl ?_
      exact hR F3 b _ _ dX12_isOf_78 (by rw [hb]; exact b2i_z _) ⟨n2, _, w3, M3, hn2, uz_s _ _ _, fun k hk => uz_n _ _ hk, hwo, h79, by
        rw [hb, show k = 33 by omega, ← h79, ← h17]
        by_cases q : ∀ k, k < 33 → w3 79 (0 + k) = w3 17 (33 * j + k)
        · rw [b2i_t q, b2i_t (bl_eq2.mp q)]
        · rw [b2i_f q, b2i_f (fun e => q (bl_eq2.mpr e))], O3⟩
    | succ r0 ih =>
      intro k b hk hb
      refine jr_iload_n hE dX12_isOf_35 0 rfl ?_
      refine jr_bipush (v := (33 : Int32)) hE dX12_isOf_36 (by decide) ?_
      refine jr_icmp_ge (tgt := 77) hE dX12_isOf_38 (by decide) (fun c_38 => absurd c_38 (nI_ge (b := 33) (by omega) (by omega))) (fun c_38 => ?_)
      refine jr_iload_n hE dX12_isOf_41 1 rfl ?_
      refine jr_if_eq (tgt := 69) hE dX12_isOf_42 (by decide) (fun c42 => ?_) (fun c42 => ?_)
      · refine jr_iconst (v := (0 : Int32)) hE dX12_isOf_69 (by decide) ?_
        refine jr_istore_n (lv' := [(2, .int (0 : Int32)), (3, .int (nI k)), (0, .ref o), (1, .int (nI j))]) hE dX12_isOf_70 (by decide) rfl ?_
        refine jr_iinc (v := nI (k + 1)) (lv' := [(3, .int (nI (k + 1))), (2, .int (0 : Int32)), (0, .ref o), (1, .int (nI j))]) hE dX12_isOf_71 1 rfl (nI_1 _) (by decide) rfl ?_
        refine jr_goto (tgt := 35) hE dX12_isOf_74 (by decide) ?_
        refine jr_lv (lv' := [(3, .int (nI (k + 1))), (2, .int (0 : Int32)), (0, .ref o), (1, .int (nI j))]) [0, 1, 2, 3] rfl ?_
        exact ih (k + 1) 0 (by omega) ((b2i_f (fun q => by
          rw [b2i_t (fun k hk => q k (by omega))] at hb
          rw [hb] at c42
          exact absurd c42 (by decide))).symm)
      · refine jr_aload_n hE dX12_isOf_45 2 rfl ?_
        refine jr_get hE dX12_isOf_46 f353 M3.ob rfl ?_
        refine jr_iload_n hE dX12_isOf_49 0 rfl ?_
        refine jr_iald (v := w3 79 (0 + k)) hE dX12_isOf_50 (M3.I (k := 79) (N := 33) (by decide)) (vp_in_nI (by omega) (by decide)) (by rw [nI_clamp (by omega), Nat.zero_add]) ?_
        refine jr_aload_n hE dX12_isOf_51 2 rfl ?_
        refine jr_get hE dX12_isOf_52 f118 M3.ob rfl ?_
        refine jr_bipush (v := (33 : Int32)) hE dX12_isOf_55 (by decide) ?_
        refine jr_iload_n hE dX12_isOf_57 3 rfl ?_
        refine jr_imul (z := nI (33 * j)) hE dX12_isOf_58 (pk_mul 33 j) ?_
        refine jr_iload_n hE dX12_isOf_59 0 rfl ?_
        refine jr_iadd (z := nI (33 * j + k)) hE dX12_isOf_60 (nI_add _ _) ?_
        refine jr_iald (v := w3 17 (33 * j + k)) hE dX12_isOf_61 (M3.I (k := 17) (N := 132) (by decide)) (vp_in_nI (by omega) (by decide)) (by rw [nI_clamp (by omega)]) ?_
        refine jr_icmp_ne (tgt := 69) hE dX12_isOf_62 (by decide) (fun c62 => ?_) (fun c62 => ?_)
        · refine jr_iconst (v := (0 : Int32)) hE dX12_isOf_69 (by decide) ?_
          refine jr_istore_n (lv' := [(2, .int (0 : Int32)), (3, .int (nI k)), (0, .ref o), (1, .int (nI j))]) hE dX12_isOf_70 (by decide) rfl ?_
          refine jr_iinc (v := nI (k + 1)) (lv' := [(3, .int (nI (k + 1))), (2, .int (0 : Int32)), (0, .ref o), (1, .int (nI j))]) hE dX12_isOf_71 1 rfl (nI_1 _) (by decide) rfl ?_
          refine jr_goto (tgt := 35) hE dX12_isOf_74 (by decide) ?_
          refine jr_lv (lv' := [(3, .int (nI (k + 1))), (2, .int (0 : Int32)), (0, .ref o), (1, .int (nI j))]) [0, 1, 2, 3] rfl ?_
          exact ih (k + 1) 0 (by omega) ((b2i_f (fun q => c62 (q k (Nat.lt_succ_self k)))).symm)
        · refine jr_iconst (v := (1 : Int32)) hE dX12_isOf_65 (by decide) ?_
          refine jr_goto (tgt := 70) hE dX12_isOf_66 (by decide) ?_
          refine jr_istore_n (lv' := [(2, .int (1 : Int32)), (3, .int (nI k)), (0, .ref o), (1, .int (nI j))]) hE dX12_isOf_70 (by decide) rfl ?_
          refine jr_iinc (v := nI (k + 1)) (lv' := [(3, .int (nI (k + 1))), (2, .int (1 : Int32)), (0, .ref o), (1, .int (nI j))]) hE dX12_isOf_71 1 rfl (nI_1 _) (by decide) rfl ?_
          refine jr_goto (tgt := 35) hE dX12_isOf_74 (by decide) ?_
          refine jr_lv (lv' := [(3, .int (nI (k + 1))), (2, .int (1 : Int32)), (0, .ref o), (1, .int (nI j))]) [0, 1, 2, 3] rfl ?_
          exact ih (k + 1) 1 (by omega) ((b2i_t (fun t ht => by
            rcases Nat.lt_or_ge t k with q | q
            · exact b2i_1 (p := ∀ t, t < k → w3 79 (0 + t) = w3 17 (33 * j + t)) (by rw [← hb]; exact c42) t q
            · rw [show t = k by omega]
              exact c62)).symm)
  refine jr_aload_n hE dX12_isOf_0 0 rfl ?_
  refine jr_dup hE dX12_isOf_1 rfl ?_
  refine jr_get hE dX12_isOf_2 f478 M0.ob rfl ?_
  rw [hwk]
  refine jr_iconst (v := (1 : Int32)) hE dX12_isOf_5 (by decide) ?_
  refine jr_iadd (z := nI (wk + 1)) hE dX12_isOf_6 (nI_1 _) ?_
  refine jr_put (ty := .int) hE dX12_isOf_7 f478 M0.ob rfl (by decide +kernel) rfl rfl (Nat.le_of_ble_eq_true rfl) (fun F1 g2 u3 => ?_)
  have H4 := M0.setV (v' := uz v 31 (nI (wk + 1))) g2 u3
  have O5 := (mO.rf o a F).so u3
  refine jr_aload_n hE dX12_isOf_10 0 rfl ?_
  refine jr_kVv (ci := 12) (n := 0) (As := []) (rest := []) hE dX12_isOf_11 (fun l => c_m_generator l G o a (uz v 31 (nI (wk + 1))) n g w) gX12_isOf_X12_generator rfl H4.ob rfl (by decide +kernel) ⟨rfl, rfl, by decide, by decide⟩ (by decide) rfl rfl (Nat.le_of_ble_eq_true rfl) (⟨H4, hC⟩) (fun F6 q7 => ?_)
  obtain ⟨n1, M1, hf1, hq1, O1'⟩ := q7
  have O1 := O5.tr O1'
  refine jr_aload_n hE dX12_isOf_14 0 rfl ?_
  refine jr_aload_n hE dX12_isOf_15 0 rfl ?_
  refine jr_get hE dX12_isOf_16 f305 M1.ob rfl ?_
  refine jr_kVv (ci := 12) (n := 1) (As := [.ref (a 62)]) (rest := []) hE dX12_isOf_19 (fun l => c_m_multiply l G o a (uz v 31 (nI (wk + 1))) n1 g w 62 d GE) gX12_isOf_X12_multiply rfl M1.ob rfl (by decide +kernel) ⟨rfl, rfl, by decide, by decide⟩ (by decide) rfl rfl (Nat.le_of_ble_eq_true rfl) (⟨M1, hK.fr (hf1 0 (by decide)) (hf1 1 (by decide)) (hf1 32 (by decide)) (hf1 33 (by decide)), (hf1 4 (by decide)).trans hC.1, by decide, by decide, (hf1 62 (by decide)).trans hd, hq1⟩) (fun F8 q9 => ?_)
  obtain ⟨n2, M2, hf2, p2, O2'⟩ := q9
  have O2 := O1.tr O2'
  refine jr_aload_n hE dX12_isOf_22 0 rfl ?_
  refine jr_aload_n hE dX12_isOf_23 0 rfl ?_
  refine jr_get hE dX12_isOf_24 f353 M2.ob rfl ?_
  refine jr_iconst (v := (0 : Int32)) hE dX12_isOf_27 (by decide) ?_
  refine jr_kVv (ci := 12) (n := 2) (As := [.ref (a 79), .int (0 : Int32)]) (rest := []) hE dX12_isOf_28 (fun l => c_m_tells l G o a (uz v 31 (nI (wk + 1))) n2 g w 79 0 33 _) gX12_isOf_X12_tells rfl M2.ob rfl (by decide +kernel) ⟨rfl, rfl, by decide, by decide⟩ (by decide) rfl rfl (Nat.le_of_ble_eq_true rfl) (⟨M2, p2, by decide, by decide, by decide⟩) (fun F10 q11 => ?_)
  obtain ⟨M3, O3'⟩ := q11
  have O3 := O2.tr O3'
  obtain ⟨w3, hw3⟩ : ∃ w3, w3 = uz w 79 (wrt (w 79) 0 (pbE (emul PP d GE))) := ⟨_, rfl⟩
  rw [← hw3] at M3
  have h79 : bl (w3 79) 0 33 = pbE (emul PP d GE) := by
    rw [hw3, uz_s]
    have := bl_wrt (w 79) 0 (pbE (emul PP d GE)) (fun b hb => Nat.lt_trans (pbE_lt _ b hb) (by decide))
    rwa [pbE_len] at this
  have h17 : w3 17 = w 17 := by rw [hw3]; rfl
  have hwo : ∀ z, z ≠ 79 → w3 z = w z := fun z hz => by rw [hw3, uz_n _ _ hz]
  refine jr_iconst (v := (1 : Int32)) hE dX12_isOf_31 (by decide) ?_
  refine jr_istore_n (lv' := [(2, .int (1 : Int32)), (0, .ref o), (1, .int (nI j))]) hE dX12_isOf_32 (by decide) rfl ?_
  refine jr_iconst (v := (0 : Int32)) hE dX12_isOf_33 (by decide) ?_
  refine jr_istore_n (lv' := [(3, .int (0 : Int32)), (2, .int (1 : Int32)), (0, .ref o), (1, .int (nI j))]) hE dX12_isOf_34 (by decide) rfl ?_
  refine jr_lv (lv' := [(3, .int (0 : Int32)), (2, .int (1 : Int32)), (0, .ref o), (1, .int (nI j))]) [0, 1, 2, 3] rfl ?_
  exact loop F10 n2 w3 M3 (fun k hk => (hf2 k (jnsub (V := [37, 38, 39, 42, 43, 44, 45, 46, 47, 34, 35, 36]) hk [3, 4, 5, 8, 9, 10, 11, 12, 13, 0, 1, 2] rfl)).trans (hf1 k (jnsub (V := [40, 41]) hk [6, 7] rfl))) h79 h17 hwo O3 33 0 1 rfl (b2i_t (fun k hk => absurd hk (Nat.not_lt_zero k))).symm

set_option maxHeartbeats 4000000 in
set_option maxRecDepth 100000 in
theorem c_m_mix (l : Launch) (G : Nat → ClassId) (o : Nat) (a : Nat → Nat) (v : Nat → Int32) (n : Nat → Option Nat) (g : Nat → Nat → Int64) (w : Nat → Nat → Int32) (i r d : Nat) : jKv l yX12_mix wsX12_mix ({ frames := 4, cells := 0, slots := 0, locals := 100 }) G [.ref o, .int (nI i), .int (nI r)] (fun L F => MW G L F o a v n g w ∧ i < 8 ∧ tgOK w ∧ rdOK w ∧ r < 16 ∧ n 62 = some d ∧ bB (w 9) (100 * r) 32) (fun L F F1 => ∃ v' w', MW G L F1 o a v' n g w' ∧ (∀ k, k ≠ 57 → v' k = v k) ∧ (∀ z, z ∉ [53, 54, 55, 56, 58, 59, 67] → w' z = w z) ∧ bl (w' 67) 0 32 = xorL (bex d 32) (sha (sha (tgb i) ++ sha (tgb i) ++ bl (w 9) (100 * r) 32)) ∧ mO o a F F1) := by
  refine jm_kv (cc := cX12_mix) (maxL := 4) (by decide) rfl (Nat.le_of_ble_eq_true rfl) ?_
  intro E L F hE hR hpre
  have hE : jOk E G _ cX12_mix 4 RX12 wsX12_mix := hE

  have f100 : jFl RX12 wsX12_mix 100 12 9 := ⟨rfl, by decide, by decide +kernel, by decide +kernel⟩
  have f320 : jFl RX12 wsX12_mix 320 12 67 := ⟨rfl, by decide, by decide +kernel, by decide +kernel⟩
  have f305 : jFl RX12 wsX12_mix 305 12 62 := ⟨rfl, by decide, by decide +kernel, by decide +kernel⟩
  have f293 : jFl RX12 wsX12_mix 293 12 58 := ⟨rfl, by decide, by decide +kernel, by decide +kernel⟩
  obtain ⟨M0, hi, htg, hrd, hr, hd, hB⟩ := hpre
  have loop : ∀ (v3 : Nat → Int32) (w3 : Nat → Nat → Int32), (∀ z, z ≠ 57 → v3 z = v z) → (∀ z, z ∉ [53, 54, 55, 56, 58, 59] → w3 z = w z) → bl (w3 58) 0 32 = sha (sha (tgb i) ++ sha (tgb i) ++ bl (w 9) (100 * r) 32) → ∀ (r0 k : Nat) (F2 : Nat → va_E) (f : Nat → Int32), k + r0 = 32 → MW G L F2 o a v3 n g (uz w3 67 f) → (∀ t, t < 32 → f t = if t < k then nI (((bex d 32).getD t 0) ^^^ ((sha (sha (tgb i) ++ sha (tgb i) ++ bl (w 9) (100 * r) 32)).getD t 0)) else nI ((bex d 32).getD t 0)) → mO o a F F2 → J E L F2 0 0 37 [(3, .int (nI k)), (0, .ref o), (1, .int (nI i)), (2, .int (nI r))] [] := by
    intro v3 w3 hv3 hw3o hs3 r0
    have hdig : ∀ t, t < 32 → w3 58 t = nI ((sha (sha (tgb i) ++ sha (tgb i) ++ bl (w 9) (100 * r) 32)).getD t 0) := fun t ht => by
      have e := bl_get (w3 58) 0 32 t ht
      rw [hs3, Nat.zero_add] at e
      rw [e]
      exact bt_nI _ _
    induction r0 with
    | zero =>
      intro k F2 f hk H hf O
      refine jr_iload_n hE dX12_mix_37 0 rfl ?_
      refine jr_bipush (v := (32 : Int32)) hE dX12_mix_38 (by decide) ?_
      refine jr_icmp_ge (tgt := 64) hE dX12_mix_40 (by decide) (fun c_40 => ?_) (fun c_40 => absurd (nI_le (a := 32) (by omega) (by omega)) c_40)
      exact hR F2 _ _ dX12_mix_64 ⟨v3, _, H, hv3, fun z hz => by
        rw [uz_n _ _ (jne hz 6 rfl)]
        exact hw3o z (fun q => by
          simp only [List.mem_cons, List.not_mem_nil, or_false, not_or] at hz q
          omega), by
        rw [uz_s]
        unfold bl xorL
        apply List.map_congr_left
        intro t ht
        have ht2 := List.mem_range.mp ht
        have e := hf t ht2
        rw [if_pos (by omega)] at e
        rw [Nat.zero_add]
        exact bt_of e (Nat.xor_lt_two_pow (Nat.lt_trans (gd_lt (bex_lt d 32) t) (by decide)) (Nat.lt_trans (gd_lt (sha_lt _) t) (by decide))), O⟩
    | succ r0 ih =>
      intro k F2 f hk H hf O
      refine jr_iload_n hE dX12_mix_37 0 rfl ?_
      refine jr_bipush (v := (32 : Int32)) hE dX12_mix_38 (by decide) ?_
      refine jr_icmp_ge (tgt := 64) hE dX12_mix_40 (by decide) (fun c_40 => absurd c_40 (nI_ge (b := 32) (by omega) (by omega))) (fun c_40 => ?_)
      refine jr_aload_n hE dX12_mix_43 1 rfl ?_
      refine jr_get hE dX12_mix_44 f320 H.ob rfl ?_
      refine jr_iload_n hE dX12_mix_47 0 rfl ?_
      refine jr_dup2 hE dX12_mix_48 rfl rfl ?_
      refine jr_iald (v := nI ((bex d 32).getD k 0)) hE dX12_mix_49 (H.I (k := 67) (N := 32) (by decide)) (vp_in_nI (by omega) (by decide)) (by rw [nI_clamp (by omega), uz_s, hf k (by omega), if_neg (Nat.lt_irrefl k)]) ?_
      refine jr_aload_n hE dX12_mix_50 1 rfl ?_
      refine jr_get hE dX12_mix_51 f293 H.ob rfl ?_
      refine jr_iload_n hE dX12_mix_54 0 rfl ?_
      refine jr_iald (v := nI ((sha (sha (tgb i) ++ sha (tgb i) ++ bl (w 9) (100 * r) 32)).getD k 0)) hE dX12_mix_55 (H.I (k := 58) (N := 32) (by decide)) (vp_in_nI (by omega) (by decide)) (by rw [nI_clamp (by omega)]; exact hdig k (by omega)) ?_
      refine jr_ixor (z := nI ((bex d 32).getD k 0 ^^^ (sha (sha (tgb i) ++ sha (tgb i) ++ bl (w 9) (100 * r) 32)).getD k 0)) hE dX12_mix_56 (xor32 (Nat.lt_trans (gd_lt (bex_lt d 32) k) (by decide)) (Nat.lt_trans (gd_lt (sha_lt _) k) (by decide))) ?_
      refine jr_iast hE dX12_mix_57 (H.I (k := 67) (N := 32) (by decide)) (vp_in_nI (by omega) (by decide)) (fun F1 g2 u3 => ?_)
      have H4 := H.setI (k := 67) (N := 32) (by decide) g2 u3
      have O5 := O.st (k := 67) (by decide) (by decide) u3
      rw [uz_uz, uz_s] at H4
      refine jr_iinc (v := nI (k + 1)) (lv' := [(3, .int (nI (k + 1))), (0, .ref o), (1, .int (nI i)), (2, .int (nI r))]) hE dX12_mix_58 0 rfl (nI_1 _) (by decide) rfl ?_
      refine jr_goto (tgt := 37) hE dX12_mix_61 (by decide) ?_
      refine jr_lv (lv' := [(3, .int (nI (k + 1))), (0, .ref o), (1, .int (nI i)), (2, .int (nI r))]) [0, 1, 2, 3] rfl ?_
      exact ih (k + 1) F1 _ (by omega) H4 (fun t ht => by
        rw [nI_clamp (by omega)]
        show (if t = k then _ else f t) = _
        by_cases e : t = k
        · rw [if_pos e, e, if_pos (by omega)]
        · rw [if_neg e, hf t ht]
          by_cases q : t < k
          · rw [if_pos q, if_pos (by omega)]
          · rw [if_neg q, if_neg (by omega)]) O5
  refine jr_aload_n hE dX12_mix_0 0 rfl ?_
  refine jr_iload_n hE dX12_mix_1 1 rfl ?_
  refine jr_kVv (ci := 12) (n := 1) (As := [.int (nI i)]) (rest := []) hE dX12_mix_2 (fun l => c_m_begin l G o a v n g w i) gX12_mix_X12_begin rfl M0.ob rfl (by decide +kernel) ⟨rfl, rfl, by decide, by decide⟩ (by decide) rfl rfl (Nat.le_of_ble_eq_true rfl) (⟨M0, hi, htg, hrd⟩) (fun F1 q2 => ?_)
  obtain ⟨v1, w1, M1, hv1, hw1, hX1, O1⟩ := q2
  have h9 : w1 9 = w 9 := hw1 9 (by decide)
  refine jr_aload_n hE dX12_mix_5 0 rfl ?_
  refine jr_aload_n hE dX12_mix_6 0 rfl ?_
  refine jr_get hE dX12_mix_7 f100 M1.ob rfl ?_
  refine jr_bipush (v := (100 : Int32)) hE dX12_mix_10 (by decide) ?_
  refine jr_iload_n hE dX12_mix_12 2 rfl ?_
  refine jr_imul (z := nI (100 * r)) hE dX12_mix_13 (pk_mul 100 r) ?_
  refine jr_bipush (v := (32 : Int32)) hE dX12_mix_14 (by decide) ?_
  refine jr_kVv (ci := 12) (n := 3) (As := [.ref (a 9), .int (nI (100 * r)), .int (32 : Int32)]) (rest := []) hE dX12_mix_16 (fun l => c_m_putAll l G o a v1 n g w1 _ 9 (100 * r) 32 1600) gX12_mix_X12_putAll rfl M1.ob rfl (by decide +kernel) ⟨rfl, rfl, by decide, by decide⟩ (by decide) rfl rfl (Nat.le_of_ble_eq_true rfl) (⟨M1, hX1, by decide, by decide, by omega, by decide, by rw [List.length_append, sha_len]; decide, by rw [h9]; exact hB⟩) (fun F3 q4 => ?_)
  obtain ⟨v2, w2, M2, hv2, hw2, hX2, O2⟩ := q4
  rw [h9] at hX2
  have hrd2 : rdOK w2 := fun t ht => by rw [hw2 52 (by decide), hw1 52 (by decide)]; exact hrd t ht
  refine jr_aload_n hE dX12_mix_19 0 rfl ?_
  refine jr_kVv (ci := 12) (n := 0) (As := []) (rest := []) hE dX12_mix_20 (fun l => c_m_end l G o a v2 n g w2 _) gX12_mix_X12_end rfl M2.ob rfl (by decide +kernel) ⟨rfl, rfl, by decide, by decide⟩ (by decide) rfl rfl (Nat.le_of_ble_eq_true rfl) (⟨M2, hX2, hrd2⟩) (fun F5 q6 => ?_)
  obtain ⟨w3, M3, hw3, hs3, O3⟩ := q6
  refine jr_aload_n hE dX12_mix_23 0 rfl ?_
  refine jr_get hE dX12_mix_24 f320 M3.ob rfl ?_
  refine jr_iconst (v := (0 : Int32)) hE dX12_mix_27 (by decide) ?_
  refine jr_aload_n hE dX12_mix_28 0 rfl ?_
  refine jr_get hE dX12_mix_29 f305 M3.ob rfl ?_
  refine jr_kSv (n := 3) (As := [.ref (a 67), .int (0 : Int32), .ref (a 62)]) (rest := []) hE dX12_mix_32 (fun l => c_m_bytesOf l G o a v2 n g w3 67 0 62 32 d) gX12_mix_X12_bytesOf rfl (by decide +kernel) ⟨rfl, rfl, by decide, by decide⟩ (by decide) rfl rfl (Nat.le_of_ble_eq_true rfl) (⟨M3, by decide, by decide, by decide, by decide, hd⟩) (fun F7 q8 => ?_)
  obtain ⟨M4, O4⟩ := q8
  refine jr_iconst (v := (0 : Int32)) hE dX12_mix_35 (by decide) ?_
  refine jr_istore_n (lv' := [(3, .int (0 : Int32)), (0, .ref o), (1, .int (nI i)), (2, .int (nI r))]) hE dX12_mix_36 (by decide) rfl ?_
  refine jr_lv (lv' := [(3, .int (0 : Int32)), (0, .ref o), (1, .int (nI i)), (2, .int (nI r))]) [0, 1, 2, 3] rfl ?_
  exact loop v2 w3 (fun z hz => (hv2 z hz).trans (hv1 z hz)) (fun z hz => (hw3 z (jnsub (V := [53, 54, 55, 58]) hz [0, 1, 2, 4] rfl)).trans ((hw2 z (jne hz 3 rfl)).trans (hw1 z (jnsub (V := [53, 54, 55, 56, 58, 59]) hz [0, 1, 2, 3, 4, 5] rfl)))) hs3 32 0 F7 _ rfl M4 (fun t ht => by
    rw [if_neg (Nat.not_lt_zero t)]
    have := wrt_in (w3 67) 0 (bex d 32) (i := t) (by rw [bex_len]; exact ht)
    rwa [Nat.zero_add] at this) (O1.tr (O2.tr (O3.tr O4)))

theorem sg_in (x : Int32) (sg : Nat) (h : sg ≤ 4) : b2i ((0 : Int64).toInt ≤ x.toInt64.toInt ∧ x.toInt64.toInt ≤ ((nI sg - 1).toInt64).toInt) = b2i (0 ≤ x.toInt ∧ x.toInt < sg) := by
  have e : (nI sg - 1).toInt64.toInt = (sg : Int) - 1 := by
    rw [i2l_T]
    exact pk_sub_toInt (a := sg) (b := 1) (by omega) (by decide)
  rw [i2l_T, e, show (0 : Int64).toInt = 0 by decide]
  by_cases q : 0 ≤ x.toInt ∧ x.toInt < sg
  · rw [b2i_t q, b2i_t ⟨q.1, by omega⟩]
  · rw [b2i_f q, b2i_f (fun e => q ⟨e.1, by omega⟩)]

set_option maxHeartbeats 4000000 in
set_option maxRecDepth 100000 in
theorem c_m_isSigner (l : Launch) (G : Nat → ClassId) (o : Nat) (a : Nat → Nat) (v : Nat → Int32) (n : Nat → Option Nat) (g : Nat → Nat → Int64) (w : Nat → Nat → Int32) (x : Int32) (sg : Nat) : jKi l yX12_isSigner wsX12_isSigner ({ frames := 1, cells := 0, slots := 0, locals := 25 }) G [.ref o, .int x] (fun L F => MW G L F o a v n g w ∧ v 16 = nI sg ∧ sg ≤ 4) (fun L F q F1 => F = F1 ∧ q = b2i (0 ≤ x.toInt ∧ x.toInt < sg)) := by
  refine jm_ki (cc := cX12_isSigner) (maxL := 2) (rt := .boolean) (by decide) rfl (Nat.le_of_ble_eq_true rfl) ?_
  intro E L F hE hR hpre
  have hE : jOk E G _ cX12_isSigner 2 RX12 wsX12_isSigner := hE
  obtain ⟨M0, hsg, hs4⟩ := hpre
  have f533 : jFl RX12 wsX12_isSigner 533 12 16 := ⟨rfl, by decide, by decide +kernel, by decide +kernel⟩
  refine jr_iload_n hE dX12_isSigner_0 1 rfl ?_
  refine jr_i2l hE dX12_isSigner_1 rfl ?_
  refine jr_lconst (v := (0 : Int64)) hE dX12_isSigner_2 (by decide) ?_
  refine jr_aload_n hE dX12_isSigner_3 0 rfl ?_
  refine jr_get hE dX12_isSigner_4 f533 M0.ob rfl ?_
  rw [hsg]
  refine jr_iconst (v := (1 : Int32)) hE dX12_isSigner_7 (by decide) ?_
  refine jr_isub hE dX12_isSigner_8 rfl ?_
  refine jr_i2l hE dX12_isSigner_9 rfl ?_
  refine jr_kSi (n := 3) (As := [.long x.toInt64, .long (0 : Int64), .long (((nI sg) - (1 : Int32)).toInt64)]) (rest := []) hE dX12_isSigner_10 (fun l => c_m_in l G x.toInt64 0 (((nI sg) - (1 : Int32)).toInt64)) gX12_isSigner_X12_in rfl (by decide +kernel) ⟨rfl, rfl, by decide, by decide⟩ (by decide) rfl rfl (Nat.le_of_ble_eq_true rfl) (trivial) (fun r3 F1 q2 => ?_)
  obtain ⟨eq2, rq2⟩ := q2
  subst eq2 rq2
  rw [sg_in x sg hs4]
  exact hR F _ _ _ dX12_isSigner_13 (b2i_z _) ⟨rfl, rfl⟩

