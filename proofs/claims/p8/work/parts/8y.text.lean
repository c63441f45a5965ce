/-! THE REFERENCE'S text: what is to be digested -/
def tX (v : Nat → Int32) (w : Nat → Nat → Int32) (bs : List Nat) : Prop := v 57 = nI bs.length ∧ bl (w 56) 0 bs.length = bs ∧ bs.length ≤ 400 ∧ ∀ b, b ∈ bs → b < 256
theorem bl_mem {f : Nat → Int32} {s n b : Nat} (hB : bB f s n) (h : b ∈ bl f s n) : b < 256 := by
  simp only [bl, List.mem_map, List.mem_range] at h
  obtain ⟨i, hi, rfl⟩ := h
  exact hB i hi
theorem tX.B {v : Nat → Int32} {w : Nat → Nat → Int32} {bs : List Nat} (h : tX v w bs) : bB (w 56) 0 bs.length := fun i hi => by
  have e := bl_get (w 56) 0 bs.length i hi
  rw [h.2.1] at e
  rw [← e, List.getD_eq_getElem?_getD, List.getElem?_eq_getElem hi]
  exact h.2.2.2 _ (List.getElem_mem hi)
theorem tX.wrt {v v' : Nat → Int32} {w w' : Nat → Nat → Int32} {bs l : List Nat} (h : tX v w bs) (hw : w' 56 = wrt (w 56) bs.length l) (hv : v' 57 = nI (bs.length + l.length)) (hn : bs.length + l.length ≤ 400) (hl : ∀ b, b ∈ l → b < 256) : tX v' w' (bs ++ l) := by
  refine ⟨by rw [hv, List.length_append], ?_, by rw [List.length_append]; exact hn, fun b hb => ?_⟩
  · rw [List.length_append, bl_app, hw, Nat.zero_add, bl_wrt _ _ _ (fun b hb => Nat.lt_trans (hl b hb) (by decide)), bl_wrt_out _ _ _ _ _ (Or.inl (by omega)), h.2.1]
  · rcases List.mem_append.mp hb with q | q
    · exact h.2.2.2 b q
    · exact hl b q
theorem sha_len (bs : List Nat) : (sha bs).length = 32 := dgl_len _ 8
theorem nb_lt (v : Int64) : ∀ n b, b ∈ nb v n → b < 256
  | 0, b, h => absurd h (by simp [nb])
  | n + 1, b, h => by
    rw [nb, List.mem_cons] at h
    rcases h with h | h
    · rw [h]; exact Nat.mod_lt _ (by decide)
    · exact nb_lt v n b h
theorem dgl_lt (f : Nat → Int32) : ∀ n b, b ∈ dgl f n → b < 256
  | 0, b, h => absurd h (by simp [dgl])
  | n + 1, b, h => by
    rw [dgl] at h
    rcases List.mem_append.mp h with q | q
    · exact dgl_lt f n b q
    · exact nb_lt _ _ b q
theorem sha_lt (bs : List Nat) : ∀ b, b ∈ sha bs → b < 256 := dgl_lt _ 8

set_option maxHeartbeats 4000000 in
set_option maxRecDepth 100000 in
theorem c_m_byteTo (l : Launch) (G : Nat → ClassId) (o : Nat) (a : Nat → Nat) (v : Nat → Int32) (n : Nat → Option Nat) (g : Nat → Nat → Int64) (w : Nat → Nat → Int32) (bs : List Nat) (b : Nat) : jKv l yX12_byteTo wsX12_byteTo ({ frames := 0, cells := 0, slots := 0, locals := 0 }) G [.ref o, .int (nI b)] (fun L F => MW G L F o a v n g w ∧ tX v w bs ∧ bs.length < 400 ∧ b < 256) (fun L F F1 => ∃ v' w', MW G L F1 o a v' n g w' ∧ (∀ k, k ≠ 57 → v' k = v k) ∧ (∀ k, k ≠ 56 → w' k = w k) ∧ tX v' w' (bs ++ [b]) ∧ mO o a F F1) := by
  refine jm_kv (cc := cX12_byteTo) (maxL := 2) (by decide) rfl (Nat.le_of_ble_eq_true rfl) ?_
  intro E L F hE hR hpre
  have hE : jOk E G _ cX12_byteTo 2 RX12 wsX12_byteTo := hE
  obtain ⟨M0, hX, hn, hb⟩ := hpre
  have f290 : jFl RX12 wsX12_byteTo 290 12 56 := ⟨rfl, by decide, by decide +kernel, by decide +kernel⟩
  have f450 : jFl RX12 wsX12_byteTo 450 12 57 := ⟨rfl, by decide, by decide +kernel, by decide +kernel⟩
  refine jr_aload_n hE dX12_byteTo_0 0 rfl ?_
  refine jr_get hE dX12_byteTo_1 f290 M0.ob rfl ?_
  refine jr_aload_n hE dX12_byteTo_4 0 rfl ?_
  refine jr_get hE dX12_byteTo_5 f450 M0.ob rfl ?_
  rw [hX.1]
  refine jr_iload_n hE dX12_byteTo_8 1 rfl ?_
  refine jr_iast hE dX12_byteTo_9 (M0.I (k := 56) (N := 400) (by decide)) (vp_in_nI (by omega) (by decide)) (fun F1 g2 u3 => ?_)
  have H4 := M0.setI (k := 56) (N := 400) (by decide) g2 u3
  have O5 := (mO.rf o a F).st (k := 56) (by decide) (by decide) u3
  refine jr_aload_n hE dX12_byteTo_10 0 rfl ?_
  refine jr_dup hE dX12_byteTo_11 rfl ?_
  refine jr_get hE dX12_byteTo_12 f450 H4.ob rfl ?_
  rw [hX.1]
  refine jr_iconst (v := (1 : Int32)) hE dX12_byteTo_15 (by decide) ?_
  refine jr_iadd (z := nI (bs.length + 1)) hE dX12_byteTo_16 (nI_1 _) ?_
  refine jr_put (ty := .int) hE dX12_byteTo_17 f450 H4.ob rfl (by decide +kernel) rfl rfl (Nat.le_of_ble_eq_true rfl) (fun F6 g7 u8 => ?_)
  have H9 := H4.setV (v' := uz v 57 (nI (bs.length + 1))) g7 u8
  have O10 := O5.so u8
  exact hR F6 _ _ dX12_byteTo_20 ⟨_, _, H9, fun k hk => uz_n _ _ hk, fun k hk => uz_n _ _ hk, hX.wrt (l := [b]) (by rw [uz_s]; exact (wrt_snoc (f := w 56) (g := w 56) (s := bs.length) (i := 0) (l := []) (by rw [wrt_nil]) rfl rfl (by omega))) (uz_s _ _ _) (by simp; omega) (fun c hc => by rw [List.mem_singleton.mp hc]; exact hb), O10⟩

set_option maxHeartbeats 4000000 in
set_option maxRecDepth 100000 in
theorem c_m_putAll (l : Launch) (G : Nat → ClassId) (o : Nat) (a : Nat → Nat) (v : Nat → Int32) (n : Nat → Option Nat) (g : Nat → Nat → Int64) (w : Nat → Nat → Int32) (bs : List Nat) (kb fr m N : Nat) : jKv l yX12_putAll wsX12_putAll ({ frames := 1, cells := 0, slots := 0, locals := 21 }) G [.ref o, .ref (a kb), .int (nI fr), .int (nI m)] (fun L F => MW G L F o a v n g w ∧ tX v w bs ∧ ik kb N ∧ kb ≠ 56 ∧ fr + m ≤ N ∧ N < 2 ^ 30 ∧ bs.length + m ≤ 400 ∧ bB (w kb) fr m) (fun L F F1 => ∃ v' w', MW G L F1 o a v' n g w' ∧ (∀ k, k ≠ 57 → v' k = v k) ∧ (∀ k, k ≠ 56 → w' k = w k) ∧ tX v' w' (bs ++ bl (w kb) fr m) ∧ mO o a F F1) := by
  refine jm_kv (cc := cX12_putAll) (maxL := 5) (by decide) rfl (Nat.le_of_ble_eq_true rfl) ?_
  intro E L F hE hR hpre
  have hE : jOk E G _ cX12_putAll 5 RX12 wsX12_putAll := hE

  obtain ⟨M0, hX, hkb, hk56, hN, hN2, hn, hB⟩ := hpre
  have loop : ∀ (r0 i : Nat) (F2 : Nat → va_E) (v2 : Nat → Int32) (w2 : Nat → Nat → Int32), i + r0 = m → MW G L F2 o a v2 n g w2 → (∀ k, k ≠ 57 → v2 k = v k) → (∀ k, k ≠ 56 → w2 k = w k) → tX v2 w2 (bs ++ bl (w kb) fr i) → mO o a F F2 → J E L F2 0 0 3 [(4, .int (nI i)), (0, .ref o), (1, .ref (a kb)), (2, .int (nI fr)), (3, .int (nI m))] [] := by
    intro r0
    induction r0 with
    | zero =>
      intro i F2 v2 w2 hi M2 hv2 hw2 hX2 O
      refine jr_iload hE dX12_putAll_3 0 rfl ?_
      refine jr_iload_n hE dX12_putAll_5 4 rfl ?_
      refine jr_icmp_ge (tgt := 25) hE dX12_putAll_6 (by decide) (fun c_6 => ?_) (fun c_6 => absurd (nI_le (by omega) (by omega)) c_6)
      exact hR F2 _ _ dX12_putAll_25 ⟨v2, w2, M2, hv2, hw2, by rw [show m = i by omega]; exact hX2, O⟩
    | succ r0 ih =>
      intro i F2 v2 w2 hi M2 hv2 hw2 hX2 O
      refine jr_iload hE dX12_putAll_3 0 rfl ?_
      refine jr_iload_n hE dX12_putAll_5 4 rfl ?_
      refine jr_icmp_ge (tgt := 25) hE dX12_putAll_6 (by decide) (fun c_6 => absurd c_6 (nI_ge (by omega) (by omega))) (fun c_6 => ?_)
      refine jr_aload_n hE dX12_putAll_9 1 rfl ?_
      refine jr_aload_n hE dX12_putAll_10 2 rfl ?_
      refine jr_iload_n hE dX12_putAll_11 3 rfl ?_
      refine jr_iload hE dX12_putAll_12 0 rfl ?_
      refine jr_iadd (z := nI (fr + i)) hE dX12_putAll_14 (nI_add _ _) ?_
      refine jr_iald (v := nI (bt (w kb) (fr + i))) hE dX12_putAll_15 (M2.I (k := kb) (N := N) hkb) (vp_in_nI (by omega) (by omega)) (by rw [nI_clamp (by omega), hw2 kb hk56]; exact bt_nI _ _) ?_
      refine jr_kVv (ci := 12) (n := 1) (As := [.int (nI (bt (w kb) (fr + i)))]) (rest := []) hE dX12_putAll_16 (fun l => c_m_byteTo l G o a v2 n g w2 (bs ++ bl (w kb) fr i) (bt (w kb) (fr + i))) gX12_putAll_X12_byteTo rfl M2.ob rfl (by decide +kernel) ⟨rfl, rfl, by decide, by decide⟩ (by decide) rfl rfl (Nat.le_of_ble_eq_true rfl) (⟨M2, hX2, by rw [List.length_append, bl_len]; omega, hB i (by omega)⟩) (fun F1 q2 => ?_)
      obtain ⟨v3, w3, M3, hv3, hw3, hX3, O3⟩ := q2
      refine jr_iinc (v := nI (i + 1)) (lv' := [(4, .int (nI (i + 1))), (0, .ref o), (1, .ref (a kb)), (2, .int (nI fr)), (3, .int (nI m))]) hE dX12_putAll_19 0 rfl (nI_1 _) (by decide) rfl ?_
      refine jr_goto (tgt := 3) hE dX12_putAll_22 (by decide) ?_
      refine jr_lv (lv' := [(4, .int (nI (i + 1))), (0, .ref o), (1, .ref (a kb)), (2, .int (nI fr)), (3, .int (nI m))]) [0, 1, 2, 3, 4] rfl ?_
      exact ih (i + 1) F1 v3 w3 (by omega) M3 (fun k hk => (hv3 k hk).trans (hv2 k hk)) (fun k hk => (hw3 k hk).trans (hw2 k hk)) (by rw [bl_s, ← List.append_assoc]; exact hX3) (O.tr O3)
  refine jr_iconst (v := (0 : Int32)) hE dX12_putAll_0 (by decide) ?_
  refine jr_istore (lv' := [(4, .int (0 : Int32)), (0, .ref o), (1, .ref (a kb)), (2, .int (nI fr)), (3, .int (nI m))]) hE dX12_putAll_1 (by decide) rfl ?_
  refine jr_lv (lv' := [(4, .int (0 : Int32)), (0, .ref o), (1, .ref (a kb)), (2, .int (nI fr)), (3, .int (nI m))]) [0, 1, 2, 3, 4] rfl ?_
  exact loop m 0 F v w (by omega) M0 (fun _ _ => rfl) (fun _ _ => rfl) (by rw [show bl (w kb) fr 0 = [] from rfl, List.append_nil]; exact hX) (mO.rf o a F)

set_option maxHeartbeats 4000000 in
set_option maxRecDepth 100000 in
theorem c_m_putNumber (l : Launch) (G : Nat → ClassId) (o : Nat) (a : Nat → Nat) (v : Nat → Int32) (n : Nat → Option Nat) (g : Nat → Nat → Int64) (w : Nat → Nat → Int32) (bs : List Nat) (kv x : Nat) : jKv l yX12_putNumber wsX12_putNumber ({ frames := 1, cells := 0, slots := 0, locals := 23 }) G [.ref o, .ref (a kv)] (fun L F => MW G L F o a v n g w ∧ tX v w bs ∧ l8 kv ∧ n kv = some x ∧ bs.length + 32 ≤ 400) (fun L F F1 => ∃ v' w', MW G L F1 o a v' n g w' ∧ (∀ k, k ≠ 57 → v' k = v k) ∧ (∀ k, k ≠ 56 → w' k = w k) ∧ tX v' w' (bs ++ bex x 32) ∧ mO o a F F1) := by
  refine jm_kv (cc := cX12_putNumber) (maxL := 2) (by decide) rfl (Nat.le_of_ble_eq_true rfl) ?_
  intro E L F hE hR hpre
  have hE : jOk E G _ cX12_putNumber 2 RX12 wsX12_putNumber := hE
  obtain ⟨M0, hX, hkv, hx, hn⟩ := hpre
  have f290 : jFl RX12 wsX12_putNumber 290 12 56 := ⟨rfl, by decide, by decide +kernel, by decide +kernel⟩
  have f450 : jFl RX12 wsX12_putNumber 450 12 57 := ⟨rfl, by decide, by decide +kernel, by decide +kernel⟩
  refine jr_aload_n hE dX12_putNumber_0 0 rfl ?_
  refine jr_get hE dX12_putNumber_1 f290 M0.ob rfl ?_
  refine jr_aload_n hE dX12_putNumber_4 0 rfl ?_
  refine jr_get hE dX12_putNumber_5 f450 M0.ob rfl ?_
  rw [hX.1]
  refine jr_aload_n hE dX12_putNumber_8 1 rfl ?_
  refine jr_kSv (n := 3) (As := [.ref (a 56), .int (nI bs.length), .ref (a kv)]) (rest := []) hE dX12_putNumber_9 (fun l => c_m_bytesOf l G o a v n g w 56 bs.length kv 400 x) gX12_putNumber_X12_bytesOf rfl (by decide +kernel) ⟨rfl, rfl, by decide, by decide⟩ (by decide) rfl rfl (Nat.le_of_ble_eq_true rfl) (⟨M0, by decide, hkv, by omega, by decide, hx⟩) (fun F1 q2 => ?_)
  obtain ⟨M1, O1⟩ := q2
  refine jr_aload_n hE dX12_putNumber_12 0 rfl ?_
  refine jr_dup hE dX12_putNumber_13 rfl ?_
  refine jr_get hE dX12_putNumber_14 f450 M1.ob rfl ?_
  rw [hX.1]
  refine jr_bipush (v := (32 : Int32)) hE dX12_putNumber_17 (by decide) ?_
  refine jr_iadd (z := nI (bs.length + 32)) hE dX12_putNumber_19 (nI_add _ 32) ?_
  refine jr_put (ty := .int) hE dX12_putNumber_20 f450 M1.ob rfl (by decide +kernel) rfl rfl (Nat.le_of_ble_eq_true rfl) (fun F3 g4 u5 => ?_)
  have H6 := M1.setV (v' := uz v 57 (nI (bs.length + 32))) g4 u5
  have O7 := O1.so u5
  exact hR F3 _ _ dX12_putNumber_23 ⟨_, _, H6, fun k hk => uz_n _ _ hk, fun k hk => uz_n _ _ hk, hX.wrt (l := bex x 32) (uz_s _ _ _) (by rw [uz_s, bex_len]) (by rw [bex_len]; omega) (bex_lt x 32), O7⟩

set_option maxHeartbeats 4000000 in
set_option maxRecDepth 100000 in
theorem c_m_end (l : Launch) (G : Nat → ClassId) (o : Nat) (a : Nat → Nat) (v : Nat → Int32) (n : Nat → Option Nat) (g : Nat → Nat → Int64) (w : Nat → Nat → Int32) (bs : List Nat) : jKv l yX12_end wsX12_end ({ frames := 3, cells := 0, slots := 0, locals := 77 }) G [.ref o] (fun L F => MW G L F o a v n g w ∧ tX v w bs ∧ rdOK w) (fun L F F1 => ∃ w', MW G L F1 o a v n g w' ∧ (∀ z, nin4 z → w' z = w z) ∧ bl (w' 58) 0 32 = sha bs ∧ mO o a F F1) := by
  refine jm_kv (cc := cX12_end) (maxL := 1) (by decide) rfl (Nat.le_of_ble_eq_true rfl) ?_
  intro E L F hE hR hpre
  have hE : jOk E G _ cX12_end 1 RX12 wsX12_end := hE
  obtain ⟨M0, hX, hrd⟩ := hpre
  have f290 : jFl RX12 wsX12_end 290 12 56 := ⟨rfl, by decide, by decide +kernel, by decide +kernel⟩
  have f450 : jFl RX12 wsX12_end 450 12 57 := ⟨rfl, by decide, by decide +kernel, by decide +kernel⟩
  refine jr_aload_n hE dX12_end_0 0 rfl ?_
  refine jr_aload_n hE dX12_end_1 0 rfl ?_
  refine jr_get hE dX12_end_2 f290 M0.ob rfl ?_
  refine jr_aload_n hE dX12_end_5 0 rfl ?_
  refine jr_get hE dX12_end_6 f450 M0.ob rfl ?_
  rw [hX.1]
  refine jr_kVv (ci := 12) (n := 2) (As := [.ref (a 56), .int (nI bs.length)]) (rest := []) hE dX12_end_9 (fun l => c_m_hashOf l G o a v n g w 56 bs.length 400) gX12_end_X12_hashOf rfl M0.ob rfl (by decide +kernel) ⟨rfl, rfl, by decide, by decide⟩ (by decide) rfl rfl (Nat.le_of_ble_eq_true rfl) (⟨M0, by decide, by decide, hX.2.2.1, hX.2.2.1, by decide, hX.B, hrd⟩) (fun F1 q2 => ?_)
  obtain ⟨w1, M1, hw1, hs1, O1⟩ := q2
  rw [hX.2.1] at hs1
  exact hR F1 _ _ dX12_end_12 ⟨w1, M1, hw1, hs1, O1⟩

theorem NN_256 : NN < 2 ^ 256 := by decide +kernel
theorem NN_hi : 2 ^ 256 < 2 * NN := by decide +kernel
theorem dig_B {f : Nat → Int32} {bs : List Nat} (h : bl f 0 32 = sha bs) : bB f 0 32 := fun i hi => by
  have e := bl_get f 0 32 i hi
  rw [h] at e
  rw [← e, List.getD_eq_getElem?_getD, List.getElem?_eq_getElem (by rw [sha_len]; exact hi)]
  exact sha_lt bs _ (List.getElem_mem _)

set_option maxHeartbeats 4000000 in
set_option maxRecDepth 100000 in
theorem c_m_endNumber (l : Launch) (G : Nat → ClassId) (o : Nat) (a : Nat → Nat) (v : Nat → Int32) (n : Nat → Option Nat) (g : Nat → Nat → Int64) (w : Nat → Nat → Int32) (bs : List Nat) (kt V : Nat) : jKv l yX12_endNumber wsX12_endNumber ({ frames := 4, cells := 0, slots := 0, locals := 97 }) G [.ref o, .ref (a kt)] (fun L F => MW G L F o a v n g w ∧ mK n g ∧ tX v w bs ∧ rdOK w ∧ lv8 kt ∧ V = bnum (sha bs)) (fun L F F1 => ∃ w', MW G L F1 o a v (uz n kt (some (V % NN))) g w' ∧ (∀ z, nin4 z → w' z = w z) ∧ bl (w' 58) 0 32 = sha bs ∧ mO o a F F1) := by
  refine jm_kv (cc := cX12_endNumber) (maxL := 2) (by decide) rfl (Nat.le_of_ble_eq_true rfl) ?_
  intro E L F hE hR hpre
  have hE : jOk E G _ cX12_endNumber 2 RX12 wsX12_endNumber := hE
  obtain ⟨M0, hK, hX, hrd, hkt, hV⟩ := hpre
  have f293 : jFl RX12 wsX12_endNumber 293 12 58 := ⟨rfl, by decide, by decide +kernel, by decide +kernel⟩
  have f27 : jFl RX12 wsX12_endNumber 27 12 1 := ⟨rfl, by decide, by decide +kernel, by decide +kernel⟩
  refine jr_aload_n hE dX12_endNumber_0 0 rfl ?_
  refine jr_kVv (ci := 12) (n := 0) (As := []) (rest := []) hE dX12_endNumber_1 (fun l => c_m_end l G o a v n g w bs) gX12_endNumber_X12_end rfl M0.ob rfl (by decide +kernel) ⟨rfl, rfl, by decide, by decide⟩ (by decide) rfl rfl (Nat.le_of_ble_eq_true rfl) (⟨M0, hX, hrd⟩) (fun F1 q2 => ?_)
  obtain ⟨w1, M1, hw1, hs1, O1⟩ := q2
  refine jr_aload_n hE dX12_endNumber_4 1 rfl ?_
  refine jr_aload_n hE dX12_endNumber_5 0 rfl ?_
  refine jr_get hE dX12_endNumber_6 f293 M1.ob rfl ?_
  refine jr_iconst (v := (0 : Int32)) hE dX12_endNumber_9 (by decide) ?_
  refine jr_kSv (n := 3) (As := [.ref (a kt), .ref (a 58), .int (0 : Int32)]) (rest := []) hE dX12_endNumber_10 (fun l => c_m_numberOf l G o a v n g w1 kt 58 0 32) gX12_endNumber_X12_numberOf rfl (by decide +kernel) ⟨rfl, rfl, by decide, by decide⟩ (by decide) rfl rfl (Nat.le_of_ble_eq_true rfl) (⟨M1, hkt.1, by decide, by decide, by decide, dig_B hs1⟩) (fun F3 q4 => ?_)
  obtain ⟨M2, O2'⟩ := q4
  have O2 := O1.tr O2'
  rw [hs1, ← hV] at M2
  have hVl := M2.lt (uz_s n kt (some V))
  refine jr_aload_n hE dX12_endNumber_13 1 rfl ?_
  refine jr_aload_n hE dX12_endNumber_14 0 rfl ?_
  refine jr_get hE dX12_endNumber_15 f27 M2.ob rfl ?_
  refine jr_kSi (n := 2) (As := [.ref (a kt), .ref (a 1)]) (rest := []) hE dX12_endNumber_18 (fun l => c_m_isBelow l G o a v (uz n kt (some V)) g w1 kt 1 V NN) gX12_endNumber_X12_isBelow rfl (by decide +kernel) ⟨rfl, rfl, by decide, by decide⟩ (by decide) rfl rfl (Nat.le_of_ble_eq_true rfl) (⟨M2, hkt.1, by decide, uz_s _ _ _, (uz_n _ _ (fun e => hkt.2.2 e.symm)).trans hK.2.1⟩) (fun r7 F5 q6 => ?_)
  obtain ⟨e9, r9⟩ := q6
  subst e9 r9
  refine jr_if_ne (tgt := 33) hE dX12_endNumber_21 (by decide) (fun c21 => ?_) (fun c21 => ?_)
  · exact hR F3 _ _ dX12_endNumber_33 ⟨w1, by rw [Nat.mod_eq_of_lt (b2i_1 c21)]; exact M2, hw1, hs1, O2⟩
  · refine jr_aload_n hE dX12_endNumber_24 1 rfl ?_
    refine jr_aload_n hE dX12_endNumber_25 1 rfl ?_
    refine jr_aload_n hE dX12_endNumber_26 0 rfl ?_
    refine jr_get hE dX12_endNumber_27 f27 M2.ob rfl ?_
    refine jr_kSv (n := 3) (As := [.ref (a kt), .ref (a kt), .ref (a 1)]) (rest := []) hE dX12_endNumber_30 (fun l => c_m_take l G o a v (uz n kt (some V)) g w1 kt kt 1 V NN) gX12_endNumber_X12_take rfl (by decide +kernel) ⟨rfl, rfl, by decide, by decide⟩ (by decide) rfl rfl (Nat.le_of_ble_eq_true rfl) (⟨M2, hkt.1, hkt.1, by decide, uz_s _ _ _, (uz_n _ _ (fun e => hkt.2.2 e.symm)).trans hK.2.1⟩) (fun F8 q9 => ?_)
    obtain ⟨M3, O3⟩ := q9
    rw [uz_uz] at M3
    have hge : NN ≤ V := Classical.byContradiction (fun q0 => absurd (b2i_t (show V < NN by omega)) (by rw [c21]; decide))
    exact hR F8 _ _ dX12_endNumber_33 ⟨w1, by rw [sub_mod1 hge NN_hi hVl]; exact M3, hw1, hs1, O2.tr O3⟩

