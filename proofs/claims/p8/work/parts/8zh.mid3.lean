/-! THE REFERENCE'S makeNonce, addTold, areWell -/

set_option maxHeartbeats 4000000 in
set_option maxRecDepth 100000 in
theorem c_m_makeNonce (l : Launch) (G : Nat → ClassId) (o : Nat) (a : Nat → Nat) (v : Nat → Int32) (n : Nat → Option Nat) (g : Nat → Nat → Int64) (w : Nat → Nat → Int32) (kt m wh sz jx : Nat) : jKv l yX12_makeNonce wsX12_makeNonce ({ frames := 5, cells := 0, slots := 0, locals := 118 }) G [.ref o, .ref (a kt), .int (nI m), .int (nI wh)] (fun L F => MW G L F o a v n g w ∧ mK n g ∧ tgOK w ∧ rdOK w ∧ lv8 kt ∧ m < 16 ∧ w 8 m = nI sz ∧ sz ≤ 40 ∧ wh < 2 ∧ n 77 = some jx ∧ bB (w 67) 0 32 ∧ bB (w 79) 0 33 ∧ bB (w 9) (100 * m) sz) (fun L F F1 => ∃ v' w', MW G L F1 o a v' (uz n kt (some (bnum (sha ((sha (tgb 6) ++ sha (tgb 6) ++ bl (w 67) 0 32 ++ [33] ++ bl (w 79) 0 33 ++ [32] ++ bex jx 32 ++ [1]) ++ List.replicate 7 0 ++ [sz] ++ bl (w 9) (100 * m) sz ++ List.replicate 4 0 ++ [wh])) % NN))) g w' ∧ (∀ k, k ≠ 57 → v' k = v k) ∧ (∀ z, nin6 z → w' z = w z) ∧ mO o a F F1) := by
  refine jm_kv (cc := cX12_makeNonce) (maxL := 5) (by decide) rfl (Nat.le_of_ble_eq_true rfl) ?_
  intro E L F hE hR hpre
  have hE : jOk E G _ cX12_makeNonce 5 RX12 wsX12_makeNonce := hE

  have f320 : jFl RX12 wsX12_makeNonce 320 12 67 := ⟨rfl, by decide, by decide +kernel, by decide +kernel⟩
  have f353 : jFl RX12 wsX12_makeNonce 353 12 79 := ⟨rfl, by decide, by decide +kernel, by decide +kernel⟩
  have f350 : jFl RX12 wsX12_makeNonce 350 12 77 := ⟨rfl, by decide, by decide +kernel, by decide +kernel⟩
  have f96 : jFl RX12 wsX12_makeNonce 96 12 8 := ⟨rfl, by decide, by decide +kernel, by decide +kernel⟩
  have f100 : jFl RX12 wsX12_makeNonce 100 12 9 := ⟨rfl, by decide, by decide +kernel, by decide +kernel⟩
  obtain ⟨M0, hK, htg, hrd, hkt, hm, hsz, hs40, hwh, hjx, hBm, hBp, hBr⟩ := hpre
  have loop4 : ∀ (r0 k : Nat) (F2 : Nat → va_E) (v1 : Nat → Int32) (w1 : Nat → Nat → Int32), k + r0 = 4 → MW G L F2 o a v1 n g w1 → (∀ z, z ≠ 57 → v1 z = v z) → (∀ z, nin6 z → w1 z = w z) → tX v1 w1 ((sha (tgb 6) ++ sha (tgb 6) ++ bl (w 67) 0 32 ++ [33] ++ bl (w 79) 0 33 ++ [32] ++ bex jx 32 ++ [1]) ++ List.replicate 7 0 ++ [sz] ++ bl (w 9) (100 * m) sz ++ List.replicate k 0) → mO o a F F2 → J E L F2 0 0 105 [(4, .int (nI k)), (0, .ref o), (1, .ref (a kt)), (2, .int (nI m)), (3, .int (nI wh))] [] := by
    intro r0
    induction r0 with
    | zero =>
      intro k F2 v1 w1 hk M1 vv1 ww1 hX1 O1
      refine jr_iload hE dX12_makeNonce_105 0 rfl ?_
      refine jr_iconst (v := (4 : Int32)) hE dX12_makeNonce_107 (by decide) ?_
      refine jr_icmp_ge (tgt := 122) hE dX12_makeNonce_108 (by decide) (fun c_108 => ?_) (fun c_108 => absurd (nI_le (a := 4) (by omega) (by omega)) c_108)
      refine jr_aload_n hE dX12_makeNonce_122 1 rfl ?_
      refine jr_iload_n hE dX12_makeNonce_123 4 rfl ?_
      refine jr_kVv (ci := 12) (n := 1) (As := [.int (nI wh)]) (rest := []) hE dX12_makeNonce_124 (fun l => c_m_byteTo l G o a v1 n g w1 _ wh) gX12_makeNonce_X12_byteTo rfl M1.ob rfl (by decide +kernel) ⟨rfl, rfl, by decide, by decide⟩ (by decide) rfl rfl (Nat.le_of_ble_eq_true rfl) (⟨M1, hX1, by simp only [List.length_append, sha_len, bl_len, bex_len, List.length_cons, List.length_nil, List.length_replicate]; omega, by omega⟩) (fun F1 q2 => ?_)
      obtain ⟨v2, w2, M2, hv2, hw2, hX2, P2⟩ := q2
      have O2 := O1.tr P2
      have vv2 : ∀ z, z ≠ 57 → v2 z = v z := fun z hz => (hv2 z hz).trans (vv1 z hz)
      have ww2 : ∀ z, nin6 z → w2 z = w z := fun z hz => (hw2 z (jne hz 3 rfl)).trans (ww1 z hz)
      refine jr_aload_n hE dX12_makeNonce_127 1 rfl ?_
      refine jr_aload_n hE dX12_makeNonce_128 2 rfl ?_
      refine jr_kVv (ci := 12) (n := 1) (As := [.ref (a kt)]) (rest := []) hE dX12_makeNonce_129 (fun l => c_m_endNumber l G o a v2 n g w2 _ kt _) gX12_makeNonce_X12_endNumber rfl M2.ob rfl (by decide +kernel) ⟨rfl, rfl, by decide, by decide⟩ (by decide) rfl rfl (Nat.le_of_ble_eq_true rfl) (⟨M2, hK, hX2, fun t ht => by rw [ww2 52 (by decide)]; exact hrd t ht, hkt, rfl⟩) (fun F3 q4 => ?_)
      obtain ⟨w9, M9, hw9, hs9, O9⟩ := q4
      rw [show k = 4 by omega] at M9
      exact hR F3 _ _ dX12_makeNonce_132 ⟨v2, w9, M9, vv2, fun z hz => (hw9 z (jnsub (V := [53, 54, 55, 58]) hz [0, 1, 2, 4] rfl)).trans (ww2 z hz), O2.tr O9⟩
    | succ r0 ih =>
      intro k F2 v1 w1 hk M1 vv1 ww1 hX1 O1
      refine jr_iload hE dX12_makeNonce_105 0 rfl ?_
      refine jr_iconst (v := (4 : Int32)) hE dX12_makeNonce_107 (by decide) ?_
      refine jr_icmp_ge (tgt := 122) hE dX12_makeNonce_108 (by decide) (fun c_108 => absurd c_108 (nI_ge (b := 4) (by omega) (by omega))) (fun c_108 => ?_)
      refine jr_aload_n hE dX12_makeNonce_111 1 rfl ?_
      refine jr_iconst (v := (0 : Int32)) hE dX12_makeNonce_112 (by decide) ?_
      refine jr_kVv (ci := 12) (n := 1) (As := [.int (0 : Int32)]) (rest := []) hE dX12_makeNonce_113 (fun l => c_m_byteTo l G o a v1 n g w1 _ 0) gX12_makeNonce_X12_byteTo rfl M1.ob rfl (by decide +kernel) ⟨rfl, rfl, by decide, by decide⟩ (by decide) rfl rfl (Nat.le_of_ble_eq_true rfl) (⟨M1, hX1, by simp only [List.length_append, sha_len, bl_len, bex_len, List.length_cons, List.length_nil, List.length_replicate]; omega, by omega⟩) (fun F1 q2 => ?_)
      obtain ⟨v2, w2, M2, hv2, hw2, hX2, P2⟩ := q2
      have O2 := O1.tr P2
      have vv2 : ∀ z, z ≠ 57 → v2 z = v z := fun z hz => (hv2 z hz).trans (vv1 z hz)
      have ww2 : ∀ z, nin6 z → w2 z = w z := fun z hz => (hw2 z (jne hz 3 rfl)).trans (ww1 z hz)
      refine jr_iinc (v := nI (k + 1)) (lv' := [(4, .int (nI (k + 1))), (0, .ref o), (1, .ref (a kt)), (2, .int (nI m)), (3, .int (nI wh))]) hE dX12_makeNonce_116 0 rfl (nI_1 _) (by decide) rfl ?_
      refine jr_goto (tgt := 105) hE dX12_makeNonce_119 (by decide) ?_
      refine jr_lv (lv' := [(4, .int (nI (k + 1))), (0, .ref o), (1, .ref (a kt)), (2, .int (nI m)), (3, .int (nI wh))]) [0, 1, 2, 3, 4] rfl ?_
      exact ih (k + 1) F1 v2 w2 (by omega) M2 vv2 ww2 (by rw [show List.replicate (k + 1) 0 = List.replicate k 0 ++ [0] from List.replicate_succ', ← List.append_assoc]; exact hX2) O2
  have loop7 : ∀ (r0 k : Nat) (F2 : Nat → va_E) (v1 : Nat → Int32) (w1 : Nat → Nat → Int32), k + r0 = 7 → MW G L F2 o a v1 n g w1 → (∀ z, z ≠ 57 → v1 z = v z) → (∀ z, nin6 z → w1 z = w z) → tX v1 w1 ((sha (tgb 6) ++ sha (tgb 6) ++ bl (w 67) 0 32 ++ [33] ++ bl (w 79) 0 33 ++ [32] ++ bex jx 32 ++ [1]) ++ List.replicate k 0) → mO o a F F2 → J E L F2 0 0 56 [(4, .int (nI k)), (0, .ref o), (1, .ref (a kt)), (2, .int (nI m)), (3, .int (nI wh))] [] := by
    intro r0
    induction r0 with
    | zero =>
      intro k F2 v1 w1 hk M1 vv1 ww1 hX1 O1
      refine jr_iload hE dX12_makeNonce_56 0 rfl ?_
      refine jr_bipush (v := (7 : Int32)) hE dX12_makeNonce_58 (by decide) ?_
      refine jr_icmp_ge (tgt := 74) hE dX12_makeNonce_60 (by decide) (fun c_60 => ?_) (fun c_60 => absurd (nI_le (a := 7) (by omega) (by omega)) c_60)
      refine jr_aload_n hE dX12_makeNonce_74 1 rfl ?_
      refine jr_aload_n hE dX12_makeNonce_75 1 rfl ?_
      refine jr_get hE dX12_makeNonce_76 f96 M1.ob rfl ?_
      refine jr_iload_n hE dX12_makeNonce_79 3 rfl ?_
      refine jr_iald (v := nI sz) hE dX12_makeNonce_80 (M1.I (k := 8) (N := 16) (by decide)) (vp_in_nI (by omega) (by decide)) (by rw [nI_clamp (by omega)]; exact (congrFun (ww1 8 (by decide)) m).trans hsz) ?_
      refine jr_kVv (ci := 12) (n := 1) (As := [.int (nI sz)]) (rest := []) hE dX12_makeNonce_81 (fun l => c_m_byteTo l G o a v1 n g w1 _ sz) gX12_makeNonce_X12_byteTo rfl M1.ob rfl (by decide +kernel) ⟨rfl, rfl, by decide, by decide⟩ (by decide) rfl rfl (Nat.le_of_ble_eq_true rfl) (⟨M1, hX1, by simp only [List.length_append, sha_len, bl_len, bex_len, List.length_cons, List.length_nil, List.length_replicate]; omega, by omega⟩) (fun F1 q2 => ?_)
      obtain ⟨v2, w2, M2, hv2, hw2, hX2, P2⟩ := q2
      have O2 := O1.tr P2
      have vv2 : ∀ z, z ≠ 57 → v2 z = v z := fun z hz => (hv2 z hz).trans (vv1 z hz)
      have ww2 : ∀ z, nin6 z → w2 z = w z := fun z hz => (hw2 z (jne hz 3 rfl)).trans (ww1 z hz)
      refine jr_aload_n hE dX12_makeNonce_84 1 rfl ?_
      refine jr_aload_n hE dX12_makeNonce_85 1 rfl ?_
      refine jr_get hE dX12_makeNonce_86 f100 M2.ob rfl ?_
      refine jr_bipush (v := (100 : Int32)) hE dX12_makeNonce_89 (by decide) ?_
      refine jr_iload_n hE dX12_makeNonce_91 3 rfl ?_
      refine jr_imul (z := nI (100 * m)) hE dX12_makeNonce_92 (pk_mul 100 m) ?_
      refine jr_aload_n hE dX12_makeNonce_93 1 rfl ?_
      refine jr_get hE dX12_makeNonce_94 f96 M2.ob rfl ?_
      refine jr_iload_n hE dX12_makeNonce_97 3 rfl ?_
      refine jr_iald (v := nI sz) hE dX12_makeNonce_98 (M2.I (k := 8) (N := 16) (by decide)) (vp_in_nI (by omega) (by decide)) (by rw [nI_clamp (by omega)]; exact (congrFun (ww2 8 (by decide)) m).trans hsz) ?_
      refine jr_kVv (ci := 12) (n := 3) (As := [.ref (a 9), .int (nI (100 * m)), .int (nI sz)]) (rest := []) hE dX12_makeNonce_99 (fun l => c_m_putAll l G o a v2 n g w2 _ 9 (100 * m) sz 1600) gX12_makeNonce_X12_putAll rfl M2.ob rfl (by decide +kernel) ⟨rfl, rfl, by decide, by decide⟩ (by decide) rfl rfl (Nat.le_of_ble_eq_true rfl) (⟨M2, hX2, by decide, by decide, by omega, by decide, by simp only [List.length_append, sha_len, bl_len, bex_len, List.length_cons, List.length_nil, List.length_replicate]; omega, by rw [ww2 9 (by decide)]; exact hBr⟩) (fun F3 q4 => ?_)
      obtain ⟨v3, w3, M3, hv3, hw3, hX3, P3⟩ := q4
      have O3 := O2.tr P3
      have vv3 : ∀ z, z ≠ 57 → v3 z = v z := fun z hz => (hv3 z hz).trans (vv2 z hz)
      have ww3 : ∀ z, nin6 z → w3 z = w z := fun z hz => (hw3 z (jne hz 3 rfl)).trans (ww2 z hz)
      rw [ww2 9 (by decide)] at hX3
      refine jr_iconst (v := (0 : Int32)) hE dX12_makeNonce_102 (by decide) ?_
      refine jr_istore (lv' := [(4, .int (0 : Int32)), (0, .ref o), (1, .ref (a kt)), (2, .int (nI m)), (3, .int (nI wh))]) hE dX12_makeNonce_103 (by decide) rfl ?_
      refine jr_lv (lv' := [(4, .int (0 : Int32)), (0, .ref o), (1, .ref (a kt)), (2, .int (nI m)), (3, .int (nI wh))]) [0, 1, 2, 3, 4] rfl ?_
      rw [show k = 7 by omega] at hX3
      exact loop4 4 0 F3 v3 w3 rfl M3 vv3 ww3 (by rw [List.replicate_zero, List.append_nil]; exact hX3) O3
    | succ r0 ih =>
      intro k F2 v1 w1 hk M1 vv1 ww1 hX1 O1
      refine jr_iload hE dX12_makeNonce_56 0 rfl ?_
      refine jr_bipush (v := (7 : Int32)) hE dX12_makeNonce_58 (by decide) ?_
      refine jr_icmp_ge (tgt := 74) hE dX12_makeNonce_60 (by decide) (fun c_60 => absurd c_60 (nI_ge (b := 7) (by omega) (by omega))) (fun c_60 => ?_)
      refine jr_aload_n hE dX12_makeNonce_63 1 rfl ?_
      refine jr_iconst (v := (0 : Int32)) hE dX12_makeNonce_64 (by decide) ?_
      refine jr_kVv (ci := 12) (n := 1) (As := [.int (0 : Int32)]) (rest := []) hE dX12_makeNonce_65 (fun l => c_m_byteTo l G o a v1 n g w1 _ 0) gX12_makeNonce_X12_byteTo rfl M1.ob rfl (by decide +kernel) ⟨rfl, rfl, by decide, by decide⟩ (by decide) rfl rfl (Nat.le_of_ble_eq_true rfl) (⟨M1, hX1, by simp only [List.length_append, sha_len, bl_len, bex_len, List.length_cons, List.length_nil, List.length_replicate]; omega, by omega⟩) (fun F1 q2 => ?_)
      obtain ⟨v2, w2, M2, hv2, hw2, hX2, P2⟩ := q2
      have O2 := O1.tr P2
      have vv2 : ∀ z, z ≠ 57 → v2 z = v z := fun z hz => (hv2 z hz).trans (vv1 z hz)
      have ww2 : ∀ z, nin6 z → w2 z = w z := fun z hz => (hw2 z (jne hz 3 rfl)).trans (ww1 z hz)
      refine jr_iinc (v := nI (k + 1)) (lv' := [(4, .int (nI (k + 1))), (0, .ref o), (1, .ref (a kt)), (2, .int (nI m)), (3, .int (nI wh))]) hE dX12_makeNonce_68 0 rfl (nI_1 _) (by decide) rfl ?_
      refine jr_goto (tgt := 56) hE dX12_makeNonce_71 (by decide) ?_
      refine jr_lv (lv' := [(4, .int (nI (k + 1))), (0, .ref o), (1, .ref (a kt)), (2, .int (nI m)), (3, .int (nI wh))]) [0, 1, 2, 3, 4] rfl ?_
      exact ih (k + 1) F1 v2 w2 (by omega) M2 vv2 ww2 (by rw [show List.replicate (k + 1) 0 = List.replicate k 0 ++ [0] from List.replicate_succ', ← List.append_assoc]; exact hX2) O2
  refine jr_aload_n hE dX12_makeNonce_0 0 rfl ?_
  refine jr_bipush (v := (6 : Int32)) hE dX12_makeNonce_1 (by decide) ?_
  refine jr_kVv (ci := 12) (n := 1) (As := [.int (6 : Int32)]) (rest := []) hE dX12_makeNonce_3 (fun l => c_m_begin l G o a v n g w 6) gX12_makeNonce_X12_begin rfl M0.ob rfl (by decide +kernel) ⟨rfl, rfl, by decide, by decide⟩ (by decide) rfl rfl (Nat.le_of_ble_eq_true rfl) (⟨M0, by decide, htg, hrd⟩) (fun F1 q2 => ?_)
  obtain ⟨v1, w1, M1, vv1, ww1, hX1, O1⟩ := q2
  refine jr_aload_n hE dX12_makeNonce_6 0 rfl ?_
  refine jr_aload_n hE dX12_makeNonce_7 0 rfl ?_
  refine jr_get hE dX12_makeNonce_8 f320 M1.ob rfl ?_
  refine jr_iconst (v := (0 : Int32)) hE dX12_makeNonce_11 (by decide) ?_
  refine jr_bipush (v := (32 : Int32)) hE dX12_makeNonce_12 (by decide) ?_
  refine jr_kVv (ci := 12) (n := 3) (As := [.ref (a 67), .int (0 : Int32), .int (32 : Int32)]) (rest := []) hE dX12_makeNonce_14 (fun l => c_m_putAll l G o a v1 n g w1 _ 67 0 32 32) gX12_makeNonce_X12_putAll rfl M1.ob rfl (by decide +kernel) ⟨rfl, rfl, by decide, by decide⟩ (by decide) rfl rfl (Nat.le_of_ble_eq_true rfl) (⟨M1, hX1, by decide, by decide, by omega, by decide, by simp only [List.length_append, sha_len, bl_len, bex_len, List.length_cons, List.length_nil, List.length_replicate]; omega, by rw [ww1 67 (by decide)]; exact hBm⟩) (fun F3 q4 => ?_)
  obtain ⟨v2, w2, M2, hv2, hw2, hX2, P2⟩ := q4
  have O2 := O1.tr P2
  have vv2 : ∀ z, z ≠ 57 → v2 z = v z := fun z hz => (hv2 z hz).trans (vv1 z hz)
  have ww2 : ∀ z, nin6 z → w2 z = w z := fun z hz => (hw2 z (jne hz 3 rfl)).trans (ww1 z hz)
  rw [ww1 67 (by decide)] at hX2
  refine jr_aload_n hE dX12_makeNonce_17 0 rfl ?_
  refine jr_bipush (v := (33 : Int32)) hE dX12_makeNonce_18 (by decide) ?_
  refine jr_kVv (ci := 12) (n := 1) (As := [.int (33 : Int32)]) (rest := []) hE dX12_makeNonce_20 (fun l => c_m_byteTo l G o a v2 n g w2 _ 33) gX12_makeNonce_X12_byteTo rfl M2.ob rfl (by decide +kernel) ⟨rfl, rfl, by decide, by decide⟩ (by decide) rfl rfl (Nat.le_of_ble_eq_true rfl) (⟨M2, hX2, by simp only [List.length_append, sha_len, bl_len, bex_len, List.length_cons, List.length_nil, List.length_replicate]; omega, by omega⟩) (fun F5 q6 => ?_)
  obtain ⟨v3, w3, M3, hv3, hw3, hX3, P3⟩ := q6
  have O3 := O2.tr P3
  have vv3 : ∀ z, z ≠ 57 → v3 z = v z := fun z hz => (hv3 z hz).trans (vv2 z hz)
  have ww3 : ∀ z, nin6 z → w3 z = w z := fun z hz => (hw3 z (jne hz 3 rfl)).trans (ww2 z hz)
  refine jr_aload_n hE dX12_makeNonce_23 0 rfl ?_
  refine jr_aload_n hE dX12_makeNonce_24 0 rfl ?_
  refine jr_get hE dX12_makeNonce_25 f353 M3.ob rfl ?_
  refine jr_iconst (v := (0 : Int32)) hE dX12_makeNonce_28 (by decide) ?_
  refine jr_bipush (v := (33 : Int32)) hE dX12_makeNonce_29 (by decide) ?_
  refine jr_kVv (ci := 12) (n := 3) (As := [.ref (a 79), .int (0 : Int32), .int (33 : Int32)]) (rest := []) hE dX12_makeNonce_31 (fun l => c_m_putAll l G o a v3 n g w3 _ 79 0 33 33) gX12_makeNonce_X12_putAll rfl M3.ob rfl (by decide +kernel) ⟨rfl, rfl, by decide, by decide⟩ (by decide) rfl rfl (Nat.le_of_ble_eq_true rfl) (⟨M3, hX3, by decide, by decide, by omega, by decide, by simp only [List.length_append, sha_len, bl_len, bex_len, List.length_cons, List.length_nil, List.length_replicate]; omega, by rw [ww3 79 (by decide)]; exact hBp⟩) (fun F7 q8 => ?_)
  obtain ⟨v4, w4, M4, hv4, hw4, hX4, P4⟩ := q8
  have O4 := O3.tr P4
  have vv4 : ∀ z, z ≠ 57 → v4 z = v z := fun z hz => (hv4 z hz).trans (vv3 z hz)
  have ww4 : ∀ z, nin6 z → w4 z = w z := fun z hz => (hw4 z (jne hz 3 rfl)).trans (ww3 z hz)
  rw [ww3 79 (by decide)] at hX4
  refine jr_aload_n hE dX12_makeNonce_34 0 rfl ?_
  refine jr_bipush (v := (32 : Int32)) hE dX12_makeNonce_35 (by decide) ?_
  refine jr_kVv (ci := 12) (n := 1) (As := [.int (32 : Int32)]) (rest := []) hE dX12_makeNonce_37 (fun l => c_m_byteTo l G o a v4 n g w4 _ 32) gX12_makeNonce_X12_byteTo rfl M4.ob rfl (by decide +kernel) ⟨rfl, rfl, by decide, by decide⟩ (by decide) rfl rfl (Nat.le_of_ble_eq_true rfl) (⟨M4, hX4, by simp only [List.length_append, sha_len, bl_len, bex_len, List.length_cons, List.length_nil, List.length_replicate]; omega, by omega⟩) (fun F9 q10 => ?_)
  obtain ⟨v5, w5, M5, hv5, hw5, hX5, P5⟩ := q10
  have O5 := O4.tr P5
  have vv5 : ∀ z, z ≠ 57 → v5 z = v z := fun z hz => (hv5 z hz).trans (vv4 z hz)
  have ww5 : ∀ z, nin6 z → w5 z = w z := fun z hz => (hw5 z (jne hz 3 rfl)).trans (ww4 z hz)
  refine jr_aload_n hE dX12_makeNonce_40 0 rfl ?_
  refine jr_aload_n hE dX12_makeNonce_41 0 rfl ?_
  refine jr_get hE dX12_makeNonce_42 f350 M5.ob rfl ?_
  refine jr_kVv (ci := 12) (n := 1) (As := [.ref (a 77)]) (rest := []) hE dX12_makeNonce_45 (fun l => c_m_putNumber l G o a v5 n g w5 _ 77 jx) gX12_makeNonce_X12_putNumber rfl M5.ob rfl (by decide +kernel) ⟨rfl, rfl, by decide, by decide⟩ (by decide) rfl rfl (Nat.le_of_ble_eq_true rfl) (⟨M5, hX5, by decide, hjx, by simp only [List.length_append, sha_len, bl_len, bex_len, List.length_cons, List.length_nil, List.length_replicate]; omega⟩) (fun F11 q12 => ?_)
  obtain ⟨v6, w6, M6, hv6, hw6, hX6, P6⟩ := q12
  have O6 := O5.tr P6
  have vv6 : ∀ z, z ≠ 57 → v6 z = v z := fun z hz => (hv6 z hz).trans (vv5 z hz)
  have ww6 : ∀ z, nin6 z → w6 z = w z := fun z hz => (hw6 z (jne hz 3 rfl)).trans (ww5 z hz)
  refine jr_aload_n hE dX12_makeNonce_48 0 rfl ?_
  refine jr_iconst (v := (1 : Int32)) hE dX12_makeNonce_49 (by decide) ?_
  refine jr_kVv (ci := 12) (n := 1) (As := [.int (1 : Int32)]) (rest := []) hE dX12_makeNonce_50 (fun l => c_m_byteTo l G o a v6 n g w6 _ 1) gX12_makeNonce_X12_byteTo rfl M6.ob rfl (by decide +kernel) ⟨rfl, rfl, by decide, by decide⟩ (by decide) rfl rfl (Nat.le_of_ble_eq_true rfl) (⟨M6, hX6, by simp only [List.length_append, sha_len, bl_len, bex_len, List.length_cons, List.length_nil, List.length_replicate]; omega, by omega⟩) (fun F13 q14 => ?_)
  obtain ⟨v7, w7, M7, hv7, hw7, hX7, P7⟩ := q14
  have O7 := O6.tr P7
  have vv7 : ∀ z, z ≠ 57 → v7 z = v z := fun z hz => (hv7 z hz).trans (vv6 z hz)
  have ww7 : ∀ z, nin6 z → w7 z = w z := fun z hz => (hw7 z (jne hz 3 rfl)).trans (ww6 z hz)
  refine jr_iconst (v := (0 : Int32)) hE dX12_makeNonce_53 (by decide) ?_
  refine jr_istore (lv' := [(4, .int (0 : Int32)), (0, .ref o), (1, .ref (a kt)), (2, .int (nI m)), (3, .int (nI wh))]) hE dX12_makeNonce_54 (by decide) rfl ?_
  refine jr_lv (lv' := [(4, .int (0 : Int32)), (0, .ref o), (1, .ref (a kt)), (2, .int (nI m)), (3, .int (nI wh))]) [0, 1, 2, 3, 4] rfl ?_
  exact loop7 7 0 F13 v7 w7 rfl M7 vv7 ww7 (by rw [List.replicate_zero, List.append_nil]; exact hX7) O7

