/-! THE REFERENCE'S hash, noSigners -/
noncomputable def hPre (t : Int32) : List Nat := if t.toInt < 0 then [] else sha (tgb (rn t)) ++ sha (tgb (rn t))
noncomputable def stHash (s : ST) (r t q : Int32) : Int32 × ST := if rowP r ∧ (-1 ≤ t.toInt ∧ t.toInt ≤ 7) ∧ rowP q then (32, setR s (rn r) (sha (hPre t ++ s.1 (rn q)))) else (-1, s)
def stNo (s : ST) : Int32 × ST := (nI s.2.2.2.1.length, (s.1, (s.2.1, s.2.2.1, [], fun _ => none, fun _ => none, none)))

set_option maxHeartbeats 4000000 in
set_option maxRecDepth 100000 in
theorem c_m_hash (l : Launch) (G : Nat → ClassId) (o : Nat) (a : Nat → Nat) (v : Nat → Int32) (n : Nat → Option Nat) (g : Nat → Nat → Int64) (w : Nat → Nat → Int32) (s : ST) (r t m : Int32) : jKi l yX12_hash wsX12_hash ({ frames := 4, cells := 0, slots := 0, locals := 100 }) G [.ref o, .int r, .int t, .int m] (fun L F => mI G L F o a v n g w s) (fun L F q F1 => ∃ v' n' g' w', mI G L F1 o a v' n' g' w' (stHash s r t m).2 ∧ q = (stHash s r t m).1 ∧ mO o a F F1) := by
  refine jm_ki (cc := cX12_hash) (maxL := 5) (rt := .int) (by decide) rfl (Nat.le_of_ble_eq_true rfl) ?_
  intro E L F hE hR hpre
  have hE : jOk E G _ cX12_hash 5 RX12 wsX12_hash := hE

  have f450 : jFl RX12 wsX12_hash 450 12 57 := ⟨rfl, by decide, by decide +kernel, by decide +kernel⟩
  have f100 : jFl RX12 wsX12_hash 100 12 9 := ⟨rfl, by decide, by decide +kernel, by decide +kernel⟩
  have f96 : jFl RX12 wsX12_hash 96 12 8 := ⟨rfl, by decide, by decide +kernel, by decide +kernel⟩
  have f302 : jFl RX12 wsX12_hash 302 12 61 := ⟨rfl, by decide, by decide +kernel, by decide +kernel⟩
  have f293 : jFl RX12 wsX12_hash 293 12 58 := ⟨rfl, by decide, by decide +kernel, by decide +kernel⟩
  have hI := hpre
  obtain ⟨M0, hK, hC, htg, hrd, hRW, hpI⟩ := id hpre
  have main : ∀ (k p : Nat), k < 16 → p < 16 → w 8 p = nI (s.1 p).length → bl (w 9) (100 * p) (s.1 p).length = s.1 p → (s.1 p).length ≤ 100 → (∀ b, b ∈ s.1 p → b < 256) → ∀ (pre : List Nat), pre.length ≤ 64 → ∀ (t : Int32), stHash s (nI k) t (nI p) = (32, setR s k (sha (pre ++ s.1 p))) → ∀ (v1 : Nat → Int32) (w1 : Nat → Nat → Int32), (∀ z, z ≠ 57 → v1 z = v z) → (∀ z, nin6 z → w1 z = w z) → ∀ (F1 : Nat → va_E), MW G L F1 o a v1 n g w1 → tX v1 w1 pre → mO o a F F1 → (∀ (F1 : Nat → va_E) (v_1 : Int32) (pc : Nat) (lv : List (Nat × Value)), decode cX12_hash pc = .ok (.ireturn, 1) → narrow .int (.int v_1) = .int v_1 → (∃ v' n' g' w', mI G L F1 o a v' n' g' w' (stHash s (nI k) t (nI p)).2 ∧ v_1 = (stHash s (nI k) t (nI p)).1 ∧ mO o a F F1) → J E L F1 0 0 pc lv [.int v_1]) → J E L F1 0 0 47 [(0, .ref o), (1, .int (nI k)), (2, .int t), (3, .int (nI p))] [] := by
    intro k p hk hp z1p z2p z3p z4p pre hpl t he v1 w1 hv1 hw1 F1 M1 hX1 O1 hR
    have h9 : w1 9 = w 9 := hw1 9 (by decide)
    have hBp : bB (w 9) (100 * p) (s.1 p).length := fun i hi => by
      have e := bl_get (w 9) (100 * p) (s.1 p).length i hi
      rw [z2p] at e
      rw [← e]
      exact gd_lt z4p i
    have loop : ∀ (v3 : Nat → Int32) (w3 : Nat → Nat → Int32), (∀ z, z ≠ 57 → v3 z = v z) → (∀ z, nin6 z → w3 z = w z) → bl (w3 58) 0 32 = sha (pre ++ s.1 p) → ∀ (r0 i : Nat) (F4 : Nat → va_E) (f : Nat → Int32), i + r0 = 32 → MW G L F4 o a v3 n g (uz w3 61 f) → (∀ j, j < i → f j = w3 58 j) → mO o a F F4 → J E L F4 0 0 72 [(4, .int (nI i)), (0, .ref o), (1, .int (nI k)), (2, .int t), (3, .int (nI p))] [] := by
      intro v3 w3 hv3 hw3 hs3 r0
      induction r0 with
      | zero =>
        intro i F4 f hi H4 hf O4
        refine jr_iload hE dX12_hash_72 0 rfl ?_
        refine jr_bipush (v := (32 : Int32)) hE dX12_hash_74 (by decide) ?_
        refine jr_icmp_ge (tgt := 99) hE dX12_hash_76 (by decide) (fun c_76 => ?_) (fun c_76 => absurd (nI_le (a := 32) (by omega) (by omega)) c_76)
        refine jr_aload_n hE dX12_hash_99 1 rfl ?_
        refine jr_iload_n hE dX12_hash_100 2 rfl ?_
        refine jr_bipush (v := (32 : Int32)) hE dX12_hash_101 (by decide) ?_
        refine jr_kVi (ci := 12) (n := 2) (As := [.int (nI k), .int (32 : Int32)]) (rest := []) hE dX12_hash_103 (fun l => c_m_gives l G o a v3 n g (uz w3 61 f) k 32) gX12_hash_X12_gives rfl H4.ob rfl (by decide +kernel) ⟨rfl, rfl, by decide, by decide⟩ (by decide) rfl rfl (Nat.le_of_ble_eq_true rfl) (⟨H4, hk, by decide⟩) (fun r3 F1 q2 => ?_)
        obtain ⟨w5, M5, h59, h58, hw5, rfl, O5⟩ := q2
        have hfl : bl f 0 32 = sha (pre ++ s.1 p) := by
          rw [← hs3]
          exact bl_cg (fun i hi => by rw [Nat.zero_add]; exact hf i (by omega))
        have h59 : w5 9 = wrt (w 9) (100 * k) (sha (pre ++ s.1 p)) := by
          rw [h59, show (uz w3 61 f) 61 = f from uz_s _ _ _, hfl]
          show wrt (w3 9) _ _ = _
          rw [hw3 9 (by decide)]
        have h58 : w5 8 = upd (w 8) k (nI 32) := by
          rw [h58]
          show upd (w3 8) _ _ = _
          rw [hw3 8 (by decide)]
        exact hR F1 _ _ _ dX12_hash_106 rfl ⟨v3, n, g, w5, by
          rw [he]
          exact hI.row M5 (fun z hz => hv3 z (fun q => by subst q; exact absurd hz (by decide))) (fun _ _ => rfl) (fun z hz => by
            have a8 : z ≠ 8 := fun q => by subst q; exact absurd hz (by decide)
            have a9 : z ≠ 9 := fun q => by subst q; exact absurd hz (by decide)
            have a61 : z ≠ 61 := fun q => by subst q; exact absurd hz (by decide)
            rw [hw5 z a8 a9, uz_n _ _ a61]
            exact hw3 z (fun q => by
              simp only [List.mem_cons, List.not_mem_nil, or_false] at q
              rcases q with q | q | q | q | q | q <;> (subst q; exact absurd hz (by decide)))) (by rw [h58, sha_len]) (fun j hj => by
            rw [h59]
            exact wrt_out _ _ _ (by rw [sha_len]; omega)) (by
            rw [h59]
            exact bl_wrt _ _ _ (fun b hb => Nat.lt_trans (sha_lt _ b hb) (by decide))) (by rw [sha_len]; decide) (sha_lt _), by rw [he]; rfl, O4.tr O5⟩
      | succ r0 ih =>
        intro i F4 f hi H4 hf O4
        refine jr_iload hE dX12_hash_72 0 rfl ?_
        refine jr_bipush (v := (32 : Int32)) hE dX12_hash_74 (by decide) ?_
        refine jr_icmp_ge (tgt := 99) hE dX12_hash_76 (by decide) (fun c_76 => absurd c_76 (nI_ge (b := 32) (by omega) (by omega))) (fun c_76 => ?_)
        refine jr_aload_n hE dX12_hash_79 1 rfl ?_
        refine jr_get hE dX12_hash_80 f302 H4.ob rfl ?_
        refine jr_iload hE dX12_hash_83 0 rfl ?_
        refine jr_aload_n hE dX12_hash_85 1 rfl ?_
        refine jr_get hE dX12_hash_86 f293 H4.ob rfl ?_
        refine jr_iload hE dX12_hash_89 0 rfl ?_
        refine jr_iald (v := w3 58 i) hE dX12_hash_91 (H4.I (k := 58) (N := 32) (by decide)) (vp_in_nI (by omega) (by decide)) (by rw [nI_clamp (by omega)]; rfl) ?_
        refine jr_iast hE dX12_hash_92 (H4.I (k := 61) (N := 66) (by decide)) (vp_in_nI (by omega) (by decide)) (fun F1 g2 u3 => ?_)
        have H4 := H4.setI (k := 61) (N := 66) (by decide) g2 u3
        have O5 := O4.st (k := 61) (by decide) (by decide) u3
        rw [uz_uz, uz_s] at H4
        refine jr_iinc (v := nI (i + 1)) (lv' := [(4, .int (nI (i + 1))), (0, .ref o), (1, .int (nI k)), (2, .int t), (3, .int (nI p))]) hE dX12_hash_93 0 rfl (nI_1 _) (by decide) rfl ?_
        refine jr_goto (tgt := 72) hE dX12_hash_96 (by decide) ?_
        refine jr_lv (lv' := [(4, .int (nI (i + 1))), (0, .ref o), (1, .int (nI k)), (2, .int t), (3, .int (nI p))]) [0, 1, 2, 3, 4] rfl ?_
        exact ih (i + 1) F1 _ (by omega) H4 (fun t ht => by
          rw [nI_clamp (by omega)]
          show (if t = i then _ else f t) = _
          by_cases e : t = i
          · rw [if_pos e, e]
          · rw [if_neg e]; exact hf t (by omega)) O5
    refine jr_aload_n hE dX12_hash_47 0 rfl ?_
    refine jr_aload_n hE dX12_hash_48 0 rfl ?_
    refine jr_get hE dX12_hash_49 f100 M1.ob rfl ?_
    refine jr_bipush (v := (100 : Int32)) hE dX12_hash_52 (by decide) ?_
    refine jr_iload_n hE dX12_hash_54 3 rfl ?_
    refine jr_imul (z := nI (100 * p)) hE dX12_hash_55 (pk_mul 100 p) ?_
    refine jr_aload_n hE dX12_hash_56 0 rfl ?_
    refine jr_get hE dX12_hash_57 f96 M1.ob rfl ?_
    refine jr_iload_n hE dX12_hash_60 3 rfl ?_
    refine jr_iald (v := nI (s.1 p).length) hE dX12_hash_61 (M1.I (k := 8) (N := 16) (by decide)) (vp_in_nI (by omega) (by decide)) (by rw [nI_clamp (by omega), hw1 8 (by decide)]; exact z1p) ?_
    refine jr_kVv (ci := 12) (n := 3) (As := [.ref (a 9), .int (nI (100 * p)), .int (nI (s.1 p).length)]) (rest := []) hE dX12_hash_62 (fun l => c_m_putAll l G o a v1 n g w1 pre 9 (100 * p) (s.1 p).length 1600) gX12_hash_X12_putAll rfl M1.ob rfl (by decide +kernel) ⟨rfl, rfl, by decide, by decide⟩ (by decide) rfl rfl (Nat.le_of_ble_eq_true rfl) (⟨M1, hX1, by decide, by decide, by omega, by decide, by omega, by rw [h9]; exact hBp⟩) (fun F1 q2 => ?_)
    obtain ⟨v2, w2, M2, hv2, hw2, hX2, O2⟩ := q2
    rw [h9, z2p] at hX2
    have hrd2 : rdOK w2 := fun t ht => by rw [hw2 52 (by decide), hw1 52 (by decide)]; exact hrd t ht
    refine jr_aload_n hE dX12_hash_65 0 rfl ?_
    refine jr_kVv (ci := 12) (n := 0) (As := []) (rest := []) hE dX12_hash_66 (fun l => c_m_end l G o a v2 n g w2 _) gX12_hash_X12_end rfl M2.ob rfl (by decide +kernel) ⟨rfl, rfl, by decide, by decide⟩ (by decide) rfl rfl (Nat.le_of_ble_eq_true rfl) (⟨M2, hX2, hrd2⟩) (fun F3 q4 => ?_)
    obtain ⟨w3, M3, hw3, hs3, O3⟩ := q4
    refine jr_iconst (v := (0 : Int32)) hE dX12_hash_69 (by decide) ?_
    refine jr_istore (lv' := [(4, .int (0 : Int32)), (0, .ref o), (1, .int (nI k)), (2, .int t), (3, .int (nI p))]) hE dX12_hash_70 (by decide) rfl ?_
    refine jr_lv (lv' := [(4, .int (0 : Int32)), (0, .ref o), (1, .int (nI k)), (2, .int t), (3, .int (nI p))]) [0, 1, 2, 3, 4] rfl ?_
    exact loop v2 w3 (fun z hz => (hv2 z hz).trans (hv1 z hz)) (fun z hz => (hw3 z (jnsub (V := [53, 54, 55, 58]) hz [0, 1, 2, 4] rfl)).trans ((hw2 z (jne hz 3 rfl)).trans (hw1 z hz))) hs3 32 0 F3 (w3 61) rfl (by rw [uz_id]; exact M3) (fun i hi => absurd hi (Nat.not_lt_zero i)) (O1.tr (O2.tr O3))
  refine jr_iload_n hE dX12_hash_0 1 rfl ?_
  refine jr_kSi (n := 1) (As := [.int r]) (rest := []) hE dX12_hash_1 (fun l => c_m_isRow l G r) gX12_hash_X12_isRow rfl (by decide +kernel) ⟨rfl, rfl, by decide, by decide⟩ (by decide) rfl rfl (Nat.le_of_ble_eq_true rfl) (trivial) (fun r3 F1 q2 => ?_)
  obtain ⟨eq2, rq2⟩ := q2
  subst eq2 rq2
  refine jr_if_eq (tgt := 28) hE dX12_hash_4 (by decide) (fun c4 => ?_) (fun c4 => ?_)
  · refine jr_iconst (v := (-1 : Int32)) hE dX12_hash_28 (by decide) ?_
    have e : stHash s r t m = (-1, s) := by
      unfold stHash
      rw [if_neg (fun h => absurd (b2i_t h.1) (by rw [c4]; decide))]
    exact hR F _ _ _ dX12_hash_29 rfl ⟨v, n, g, w, by rw [e]; exact hI, by rw [e], mO.rf o a F⟩
  · have hrk : rowP r := b2i_1 c4
    obtain ⟨k, hk, rfl⟩ := rowP_nI hrk
    obtain ⟨z1k, z2k, z3k, z4k⟩ := hRW k hk
    have hrnk := nI_rn hk
    refine jr_iload_n hE dX12_hash_7 2 rfl ?_
    refine jr_i2l hE dX12_hash_8 rfl ?_
    refine jr_ldc2 (v := (-1 : Int64)) hE dX12_hash_9 (by decide +kernel) ?_
    refine jr_ldc2 (v := (7 : Int64)) hE dX12_hash_12 (by decide +kernel) ?_
    refine jr_kSi (n := 3) (As := [.long t.toInt64, .long (-1 : Int64), .long (7 : Int64)]) (rest := []) hE dX12_hash_15 (fun l => c_m_in l G t.toInt64 (-1) 7) gX12_hash_X12_in rfl (by decide +kernel) ⟨rfl, rfl, by decide, by decide⟩ (by decide) rfl rfl (Nat.le_of_ble_eq_true rfl) (trivial) (fun r6 F4 q5 => ?_)
    obtain ⟨eq5, rq5⟩ := q5
    subst eq5 rq5
    rw [show b2i ((-1 : Int64).toInt ≤ t.toInt64.toInt ∧ t.toInt64.toInt ≤ (7 : Int64).toInt) = b2i (-1 ≤ t.toInt ∧ t.toInt ≤ 7) by rw [i2l_T]; rfl]
    refine jr_if_eq (tgt := 28) hE dX12_hash_18 (by decide) (fun c18 => ?_) (fun c18 => ?_)
    · refine jr_iconst (v := (-1 : Int32)) hE dX12_hash_28 (by decide) ?_
      have e : stHash s (nI k) t m = (-1, s) := by
        unfold stHash
        rw [if_neg (fun h => absurd (b2i_t h.2.1) (by rw [c18]; decide))]
      exact hR F _ _ _ dX12_hash_29 rfl ⟨v, n, g, w, by rw [e]; exact hI, by rw [e], mO.rf o a F⟩
    · refine jr_iload_n hE dX12_hash_21 3 rfl ?_
      refine jr_kSi (n := 1) (As := [.int m]) (rest := []) hE dX12_hash_22 (fun l => c_m_isRow l G m) gX12_hash_X12_isRow rfl (by decide +kernel) ⟨rfl, rfl, by decide, by decide⟩ (by decide) rfl rfl (Nat.le_of_ble_eq_true rfl) (trivial) (fun r9 F7 q8 => ?_)
      obtain ⟨eq8, rq8⟩ := q8
      subst eq8 rq8
      refine jr_if_ne (tgt := 30) hE dX12_hash_25 (by decide) (fun c25 => ?_) (fun c25 => ?_)
      · have hrp : rowP m := b2i_1 c25
        obtain ⟨p, hp, rfl⟩ := rowP_nI hrp
        obtain ⟨z1p, z2p, z3p, z4p⟩ := hRW p hp
        have hrnp := nI_rn hp
        have he : stHash s (nI k) t (nI p) = (32, setR s k (sha (hPre t ++ s.1 p))) := by
          unfold stHash
          rw [if_pos ⟨nI_rowP hk, b2i_1 c18, nI_rowP hp⟩, hrnk, hrnp]
        refine jr_iload_n hE dX12_hash_30 2 rfl ?_
        refine jr_if_ge (tgt := 42) hE dX12_hash_31 (by decide) (fun c31 => ?_) (fun c31 => ?_)
        · have hc18 := b2i_1 c18
          have ht0 : 0 ≤ t.toInt := by have := Int32.le_iff_toInt_le.mp c31; rwa [show (0 : Int32).toInt = 0 by decide] at this
          obtain ⟨tt, htt, hte⟩ := sm_nI (x := t) (m := 7) ht0 hc18.2 (by decide)
          subst hte
          have htT : (nI tt).toInt = tt := nI_toInt (by omega)
          have hpe : hPre (nI tt) = sha (tgb tt) ++ sha (tgb tt) := by
            unfold hPre
            rw [if_neg (by omega), show rn (nI tt) = tt by unfold rn; rw [htT]; omega]
          refine jr_aload_n hE dX12_hash_42 0 rfl ?_
          refine jr_iload_n hE dX12_hash_43 2 rfl ?_
          refine jr_kVv (ci := 12) (n := 1) (As := [.int (nI tt)]) (rest := []) hE dX12_hash_44 (fun l => c_m_begin l G o a v n g w tt) gX12_hash_X12_begin rfl M0.ob rfl (by decide +kernel) ⟨rfl, rfl, by decide, by decide⟩ (by decide) rfl rfl (Nat.le_of_ble_eq_true rfl) (⟨M0, by omega, htg, hrd⟩) (fun F10 q11 => ?_)
          obtain ⟨v1, w1, M1, hv1, hw1, hX1, O1⟩ := q11
          refine jr_lv (lv' := [(0, .ref o), (1, .int (nI k)), (2, .int (nI tt)), (3, .int (nI p))]) [0, 1, 2, 3] rfl ?_
          exact main k p hk hp z1p z2p z3p z4p (hPre (nI tt)) (by rw [hpe, List.length_append, sha_len]; decide) (nI tt) he v1 w1 hv1 hw1 F10 M1 (by rw [hpe]; exact hX1) O1 hR
        · refine jr_aload_n hE dX12_hash_34 0 rfl ?_
          refine jr_iconst (v := (0 : Int32)) hE dX12_hash_35 (by decide) ?_
          refine jr_put (ty := .int) hE dX12_hash_36 f450 M0.ob rfl (by decide +kernel) rfl rfl (Nat.le_of_ble_eq_true rfl) (fun F12 g13 u14 => ?_)
          have H15 := M0.setV (v' := uz v 57 (0 : Int32)) g13 u14
          have O16 := (mO.rf o a F).so u14
          refine jr_goto (tgt := 47) hE dX12_hash_39 (by decide) ?_
          refine jr_lv (lv' := [(0, .ref o), (1, .int (nI k)), (2, .int t), (3, .int (nI p))]) [0, 1, 2, 3] rfl ?_
          have hpe : hPre t = [] := if_pos (by
            refine Classical.byContradiction (fun h => c31 (Int32.le_iff_toInt_le.mpr ?_))
            rw [show (0 : Int32).toInt = 0 by decide]
            omega)
          exact main k p hk hp z1p z2p z3p z4p (hPre t) (by rw [hpe]; exact Nat.zero_le _) t he (uz v 57 0) w (fun z hz => uz_n _ _ hz) (fun _ _ => rfl) F12 H15 (by rw [hpe]; exact ⟨uz_s _ _ _, rfl, Nat.zero_le _, fun b hb => absurd hb (List.not_mem_nil)⟩) O16 hR
      · refine jr_iconst (v := (-1 : Int32)) hE dX12_hash_28 (by decide) ?_
        have e : stHash s (nI k) t m = (-1, s) := by
          unfold stHash
          rw [if_neg (fun h => absurd (b2i_t h.2.2) (by rw [c25]; decide))]
        exact hR F _ _ _ dX12_hash_29 rfl ⟨v, n, g, w, by rw [e]; exact hI, by rw [e], mO.rf o a F⟩

set_option maxHeartbeats 4000000 in
set_option maxRecDepth 100000 in
theorem c_m_noSigners (l : Launch) (G : Nat → ClassId) (o : Nat) (a : Nat → Nat) (v : Nat → Int32) (n : Nat → Option Nat) (g : Nat → Nat → Int64) (w : Nat → Nat → Int32) (s : ST) : jKi l yX12_noSigners wsX12_noSigners ({ frames := 1, cells := 0, slots := 0, locals := 22 }) G [.ref o] (fun L F => mI G L F o a v n g w s) (fun L F q F1 => ∃ v' n' g' w', mI G L F1 o a v' n' g' w' (stNo s).2 ∧ q = (stNo s).1 ∧ mO o a F F1) := by
  refine jm_ki (cc := cX12_noSigners) (maxL := 2) (rt := .int) (by decide) rfl (Nat.le_of_ble_eq_true rfl) ?_
  intro E L F hE hR hpre
  have hE : jOk E G _ cX12_noSigners 2 RX12 wsX12_noSigners := hE
  have hI := hpre
  obtain ⟨M0, hK, hC, htg, hrd, hRW, hpI⟩ := id hpre
  have f533 : jFl RX12 wsX12_noSigners 533 12 16 := ⟨rfl, by decide, by decide +kernel, by decide +kernel⟩
  refine jr_aload_n hE dX12_noSigners_0 0 rfl ?_
  refine jr_get hE dX12_noSigners_1 f533 M0.ob rfl ?_
  rw [hpI.2.2.1.1]
  refine jr_istore_n (lv' := [(1, .int (nI s.2.2.2.1.length)), (0, .ref o)]) hE dX12_noSigners_4 (by decide) rfl ?_
  refine jr_aload_n hE dX12_noSigners_5 1 rfl ?_
  refine jr_iconst (v := (1 : Int32)) hE dX12_noSigners_6 (by decide) ?_
  refine jr_kVv (ci := 12) (n := 1) (As := [.int (1 : Int32)]) (rest := []) hE dX12_noSigners_7 (fun l => c_m_forget l G o a v n g w true) gX12_noSigners_X12_forget rfl M0.ob rfl (by decide +kernel) ⟨rfl, rfl, by decide, by decide⟩ (by decide) rfl rfl (Nat.le_of_ble_eq_true rfl) (M0) (fun F1 q2 => ?_)
  obtain ⟨v1, w1, M1, h24, h16, hv1, hz1, hw1, O1⟩ := q2
  refine jr_iload_n hE dX12_noSigners_10 0 rfl ?_
  obtain ⟨hen, hwk, hsg, hnc, htd, hse⟩ := hpI
  exact hR F1 _ _ _ dX12_noSigners_11 rfl ⟨v1, n, g, w1, ⟨M1, hK, hC, ⟨fun i hi => by rw [hw1 50 (by decide) (by decide)]; exact htg.1 i hi, fun i hi => by rw [hw1 51 (by decide) (by decide)]; exact htg.2 i hi⟩, fun i hi => by rw [hw1 52 (by decide) (by decide)]; exact hrd i hi, fun r hr => by
    rw [hw1 8 (by decide) (by decide), hw1 9 (by decide) (by decide)]
    exact hRW r hr, ⟨by
      unfold enI at *
      rw [hv1 10 (by decide) (by decide), hw1 11 (by decide) (by decide), hw1 12 (by decide) (by decide), hw1 13 (by decide) (by decide), hw1 14 (by decide) (by decide)]
      exact hen, by rw [hv1 31 (by decide) (by decide)]; exact hwk, ⟨by rw [h16]; rfl, Nat.zero_le _, fun i hi => absurd hi (Nat.not_lt_zero i), fun j hj => absurd hj (Nat.not_lt_zero j)⟩, fun j hj => ⟨fun _ => rfl, (hz1 j hj).1⟩, fun j hj => ⟨fun _ => rfl, (hz1 j hj).2⟩, h24⟩⟩, rfl, O1⟩

