/-! THE REFERENCE'S weights of signers; secrets turned by digests -/
theorem jr_zast {E : jE} {G : Nat → ClassId} {rm : Room} {cc : ByteArray} {nL cs ss pc : Nat} {own : String} {Ts : List Cond} {L : List Nat} {F : Nat → va_E} {lv : List (Nat × Value)} {rest : List Value} {a n : Nat} {f : Nat → Int32} {i : Int32} {x : Int32} (hE : jOk E G rm cc nL own Ts) (hdg : decode cc pc = .ok (.bastore, 1)) (ha : jF L F a (.inl (G 3, n, .inl f))) (hin : vp_in i n) (k : ∀ F1 : Nat → va_E, jF L F1 a (.inl (G 3, n, .inl (upd f i.toNatClampNeg (vp_nar .boolean x)))) → (∀ x, x ≠ a → F1 x = F x) → J E L F1 cs ss (pc + 1) lv rest) : J E L F cs ss pc lv (.int x :: .int i :: .ref a :: rest) := by
  obtain ⟨p, l, e, R, s, m, args, below, meth, c, Q, D, A, nL0⟩ := E
  obtain ⟨rfl, rfl, hx, hb, hml, hown, hts, hK, hT, hA, hlk⟩ := hE
  obtain ⟨q0, hq0⟩ := ha.at
  refine fun H locs ls hP hD hS hl => va_zast hx hb hK hP hD hS q0 3 hq0 rfl hin hdg (fun H1 locs1 hP1 hD1 hS1 => ?_)
  rw [jpl_set hD ha hq0] at hP1
  exact k (va_up F a (.inl (G 3, n, .inl (upd f i.toNatClampNeg (vp_nar .boolean x))))) ⟨ha.1, va_up_self _ _ _⟩ (fun x hx => va_up_ne _ _ hx) H1 locs1 ls hP1 (jD_to hD (fun a h => jD_in hD h)) hS1 hl
theorem bl_eq {f : Nat → Int32} {s t n : Nat} : (∀ k, k < n → f (s + k) = f (t + k)) ↔ bl f s n = bl f t n := by
  constructor
  · intro h
    unfold bl
    apply List.map_congr_left
    intro k hk
    unfold bt
    rw [h k (List.mem_range.mp hk)]
  · intro h k hk
    have h1 := bl_get f s n k hk
    rw [h, bl_get f t n k hk] at h1
    rw [bt_nI f (s + k), bt_nI f (t + k), h1]
/-- the second signer's place: the first one that is not like the first of all -/
def isSec (K : Nat → List Nat) (n s : Nat) : Prop := 1 ≤ s ∧ s < n ∧ (∀ t, 1 ≤ t → t < s → K t = K 0) ∧ K s ≠ K 0
noncomputable def wgt (K : Nat → List Nat) (n j : Nat) (V : Nat) : Nat := @ite _ (∃ s, isSec K n s ∧ K s = K j) (Classical.propDecidable _) 1 V
theorem isSec.u {K : Nat → List Nat} {n s s' : Nat} (h : isSec K n s) (h' : isSec K n s') : s = s' := by
  rcases Nat.lt_trichotomy s s' with q | q | q
  · exact absurd (h'.2.2.1 s h.1 q) h.2.2.2
  · exact q
  · exact absurd (h.2.2.1 s' h'.1 q) h'.2.2.2
theorem wgt_1 {K : Nat → List Nat} {n j s V : Nat} (h : isSec K n s) (e : K s = K j) : wgt K n j V = 1 := if_pos ⟨s, h, e⟩
theorem wgt_v {K : Nat → List Nat} {n j V : Nat} (h : ∀ s, isSec K n s → K s ≠ K j) : wgt K n j V = V := if_neg (fun ⟨s, h1, h2⟩ => h s h1 h2)

set_option maxHeartbeats 4000000 in
set_option maxRecDepth 100000 in
theorem c_m_areLike (l : Launch) (G : Nat → ClassId) (o : Nat) (a : Nat → Nat) (v : Nat → Int32) (n : Nat → Option Nat) (g : Nat → Nat → Int64) (w : Nat → Nat → Int32) (i j : Nat) : jKi l yX12_areLike wsX12_areLike ({ frames := 0, cells := 0, slots := 0, locals := 0 }) G [.ref o, .int (nI i), .int (nI j)] (fun L F => MW G L F o a v n g w ∧ i < 4 ∧ j < 4) (fun L F r F1 => F = F1 ∧ r = b2i (bl (w 17) (33 * i) 33 = bl (w 17) (33 * j) 33)) := by
  refine jm_ki (cc := cX12_areLike) (maxL := 5) (rt := .boolean) (by decide) rfl (Nat.le_of_ble_eq_true rfl) ?_
  intro E L F hE hR hpre
  have hE : jOk E G _ cX12_areLike 5 RX12 wsX12_areLike := hE

  have f118 : jFl RX12 wsX12_areLike 118 12 17 := ⟨rfl, by decide, by decide +kernel, by decide +kernel⟩
  obtain ⟨M0, hi, hj⟩ := hpre
  have loop : ∀ (r0 k : Nat) (b : Int32), k + r0 = 33 → b = b2i (∀ t, t < k → w 17 (33 * i + t) = w 17 (33 * j + t)) → J E L F 0 0 5 [(4, .int (nI k)), (3, .int b), (0, .ref o), (1, .int (nI i)), (2, .int (nI j))] [] := by
    intro r0
    induction r0 with
    | zero =>
      intro k b hk hb
      refine jr_iload hE dX12_areLike_5 0 rfl ?_
      refine jr_bipush (v := (33 : Int32)) hE dX12_areLike_7 (by decide) ?_
      refine jr_icmp_ge (tgt := 55) hE dX12_areLike_9 (by decide) (fun c_9 => ?_) (fun c_9 => absurd (nI_le (a := 33) (by omega) (by omega)) c_9)
      refine jr_iload_n hE dX12_areLike_55 1 rfl ?_
      exact hR F b _ _ dX12_areLike_56 (by rw [hb]; exact b2i_z _) ⟨rfl, by
        rw [hb, show k = 33 by omega]
        by_cases q : ∀ k, k < 33 → w 17 (33 * i + k) = w 17 (33 * j + k)
        · rw [b2i_t q, b2i_t (bl_eq.mp q)]
        · rw [b2i_f q, b2i_f (fun e => q (bl_eq.mpr e))]⟩
    | succ r0 ih =>
      intro k b hk hb
      refine jr_iload hE dX12_areLike_5 0 rfl ?_
      refine jr_bipush (v := (33 : Int32)) hE dX12_areLike_7 (by decide) ?_
      refine jr_icmp_ge (tgt := 55) hE dX12_areLike_9 (by decide) (fun c_9 => absurd c_9 (nI_ge (b := 33) (by omega) (by omega))) (fun c_9 => ?_)
      refine jr_iload_n hE dX12_areLike_12 1 rfl ?_
      refine jr_if_eq (tgt := 47) hE dX12_areLike_13 (by decide) (fun c13 => ?_) (fun c13 => ?_)
      · refine jr_iconst (v := (0 : Int32)) hE dX12_areLike_47 (by decide) ?_
        refine jr_istore_n (lv' := [(3, .int (0 : Int32)), (4, .int (nI k)), (0, .ref o), (1, .int (nI i)), (2, .int (nI j))]) hE dX12_areLike_48 (by decide) rfl ?_
        refine jr_iinc (v := nI (k + 1)) (lv' := [(4, .int (nI (k + 1))), (3, .int (0 : Int32)), (0, .ref o), (1, .int (nI i)), (2, .int (nI j))]) hE dX12_areLike_49 1 rfl (nI_1 _) (by decide) rfl ?_
        refine jr_goto (tgt := 5) hE dX12_areLike_52 (by decide) ?_
        refine jr_lv (lv' := [(4, .int (nI (k + 1))), (3, .int (0 : Int32)), (0, .ref o), (1, .int (nI i)), (2, .int (nI j))]) [0, 1, 2, 3, 4] rfl ?_
        exact ih (k + 1) 0 (by omega) ((b2i_f (fun q => by
          rw [b2i_t (fun k hk => q k (by omega))] at hb
          rw [hb] at c13
          exact absurd c13 (by decide))).symm)
      · refine jr_aload_n hE dX12_areLike_16 2 rfl ?_
        refine jr_get hE dX12_areLike_17 f118 M0.ob rfl ?_
        refine jr_bipush (v := (33 : Int32)) hE dX12_areLike_20 (by decide) ?_
        refine jr_iload_n hE dX12_areLike_22 3 rfl ?_
        refine jr_imul (z := nI (33 * i)) hE dX12_areLike_23 (pk_mul 33 i) ?_
        refine jr_iload hE dX12_areLike_24 0 rfl ?_
        refine jr_iadd (z := nI (33 * i + k)) hE dX12_areLike_26 (nI_add _ _) ?_
        refine jr_iald (v := w 17 (33 * i + k)) hE dX12_areLike_27 (M0.I (k := 17) (N := 132) (by decide)) (vp_in_nI (by omega) (by decide)) (by rw [nI_clamp (by omega)]) ?_
        refine jr_aload_n hE dX12_areLike_28 2 rfl ?_
        refine jr_get hE dX12_areLike_29 f118 M0.ob rfl ?_
        refine jr_bipush (v := (33 : Int32)) hE dX12_areLike_32 (by decide) ?_
        refine jr_iload_n hE dX12_areLike_34 4 rfl ?_
        refine jr_imul (z := nI (33 * j)) hE dX12_areLike_35 (pk_mul 33 j) ?_
        refine jr_iload hE dX12_areLike_36 0 rfl ?_
        refine jr_iadd (z := nI (33 * j + k)) hE dX12_areLike_38 (nI_add _ _) ?_
        refine jr_iald (v := w 17 (33 * j + k)) hE dX12_areLike_39 (M0.I (k := 17) (N := 132) (by decide)) (vp_in_nI (by omega) (by decide)) (by rw [nI_clamp (by omega)]) ?_
        refine jr_icmp_ne (tgt := 47) hE dX12_areLike_40 (by decide) (fun c40 => ?_) (fun c40 => ?_)
        · refine jr_iconst (v := (0 : Int32)) hE dX12_areLike_47 (by decide) ?_
          refine jr_istore_n (lv' := [(3, .int (0 : Int32)), (4, .int (nI k)), (0, .ref o), (1, .int (nI i)), (2, .int (nI j))]) hE dX12_areLike_48 (by decide) rfl ?_
          refine jr_iinc (v := nI (k + 1)) (lv' := [(4, .int (nI (k + 1))), (3, .int (0 : Int32)), (0, .ref o), (1, .int (nI i)), (2, .int (nI j))]) hE dX12_areLike_49 1 rfl (nI_1 _) (by decide) rfl ?_
          refine jr_goto (tgt := 5) hE dX12_areLike_52 (by decide) ?_
          refine jr_lv (lv' := [(4, .int (nI (k + 1))), (3, .int (0 : Int32)), (0, .ref o), (1, .int (nI i)), (2, .int (nI j))]) [0, 1, 2, 3, 4] rfl ?_
          exact ih (k + 1) 0 (by omega) ((b2i_f (fun q => c40 (q k (Nat.lt_succ_self k)))).symm)
        · refine jr_iconst (v := (1 : Int32)) hE dX12_areLike_43 (by decide) ?_
          refine jr_goto (tgt := 48) hE dX12_areLike_44 (by decide) ?_
          refine jr_istore_n (lv' := [(3, .int (1 : Int32)), (4, .int (nI k)), (0, .ref o), (1, .int (nI i)), (2, .int (nI j))]) hE dX12_areLike_48 (by decide) rfl ?_
          refine jr_iinc (v := nI (k + 1)) (lv' := [(4, .int (nI (k + 1))), (3, .int (1 : Int32)), (0, .ref o), (1, .int (nI i)), (2, .int (nI j))]) hE dX12_areLike_49 1 rfl (nI_1 _) (by decide) rfl ?_
          refine jr_goto (tgt := 5) hE dX12_areLike_52 (by decide) ?_
          refine jr_lv (lv' := [(4, .int (nI (k + 1))), (3, .int (1 : Int32)), (0, .ref o), (1, .int (nI i)), (2, .int (nI j))]) [0, 1, 2, 3, 4] rfl ?_
          exact ih (k + 1) 1 (by omega) ((b2i_t (fun t ht => by
            rcases Nat.lt_or_ge t k with q | q
            · exact b2i_1 (p := ∀ t, t < k → w 17 (33 * i + t) = w 17 (33 * j + t)) (by rw [← hb]; exact c13) t q
            · rw [show t = k by omega]
              exact c40)).symm)
  refine jr_iconst (v := (1 : Int32)) hE dX12_areLike_0 (by decide) ?_
  refine jr_istore_n (lv' := [(3, .int (1 : Int32)), (0, .ref o), (1, .int (nI i)), (2, .int (nI j))]) hE dX12_areLike_1 (by decide) rfl ?_
  refine jr_iconst (v := (0 : Int32)) hE dX12_areLike_2 (by decide) ?_
  refine jr_istore (lv' := [(4, .int (0 : Int32)), (3, .int (1 : Int32)), (0, .ref o), (1, .int (nI i)), (2, .int (nI j))]) hE dX12_areLike_3 (by decide) rfl ?_
  refine jr_lv (lv' := [(4, .int (0 : Int32)), (3, .int (1 : Int32)), (0, .ref o), (1, .int (nI i)), (2, .int (nI j))]) [0, 1, 2, 3, 4] rfl ?_
  exact loop 33 0 1 rfl (b2i_t (fun k hk => absurd hk (Nat.not_lt_zero k))).symm

abbrev nin7 (z : Nat) : Prop := z ∉ [53, 54, 55, 56, 58, 59, 75]

set_option maxHeartbeats 4000000 in
set_option maxRecDepth 100000 in
theorem c_m_weigh (l : Launch) (G : Nat → ClassId) (o : Nat) (a : Nat → Nat) (v : Nat → Int32) (n : Nat → Option Nat) (g : Nat → Nat → Int64) (w : Nat → Nat → Int32) (kt j sg : Nat) : jKv l yX12_weigh wsX12_weigh ({ frames := 5, cells := 0, slots := 0, locals := 118 }) G [.ref o, .ref (a kt), .int (nI j)] (fun L F => MW G L F o a v n g w ∧ mK n g ∧ tgOK w ∧ rdOK w ∧ lv8 kt ∧ v 16 = nI sg ∧ j < sg ∧ sg ≤ 4 ∧ bB (w 17) 0 (33 * sg)) (fun L F F1 => ∃ v' w', MW G L F1 o a v' (uz n kt (some (wgt (fun j => bl (w 17) (33 * j) 33) sg j (bnum (sha (sha (tgb 4) ++ sha (tgb 4) ++ sha (sha (tgb 3) ++ sha (tgb 3) ++ bl (w 17) 0 (33 * sg)) ++ bl (w 17) (33 * j) 33)) % NN)))) g w' ∧ (∀ k, k ≠ 57 → v' k = v k) ∧ (∀ z, nin7 z → w' z = w z) ∧ mO o a F F1) := by
  refine jm_kv (cc := cX12_weigh) (maxL := 5) (by decide) rfl (Nat.le_of_ble_eq_true rfl) ?_
  intro E L F hE hR hpre
  have hE : jOk E G _ cX12_weigh 5 RX12 wsX12_weigh := hE

  have f533 : jFl RX12 wsX12_weigh 533 12 16 := ⟨rfl, by decide, by decide +kernel, by decide +kernel⟩
  have f118 : jFl RX12 wsX12_weigh 118 12 17 := ⟨rfl, by decide, by decide +kernel, by decide +kernel⟩
  have f344 : jFl RX12 wsX12_weigh 344 12 75 := ⟨rfl, by decide, by decide +kernel, by decide +kernel⟩
  have f293 : jFl RX12 wsX12_weigh 293 12 58 := ⟨rfl, by decide, by decide +kernel, by decide +kernel⟩
  obtain ⟨M0, hK, htg, hrd, hkt, hsg, hj, hs4, hB⟩ := hpre
  obtain ⟨VH, hVH⟩ : ∃ VH, VH = (bnum (sha (sha (tgb 4) ++ sha (tgb 4) ++ sha (sha (tgb 3) ++ sha (tgb 3) ++ bl (w 17) 0 (33 * sg)) ++ bl (w 17) (33 * j) 33)) % NN) := ⟨_, rfl⟩
  have hash : ∀ (s0 : Nat), wgt (fun j => bl (w 17) (33 * j) 33) sg j VH = VH → J E L F 0 0 48 [(3, .int (nI s0)), (0, .ref o), (1, .ref (a kt)), (2, .int (nI j))] [] := by
    intro s0 hwv
    rw [hVH] at hwv
    have loopC : ∀ (v3 : Nat → Int32) (w3 : Nat → Nat → Int32), (∀ z, z ≠ 57 → v3 z = v z) → (∀ z, nin7 z → w3 z = w z) → bl (w3 58) 0 32 = sha (sha (tgb 3) ++ sha (tgb 3) ++ bl (w 17) 0 (33 * sg)) → ∀ (r0 k : Nat) (F4 : Nat → va_E) (f : Nat → Int32), k + r0 = 32 → MW G L F4 o a v3 n g (uz w3 75 f) → (∀ t, t < k → f t = w3 58 t) → mO o a F F4 → J E L F4 0 0 76 [(4, .int (nI k)), (3, .int (nI s0)), (0, .ref o), (1, .ref (a kt)), (2, .int (nI j))] [] := by
      intro v3 w3 hv3 hw3o hs3 r0
      induction r0 with
      | zero =>
        intro k F4 f hk H4 hf O4
        have hfl : bl f 0 32 = sha (sha (tgb 3) ++ sha (tgb 3) ++ bl (w 17) 0 (33 * sg)) := by
          rw [← hs3]
          exact bl_cg (fun t ht => by rw [Nat.zero_add]; exact hf t (by omega))
        have htg3 : tgOK (uz w3 75 f) := ⟨fun t ht => by
          show w3 50 t = _
          rw [hw3o 50 (by decide)]
          exact htg.1 t ht, fun t ht => by
          show w3 51 t = _
          rw [hw3o 51 (by decide)]
          exact htg.2 t ht⟩
        have hrd3 : rdOK (uz w3 75 f) := fun t ht => by
          show w3 52 t = _
          rw [hw3o 52 (by decide)]
          exact hrd t ht
        refine jr_iload hE dX12_weigh_76 0 rfl ?_
        refine jr_bipush (v := (32 : Int32)) hE dX12_weigh_78 (by decide) ?_
        refine jr_icmp_ge (tgt := 103) hE dX12_weigh_80 (by decide) (fun c_80 => ?_) (fun c_80 => absurd (nI_le (a := 32) (by omega) (by omega)) c_80)
        refine jr_aload_n hE dX12_weigh_103 2 rfl ?_
        refine jr_iconst (v := (4 : Int32)) hE dX12_weigh_104 (by decide) ?_
        refine jr_kVv (ci := 12) (n := 1) (As := [.int (4 : Int32)]) (rest := []) hE dX12_weigh_105 (fun l => c_m_begin l G o a v3 n g (uz w3 75 f) 4) gX12_weigh_X12_begin rfl H4.ob rfl (by decide +kernel) ⟨rfl, rfl, by decide, by decide⟩ (by decide) rfl rfl (Nat.le_of_ble_eq_true rfl) (⟨H4, by decide, htg3, hrd3⟩) (fun F1 q2 => ?_)
        obtain ⟨v5, w5, M5, hv5, hw5, hX5, O5⟩ := q2
        have h75 : w5 75 = f := (hw5 75 (by decide)).trans (uz_s _ _ _)
        have h17 : w5 17 = w 17 := (hw5 17 (by decide)).trans (hw3o 17 (by decide))
        refine jr_aload_n hE dX12_weigh_108 2 rfl ?_
        refine jr_aload_n hE dX12_weigh_109 2 rfl ?_
        refine jr_get hE dX12_weigh_110 f344 M5.ob rfl ?_
        refine jr_iconst (v := (0 : Int32)) hE dX12_weigh_113 (by decide) ?_
        refine jr_bipush (v := (32 : Int32)) hE dX12_weigh_114 (by decide) ?_
        refine jr_kVv (ci := 12) (n := 3) (As := [.ref (a 75), .int (0 : Int32), .int (32 : Int32)]) (rest := []) hE dX12_weigh_116 (fun l => c_m_putAll l G o a v5 n g w5 _ 75 0 32 32) gX12_weigh_X12_putAll rfl M5.ob rfl (by decide +kernel) ⟨rfl, rfl, by decide, by decide⟩ (by decide) rfl rfl (Nat.le_of_ble_eq_true rfl) (⟨M5, hX5, by decide, by decide, by decide, by decide, by rw [List.length_append, sha_len]; decide, by rw [h75]; exact dig_B hfl⟩) (fun F3 q4 => ?_)
        obtain ⟨v6, w6, M6, hv6, hw6, hX6, O6⟩ := q4
        rw [h75, hfl] at hX6
        have h176 : w6 17 = w 17 := (hw6 17 (by decide)).trans h17
        refine jr_aload_n hE dX12_weigh_119 2 rfl ?_
        refine jr_aload_n hE dX12_weigh_120 2 rfl ?_
        refine jr_get hE dX12_weigh_121 f118 M6.ob rfl ?_
        refine jr_bipush (v := (33 : Int32)) hE dX12_weigh_124 (by decide) ?_
        refine jr_iload_n hE dX12_weigh_126 4 rfl ?_
        refine jr_imul (z := nI (33 * j)) hE dX12_weigh_127 (pk_mul 33 j) ?_
        refine jr_bipush (v := (33 : Int32)) hE dX12_weigh_128 (by decide) ?_
        refine jr_kVv (ci := 12) (n := 3) (As := [.ref (a 17), .int (nI (33 * j)), .int (33 : Int32)]) (rest := []) hE dX12_weigh_130 (fun l => c_m_putAll l G o a v6 n g w6 _ 17 (33 * j) 33 132) gX12_weigh_X12_putAll rfl M6.ob rfl (by decide +kernel) ⟨rfl, rfl, by decide, by decide⟩ (by decide) rfl rfl (Nat.le_of_ble_eq_true rfl) (⟨M6, hX6, by decide, by decide, by omega, by decide, by simp only [List.length_append, sha_len]; decide, by rw [h176]; exact fun t ht => by have := hB (33 * j + t) (by omega); rwa [Nat.zero_add] at this⟩) (fun F5 q6 => ?_)
        obtain ⟨v7, w7, M7, hv7, hw7, hX7, O7⟩ := q6
        rw [h176] at hX7
        have hout : ∀ z, nin7 z → w7 z = w z := fun z hz => (hw7 z (jne hz 3 rfl)).trans ((hw6 z (jne hz 3 rfl)).trans ((hw5 z (jnsub (V := [53, 54, 55, 56, 58, 59]) hz [0, 1, 2, 3, 4, 5] rfl)).trans ((uz_n _ _ (jne hz 6 rfl)).trans (hw3o z hz))))
        have hrd7 : rdOK w7 := fun t ht => by rw [hout 52 (by decide)]; exact hrd t ht
        refine jr_aload_n hE dX12_weigh_133 2 rfl ?_
        refine jr_aload_n hE dX12_weigh_134 3 rfl ?_
        refine jr_kVv (ci := 12) (n := 1) (As := [.ref (a kt)]) (rest := []) hE dX12_weigh_135 (fun l => c_m_endNumber l G o a v7 n g w7 _ kt _) gX12_weigh_X12_endNumber rfl M7.ob rfl (by decide +kernel) ⟨rfl, rfl, by decide, by decide⟩ (by decide) rfl rfl (Nat.le_of_ble_eq_true rfl) (⟨M7, hK, hX7, hrd7, hkt, rfl⟩) (fun F7 q8 => ?_)
        obtain ⟨w8, M8, hw8, hs8, O8⟩ := q8
        exact hR F7 _ _ dX12_weigh_138 ⟨v7, w8, by rw [hwv]; exact M8, fun z hz => (hv7 z hz).trans ((hv6 z hz).trans ((hv5 z hz).trans (hv3 z hz))), fun z hz => (hw8 z (jnsub (V := [53, 54, 55, 58]) hz [0, 1, 2, 4] rfl)).trans (hout z hz), O4.tr (O5.tr (O6.tr (O7.tr O8)))⟩
      | succ r0 ihC =>
        intro k F4 f hk H4 hf O4
        refine jr_iload hE dX12_weigh_76 0 rfl ?_
        refine jr_bipush (v := (32 : Int32)) hE dX12_weigh_78 (by decide) ?_
        refine jr_icmp_ge (tgt := 103) hE dX12_weigh_80 (by decide) (fun c_80 => absurd c_80 (nI_ge (b := 32) (by omega) (by omega))) (fun c_80 => ?_)
        refine jr_aload_n hE dX12_weigh_83 2 rfl ?_
        refine jr_get hE dX12_weigh_84 f344 H4.ob rfl ?_
        refine jr_iload hE dX12_weigh_87 0 rfl ?_
        refine jr_aload_n hE dX12_weigh_89 2 rfl ?_
        refine jr_get hE dX12_weigh_90 f293 H4.ob rfl ?_
        refine jr_iload hE dX12_weigh_93 0 rfl ?_
        refine jr_iald (v := w3 58 k) hE dX12_weigh_95 (H4.I (k := 58) (N := 32) (by decide)) (vp_in_nI (by omega) (by decide)) (by rw [nI_clamp (by omega)]; rfl) ?_
        refine jr_iast hE dX12_weigh_96 (H4.I (k := 75) (N := 32) (by decide)) (vp_in_nI (by omega) (by decide)) (fun F1 g2 u3 => ?_)
        have H4 := H4.setI (k := 75) (N := 32) (by decide) g2 u3
        have O5 := O4.st (k := 75) (by decide) (by decide) u3
        rw [uz_uz, uz_s] at H4
        refine jr_iinc (v := nI (k + 1)) (lv' := [(4, .int (nI (k + 1))), (3, .int (nI s0)), (0, .ref o), (1, .ref (a kt)), (2, .int (nI j))]) hE dX12_weigh_97 0 rfl (nI_1 _) (by decide) rfl ?_
        refine jr_goto (tgt := 76) hE dX12_weigh_100 (by decide) ?_
        refine jr_lv (lv' := [(4, .int (nI (k + 1))), (3, .int (nI s0)), (0, .ref o), (1, .ref (a kt)), (2, .int (nI j))]) [0, 1, 2, 3, 4] rfl ?_
        exact ihC (k + 1) F1 _ (by omega) H4 (fun t ht => by
          rw [nI_clamp (by omega)]
          show (if t = k then _ else f t) = _
          by_cases e : t = k
          · rw [if_pos e, e]
          · rw [if_neg e]; exact hf t (by omega)) O5
    refine jr_aload_n hE dX12_weigh_48 1 rfl ?_
    refine jr_iconst (v := (3 : Int32)) hE dX12_weigh_49 (by decide) ?_
    refine jr_kVv (ci := 12) (n := 1) (As := [.int (3 : Int32)]) (rest := []) hE dX12_weigh_50 (fun l => c_m_begin l G o a v n g w 3) gX12_weigh_X12_begin rfl M0.ob rfl (by decide +kernel) ⟨rfl, rfl, by decide, by decide⟩ (by decide) rfl rfl (Nat.le_of_ble_eq_true rfl) (⟨M0, by decide, htg, hrd⟩) (fun F1 q2 => ?_)
    obtain ⟨v1, w1, M1, hv1, hw1, hX1, O1⟩ := q2
    have hv16 : v1 16 = nI sg := (hv1 16 (by decide)).trans hsg
    have h17 : w1 17 = w 17 := hw1 17 (by decide)
    refine jr_aload_n hE dX12_weigh_53 1 rfl ?_
    refine jr_aload_n hE dX12_weigh_54 1 rfl ?_
    refine jr_get hE dX12_weigh_55 f118 M1.ob rfl ?_
    refine jr_iconst (v := (0 : Int32)) hE dX12_weigh_58 (by decide) ?_
    refine jr_bipush (v := (33 : Int32)) hE dX12_weigh_59 (by decide) ?_
    refine jr_aload_n hE dX12_weigh_61 1 rfl ?_
    refine jr_get hE dX12_weigh_62 f533 M1.ob rfl ?_
    rw [hv16]
    refine jr_imul (z := nI (33 * sg)) hE dX12_weigh_65 (pk_mul 33 sg) ?_
    refine jr_kVv (ci := 12) (n := 3) (As := [.ref (a 17), .int (0 : Int32), .int (nI (33 * sg))]) (rest := []) hE dX12_weigh_66 (fun l => c_m_putAll l G o a v1 n g w1 _ 17 0 (33 * sg) 132) gX12_weigh_X12_putAll rfl M1.ob rfl (by decide +kernel) ⟨rfl, rfl, by decide, by decide⟩ (by decide) rfl rfl (Nat.le_of_ble_eq_true rfl) (⟨M1, hX1, by decide, by decide, by omega, by decide, by rw [List.length_append, sha_len]; omega, by rw [h17]; exact hB⟩) (fun F3 q4 => ?_)
    obtain ⟨v2, w2, M2, hv2, hw2, hX2, O2⟩ := q4
    rw [h17] at hX2
    have hrd2 : rdOK w2 := fun t ht => by rw [hw2 52 (by decide), hw1 52 (by decide)]; exact hrd t ht
    refine jr_aload_n hE dX12_weigh_69 1 rfl ?_
    refine jr_kVv (ci := 12) (n := 0) (As := []) (rest := []) hE dX12_weigh_70 (fun l => c_m_end l G o a v2 n g w2 _) gX12_weigh_X12_end rfl M2.ob rfl (by decide +kernel) ⟨rfl, rfl, by decide, by decide⟩ (by decide) rfl rfl (Nat.le_of_ble_eq_true rfl) (⟨M2, hX2, hrd2⟩) (fun F5 q6 => ?_)
    obtain ⟨w3, M3, hw3, hs3, O3⟩ := q6
    have O3' := O1.tr (O2.tr O3)
    refine jr_iconst (v := (0 : Int32)) hE dX12_weigh_73 (by decide) ?_
    refine jr_istore (lv' := [(4, .int (0 : Int32)), (3, .int (nI s0)), (0, .ref o), (1, .ref (a kt)), (2, .int (nI j))]) hE dX12_weigh_74 (by decide) rfl ?_
    refine jr_lv (lv' := [(4, .int (0 : Int32)), (3, .int (nI s0)), (0, .ref o), (1, .ref (a kt)), (2, .int (nI j))]) [0, 1, 2, 3, 4] rfl ?_
    exact loopC v2 w3 (fun z hz => (hv2 z hz).trans (hv1 z hz)) (fun z hz => (hw3 z (jnsub (V := [53, 54, 55, 58]) hz [0, 1, 2, 4] rfl)).trans ((hw2 z (jne hz 3 rfl)).trans (hw1 z (jnsub (V := [53, 54, 55, 56, 58, 59]) hz [0, 1, 2, 3, 4, 5] rfl)))) hs3 32 0 F5 (w3 75) rfl (by rw [uz_id]; exact M3) (fun t ht => absurd ht (Nat.not_lt_zero t)) O3'
  have out : ∀ (s0 : Nat), s0 ≤ sg → (s0 < sg → isSec (fun j => bl (w 17) (33 * j) 33) sg s0) → (∀ s, isSec (fun j => bl (w 17) (33 * j) 33) sg s → s = s0) → J E L F 0 0 25 [(3, .int (nI s0)), (0, .ref o), (1, .ref (a kt)), (2, .int (nI j))] [] := by
    intro s0 hs0 hsec hu
    refine jr_iload_n hE dX12_weigh_25 0 rfl ?_
    refine jr_aload_n hE dX12_weigh_26 1 rfl ?_
    refine jr_get hE dX12_weigh_27 f533 M0.ob rfl ?_
    rw [hsg]
    refine jr_icmp_ge (tgt := 48) hE dX12_weigh_30 (by decide) (fun c30 => ?_) (fun c30 => ?_)
    · refine jr_lv (lv' := [(3, .int (nI s0)), (0, .ref o), (1, .ref (a kt)), (2, .int (nI j))]) [0, 1, 2, 3] rfl ?_
      exact hash s0 (by rw [wgt_v (fun s hs1 => absurd hs1.2.1 (by rw [hu s hs1]; intro q; exact nI_ge q (by omega) c30))])
    · refine jr_aload_n hE dX12_weigh_33 1 rfl ?_
      refine jr_iload_n hE dX12_weigh_34 0 rfl ?_
      refine jr_iload_n hE dX12_weigh_35 3 rfl ?_
      have hlt : s0 < sg := Classical.byContradiction (fun q => c30 (nI_le (by omega) (by omega)))
      refine jr_kVi (ci := 12) (n := 2) (As := [.int (nI s0), .int (nI j)]) (rest := []) hE dX12_weigh_36 (fun l => c_m_areLike l G o a v n g w s0 j) gX12_weigh_X12_areLike rfl M0.ob rfl (by decide +kernel) ⟨rfl, rfl, by decide, by decide⟩ (by decide) rfl rfl (Nat.le_of_ble_eq_true rfl) (⟨M0, by omega, by omega⟩) (fun r3 F1 q2 => ?_)
      obtain ⟨eq2, rq2⟩ := q2
      subst eq2 rq2
      refine jr_if_eq (tgt := 48) hE dX12_weigh_39 (by decide) (fun c39 => ?_) (fun c39 => ?_)
      · refine jr_lv (lv' := [(3, .int (nI s0)), (0, .ref o), (1, .ref (a kt)), (2, .int (nI j))]) [0, 1, 2, 3] rfl ?_
        exact hash s0 (by rw [wgt_v (fun s hs1 => fun e => by
          rw [hu s hs1] at e
          rw [b2i_t e] at c39
          exact absurd c39 (by decide))])
      · refine jr_aload_n hE dX12_weigh_42 2 rfl ?_
        refine jr_lconst (v := (1 : Int64)) hE dX12_weigh_43 (by decide) ?_
        refine jr_kSv (n := 2) (As := [.ref (a kt), .long (1 : Int64)]) (rest := []) hE dX12_weigh_44 (fun l => c_m_small l G o a v n g w kt 1) gX12_weigh_X12_small rfl (by decide +kernel) ⟨rfl, rfl, by decide, by decide⟩ (by decide) rfl rfl (Nat.le_of_ble_eq_true rfl) (⟨M0, hkt.1, by decide⟩) (fun F4 q5 => ?_)
        obtain ⟨M1, O1⟩ := q5
        exact hR F4 _ _ dX12_weigh_47 ⟨v, w, by rw [wgt_1 (hsec hlt) (b2i_1 c39)]; exact M1, fun _ _ => rfl, fun _ _ => rfl, O1⟩
  have loop : ∀ (r0 s0 : Nat), s0 + r0 = sg → 1 ≤ s0 → (∀ t, 1 ≤ t → t < s0 → (fun j => bl (w 17) (33 * j) 33) t = (fun j => bl (w 17) (33 * j) 33) 0) → J E L F 0 0 2 [(3, .int (nI s0)), (0, .ref o), (1, .ref (a kt)), (2, .int (nI j))] [] := by
    intro r0
    induction r0 with
    | zero =>
      intro s0 hs0 h1 hs
      refine jr_iload_n hE dX12_weigh_2 0 rfl ?_
      refine jr_aload_n hE dX12_weigh_3 1 rfl ?_
      refine jr_get hE dX12_weigh_4 f533 M0.ob rfl ?_
      rw [hsg]
      refine jr_icmp_ge (tgt := 25) hE dX12_weigh_7 (by decide) (fun c_7 => ?_) (fun c_7 => absurd (nI_le (by omega) (by omega)) c_7)
      refine jr_lv (lv' := [(3, .int (nI s0)), (0, .ref o), (1, .ref (a kt)), (2, .int (nI j))]) [0, 1, 2, 3] rfl ?_
      exact out s0 (by omega) (fun hlt => absurd hlt (by omega)) (fun s hs1 => absurd hs1.2.2.2 (fun q => q (hs s hs1.1 (by have := hs1.2.1; omega))))
    | succ r0 ih =>
      intro s0 hs0 h1 hs
      refine jr_iload_n hE dX12_weigh_2 0 rfl ?_
      refine jr_aload_n hE dX12_weigh_3 1 rfl ?_
      refine jr_get hE dX12_weigh_4 f533 M0.ob rfl ?_
      rw [hsg]
      refine jr_icmp_ge (tgt := 25) hE dX12_weigh_7 (by decide) (fun c_7 => absurd c_7 (nI_ge (by omega) (by omega))) (fun c_7 => ?_)
      refine jr_aload_n hE dX12_weigh_10 1 rfl ?_
      refine jr_iconst (v := (0 : Int32)) hE dX12_weigh_11 (by decide) ?_
      refine jr_iload_n hE dX12_weigh_12 0 rfl ?_
      refine jr_kVi (ci := 12) (n := 2) (As := [.int (0 : Int32), .int (nI s0)]) (rest := []) hE dX12_weigh_13 (fun l => c_m_areLike l G o a v n g w 0 s0) gX12_weigh_X12_areLike rfl M0.ob rfl (by decide +kernel) ⟨rfl, rfl, by decide, by decide⟩ (by decide) rfl rfl (Nat.le_of_ble_eq_true rfl) (⟨M0, by omega, by omega⟩) (fun r3 F1 q2 => ?_)
      obtain ⟨eq2, rq2⟩ := q2
      subst eq2 rq2
      refine jr_if_eq (tgt := 25) hE dX12_weigh_16 (by decide) (fun c16 => ?_) (fun c16 => ?_)
      · refine jr_lv (lv' := [(3, .int (nI s0)), (0, .ref o), (1, .ref (a kt)), (2, .int (nI j))]) [0, 1, 2, 3] rfl ?_
        exact out s0 (by omega) (fun hlt => ⟨h1, hlt, hs, fun e => by rw [b2i_t (show bl (w 17) (33 * 0) 33 = bl (w 17) (33 * s0) 33 from e.symm)] at c16; exact absurd c16 (by decide)⟩) (fun s hs1 => by
          rcases Nat.lt_trichotomy s s0 with q | q | q
          · exact absurd (hs s hs1.1 q) hs1.2.2.2
          · exact q
          · exact absurd (hs1.2.2.1 s0 h1 q) (fun e => by rw [b2i_t (show bl (w 17) (33 * 0) 33 = bl (w 17) (33 * s0) 33 from e.symm)] at c16; exact absurd c16 (by decide)))
      · refine jr_iinc (v := nI (s0 + 1)) (lv' := [(3, .int (nI (s0 + 1))), (0, .ref o), (1, .ref (a kt)), (2, .int (nI j))]) hE dX12_weigh_19 0 rfl (nI_1 _) (by decide) rfl ?_
        refine jr_goto (tgt := 2) hE dX12_weigh_22 (by decide) ?_
        refine jr_lv (lv' := [(3, .int (nI (s0 + 1))), (0, .ref o), (1, .ref (a kt)), (2, .int (nI j))]) [0, 1, 2, 3] rfl ?_
        exact ih (s0 + 1) (by omega) (by omega) (fun t h1 h2 => by
          rcases Nat.lt_or_ge t s0 with q | q
          · exact hs t h1 q
          · rw [show t = s0 by omega]
            exact (b2i_1 c16).symm)
  refine jr_iconst (v := (1 : Int32)) hE dX12_weigh_0 (by decide) ?_
  refine jr_istore_n (lv' := [(3, .int (1 : Int32)), (0, .ref o), (1, .ref (a kt)), (2, .int (nI j))]) hE dX12_weigh_1 (by decide) rfl ?_
  refine jr_lv (lv' := [(3, .int (1 : Int32)), (0, .ref o), (1, .ref (a kt)), (2, .int (nI j))]) [0, 1, 2, 3] rfl ?_
  exact loop (sg - 1) 1 (by omega) (by decide) (fun t h1 h2 => absurd h1 (by omega))

