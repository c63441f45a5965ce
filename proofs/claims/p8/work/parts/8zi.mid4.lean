/-! THE REFERENCE'S addTold, areWell -/
/-- what a signer told: the first (0) or the second (1) point -/
abbrev fT (f : Nat → Int32) (wh j : Nat) : Nat := bt f (66 * j + 33 * wh)
abbrev vT (f : Nat → Int32) (wh j : Nat) : Nat := bnum (bl f (66 * j + 33 * wh + 1) 32)
noncomputable def tS (f : Nat → Int32) (wh : Nat) : Nat → EP
  | 0 => none
  | k + 1 => eadd PP (tS f wh k) (rdE (fT f wh k) (vT f wh k))
theorem tS_on {f : Nat → Int32} {wh sg : Nat} (h : ∀ j, j < sg → rdX (fT f wh j) (vT f wh j)) : ∀ k, k ≤ sg → onE PP (tS f wh k)
  | 0, _ => trivial
  | k + 1, hk => onE_add gdP (tS_on h k (by omega)) (rd_on (h k (by omega)))
theorem qE.p {n n' : Nat → Option Nat} {B : EP} (h : qE n B) (h1 : n' 37 = n 40) (h2 : n' 38 = n 41) (h3 : n' 39 = some 1) : pS n' B := by
  obtain ⟨x, y, a, b, hx, hy, rfl, e⟩ := h
  exact Or.inr ⟨x, y, rfl, hx, hy, h1.trans a, h2.trans b, h3⟩

set_option maxHeartbeats 4000000 in
set_option maxRecDepth 100000 in
theorem c_m_addTold (l : Launch) (G : Nat → ClassId) (o : Nat) (a : Nat → Nat) (v : Nat → Int32) (n : Nat → Option Nat) (g : Nat → Nat → Int64) (w : Nat → Nat → Int32) (wh sg : Nat) : jKv l yX12_addTold wsX12_addTold ({ frames := 7, cells := 0, slots := 0, locals := 170 }) G [.ref o, .int (nI wh), .ref (a 80)] (fun L F => MW G L F o a v n g w ∧ mK n g ∧ mC n ∧ v 16 = nI sg ∧ sg ≤ 4 ∧ wh < 2 ∧ (∀ j, j < sg → bB (w 23) (66 * j + 33 * wh) 33) ∧ (∀ j, j < sg → rdX (fT (w 23) wh j) (vT (w 23) wh j))) (fun L F F1 => ∃ n', MW G L F1 o a v n' g (uz w 80 (wrt (w 80) (33 * wh) (pbE (tS (w 23) wh sg)))) ∧ (∀ k, k ∉ [34, 35, 36, 37, 38, 39, 40, 41, 42, 43, 44, 45, 46, 47, 49, 68, 69, 70] → n' k = n k) ∧ sS n' (tS (w 23) wh sg) ∧ mO o a F F1) := by
  refine jm_kv (cc := cX12_addTold) (maxL := 5) (by decide) rfl (Nat.le_of_ble_eq_true rfl) ?_
  intro E L F hE hR hpre
  have hE : jOk E G _ cX12_addTold 5 RX12 wsX12_addTold := hE

  have f533 : jFl RX12 wsX12_addTold 533 12 16 := ⟨rfl, by decide, by decide +kernel, by decide +kernel⟩
  have f137 : jFl RX12 wsX12_addTold 137 12 23 := ⟨rfl, by decide, by decide +kernel, by decide +kernel⟩
  have f167 : jFl RX12 wsX12_addTold 167 12 37 := ⟨rfl, by decide, by decide +kernel, by decide +kernel⟩
  have f176 : jFl RX12 wsX12_addTold 176 12 40 := ⟨rfl, by decide, by decide +kernel, by decide +kernel⟩
  have f170 : jFl RX12 wsX12_addTold 170 12 38 := ⟨rfl, by decide, by decide +kernel, by decide +kernel⟩
  have f179 : jFl RX12 wsX12_addTold 179 12 41 := ⟨rfl, by decide, by decide +kernel, by decide +kernel⟩
  have f173 : jFl RX12 wsX12_addTold 173 12 39 := ⟨rfl, by decide, by decide +kernel, by decide +kernel⟩
  obtain ⟨M0, hK, hC, hsg, hs4, hwh, hB, hrdx⟩ := hpre
  have loop : ∀ (r0 j : Nat) (F2 : Nat → va_E) (n2 : Nat → Option Nat), j + r0 = sg → MW G L F2 o a v n2 g w → (∀ k, k ∉ [34, 35, 36, 37, 38, 39, 40, 41, 42, 43, 44, 45, 46, 47, 49, 68, 69, 70] → n2 k = n k) → sS n2 (tS (w 23) wh j) → mO o a F F2 → J E L F2 0 0 6 [(3, .int (nI j)), (0, .ref o), (1, .int (nI wh)), (2, .ref (a 80))] [] := by
    intro r0
    induction r0 with
    | zero =>
      intro j F2 n2 hj M2 hf2 hs2 O
      refine jr_iload_n hE dX12_addTold_6 0 rfl ?_
      refine jr_aload_n hE dX12_addTold_7 1 rfl ?_
      refine jr_get hE dX12_addTold_8 f533 M2.ob rfl ?_
      rw [hsg]
      refine jr_icmp_ge (tgt := 73) hE dX12_addTold_11 (by decide) (fun c_11 => ?_) (fun c_11 => absurd (nI_le (by omega) (by omega)) c_11)
      refine jr_aload_n hE dX12_addTold_73 1 rfl ?_
      refine jr_kVv (ci := 12) (n := 0) (As := []) (rest := []) hE dX12_addTold_74 (fun l => c_m_fromSum l G o a v n2 g w _) gX12_addTold_X12_fromSum rfl M2.ob rfl (by decide +kernel) ⟨rfl, rfl, by decide, by decide⟩ (by decide) rfl rfl (Nat.le_of_ble_eq_true rfl) (⟨M2, hs2⟩) (fun F1 q2 => ?_)
      obtain ⟨n4, M4, hf4, p4, O4⟩ := q2
      refine jr_aload_n hE dX12_addTold_77 1 rfl ?_
      refine jr_aload_n hE dX12_addTold_78 3 rfl ?_
      refine jr_bipush (v := (33 : Int32)) hE dX12_addTold_79 (by decide) ?_
      refine jr_iload_n hE dX12_addTold_81 2 rfl ?_
      refine jr_imul (z := nI (33 * wh)) hE dX12_addTold_82 (pk_mul 33 wh) ?_
      refine jr_kVv (ci := 12) (n := 2) (As := [.ref (a 80), .int (nI (33 * wh))]) (rest := []) hE dX12_addTold_83 (fun l => c_m_tells l G o a v n4 g w 80 (33 * wh) 66 _) gX12_addTold_X12_tells rfl M4.ob rfl (by decide +kernel) ⟨rfl, rfl, by decide, by decide⟩ (by decide) rfl rfl (Nat.le_of_ble_eq_true rfl) (⟨M4, p4, by decide, by omega, by decide⟩) (fun F3 q4 => ?_)
      obtain ⟨M5, O5⟩ := q4
      rw [show j = sg by omega] at hs2 M5
      exact hR F3 _ _ dX12_addTold_86 ⟨n4, M5, fun k hk => (hf4 k (jnsub (V := [37, 38, 39]) hk [3, 4, 5] rfl)).trans (hf2 k hk), hs2.fr (hf4 68 (by decide)) (hf4 69 (by decide)) (hf4 70 (by decide)), O.tr (O4.tr O5)⟩
    | succ r0 ih =>
      intro j F2 n2 hj M2 hf2 hs2 O
      have hK2 : mK n2 g := hK.fr (hf2 0 (by decide)) (hf2 1 (by decide)) (hf2 32 (by decide)) (hf2 33 (by decide))
      have hC2 : mC n2 := hC.fr (hf2 4 (by decide)) (hf2 5 (by decide)) (hf2 6 (by decide)) (hf2 7 (by decide)) (hf2 48 (by decide))
      refine jr_iload_n hE dX12_addTold_6 0 rfl ?_
      refine jr_aload_n hE dX12_addTold_7 1 rfl ?_
      refine jr_get hE dX12_addTold_8 f533 M2.ob rfl ?_
      rw [hsg]
      refine jr_icmp_ge (tgt := 73) hE dX12_addTold_11 (by decide) (fun c_11 => absurd c_11 (nI_ge (by omega) (by omega))) (fun c_11 => ?_)
      refine jr_aload_n hE dX12_addTold_14 1 rfl ?_
      refine jr_aload_n hE dX12_addTold_15 1 rfl ?_
      refine jr_get hE dX12_addTold_16 f137 M2.ob rfl ?_
      refine jr_bipush (v := (66 : Int32)) hE dX12_addTold_19 (by decide) ?_
      refine jr_iload_n hE dX12_addTold_21 0 rfl ?_
      refine jr_imul (z := nI (66 * j)) hE dX12_addTold_22 (pk_mul 66 j) ?_
      refine jr_bipush (v := (33 : Int32)) hE dX12_addTold_23 (by decide) ?_
      refine jr_iload_n hE dX12_addTold_25 2 rfl ?_
      refine jr_imul (z := nI (33 * wh)) hE dX12_addTold_26 (pk_mul 33 wh) ?_
      refine jr_iadd (z := nI (66 * j + 33 * wh)) hE dX12_addTold_27 (nI_add _ _) ?_
      refine jr_kVi (ci := 12) (n := 2) (As := [.ref (a 23), .int (nI (66 * j + 33 * wh))]) (rest := []) hE dX12_addTold_28 (fun l => c_m_reads l G o a v n2 g w 23 (66 * j + 33 * wh) 264 (fT (w 23) wh j) (vT (w 23) wh j)) gX12_addTold_X12_reads rfl M2.ob rfl (by decide +kernel) ⟨rfl, rfl, by decide, by decide⟩ (by decide) rfl rfl (Nat.le_of_ble_eq_true rfl) (⟨M2, hK2, hC2, by decide, by omega, by decide, hB j (by omega), rfl, rfl⟩) (fun r3 F1 q2 => ?_)
      obtain ⟨n3, M3, hf3, hq3, rfl, O3'⟩ := q2
      have O3 := O.tr O3'
      have hq3 := hq3 (hrdx j (by omega))
      refine jr_istore (lv' := [(4, .int (b2i (rdX (fT (w 23) wh j) (vT (w 23) wh j)))), (3, .int (nI j)), (0, .ref o), (1, .int (nI wh)), (2, .ref (a 80))]) hE dX12_addTold_31 (by decide) rfl ?_
      refine jr_aload_n hE dX12_addTold_33 2 rfl ?_
      refine jr_get hE dX12_addTold_34 f167 M3.ob rfl ?_
      refine jr_aload_n hE dX12_addTold_37 2 rfl ?_
      refine jr_get hE dX12_addTold_38 f176 M3.ob rfl ?_
      refine jr_kSv (n := 2) (As := [.ref (a 37), .ref (a 40)]) (rest := []) hE dX12_addTold_41 (fun l => c_m_set l G o a v n3 g w 37 40) gX12_addTold_X12_set rfl (by decide +kernel) ⟨rfl, rfl, by decide, by decide⟩ (by decide) rfl rfl (Nat.le_of_ble_eq_true rfl) (⟨M3, by decide, by decide⟩) (fun F4 q5 => ?_)
      obtain ⟨M6, PM6⟩ := q5
      have OM6 := O3.tr PM6
      refine jr_aload_n hE dX12_addTold_44 2 rfl ?_
      refine jr_get hE dX12_addTold_45 f170 M6.ob rfl ?_
      refine jr_aload_n hE dX12_addTold_48 2 rfl ?_
      refine jr_get hE dX12_addTold_49 f179 M6.ob rfl ?_
      refine jr_kSv (n := 2) (As := [.ref (a 38), .ref (a 41)]) (rest := []) hE dX12_addTold_52 (fun l => c_m_set l G o a v (uz n3 37 (n3 40)) g w 38 41) gX12_addTold_X12_set rfl (by decide +kernel) ⟨rfl, rfl, by decide, by decide⟩ (by decide) rfl rfl (Nat.le_of_ble_eq_true rfl) (⟨M6, by decide, by decide⟩) (fun F7 q8 => ?_)
      obtain ⟨M9, PM9⟩ := q8
      have OM9 := OM6.tr PM9
      refine jr_aload_n hE dX12_addTold_55 2 rfl ?_
      refine jr_get hE dX12_addTold_56 f173 M9.ob rfl ?_
      refine jr_lconst (v := (1 : Int64)) hE dX12_addTold_59 (by decide) ?_
      refine jr_kSv (n := 2) (As := [.ref (a 39), .long (1 : Int64)]) (rest := []) hE dX12_addTold_60 (fun l => c_m_small l G o a v (uz (uz n3 37 (n3 40)) 38 ((uz n3 37 (n3 40)) 41)) g w 39 1) gX12_addTold_X12_small rfl (by decide +kernel) ⟨rfl, rfl, by decide, by decide⟩ (by decide) rfl rfl (Nat.le_of_ble_eq_true rfl) (⟨M9, by decide, by decide⟩) (fun F10 q11 => ?_)
      obtain ⟨M12, PM12⟩ := q11
      have OM12 := OM9.tr PM12
      refine jr_aload_n hE dX12_addTold_63 2 rfl ?_
      refine jr_kVv (ci := 12) (n := 0) (As := []) (rest := []) hE dX12_addTold_64 (fun l => c_m_addToSum l G o a v (uz (uz (uz n3 37 (n3 40)) 38 ((uz n3 37 (n3 40)) 41)) 39 (some 1)) g w (tS (w 23) wh j) _) gX12_addTold_X12_addToSum rfl M12.ob rfl (by decide +kernel) ⟨rfl, rfl, by decide, by decide⟩ (by decide) rfl rfl (Nat.le_of_ble_eq_true rfl) (⟨M12, hK2.fr (hf3 0 (by decide)) (hf3 1 (by decide)) (hf3 32 (by decide)) (hf3 33 (by decide)), (hf3 4 (by decide)).trans hC2.1, hq3.p rfl rfl rfl, rd_on (hrdx j (by omega)), hs2.fr (hf3 68 (by decide)) (hf3 69 (by decide)) (hf3 70 (by decide)), tS_on hrdx j (by omega)⟩) (fun F13 q14 => ?_)
      obtain ⟨n6, M6, hf6, hs6, O6'⟩ := q14
      have O6 := OM12.tr O6'
      refine jr_iinc (v := nI (j + 1)) (lv' := [(3, .int (nI (j + 1))), (4, .int (b2i (rdX (fT (w 23) wh j) (vT (w 23) wh j)))), (0, .ref o), (1, .int (nI wh)), (2, .ref (a 80))]) hE dX12_addTold_67 1 rfl (nI_1 _) (by decide) rfl ?_
      refine jr_goto (tgt := 6) hE dX12_addTold_70 (by decide) ?_
      refine jr_lv (lv' := [(3, .int (nI (j + 1))), (0, .ref o), (1, .int (nI wh)), (2, .ref (a 80))]) [0, 2, 3, 4] rfl ?_
      exact ih (j + 1) F13 n6 (by omega) M6 (fun k hk => (hf6 k (jnsub (V := [40, 41, 37, 38, 39, 42, 43, 44, 45, 46, 47, 34, 35, 36, 68, 69, 70]) hk [6, 7, 3, 4, 5, 8, 9, 10, 11, 12, 13, 0, 1, 2, 15, 16, 17] rfl)).trans ((uz_n _ _ (jne hk 5 rfl)).trans ((uz_n _ _ (jne hk 4 rfl)).trans ((uz_n _ _ (jne hk 3 rfl)).trans ((hf3 k (jnsub (V := [40, 41, 42, 43, 35, 36, 49]) hk [6, 7, 8, 9, 1, 2, 14] rfl)).trans (hf2 k hk)))))) hs6 O6
  refine jr_aload_n hE dX12_addTold_0 0 rfl ?_
  refine jr_kVv (ci := 12) (n := 0) (As := []) (rest := []) hE dX12_addTold_1 (fun l => c_m_noSum l G o a v n g w) gX12_addTold_X12_noSum rfl M0.ob rfl (by decide +kernel) ⟨rfl, rfl, by decide, by decide⟩ (by decide) rfl rfl (Nat.le_of_ble_eq_true rfl) (M0) (fun F1 q2 => ?_)
  obtain ⟨n1, M1, hf1, hs1, O1⟩ := q2
  refine jr_iconst (v := (0 : Int32)) hE dX12_addTold_4 (by decide) ?_
  refine jr_istore_n (lv' := [(3, .int (0 : Int32)), (0, .ref o), (1, .int (nI wh)), (2, .ref (a 80))]) hE dX12_addTold_5 (by decide) rfl ?_
  refine jr_lv (lv' := [(3, .int (0 : Int32)), (0, .ref o), (1, .int (nI wh)), (2, .ref (a 80))]) [0, 1, 2, 3] rfl ?_
  exact loop sg 0 F1 n1 (by omega) M1 (fun k hk => hf1 k (jnsub (V := [70]) hk [17] rfl)) hs1 O1

/-- an entry whose key and point can be lifted and whose number is below N -/
abbrev wellE (f h : Nat → Int32) (i : Nat) : Prop := isX (bnum (bl f (32 * i) 32)) ∧ isX (bnum (bl h (64 * i) 32)) ∧ bnum (bl h (64 * i + 32) 32) < NN

set_option maxHeartbeats 4000000 in
set_option maxRecDepth 100000 in
theorem c_m_areWell (l : Launch) (G : Nat → ClassId) (o : Nat) (a : Nat → Nat) (v : Nat → Int32) (n : Nat → Option Nat) (g : Nat → Nat → Int64) (w : Nat → Nat → Int32) (en : Nat) : jKi l yX12_areWell wsX12_areWell ({ frames := 5, cells := 0, slots := 0, locals := 132 }) G [.ref o] (fun L F => MW G L F o a v n g w ∧ mK n g ∧ mC n ∧ v 10 = nI en ∧ en ≤ 4 ∧ (∀ i, i < en → bB (w 11) (32 * i) 32) ∧ (∀ i, i < en → bB (w 14) (64 * i) 64)) (fun L F r F1 => ∃ n', MW G L F1 o a v n' g w ∧ (∀ k, k ∉ [40, 41, 42, 43, 35, 36, 63, 71, 72] → n' k = n k) ∧ r = b2i (∀ t, t < en → wellE (w 11) (w 14) t) ∧ mO o a F F1) := by
  refine jm_ki (cc := cX12_areWell) (maxL := 3) (rt := .boolean) (by decide) rfl (Nat.le_of_ble_eq_true rfl) ?_
  intro E L F hE hR hpre
  have hE : jOk E G _ cX12_areWell 3 RX12 wsX12_areWell := hE

  have f520 : jFl RX12 wsX12_areWell 520 12 10 := ⟨rfl, by decide, by decide +kernel, by decide +kernel⟩
  have f308 : jFl RX12 wsX12_areWell 308 12 63 := ⟨rfl, by decide, by decide +kernel, by decide +kernel⟩
  have f103 : jFl RX12 wsX12_areWell 103 12 11 := ⟨rfl, by decide, by decide +kernel, by decide +kernel⟩
  have f332 : jFl RX12 wsX12_areWell 332 12 71 := ⟨rfl, by decide, by decide +kernel, by decide +kernel⟩
  have f112 : jFl RX12 wsX12_areWell 112 12 14 := ⟨rfl, by decide, by decide +kernel, by decide +kernel⟩
  have f335 : jFl RX12 wsX12_areWell 335 12 72 := ⟨rfl, by decide, by decide +kernel, by decide +kernel⟩
  have f27 : jFl RX12 wsX12_areWell 27 12 1 := ⟨rfl, by decide, by decide +kernel, by decide +kernel⟩
  obtain ⟨M0, hK, hC, hen, he4, hBk, hBs⟩ := hpre
  have loop : ∀ (r0 i : Nat) (F2 : Nat → va_E) (n2 : Nat → Option Nat) (b : Int32), i + r0 = en → MW G L F2 o a v n2 g w → (∀ k, k ∉ [40, 41, 42, 43, 35, 36, 63, 71, 72] → n2 k = n k) → b = b2i (∀ t, t < i → wellE (w 11) (w 14) t) → mO o a F F2 → J E L F2 0 0 4 [(2, .int (nI i)), (1, .int b), (0, .ref o)] [] := by
    intro r0
    induction r0 with
    | zero =>
      intro i F2 n2 b hi M2 hf2 hb O
      refine jr_iload_n hE dX12_areWell_4 0 rfl ?_
      refine jr_aload_n hE dX12_areWell_5 2 rfl ?_
      refine jr_get hE dX12_areWell_6 f520 M2.ob rfl ?_
      rw [hen]
      refine jr_icmp_ge (tgt := 112) hE dX12_areWell_9 (by decide) (fun c_9 => ?_) (fun c_9 => absurd (nI_le (by omega) (by omega)) c_9)
      refine jr_iload_n hE dX12_areWell_112 1 rfl ?_
      exact hR F2 b _ _ dX12_areWell_113 (by rw [hb]; exact b2i_z _) ⟨n2, M2, hf2, by rw [hb, show i = en by omega], O⟩
    | succ r0 ih =>
      intro i F2 n2 b hi M2 hf2 hb O
      have hK2 : mK n2 g := hK.fr (hf2 0 (by decide)) (hf2 1 (by decide)) (hf2 32 (by decide)) (hf2 33 (by decide))
      have hC2 : mC n2 := hC.fr (hf2 4 (by decide)) (hf2 5 (by decide)) (hf2 6 (by decide)) (hf2 7 (by decide)) (hf2 48 (by decide))
      refine jr_iload_n hE dX12_areWell_4 0 rfl ?_
      refine jr_aload_n hE dX12_areWell_5 2 rfl ?_
      refine jr_get hE dX12_areWell_6 f520 M2.ob rfl ?_
      rw [hen]
      refine jr_icmp_ge (tgt := 112) hE dX12_areWell_9 (by decide) (fun c_9 => absurd c_9 (nI_ge (by omega) (by omega))) (fun c_9 => ?_)
      refine jr_iload_n hE dX12_areWell_12 1 rfl ?_
      refine jr_if_eq (tgt := 112) hE dX12_areWell_13 (by decide) (fun c13 => ?_) (fun c13 => ?_)
      · refine jr_iload_n hE dX12_areWell_112 1 rfl ?_
        exact hR F2 b _ _ dX12_areWell_113 (by rw [hb]; exact b2i_z _) ⟨n2, M2, hf2, by
          rw [c13]
          exact (b2i_f (fun q => by
            rw [b2i_t (fun t ht => q t (by omega))] at hb
            rw [hb] at c13
            exact absurd c13 (by decide))).symm, O⟩
      · refine jr_aload_n hE dX12_areWell_16 2 rfl ?_
        refine jr_get hE dX12_areWell_17 f308 M2.ob rfl ?_
        refine jr_aload_n hE dX12_areWell_20 2 rfl ?_
        refine jr_get hE dX12_areWell_21 f103 M2.ob rfl ?_
        refine jr_bipush (v := (32 : Int32)) hE dX12_areWell_24 (by decide) ?_
        refine jr_iload_n hE dX12_areWell_26 0 rfl ?_
        refine jr_imul (z := nI (32 * i)) hE dX12_areWell_27 (pk_mul 32 i) ?_
        refine jr_kSv (n := 3) (As := [.ref (a 63), .ref (a 11), .int (nI (32 * i))]) (rest := []) hE dX12_areWell_28 (fun l => c_m_numberOf l G o a v n2 g w 63 11 (32 * i) 128) gX12_areWell_X12_numberOf rfl (by decide +kernel) ⟨rfl, rfl, by decide, by decide⟩ (by decide) rfl rfl (Nat.le_of_ble_eq_true rfl) (⟨M2, by decide, by decide, by omega, by decide, hBk i (by omega)⟩) (fun F1 q2 => ?_)
        obtain ⟨N1, P1⟩ := q2
        have Q1 := O.tr P1
        refine jr_aload_n hE dX12_areWell_31 2 rfl ?_
        refine jr_get hE dX12_areWell_32 f332 N1.ob rfl ?_
        refine jr_aload_n hE dX12_areWell_35 2 rfl ?_
        refine jr_get hE dX12_areWell_36 f112 N1.ob rfl ?_
        refine jr_bipush (v := (64 : Int32)) hE dX12_areWell_39 (by decide) ?_
        refine jr_iload_n hE dX12_areWell_41 0 rfl ?_
        refine jr_imul (z := nI (64 * i)) hE dX12_areWell_42 (pk_mul 64 i) ?_
        refine jr_kSv (n := 3) (As := [.ref (a 71), .ref (a 14), .int (nI (64 * i))]) (rest := []) hE dX12_areWell_43 (fun l => c_m_numberOf l G o a v (uz n2 63 (some (bnum (bl (w 11) (32 * i) 32)))) g w 71 14 (64 * i) 256) gX12_areWell_X12_numberOf rfl (by decide +kernel) ⟨rfl, rfl, by decide, by decide⟩ (by decide) rfl rfl (Nat.le_of_ble_eq_true rfl) (⟨N1, by decide, by decide, by omega, by decide, fun t ht => hBs i (by omega) t (by omega)⟩) (fun F3 q4 => ?_)
        obtain ⟨N2, P2⟩ := q4
        have Q2 := Q1.tr P2
        refine jr_aload_n hE dX12_areWell_46 2 rfl ?_
        refine jr_get hE dX12_areWell_47 f335 N2.ob rfl ?_
        refine jr_aload_n hE dX12_areWell_50 2 rfl ?_
        refine jr_get hE dX12_areWell_51 f112 N2.ob rfl ?_
        refine jr_bipush (v := (64 : Int32)) hE dX12_areWell_54 (by decide) ?_
        refine jr_iload_n hE dX12_areWell_56 0 rfl ?_
        refine jr_imul (z := nI (64 * i)) hE dX12_areWell_57 (pk_mul 64 i) ?_
        refine jr_bipush (v := (32 : Int32)) hE dX12_areWell_58 (by decide) ?_
        refine jr_iadd (z := nI (64 * i + 32)) hE dX12_areWell_60 (nI_add _ 32) ?_
        refine jr_kSv (n := 3) (As := [.ref (a 72), .ref (a 14), .int (nI (64 * i + 32))]) (rest := []) hE dX12_areWell_61 (fun l => c_m_numberOf l G o a v (uz (uz n2 63 (some (bnum (bl (w 11) (32 * i) 32)))) 71 (some (bnum (bl (w 14) (64 * i) 32)))) g w 72 14 (64 * i + 32) 256) gX12_areWell_X12_numberOf rfl (by decide +kernel) ⟨rfl, rfl, by decide, by decide⟩ (by decide) rfl rfl (Nat.le_of_ble_eq_true rfl) (⟨N2, by decide, by decide, by omega, by decide, fun t ht => by rw [Nat.add_assoc]; exact hBs i (by omega) (32 + t) (by omega)⟩) (fun F5 q6 => ?_)
        obtain ⟨N3, P3⟩ := q6
        have Q3 := Q2.tr P3
        refine jr_aload_n hE dX12_areWell_64 2 rfl ?_
        refine jr_aload_n hE dX12_areWell_65 2 rfl ?_
        refine jr_get hE dX12_areWell_66 f308 N3.ob rfl ?_
        refine jr_kVi (ci := 12) (n := 1) (As := [.ref (a 63)]) (rest := []) hE dX12_areWell_69 (fun l => c_m_lift l G o a v (uz (uz (uz n2 63 (some (bnum (bl (w 11) (32 * i) 32)))) 71 (some (bnum (bl (w 14) (64 * i) 32)))) 72 (some (bnum (bl (w 14) (64 * i + 32) 32)))) g w 63 (bnum (bl (w 11) (32 * i) 32))) gX12_areWell_X12_lift rfl N3.ob rfl (by decide +kernel) ⟨rfl, rfl, by decide, by decide⟩ (by decide) rfl rfl (Nat.le_of_ble_eq_true rfl) (⟨N3, hK2, hC2, by decide, by decide, rfl⟩) (fun r9 F7 q8 => ?_)
        obtain ⟨m4, N4, hf4, hq4, rfl, P4⟩ := q8
        have Q4 := Q3.tr P4
        have K4 : mK m4 g := hK2.fr (n := (uz (uz (uz n2 63 (some (bnum (bl (w 11) (32 * i) 32)))) 71 (some (bnum (bl (w 14) (64 * i) 32)))) 72 (some (bnum (bl (w 14) (64 * i + 32) 32))))) (hf4 0 (by decide)) (hf4 1 (by decide)) (hf4 32 (by decide)) (hf4 33 (by decide))
        have C4 : mC m4 := hC2.fr (n := (uz (uz (uz n2 63 (some (bnum (bl (w 11) (32 * i) 32)))) 71 (some (bnum (bl (w 14) (64 * i) 32)))) 72 (some (bnum (bl (w 14) (64 * i + 32) 32))))) (hf4 4 (by decide)) (hf4 5 (by decide)) (hf4 6 (by decide)) (hf4 7 (by decide)) (hf4 48 (by decide))
        refine jr_if_eq (tgt := 104) hE dX12_areWell_72 (by decide) (fun c72 => ?_) (fun c72 => ?_)
        · refine jr_iconst (v := (0 : Int32)) hE dX12_areWell_104 (by decide) ?_
          refine jr_istore_n (lv' := [(1, .int (0 : Int32)), (2, .int (nI i)), (0, .ref o)]) hE dX12_areWell_105 (by decide) rfl ?_
          refine jr_iinc (v := nI (i + 1)) (lv' := [(2, .int (nI (i + 1))), (1, .int (0 : Int32)), (0, .ref o)]) hE dX12_areWell_106 1 rfl (nI_1 _) (by decide) rfl ?_
          refine jr_goto (tgt := 4) hE dX12_areWell_109 (by decide) ?_
          refine jr_lv (lv' := [(2, .int (nI (i + 1))), (1, .int (0 : Int32)), (0, .ref o)]) [0, 1, 2] rfl ?_
          exact ih (i + 1) F7 m4 0 (by omega) N4 (fun k hk => ((hf4 k (jnsub (V := [40, 41, 42, 43, 35, 36]) hk [0, 1, 2, 3, 4, 5] rfl)).trans ((uz_n _ _ (jne hk 8 rfl)).trans ((uz_n _ _ (jne hk 7 rfl)).trans ((uz_n _ _ (jne hk 6 rfl)).trans (hf2 k hk)))))) ((b2i_f (fun q => by
            have q1 := q i (Nat.lt_succ_self i)
            rw [b2i_t q1.1] at c72
            exact absurd c72 (by decide))).symm) Q4
        · refine jr_aload_n hE dX12_areWell_75 2 rfl ?_
          refine jr_aload_n hE dX12_areWell_76 2 rfl ?_
          refine jr_get hE dX12_areWell_77 f332 N4.ob rfl ?_
          refine jr_kVi (ci := 12) (n := 1) (As := [.ref (a 71)]) (rest := []) hE dX12_areWell_80 (fun l => c_m_lift l G o a v m4 g w 71 (bnum (bl (w 14) (64 * i) 32))) gX12_areWell_X12_lift rfl N4.ob rfl (by decide +kernel) ⟨rfl, rfl, by decide, by decide⟩ (by decide) rfl rfl (Nat.le_of_ble_eq_true rfl) (⟨N4, K4, C4, by decide, by decide, (hf4 71 (by decide))⟩) (fun r12 F10 q11 => ?_)
          obtain ⟨m5, N5, hf5, hq5, rfl, P5⟩ := q11
          have Q5 := Q4.tr P5
          have K5 : mK m5 g := K4.fr (n := m4) (hf5 0 (by decide)) (hf5 1 (by decide)) (hf5 32 (by decide)) (hf5 33 (by decide))
          have C5 : mC m5 := C4.fr (n := m4) (hf5 4 (by decide)) (hf5 5 (by decide)) (hf5 6 (by decide)) (hf5 7 (by decide)) (hf5 48 (by decide))
          refine jr_if_eq (tgt := 104) hE dX12_areWell_83 (by decide) (fun c83 => ?_) (fun c83 => ?_)
          · refine jr_iconst (v := (0 : Int32)) hE dX12_areWell_104 (by decide) ?_
            refine jr_istore_n (lv' := [(1, .int (0 : Int32)), (2, .int (nI i)), (0, .ref o)]) hE dX12_areWell_105 (by decide) rfl ?_
            refine jr_iinc (v := nI (i + 1)) (lv' := [(2, .int (nI (i + 1))), (1, .int (0 : Int32)), (0, .ref o)]) hE dX12_areWell_106 1 rfl (nI_1 _) (by decide) rfl ?_
            refine jr_goto (tgt := 4) hE dX12_areWell_109 (by decide) ?_
            refine jr_lv (lv' := [(2, .int (nI (i + 1))), (1, .int (0 : Int32)), (0, .ref o)]) [0, 1, 2] rfl ?_
            exact ih (i + 1) F10 m5 0 (by omega) N5 (fun k hk => ((hf5 k (jnsub (V := [40, 41, 42, 43, 35, 36]) hk [0, 1, 2, 3, 4, 5] rfl)).trans ((hf4 k (jnsub (V := [40, 41, 42, 43, 35, 36]) hk [0, 1, 2, 3, 4, 5] rfl)).trans ((uz_n _ _ (jne hk 8 rfl)).trans ((uz_n _ _ (jne hk 7 rfl)).trans ((uz_n _ _ (jne hk 6 rfl)).trans (hf2 k hk))))))) ((b2i_f (fun q => by
              have q1 := q i (Nat.lt_succ_self i)
              rw [b2i_t q1.2.1] at c83
              exact absurd c83 (by decide))).symm) Q5
          · refine jr_aload_n hE dX12_areWell_86 2 rfl ?_
            refine jr_get hE dX12_areWell_87 f335 N5.ob rfl ?_
            refine jr_aload_n hE dX12_areWell_90 2 rfl ?_
            refine jr_get hE dX12_areWell_91 f27 N5.ob rfl ?_
            refine jr_kSi (n := 2) (As := [.ref (a 72), .ref (a 1)]) (rest := []) hE dX12_areWell_94 (fun l => c_m_isBelow l G o a v m5 g w 72 1 (bnum (bl (w 14) (64 * i + 32) 32)) NN) gX12_areWell_X12_isBelow rfl (by decide +kernel) ⟨rfl, rfl, by decide, by decide⟩ (by decide) rfl rfl (Nat.le_of_ble_eq_true rfl) (⟨N5, by decide, by decide, (hf5 72 (by decide)).trans (hf4 72 (by decide)), K5.2.1⟩) (fun r15 F13 q14 => ?_)
            obtain ⟨e9, r9⟩ := q14
            subst e9 r9
            refine jr_if_eq (tgt := 104) hE dX12_areWell_97 (by decide) (fun c97 => ?_) (fun c97 => ?_)
            · refine jr_iconst (v := (0 : Int32)) hE dX12_areWell_104 (by decide) ?_
              refine jr_istore_n (lv' := [(1, .int (0 : Int32)), (2, .int (nI i)), (0, .ref o)]) hE dX12_areWell_105 (by decide) rfl ?_
              refine jr_iinc (v := nI (i + 1)) (lv' := [(2, .int (nI (i + 1))), (1, .int (0 : Int32)), (0, .ref o)]) hE dX12_areWell_106 1 rfl (nI_1 _) (by decide) rfl ?_
              refine jr_goto (tgt := 4) hE dX12_areWell_109 (by decide) ?_
              refine jr_lv (lv' := [(2, .int (nI (i + 1))), (1, .int (0 : Int32)), (0, .ref o)]) [0, 1, 2] rfl ?_
              exact ih (i + 1) F10 m5 0 (by omega) N5 (fun k hk => ((hf5 k (jnsub (V := [40, 41, 42, 43, 35, 36]) hk [0, 1, 2, 3, 4, 5] rfl)).trans ((hf4 k (jnsub (V := [40, 41, 42, 43, 35, 36]) hk [0, 1, 2, 3, 4, 5] rfl)).trans ((uz_n _ _ (jne hk 8 rfl)).trans ((uz_n _ _ (jne hk 7 rfl)).trans ((uz_n _ _ (jne hk 6 rfl)).trans (hf2 k hk))))))) ((b2i_f (fun q => by
                have q1 := q i (Nat.lt_succ_self i)
                rw [b2i_t q1.2.2] at c97
                exact absurd c97 (by decide))).symm) Q5
            · refine jr_iconst (v := (1 : Int32)) hE dX12_areWell_100 (by decide) ?_
              refine jr_goto (tgt := 105) hE dX12_areWell_101 (by decide) ?_
              refine jr_istore_n (lv' := [(1, .int (1 : Int32)), (2, .int (nI i)), (0, .ref o)]) hE dX12_areWell_105 (by decide) rfl ?_
              refine jr_iinc (v := nI (i + 1)) (lv' := [(2, .int (nI (i + 1))), (1, .int (1 : Int32)), (0, .ref o)]) hE dX12_areWell_106 1 rfl (nI_1 _) (by decide) rfl ?_
              refine jr_goto (tgt := 4) hE dX12_areWell_109 (by decide) ?_
              refine jr_lv (lv' := [(2, .int (nI (i + 1))), (1, .int (1 : Int32)), (0, .ref o)]) [0, 1, 2] rfl ?_
              exact ih (i + 1) F10 m5 1 (by omega) N5 (fun k hk => ((hf5 k (jnsub (V := [40, 41, 42, 43, 35, 36]) hk [0, 1, 2, 3, 4, 5] rfl)).trans ((hf4 k (jnsub (V := [40, 41, 42, 43, 35, 36]) hk [0, 1, 2, 3, 4, 5] rfl)).trans ((uz_n _ _ (jne hk 8 rfl)).trans ((uz_n _ _ (jne hk 7 rfl)).trans ((uz_n _ _ (jne hk 6 rfl)).trans (hf2 k hk))))))) ((b2i_t (fun t ht => by
                rcases Nat.lt_or_ge t i with q | q
                · exact b2i_1 (p := ∀ t, t < i → wellE (w 11) (w 14) t) (by rw [← hb]; exact c13) t q
                · rw [show t = i by omega]
                  exact ⟨b2i_1 c72, b2i_1 c83, b2i_1 c97⟩)).symm) Q5
  refine jr_iconst (v := (1 : Int32)) hE dX12_areWell_0 (by decide) ?_
  refine jr_istore_n (lv' := [(1, .int (1 : Int32)), (0, .ref o)]) hE dX12_areWell_1 (by decide) rfl ?_
  refine jr_iconst (v := (0 : Int32)) hE dX12_areWell_2 (by decide) ?_
  refine jr_istore_n (lv' := [(2, .int (0 : Int32)), (1, .int (1 : Int32)), (0, .ref o)]) hE dX12_areWell_3 (by decide) rfl ?_
  refine jr_lv (lv' := [(2, .int (0 : Int32)), (1, .int (1 : Int32)), (0, .ref o)]) [0, 1, 2] rfl ?_
  exact loop en 0 F n 1 (by omega) M0 (fun _ _ => rfl) (b2i_t (fun k hk => absurd hk (Nat.not_lt_zero k))).symm (mO.rf o a F)

