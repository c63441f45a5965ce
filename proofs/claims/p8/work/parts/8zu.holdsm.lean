/-! THE REFERENCE'S holds -/
theorem bl_take {f : Nat → Int32} {s n : Nat} {l : List Nat} (h : bl f s n = l) (a : Nat) (ha : a ≤ n) : bl f s a = l.take a := by
  have q := bl_sub f s n 0 a (by omega)
  rw [List.drop_zero, h, Nat.add_zero] at q
  exact q.symm
theorem bl_drop {f : Nat → Int32} {s n : Nat} {l : List Nat} (h : bl f s n = l) (a b : Nat) (e : n = a + b) : bl f (s + a) b = l.drop a := by
  have q := bl_sub f s n a b (by omega)
  rw [h] at q
  have hl : l.length = n := by rw [← h]; exact bl_len _ _ _
  rw [List.take_of_length_le (by rw [List.length_drop]; omega)] at q
  exact q.symm
theorem take_lt {l : List Nat} (h : ∀ b, b ∈ l → b < 256) (a : Nat) : ∀ b, b ∈ l.take a → b < 256 := fun b hb => h b (List.mem_of_mem_take hb)
theorem drop_lt {l : List Nat} (h : ∀ b, b ∈ l → b < 256) (a : Nat) : ∀ b, b ∈ l.drop a → b < 256 := fun b hb => h b (List.mem_of_mem_drop hb)
noncomputable def hoR (x r t : Nat) (m : List Nat) : EP := eadd PP (emul PP (chS r x m) (eneg PP (lfE x))) (emul PP t GE)
abbrev hoP (x r t : Nat) (m : List Nat) : Prop := hoR x r t m ≠ none ∧ eyO (hoR x r t m) = false ∧ exE (hoR x r t m) = r
abbrev hoOK (k f : List Nat) : Prop := k.length = 32 ∧ f.length = 64 ∧ isX (bnum k) ∧ bnum (f.take 32) < PP ∧ bnum (f.drop 32) < NN
noncomputable def stHolds (s : ST) (r q f : Int32) : Int32 × ST := if rowP r ∧ rowP q ∧ rowP f then (if hoOK (s.1 (rn r)) (s.1 (rn f)) then (if 48 < s.2.2.1 + 2 then (-5, s) else (b2i (hoP (bnum (s.1 (rn r))) (bnum ((s.1 (rn f)).take 32)) (bnum ((s.1 (rn f)).drop 32)) (s.1 (rn q))), setK s (s.2.2.1 + 2))) else (0, s)) else (-1, s)
theorem od_0 {A : EP} (h : eyO A = false) : eyN A % 2 = 0 := by
  rcases Nat.mod_two_eq_zero_or_one (eyN A) with q | q
  · exact q
  · rw [odd_t q] at h
    exact absurd h (by decide)

set_option maxHeartbeats 4000000 in
set_option maxRecDepth 100000 in
theorem c_m_holds (l : Launch) (G : Nat → ClassId) (o : Nat) (a : Nat → Nat) (v : Nat → Int32) (n : Nat → Option Nat) (g : Nat → Nat → Int64) (w : Nat → Nat → Int32) (s : ST) (r m t : Int32) : jKi l yX12_holds wsX12_holds ({ frames := 7, cells := 0, slots := 0, locals := 172 }) G [.ref o, .int r, .int m, .int t] (fun L F => mI G L F o a v n g w s) (fun L F q F1 => ∃ v' n' g' w', mI G L F1 o a v' n' g' w' (stHolds s r m t).2 ∧ q = (stHolds s r m t).1 ∧ mO o a F F1) := by
  refine jm_ki (cc := cX12_holds) (maxL := 5) (rt := .int) (by decide) rfl (Nat.le_of_ble_eq_true rfl) ?_
  intro E L F hE hR hpre
  have hE : jOk E G _ cX12_holds 5 RX12 wsX12_holds := hE
  have hI := hpre
  obtain ⟨M0, hK, hC, htg, hrd, hRW, hpI⟩ := id hpre
  have hwk48 := hpI.2.1.2
  have hs4 := hpI.2.2.1.2.1
  have f96 : jFl RX12 wsX12_holds 96 12 8 := ⟨rfl, by decide, by decide +kernel, by decide +kernel⟩
  have f308 : jFl RX12 wsX12_holds 308 12 63 := ⟨rfl, by decide, by decide +kernel, by decide +kernel⟩
  have f100 : jFl RX12 wsX12_holds 100 12 9 := ⟨rfl, by decide, by decide +kernel, by decide +kernel⟩
  have f332 : jFl RX12 wsX12_holds 332 12 71 := ⟨rfl, by decide, by decide +kernel, by decide +kernel⟩
  have f335 : jFl RX12 wsX12_holds 335 12 72 := ⟨rfl, by decide, by decide +kernel, by decide +kernel⟩
  have f15 : jFl RX12 wsX12_holds 15 12 0 := ⟨rfl, by decide, by decide +kernel, by decide +kernel⟩
  have f27 : jFl RX12 wsX12_holds 27 12 1 := ⟨rfl, by decide, by decide +kernel, by decide +kernel⟩
  have f478 : jFl RX12 wsX12_holds 478 12 31 := ⟨rfl, by decide, by decide +kernel, by decide +kernel⟩
  have f317 : jFl RX12 wsX12_holds 317 12 66 := ⟨rfl, by decide, by decide +kernel, by decide +kernel⟩
  have f329 : jFl RX12 wsX12_holds 329 12 70 := ⟨rfl, by decide, by decide +kernel, by decide +kernel⟩
  have f326 : jFl RX12 wsX12_holds 326 12 69 := ⟨rfl, by decide, by decide +kernel, by decide +kernel⟩
  have f323 : jFl RX12 wsX12_holds 323 12 68 := ⟨rfl, by decide, by decide +kernel, by decide +kernel⟩
  refine jr_iload_n hE dX12_holds_0 1 rfl ?_
  refine jr_kSi (n := 1) (As := [.int r]) (rest := []) hE dX12_holds_1 (fun l => c_m_isRow l G r) gX12_holds_X12_isRow rfl (by decide +kernel) ⟨rfl, rfl, by decide, by decide⟩ (by decide) rfl rfl (Nat.le_of_ble_eq_true rfl) (trivial) (fun r3 F1 q2 => ?_)
  obtain ⟨eq2, rq2⟩ := q2
  subst eq2 rq2
  refine jr_if_eq (tgt := 21) hE dX12_holds_4 (by decide) (fun c4 => ?_) (fun c4 => ?_)
  · refine jr_iconst (v := (-1 : Int32)) hE dX12_holds_21 (by decide) ?_
    have e : stHolds s r m t = (-1, s) := by
      unfold stHolds
      rw [if_neg (fun h => absurd (b2i_t h.1) (by rw [c4]; decide))]
    exact hR F _ _ _ dX12_holds_22 rfl ⟨v, n, g, w, by rw [e]; exact hI, by rw [e], mO.rf o a F⟩
  · have hrk : rowP r := b2i_1 c4
    obtain ⟨k, hk, rfl⟩ := rowP_nI hrk
    obtain ⟨z1k, z2k, z3k, z4k⟩ := hRW k hk
    have hrnk := nI_rn hk
    refine jr_iload_n hE dX12_holds_7 2 rfl ?_
    refine jr_kSi (n := 1) (As := [.int m]) (rest := []) hE dX12_holds_8 (fun l => c_m_isRow l G m) gX12_holds_X12_isRow rfl (by decide +kernel) ⟨rfl, rfl, by decide, by decide⟩ (by decide) rfl rfl (Nat.le_of_ble_eq_true rfl) (trivial) (fun r6 F4 q5 => ?_)
    obtain ⟨eq5, rq5⟩ := q5
    subst eq5 rq5
    refine jr_if_eq (tgt := 21) hE dX12_holds_11 (by decide) (fun c11 => ?_) (fun c11 => ?_)
    · refine jr_iconst (v := (-1 : Int32)) hE dX12_holds_21 (by decide) ?_
      have e : stHolds s (nI k) m t = (-1, s) := by
        unfold stHolds
        rw [if_neg (fun h => absurd (b2i_t h.2.1) (by rw [c11]; decide))]
      exact hR F _ _ _ dX12_holds_22 rfl ⟨v, n, g, w, by rw [e]; exact hI, by rw [e], mO.rf o a F⟩
    · have hrb : rowP m := b2i_1 c11
      obtain ⟨b, hb, rfl⟩ := rowP_nI hrb
      obtain ⟨z1b, z2b, z3b, z4b⟩ := hRW b hb
      have hrnb := nI_rn hb
      refine jr_iload_n hE dX12_holds_14 3 rfl ?_
      refine jr_kSi (n := 1) (As := [.int t]) (rest := []) hE dX12_holds_15 (fun l => c_m_isRow l G t) gX12_holds_X12_isRow rfl (by decide +kernel) ⟨rfl, rfl, by decide, by decide⟩ (by decide) rfl rfl (Nat.le_of_ble_eq_true rfl) (trivial) (fun r9 F7 q8 => ?_)
      obtain ⟨eq8, rq8⟩ := q8
      subst eq8 rq8
      refine jr_if_ne (tgt := 23) hE dX12_holds_18 (by decide) (fun c18 => ?_) (fun c18 => ?_)
      · have hrj : rowP t := b2i_1 c18
        obtain ⟨j, hj, rfl⟩ := rowP_nI hrj
        obtain ⟨z1j, z2j, z3j, z4j⟩ := hRW j hj
        have hrnj := nI_rn hj
        refine jr_aload_n hE dX12_holds_23 0 rfl ?_
        refine jr_get hE dX12_holds_24 f96 M0.ob rfl ?_
        refine jr_iload_n hE dX12_holds_27 1 rfl ?_
        refine jr_iald (v := nI (s.1 k).length) hE dX12_holds_28 (M0.I (k := 8) (N := 16) (by decide)) (vp_in_nI (by omega) (by decide)) (by rw [nI_clamp (by omega)]; exact z1k) ?_
        refine jr_bipush (v := (32 : Int32)) hE dX12_holds_29 (by decide) ?_
        refine jr_icmp_ne (tgt := 45) hE dX12_holds_31 (by decide) (fun c31 => ?_) (fun c31 => ?_)
        · refine jr_iconst (v := (0 : Int32)) hE dX12_holds_45 (by decide) ?_
          have hvF : ∀ z, z ∉ [999] → v z = v z := (fun z hz => rfl)
          have hnF : ∀ z, z ∉ [999] → n z = n z := (fun z hz => rfl)
          have hwF : ∀ z, z ∉ [999] → w z = w z := (fun z hz => rfl)
          have e : stHolds s (nI k) (nI b) (nI j) = (0, s) := by
            unfold stHolds
            rw [if_pos ⟨nI_rowP hk, nI_rowP hb, nI_rowP hj⟩, hrnk, hrnj, if_neg (fun h => c31 ((nI_eq (by omega) (by decide)).mpr h.1))]
          exact hR F _ _ _ dX12_holds_46 rfl ⟨_, _, _, _, by rw [e]; exact hI.keep (c := s.2.2.1) M0 hpI.2.1.1 (hpI.2.1.2) (fun z hz => hvF z (jdj rfl hz)) (fun z hz => hnF z (jdj rfl hz)) (fun z hz => hwF z (jdj rfl hz)), by rw [e], (mO.rf o a F)⟩
        · refine jr_aload_n hE dX12_holds_34 0 rfl ?_
          refine jr_get hE dX12_holds_35 f96 M0.ob rfl ?_
          refine jr_iload_n hE dX12_holds_38 3 rfl ?_
          refine jr_iald (v := nI (s.1 j).length) hE dX12_holds_39 (M0.I (k := 8) (N := 16) (by decide)) (vp_in_nI (by omega) (by decide)) (by rw [nI_clamp (by omega)]; exact z1j) ?_
          refine jr_bipush (v := (64 : Int32)) hE dX12_holds_40 (by decide) ?_
          refine jr_icmp_eq (tgt := 47) hE dX12_holds_42 (by decide) (fun c42 => ?_) (fun c42 => ?_)
          · have hlk : (s.1 k).length = 32 := (nI_eq (by omega) (by decide)).mp c31
            have hlj : (s.1 j).length = 64 := (nI_eq (by omega) (by decide)).mp c42
            have z5k : bl (w 9) (100 * k) 32 = s.1 k := by have q := z2k; rw [hlk] at q; exact q
            have z5j : bl (w 9) (100 * j) 64 = s.1 j := by have q := z2j; rw [hlj] at q; exact q
            refine jr_aload_n hE dX12_holds_47 0 rfl ?_
            refine jr_get hE dX12_holds_48 f308 M0.ob rfl ?_
            refine jr_aload_n hE dX12_holds_51 0 rfl ?_
            refine jr_get hE dX12_holds_52 f100 M0.ob rfl ?_
            refine jr_bipush (v := (100 : Int32)) hE dX12_holds_55 (by decide) ?_
            refine jr_iload_n hE dX12_holds_57 1 rfl ?_
            refine jr_imul (z := nI (100 * k)) hE dX12_holds_58 (pk_mul 100 k) ?_
            refine jr_kSv (n := 3) (As := [.ref (a 63), .ref (a 9), .int (nI (100 * k))]) (rest := []) hE dX12_holds_59 (fun l => c_m_numberOf l G o a v n g w 63 9 (100 * k) 1600) gX12_holds_X12_numberOf rfl (by decide +kernel) ⟨rfl, rfl, by decide, by decide⟩ (by decide) rfl rfl (Nat.le_of_ble_eq_true rfl) (⟨M0, by decide, by decide, by omega, by decide, bB_of z5k z4k⟩) (fun F11 q12 => ?_)
            obtain ⟨M13, P13⟩ := q12
            have O13 := (mO.rf o a F).tr P13
            rw [z5k] at M13
            obtain ⟨n13, e13, hf13, hv13⟩ := uz_ab n 63 (some (bnum (s.1 k)))
            rw [e13] at M13
            refine jr_aload_n hE dX12_holds_62 0 rfl ?_
            refine jr_get hE dX12_holds_63 f332 M13.ob rfl ?_
            refine jr_aload_n hE dX12_holds_66 0 rfl ?_
            refine jr_get hE dX12_holds_67 f100 M13.ob rfl ?_
            refine jr_bipush (v := (100 : Int32)) hE dX12_holds_70 (by decide) ?_
            refine jr_iload_n hE dX12_holds_72 3 rfl ?_
            refine jr_imul (z := nI (100 * j)) hE dX12_holds_73 (pk_mul 100 j) ?_
            refine jr_kSv (n := 3) (As := [.ref (a 71), .ref (a 9), .int (nI (100 * j))]) (rest := []) hE dX12_holds_74 (fun l => c_m_numberOf l G o a v n13 g w 71 9 (100 * j) 1600) gX12_holds_X12_numberOf rfl (by decide +kernel) ⟨rfl, rfl, by decide, by decide⟩ (by decide) rfl rfl (Nat.le_of_ble_eq_true rfl) (⟨M13, by decide, by decide, by omega, by decide, bB_of (bl_take z5j 32 (by decide)) (take_lt z4j 32)⟩) (fun F14 q15 => ?_)
            obtain ⟨M16, P16⟩ := q15
            have O16 := O13.tr P16
            rw [(bl_take z5j 32 (by decide))] at M16
            obtain ⟨n16, e16, hf16, hv16⟩ := uz_ab n13 71 (some (bnum ((s.1 j).take 32)))
            rw [e16] at M16
            refine jr_aload_n hE dX12_holds_77 0 rfl ?_
            refine jr_get hE dX12_holds_78 f335 M16.ob rfl ?_
            refine jr_aload_n hE dX12_holds_81 0 rfl ?_
            refine jr_get hE dX12_holds_82 f100 M16.ob rfl ?_
            refine jr_bipush (v := (100 : Int32)) hE dX12_holds_85 (by decide) ?_
            refine jr_iload_n hE dX12_holds_87 3 rfl ?_
            refine jr_imul (z := nI (100 * j)) hE dX12_holds_88 (pk_mul 100 j) ?_
            refine jr_bipush (v := (32 : Int32)) hE dX12_holds_89 (by decide) ?_
            refine jr_iadd (z := nI (100 * j + 32)) hE dX12_holds_91 (nI_add _ 32) ?_
            refine jr_kSv (n := 3) (As := [.ref (a 72), .ref (a 9), .int (nI (100 * j + 32))]) (rest := []) hE dX12_holds_92 (fun l => c_m_numberOf l G o a v n16 g w 72 9 (100 * j + 32) 1600) gX12_holds_X12_numberOf rfl (by decide +kernel) ⟨rfl, rfl, by decide, by decide⟩ (by decide) rfl rfl (Nat.le_of_ble_eq_true rfl) (⟨M16, by decide, by decide, by omega, by decide, bB_of (bl_drop z5j 32 32 rfl) (drop_lt z4j 32)⟩) (fun F17 q18 => ?_)
            obtain ⟨M19, P19⟩ := q18
            have O19 := O16.tr P19
            rw [(bl_drop z5j 32 32 rfl)] at M19
            obtain ⟨n19, e19, hf19, hv19⟩ := uz_ab n16 72 (some (bnum ((s.1 j).drop 32)))
            rw [e19] at M19
            have hN20 : n19 63 = some (bnum (s.1 k)) := ((hf19 63 (by decide)).trans (hf16 63 (by decide))).trans hv13
            obtain ⟨x, ex⟩ : ∃ x, x = bnum (s.1 k) := ⟨_, rfl⟩
            have hnx : n19 63 = some x := by rw [ex]; exact hN20
            have hN21 : n19 71 = some (bnum ((s.1 j).take 32)) := (hf19 71 (by decide)).trans hv16
            obtain ⟨r0, er0⟩ : ∃ x, x = bnum ((s.1 j).take 32) := ⟨_, rfl⟩
            have hnr0 : n19 71 = some r0 := by rw [er0]; exact hN21
            obtain ⟨t0, et0⟩ : ∃ x, x = bnum ((s.1 j).drop 32) := ⟨_, rfl⟩
            have hnt0 : n19 72 = some t0 := by rw [et0]; exact hv19
            refine jr_aload_n hE dX12_holds_95 0 rfl ?_
            refine jr_aload_n hE dX12_holds_96 0 rfl ?_
            refine jr_get hE dX12_holds_97 f308 M19.ob rfl ?_
            have hK22 : mK n19 g := hK.fr ((hf19 0 (by decide)).trans ((hf16 0 (by decide)).trans (hf13 0 (by decide)))) ((hf19 1 (by decide)).trans ((hf16 1 (by decide)).trans (hf13 1 (by decide)))) ((hf19 32 (by decide)).trans ((hf16 32 (by decide)).trans (hf13 32 (by decide)))) ((hf19 33 (by decide)).trans ((hf16 33 (by decide)).trans (hf13 33 (by decide))))
            have hC23 : mC n19 := hC.fr ((hf19 4 (by decide)).trans ((hf16 4 (by decide)).trans (hf13 4 (by decide)))) ((hf19 5 (by decide)).trans ((hf16 5 (by decide)).trans (hf13 5 (by decide)))) ((hf19 6 (by decide)).trans ((hf16 6 (by decide)).trans (hf13 6 (by decide)))) ((hf19 7 (by decide)).trans ((hf16 7 (by decide)).trans (hf13 7 (by decide)))) ((hf19 48 (by decide)).trans ((hf16 48 (by decide)).trans (hf13 48 (by decide))))
            refine jr_kVi (ci := 12) (n := 1) (As := [.ref (a 63)]) (rest := []) hE dX12_holds_100 (fun l => c_m_lift l G o a v n19 g w 63 x) gX12_holds_X12_lift rfl M19.ob rfl (by decide +kernel) ⟨rfl, rfl, by decide, by decide⟩ (by decide) rfl rfl (Nat.le_of_ble_eq_true rfl) (⟨M19, hK22, hC23, by decide, by decide, hnx⟩) (fun r26 F24 q25 => ?_)
            obtain ⟨n27, M27, hf27, hq27, rfl, P27⟩ := q25
            have O27 := O19.tr P27
            refine jr_if_eq (tgt := 134) hE dX12_holds_103 (by decide) (fun c103 => ?_) (fun c103 => ?_)
            · refine jr_iconst (v := (0 : Int32)) hE dX12_holds_134 (by decide) ?_
              have hvF : ∀ z, z ∉ [999] → v z = v z := (fun z hz => rfl)
              have hnF : ∀ z, z ∉ [35, 36, 40, 41, 42, 43, 63, 71, 72] → n27 z = n z := (fun z hz => ((hf27 z (jnsub (V := [40, 41, 42, 43, 35, 36]) hz [2, 3, 4, 5, 0, 1] rfl)).trans ((hf19 z (jnsub (V := [72]) hz [8] rfl)).trans ((hf16 z (jnsub (V := [71]) hz [7] rfl)).trans (hf13 z (jnsub (V := [63]) hz [6] rfl))))))
              have hwF : ∀ z, z ∉ [999] → w z = w z := (fun z hz => rfl)
              have e : stHolds s (nI k) (nI b) (nI j) = (0, s) := by
                unfold stHolds
                rw [if_pos ⟨nI_rowP hk, nI_rowP hb, nI_rowP hj⟩, hrnk, hrnj, if_neg (fun h => absurd (b2i_t h.2.2.1) (by rw [← ex, c103]; decide))]
              exact hR F24 _ _ _ dX12_holds_135 rfl ⟨_, _, _, _, by rw [e]; exact hI.keep (c := s.2.2.1) M27 hpI.2.1.1 (hpI.2.1.2) (fun z hz => hvF z (jdj rfl hz)) (fun z hz => hnF z (jdj rfl hz)) (fun z hz => hwF z (jdj rfl hz)), by rw [e], O27⟩
            · refine jr_aload_n hE dX12_holds_106 0 rfl ?_
              refine jr_get hE dX12_holds_107 f332 M27.ob rfl ?_
              refine jr_aload_n hE dX12_holds_110 0 rfl ?_
              refine jr_get hE dX12_holds_111 f15 M27.ob rfl ?_
              have hN29 : n27 71 = some r0 := (hf27 71 (by decide)).trans hnr0
              have hN30 : n27 0 = some PP := ((hf27 0 (by decide)).trans ((hf19 0 (by decide)).trans ((hf16 0 (by decide)).trans (hf13 0 (by decide))))).trans hK.1
              refine jr_kSi (n := 2) (As := [.ref (a 71), .ref (a 0)]) (rest := []) hE dX12_holds_114 (fun l => c_m_isBelow l G o a v n27 g w 71 0 r0 PP) gX12_holds_X12_isBelow rfl (by decide +kernel) ⟨rfl, rfl, by decide, by decide⟩ (by decide) rfl rfl (Nat.le_of_ble_eq_true rfl) (⟨M27, by decide, by decide, hN29, hN30⟩) (fun r33 F31 q32 => ?_)
              obtain ⟨eq32, rq32⟩ := q32
              subst eq32 rq32
              refine jr_if_eq (tgt := 134) hE dX12_holds_117 (by decide) (fun c117 => ?_) (fun c117 => ?_)
              · refine jr_iconst (v := (0 : Int32)) hE dX12_holds_134 (by decide) ?_
                have hvF : ∀ z, z ∉ [999] → v z = v z := (fun z hz => rfl)
                have hnF : ∀ z, z ∉ [35, 36, 40, 41, 42, 43, 63, 71, 72] → n27 z = n z := (fun z hz => ((hf27 z (jnsub (V := [40, 41, 42, 43, 35, 36]) hz [2, 3, 4, 5, 0, 1] rfl)).trans ((hf19 z (jnsub (V := [72]) hz [8] rfl)).trans ((hf16 z (jnsub (V := [71]) hz [7] rfl)).trans (hf13 z (jnsub (V := [63]) hz [6] rfl))))))
                have hwF : ∀ z, z ∉ [999] → w z = w z := (fun z hz => rfl)
                have e : stHolds s (nI k) (nI b) (nI j) = (0, s) := by
                  unfold stHolds
                  rw [if_pos ⟨nI_rowP hk, nI_rowP hb, nI_rowP hj⟩, hrnk, hrnj, if_neg (fun h => absurd (b2i_t h.2.2.2.1) (by rw [← er0, c117]; decide))]
                exact hR F24 _ _ _ dX12_holds_135 rfl ⟨_, _, _, _, by rw [e]; exact hI.keep (c := s.2.2.1) M27 hpI.2.1.1 (hpI.2.1.2) (fun z hz => hvF z (jdj rfl hz)) (fun z hz => hnF z (jdj rfl hz)) (fun z hz => hwF z (jdj rfl hz)), by rw [e], O27⟩
              · refine jr_aload_n hE dX12_holds_120 0 rfl ?_
                refine jr_get hE dX12_holds_121 f335 M27.ob rfl ?_
                refine jr_aload_n hE dX12_holds_124 0 rfl ?_
                refine jr_get hE dX12_holds_125 f27 M27.ob rfl ?_
                have hN35 : n27 72 = some t0 := (hf27 72 (by decide)).trans hnt0
                have hN36 : n27 1 = some NN := ((hf27 1 (by decide)).trans ((hf19 1 (by decide)).trans ((hf16 1 (by decide)).trans (hf13 1 (by decide))))).trans hK.2.1
                refine jr_kSi (n := 2) (As := [.ref (a 72), .ref (a 1)]) (rest := []) hE dX12_holds_128 (fun l => c_m_isBelow l G o a v n27 g w 72 1 t0 NN) gX12_holds_X12_isBelow rfl (by decide +kernel) ⟨rfl, rfl, by decide, by decide⟩ (by decide) rfl rfl (Nat.le_of_ble_eq_true rfl) (⟨M27, by decide, by decide, hN35, hN36⟩) (fun r39 F37 q38 => ?_)
                obtain ⟨eq38, rq38⟩ := q38
                subst eq38 rq38
                refine jr_if_ne (tgt := 136) hE dX12_holds_131 (by decide) (fun c131 => ?_) (fun c131 => ?_)
                · have hIX : isX x := b2i_1 c103
                  refine jr_aload_n hE dX12_holds_136 0 rfl ?_
                  refine jr_iconst (v := (2 : Int32)) hE dX12_holds_137 (by decide) ?_
                  refine jr_kVi (ci := 12) (n := 1) (As := [.int (2 : Int32)]) (rest := []) hE dX12_holds_138 (fun l => c_m_isSpent l G o a v n27 g w s.2.2.1 2) gX12_holds_X12_isSpent rfl M27.ob rfl (by decide +kernel) ⟨rfl, rfl, by decide, by decide⟩ (by decide) rfl rfl (Nat.le_of_ble_eq_true rfl) (⟨M27, hpI.2.1.1, by omega, by omega⟩) (fun r42 F40 q41 => ?_)
                  obtain ⟨eq41, rq41⟩ := q41
                  subst eq41 rq41
                  refine jr_if_eq (tgt := 147) hE dX12_holds_141 (by decide) (fun c141 => ?_) (fun c141 => ?_)
                  · have hw48 : ¬ 48 < s.2.2.1 + 2 := fun h => absurd (b2i_t h) (by rw [c141]; decide)
                    refine jr_aload_n hE dX12_holds_147 0 rfl ?_
                    refine jr_dup hE dX12_holds_148 rfl ?_
                    refine jr_get hE dX12_holds_149 f478 M27.ob rfl ?_
                    rw [hpI.2.1.1]
                    refine jr_iconst (v := (2 : Int32)) hE dX12_holds_152 (by decide) ?_
                    refine jr_iadd (z := nI (s.2.2.1 + 2)) hE dX12_holds_153 (nI_add _ 2) ?_
                    refine jr_put (ty := .int) hE dX12_holds_154 f478 M27.ob rfl (by decide +kernel) rfl rfl (Nat.le_of_ble_eq_true rfl) (fun F43 g44 u45 => ?_)
                    have H46 := M27.setV (v' := uz v 31 (nI (s.2.2.1 + 2))) g44 u45
                    have O47 := O27.so u45
                    obtain ⟨v48, e48, hvv48, hvx48⟩ := uz_ab v 31 (nI (s.2.2.1 + 2))
                    rw [e48] at H46
                    refine jr_aload_n hE dX12_holds_157 0 rfl ?_
                    refine jr_aload_n hE dX12_holds_158 0 rfl ?_
                    refine jr_get hE dX12_holds_159 f317 H46.ob rfl ?_
                    refine jr_aload_n hE dX12_holds_162 0 rfl ?_
                    refine jr_get hE dX12_holds_163 f332 H46.ob rfl ?_
                    refine jr_aload_n hE dX12_holds_166 0 rfl ?_
                    refine jr_get hE dX12_holds_167 f308 H46.ob rfl ?_
                    refine jr_aload_n hE dX12_holds_170 0 rfl ?_
                    refine jr_get hE dX12_holds_171 f100 H46.ob rfl ?_
                    refine jr_bipush (v := (100 : Int32)) hE dX12_holds_174 (by decide) ?_
                    refine jr_iload_n hE dX12_holds_176 2 rfl ?_
                    refine jr_imul (z := nI (100 * b)) hE dX12_holds_177 (pk_mul 100 b) ?_
                    refine jr_aload_n hE dX12_holds_178 0 rfl ?_
                    refine jr_get hE dX12_holds_179 f96 H46.ob rfl ?_
                    refine jr_iload_n hE dX12_holds_182 2 rfl ?_
                    refine jr_iald (v := nI (s.1 b).length) hE dX12_holds_183 (H46.I (k := 8) (N := 16) (by decide)) (vp_in_nI (by omega) (by decide)) (by rw [nI_clamp (by omega)]; exact z1b) ?_
                    have hN49 : n27 63 = some x := (hf27 63 (by decide)).trans hnx
                    have hK50 : mK n27 g := hK22.fr (hf27 0 (by decide)) (hf27 1 (by decide)) (hf27 32 (by decide)) (hf27 33 (by decide))
                    refine jr_kVv (ci := 12) (n := 6) (As := [.ref (a 66), .ref (a 71), .ref (a 63), .ref (a 9), .int (nI (100 * b)), .int (nI (s.1 b).length)]) (rest := []) hE dX12_holds_184 (fun l => c_m_challenge l G o a v48 n27 g w 66 71 63 9 (100 * b) ((s.1 b).length) 1600 r0 x) gX12_holds_X12_challenge rfl H46.ob rfl (by decide +kernel) ⟨rfl, rfl, by decide, by decide⟩ (by decide) rfl rfl (Nat.le_of_ble_eq_true rfl) (⟨H46, hK50, htg, hrd, by decide, by decide, by decide, hN29, hN49, by decide, by decide, by omega, by decide, by omega, bB_of z2b z4b⟩) (fun F51 q52 => ?_)
                    obtain ⟨v53, w53, M53, hvv53, hw53, P53⟩ := q52
                    rw [z2b] at M53
                    have O53 := O47.tr P53
                    rw [← chS_eq] at M53
                    obtain ⟨n53, e53, hf53, hv53⟩ := uz_ab n27 66 (some (chS r0 x (s.1 b)))
                    rw [e53] at M53
                    refine jr_aload_n hE dX12_holds_187 0 rfl ?_
                    refine jr_kVv (ci := 12) (n := 0) (As := []) (rest := []) hE dX12_holds_188 (fun l => c_m_noSum l G o a v53 n53 g w53) gX12_holds_X12_noSum rfl M53.ob rfl (by decide +kernel) ⟨rfl, rfl, by decide, by decide⟩ (by decide) rfl rfl (Nat.le_of_ble_eq_true rfl) (M53) (fun F54 q55 => ?_)
                    obtain ⟨n56, M56, hf56, hs56, P56⟩ := q55
                    have O56 := O53.tr P56
                    refine jr_aload_n hE dX12_holds_191 0 rfl ?_
                    refine jr_aload_n hE dX12_holds_192 0 rfl ?_
                    refine jr_get hE dX12_holds_193 f308 M56.ob rfl ?_
                    have hN57 : n56 63 = some x := ((hf56 63 (by decide)).trans (hf53 63 (by decide))).trans hN49
                    have hK58 : mK n56 g := hK50.fr ((hf56 0 (by decide)).trans (hf53 0 (by decide))) ((hf56 1 (by decide)).trans (hf53 1 (by decide))) ((hf56 32 (by decide)).trans (hf53 32 (by decide))) ((hf56 33 (by decide)).trans (hf53 33 (by decide)))
                    have hC59 : mC n56 := hC23.fr ((hf56 4 (by decide)).trans ((hf53 4 (by decide)).trans (hf27 4 (by decide)))) ((hf56 5 (by decide)).trans ((hf53 5 (by decide)).trans (hf27 5 (by decide)))) ((hf56 6 (by decide)).trans ((hf53 6 (by decide)).trans (hf27 6 (by decide)))) ((hf56 7 (by decide)).trans ((hf53 7 (by decide)).trans (hf27 7 (by decide)))) ((hf56 48 (by decide)).trans ((hf53 48 (by decide)).trans (hf27 48 (by decide))))
                    refine jr_kVi (ci := 12) (n := 1) (As := [.ref (a 63)]) (rest := []) hE dX12_holds_196 (fun l => c_m_lift l G o a v53 n56 g w53 63 x) gX12_holds_X12_lift rfl M56.ob rfl (by decide +kernel) ⟨rfl, rfl, by decide, by decide⟩ (by decide) rfl rfl (Nat.le_of_ble_eq_true rfl) (⟨M56, hK58, hC59, by decide, by decide, hN57⟩) (fun r62 F60 q61 => ?_)
                    obtain ⟨n63, M63, hf63, hq63, rfl, P63⟩ := q61
                    have O63 := O56.tr P63
                    refine jr_istore (lv' := [(4, .int (b2i (isX x))), (0, .ref o), (1, .int (nI k)), (2, .int (nI b)), (3, .int (nI j))]) hE dX12_holds_199 (by decide) rfl ?_
                    refine jr_aload_n hE dX12_holds_201 1 rfl ?_
                    have hK64 : mK n63 g := hK58.fr (hf63 0 (by decide)) (hf63 1 (by decide)) (hf63 32 (by decide)) (hf63 33 (by decide))
                    obtain ⟨qx65, qy65, hqa65, hqb65, hqc65, hqd65, hqe65, hqf65⟩ := id (hq63 hIX)
                    refine jr_kVv (ci := 12) (n := 0) (As := []) (rest := []) hE dX12_holds_202 (fun l => c_m_negateQ l G o a v53 n63 g w53 qy65) gX12_holds_X12_negateQ rfl M63.ob rfl (by decide +kernel) ⟨rfl, rfl, by decide, by decide⟩ (by decide) rfl rfl (Nat.le_of_ble_eq_true rfl) (⟨M63, hK64, hqb65, hqd65⟩) (fun F66 q67 => ?_)
                    obtain ⟨n68, M68, hf68, hz68, P68⟩ := q67
                    have O68 := O63.tr P68
                    have hq68 : qE n68 (eneg PP (lfE x)) := qE_ng hqe65 hqc65 hqd65 hqf65 ((hf68 40 (by decide)).trans hqa65) hz68
                    refine jr_aload_n hE dX12_holds_205 1 rfl ?_
                    refine jr_aload_n hE dX12_holds_206 1 rfl ?_
                    refine jr_get hE dX12_holds_207 f317 M68.ob rfl ?_
                    have hN69 : n68 66 = some (chS r0 x (s.1 b)) := ((hf68 66 (by decide)).trans ((hf63 66 (by decide)).trans (hf56 66 (by decide)))).trans hv53
                    have hK70 : mK n68 g := hK64.fr (hf68 0 (by decide)) (hf68 1 (by decide)) (hf68 32 (by decide)) (hf68 33 (by decide))
                    have hC71 : mC n68 := hC59.fr ((hf68 4 (by decide)).trans (hf63 4 (by decide))) ((hf68 5 (by decide)).trans (hf63 5 (by decide))) ((hf68 6 (by decide)).trans (hf63 6 (by decide))) ((hf68 7 (by decide)).trans (hf63 7 (by decide))) ((hf68 48 (by decide)).trans (hf63 48 (by decide)))
                    refine jr_kVv (ci := 12) (n := 1) (As := [.ref (a 66)]) (rest := []) hE dX12_holds_210 (fun l => c_m_multiply l G o a v53 n68 g w53 66 (chS r0 x (s.1 b)) (eneg PP (lfE x))) gX12_holds_X12_multiply rfl M68.ob rfl (by decide +kernel) ⟨rfl, rfl, by decide, by decide⟩ (by decide) rfl rfl (Nat.le_of_ble_eq_true rfl) (⟨M68, hK70, hC71.1, by decide, by decide, hN69, hq68⟩) (fun F72 q73 => ?_)
                    obtain ⟨n74, M74, hf74, hp74, P74⟩ := q73
                    have O74 := O68.tr P74
                    refine jr_aload_n hE dX12_holds_213 1 rfl ?_
                    have hP75 : sS n74 none := hs56.fr ((hf74 68 (by decide)).trans ((hf68 68 (by decide)).trans (hf63 68 (by decide)))) ((hf74 69 (by decide)).trans ((hf68 69 (by decide)).trans (hf63 69 (by decide)))) ((hf74 70 (by decide)).trans ((hf68 70 (by decide)).trans (hf63 70 (by decide))))
                    have hK76 : mK n74 g := hK70.fr (hf74 0 (by decide)) (hf74 1 (by decide)) (hf74 32 (by decide)) (hf74 33 (by decide))
                    have hC77 : mC n74 := hC71.fr (hf74 4 (by decide)) (hf74 5 (by decide)) (hf74 6 (by decide)) (hf74 7 (by decide)) (hf74 48 (by decide))
                    have hon77 : onE PP (emul PP (chS r0 x (s.1 b)) (eneg PP (lfE x))) := (onE_mul gdP hq68.on _)
                    have hon78 : onE PP none := trivial
                    refine jr_kVv (ci := 12) (n := 0) (As := []) (rest := []) hE dX12_holds_214 (fun l => c_m_addToSum l G o a v53 n74 g w53 none (emul PP (chS r0 x (s.1 b)) (eneg PP (lfE x)))) gX12_holds_X12_addToSum rfl M74.ob rfl (by decide +kernel) ⟨rfl, rfl, by decide, by decide⟩ (by decide) rfl rfl (Nat.le_of_ble_eq_true rfl) (⟨M74, hK76, hC77.1, hp74, hon77, hP75, hon78⟩) (fun F80 q81 => ?_)
                    obtain ⟨n82, M82, hf82, hs82, P82⟩ := q81
                    have O82 := O74.tr P82
                    rw [eadd_0'] at hs82
                    refine jr_aload_n hE dX12_holds_217 1 rfl ?_
                    have hC83 : mC n82 := hC77.fr (hf82 4 (by decide)) (hf82 5 (by decide)) (hf82 6 (by decide)) (hf82 7 (by decide)) (hf82 48 (by decide))
                    refine jr_kVv (ci := 12) (n := 0) (As := []) (rest := []) hE dX12_holds_218 (fun l => c_m_generator l G o a v53 n82 g w53) gX12_holds_X12_generator rfl M82.ob rfl (by decide +kernel) ⟨rfl, rfl, by decide, by decide⟩ (by decide) rfl rfl (Nat.le_of_ble_eq_true rfl) (⟨M82, hC83⟩) (fun F84 q85 => ?_)
                    obtain ⟨n86, M86, hf86, hq86, P86⟩ := q85
                    have O86 := O82.tr P86
                    refine jr_aload_n hE dX12_holds_221 1 rfl ?_
                    refine jr_aload_n hE dX12_holds_222 1 rfl ?_
                    refine jr_get hE dX12_holds_223 f335 M86.ob rfl ?_
                    have hN87 : n86 72 = some t0 := ((hf86 72 (by decide)).trans ((hf82 72 (by decide)).trans ((hf74 72 (by decide)).trans ((hf68 72 (by decide)).trans ((hf63 72 (by decide)).trans ((hf56 72 (by decide)).trans (hf53 72 (by decide)))))))).trans hN35
                    have hK88 : mK n86 g := hK76.fr ((hf86 0 (by decide)).trans (hf82 0 (by decide))) ((hf86 1 (by decide)).trans (hf82 1 (by decide))) ((hf86 32 (by decide)).trans (hf82 32 (by decide))) ((hf86 33 (by decide)).trans (hf82 33 (by decide)))
                    have hC89 : mC n86 := hC83.fr (hf86 4 (by decide)) (hf86 5 (by decide)) (hf86 6 (by decide)) (hf86 7 (by decide)) (hf86 48 (by decide))
                    refine jr_kVv (ci := 12) (n := 1) (As := [.ref (a 72)]) (rest := []) hE dX12_holds_226 (fun l => c_m_multiply l G o a v53 n86 g w53 72 t0 GE) gX12_holds_X12_multiply rfl M86.ob rfl (by decide +kernel) ⟨rfl, rfl, by decide, by decide⟩ (by decide) rfl rfl (Nat.le_of_ble_eq_true rfl) (⟨M86, hK88, hC89.1, by decide, by decide, hN87, hq86⟩) (fun F90 q91 => ?_)
                    obtain ⟨n92, M92, hf92, hp92, P92⟩ := q91
                    have O92 := O86.tr P92
                    refine jr_aload_n hE dX12_holds_229 1 rfl ?_
                    have hP93 : sS n92 (emul PP (chS r0 x (s.1 b)) (eneg PP (lfE x))) := hs82.fr ((hf92 68 (by decide)).trans (hf86 68 (by decide))) ((hf92 69 (by decide)).trans (hf86 69 (by decide))) ((hf92 70 (by decide)).trans (hf86 70 (by decide)))
                    have hK94 : mK n92 g := hK88.fr (hf92 0 (by decide)) (hf92 1 (by decide)) (hf92 32 (by decide)) (hf92 33 (by decide))
                    have hC95 : mC n92 := hC89.fr (hf92 4 (by decide)) (hf92 5 (by decide)) (hf92 6 (by decide)) (hf92 7 (by decide)) (hf92 48 (by decide))
                    have hon95 : onE PP (emul PP t0 GE) := (onE_mul gdP hq86.on _)
                    have hon96 : onE PP (emul PP (chS r0 x (s.1 b)) (eneg PP (lfE x))) := hon77
                    refine jr_kVv (ci := 12) (n := 0) (As := []) (rest := []) hE dX12_holds_230 (fun l => c_m_addToSum l G o a v53 n92 g w53 (emul PP (chS r0 x (s.1 b)) (eneg PP (lfE x))) (emul PP t0 GE)) gX12_holds_X12_addToSum rfl M92.ob rfl (by decide +kernel) ⟨rfl, rfl, by decide, by decide⟩ (by decide) rfl rfl (Nat.le_of_ble_eq_true rfl) (⟨M92, hK94, hC95.1, hp92, hon95, hP93, hon96⟩) (fun F98 q99 => ?_)
                    obtain ⟨n100, M100, hf100, hs100, P100⟩ := q99
                    have O100 := O92.tr P100
                    have hon100 : onE PP (eadd PP (emul PP (chS r0 x (s.1 b)) (eneg PP (lfE x))) (emul PP t0 GE)) := onE_add gdP hon96 hon95
                    obtain ⟨RR, eRR⟩ : ∃ Y : EP, Y = (eadd PP (emul PP (chS r0 x (s.1 b)) (eneg PP (lfE x))) (emul PP t0 GE)) := ⟨_, rfl⟩
                    have hs101 : sS n100 RR := by rw [eRR]; exact hs100
                    have hon101 : onE PP RR := by rw [eRR]; exact hon100
                    have hRR : hoR x r0 t0 (s.1 b) = RR := by rw [eRR]; unfold hoR; rfl
                    refine jr_aload_n hE dX12_holds_233 1 rfl ?_
                    refine jr_get hE dX12_holds_234 f329 M100.ob rfl ?_
                    refine jr_kSi (n := 1) (As := [.ref (a 70)]) (rest := []) hE dX12_holds_237 (fun l => c_m_isNull l G o a v53 n100 g w53 70 (if RR = none then 0 else 1)) gX12_holds_X12_isNull rfl (by decide +kernel) ⟨rfl, rfl, by decide, by decide⟩ (by decide) rfl rfl (Nat.le_of_ble_eq_true rfl) (⟨M100, by decide, hs101.z⟩) (fun r104 F102 q103 => ?_)
                    obtain ⟨eq103, rq103⟩ := q103
                    subst eq103 rq103
                    refine jr_if_ne (tgt := 274) hE dX12_holds_240 (by decide) (fun c240 => ?_) (fun c240 => ?_)
                    · have hR0 : RR = none := by
                        have q := b2i_1 c240
                        by_cases e : RR = none
                        · exact e
                        · rw [if_neg e] at q
                          exact absurd q (by decide)
                      refine jr_iconst (v := (0 : Int32)) hE dX12_holds_274 (by decide) ?_
                      have hV105 : v53 31 = (nI (s.2.2.1 + 2)) := (hvv53 31 (by decide)).trans hvx48
                      have hvF : ∀ z, z ∉ [31, 57] → v53 z = v z := (fun z hz => ((hvv53 z (jne hz 1 rfl)).trans (hvv48 z (jnsub (V := [31]) hz [0] rfl))))
                      have hnF : ∀ z, z ∉ [34, 35, 36, 37, 38, 39, 40, 41, 42, 43, 44, 45, 46, 47, 63, 66, 68, 69, 70, 71, 72] → n100 z = n z := (fun z hz => ((hf100 z (jnsub (V := [40, 41, 37, 38, 39, 42, 43, 44, 45, 46, 47, 34, 35, 36, 68, 69, 70]) hz [6, 7, 3, 4, 5, 8, 9, 10, 11, 12, 13, 0, 1, 2, 16, 17, 18] rfl)).trans ((hf92 z (jnsub (V := [37, 38, 39, 42, 43, 44, 45, 46, 47, 34, 35, 36]) hz [3, 4, 5, 8, 9, 10, 11, 12, 13, 0, 1, 2] rfl)).trans ((hf86 z (jnsub (V := [40, 41]) hz [6, 7] rfl)).trans ((hf82 z (jnsub (V := [40, 41, 37, 38, 39, 42, 43, 44, 45, 46, 47, 34, 35, 36, 68, 69, 70]) hz [6, 7, 3, 4, 5, 8, 9, 10, 11, 12, 13, 0, 1, 2, 16, 17, 18] rfl)).trans ((hf74 z (jnsub (V := [37, 38, 39, 42, 43, 44, 45, 46, 47, 34, 35, 36]) hz [3, 4, 5, 8, 9, 10, 11, 12, 13, 0, 1, 2] rfl)).trans ((hf68 z (jnsub (V := [41]) hz [7] rfl)).trans ((hf63 z (jnsub (V := [40, 41, 42, 43, 35, 36]) hz [6, 7, 8, 9, 1, 2] rfl)).trans ((hf56 z (jnsub (V := [70]) hz [18] rfl)).trans ((hf53 z (jnsub (V := [66]) hz [15] rfl)).trans ((hf27 z (jnsub (V := [40, 41, 42, 43, 35, 36]) hz [6, 7, 8, 9, 1, 2] rfl)).trans ((hf19 z (jnsub (V := [72]) hz [20] rfl)).trans ((hf16 z (jnsub (V := [71]) hz [19] rfl)).trans (hf13 z (jnsub (V := [63]) hz [14] rfl)))))))))))))))
                      have hwF : ∀ z, z ∉ [53, 54, 55, 56, 58, 59] → w53 z = w z := (fun z hz => (hw53 z (jnsub (V := [53, 54, 55, 56, 58, 59]) hz [0, 1, 2, 3, 4, 5] rfl)))
                      have e : stHolds s (nI k) (nI b) (nI j) = (0, setK s (s.2.2.1 + 2)) := by
                        unfold stHolds
                        rw [if_pos ⟨nI_rowP hk, nI_rowP hb, nI_rowP hj⟩, hrnk, hrnj, hrnb, if_pos ⟨hlk, hlj, by rw [← ex]; exact b2i_1 c103, by rw [← er0]; exact b2i_1 c117, by rw [← et0]; exact b2i_1 c131⟩, if_neg hw48, ← ex, ← er0, ← et0, b2i_f (fun h => h.1 (hRR.trans hR0))]
                      exact hR F98 _ _ _ dX12_holds_275 rfl ⟨_, _, _, _, by rw [e]; exact hI.keep (c := s.2.2.1 + 2) M100 hV105 (by omega) (fun z hz => hvF z (jdj rfl hz)) (fun z hz => hnF z (jdj rfl hz)) (fun z hz => hwF z (jdj rfl hz)), by rw [e], O100⟩
                    · have hR0 : RR ≠ none := fun e => b2i_0 c240 (if_pos e)
                      have hxy107 := hs101.xy hR0
                      refine jr_aload_n hE dX12_holds_243 1 rfl ?_
                      refine jr_get hE dX12_holds_244 f326 M100.ob rfl ?_
                      refine jr_iconst (v := (0 : Int32)) hE dX12_holds_247 (by decide) ?_
                      obtain ⟨f108, jf108, ef108⟩ := M100.ld (k := 69) (by decide) (x := (eyN RR)) hxy107.2.1
                      refine jr_lald (v := lN ((eyN RR) / 2 ^ (32 * 0) % 2 ^ 32)) hE dX12_holds_248 jf108 (vp_in_nI (n := 0) (by decide) (by decide)) (ef108 0 (by decide)) ?_
                      refine jr_lconst (v := (1 : Int64)) hE dX12_holds_249 (by decide) ?_
                      refine jr_land (z := lN ((eyN RR) % 2)) hE dX12_holds_250 (by rw [wb_a1 (Nat.lt_trans (Nat.mod_lt _ (Nat.two_pow_pos 32)) (by decide)), dig0]) ?_
                      refine jr_lconst (v := (0 : Int64)) hE dX12_holds_251 (by decide) ?_
                      refine jr_lcmp hE dX12_holds_252 ?_
                      refine jr_if_ne (tgt := 274) hE dX12_holds_253 (by decide) (fun c253 => ?_) (fun c253 => ?_)
                      · refine jr_iconst (v := (0 : Int32)) hE dX12_holds_274 (by decide) ?_
                        have hV109 : v53 31 = (nI (s.2.2.1 + 2)) := (hvv53 31 (by decide)).trans hvx48
                        have hvF : ∀ z, z ∉ [31, 57] → v53 z = v z := (fun z hz => ((hvv53 z (jne hz 1 rfl)).trans (hvv48 z (jnsub (V := [31]) hz [0] rfl))))
                        have hnF : ∀ z, z ∉ [34, 35, 36, 37, 38, 39, 40, 41, 42, 43, 44, 45, 46, 47, 63, 66, 68, 69, 70, 71, 72] → n100 z = n z := (fun z hz => ((hf100 z (jnsub (V := [40, 41, 37, 38, 39, 42, 43, 44, 45, 46, 47, 34, 35, 36, 68, 69, 70]) hz [6, 7, 3, 4, 5, 8, 9, 10, 11, 12, 13, 0, 1, 2, 16, 17, 18] rfl)).trans ((hf92 z (jnsub (V := [37, 38, 39, 42, 43, 44, 45, 46, 47, 34, 35, 36]) hz [3, 4, 5, 8, 9, 10, 11, 12, 13, 0, 1, 2] rfl)).trans ((hf86 z (jnsub (V := [40, 41]) hz [6, 7] rfl)).trans ((hf82 z (jnsub (V := [40, 41, 37, 38, 39, 42, 43, 44, 45, 46, 47, 34, 35, 36, 68, 69, 70]) hz [6, 7, 3, 4, 5, 8, 9, 10, 11, 12, 13, 0, 1, 2, 16, 17, 18] rfl)).trans ((hf74 z (jnsub (V := [37, 38, 39, 42, 43, 44, 45, 46, 47, 34, 35, 36]) hz [3, 4, 5, 8, 9, 10, 11, 12, 13, 0, 1, 2] rfl)).trans ((hf68 z (jnsub (V := [41]) hz [7] rfl)).trans ((hf63 z (jnsub (V := [40, 41, 42, 43, 35, 36]) hz [6, 7, 8, 9, 1, 2] rfl)).trans ((hf56 z (jnsub (V := [70]) hz [18] rfl)).trans ((hf53 z (jnsub (V := [66]) hz [15] rfl)).trans ((hf27 z (jnsub (V := [40, 41, 42, 43, 35, 36]) hz [6, 7, 8, 9, 1, 2] rfl)).trans ((hf19 z (jnsub (V := [72]) hz [20] rfl)).trans ((hf16 z (jnsub (V := [71]) hz [19] rfl)).trans (hf13 z (jnsub (V := [63]) hz [14] rfl)))))))))))))))
                        have hwF : ∀ z, z ∉ [53, 54, 55, 56, 58, 59] → w53 z = w z := (fun z hz => (hw53 z (jnsub (V := [53, 54, 55, 56, 58, 59]) hz [0, 1, 2, 3, 4, 5] rfl)))
                        have e : stHolds s (nI k) (nI b) (nI j) = (0, setK s (s.2.2.1 + 2)) := by
                          unfold stHolds
                          rw [if_pos ⟨nI_rowP hk, nI_rowP hb, nI_rowP hj⟩, hrnk, hrnj, hrnb, if_pos ⟨hlk, hlj, by rw [← ex]; exact b2i_1 c103, by rw [← er0]; exact b2i_1 c117, by rw [← et0]; exact b2i_1 c131⟩, if_neg hw48, ← ex, ← er0, ← et0, b2i_f (fun h => c253 ((cmp0 (b := 0) (by omega) (by decide)).mpr (by have q := h.2.1; rw [hRR] at q; exact od_0 q)))]
                        exact hR F98 _ _ _ dX12_holds_275 rfl ⟨_, _, _, _, by rw [e]; exact hI.keep (c := s.2.2.1 + 2) M100 hV109 (by omega) (fun z hz => hvF z (jdj rfl hz)) (fun z hz => hnF z (jdj rfl hz)) (fun z hz => hwF z (jdj rfl hz)), by rw [e], O100⟩
                      · refine jr_aload_n hE dX12_holds_256 1 rfl ?_
                        refine jr_get hE dX12_holds_257 f323 M100.ob rfl ?_
                        refine jr_aload_n hE dX12_holds_260 1 rfl ?_
                        refine jr_get hE dX12_holds_261 f332 M100.ob rfl ?_
                        have hN111 : n100 71 = some r0 := ((hf100 71 (by decide)).trans ((hf92 71 (by decide)).trans ((hf86 71 (by decide)).trans ((hf82 71 (by decide)).trans ((hf74 71 (by decide)).trans ((hf68 71 (by decide)).trans ((hf63 71 (by decide)).trans ((hf56 71 (by decide)).trans (hf53 71 (by decide)))))))))).trans hN29
                        refine jr_kSi (n := 2) (As := [.ref (a 68), .ref (a 71)]) (rest := []) hE dX12_holds_264 (fun l => c_m_isSame l G o a v53 n100 g w53 68 71 (exE RR) r0) gX12_holds_X12_isSame rfl (by decide +kernel) ⟨rfl, rfl, by decide, by decide⟩ (by decide) rfl rfl (Nat.le_of_ble_eq_true rfl) (⟨M100, by decide, by decide, hxy107.1, hN111⟩) (fun r114 F112 q113 => ?_)
                        obtain ⟨eq113, rq113⟩ := q113
                        subst eq113 rq113
                        refine jr_if_eq (tgt := 274) hE dX12_holds_267 (by decide) (fun c267 => ?_) (fun c267 => ?_)
                        · refine jr_iconst (v := (0 : Int32)) hE dX12_holds_274 (by decide) ?_
                          have hV115 : v53 31 = (nI (s.2.2.1 + 2)) := (hvv53 31 (by decide)).trans hvx48
                          have hvF : ∀ z, z ∉ [31, 57] → v53 z = v z := (fun z hz => ((hvv53 z (jne hz 1 rfl)).trans (hvv48 z (jnsub (V := [31]) hz [0] rfl))))
                          have hnF : ∀ z, z ∉ [34, 35, 36, 37, 38, 39, 40, 41, 42, 43, 44, 45, 46, 47, 63, 66, 68, 69, 70, 71, 72] → n100 z = n z := (fun z hz => ((hf100 z (jnsub (V := [40, 41, 37, 38, 39, 42, 43, 44, 45, 46, 47, 34, 35, 36, 68, 69, 70]) hz [6, 7, 3, 4, 5, 8, 9, 10, 11, 12, 13, 0, 1, 2, 16, 17, 18] rfl)).trans ((hf92 z (jnsub (V := [37, 38, 39, 42, 43, 44, 45, 46, 47, 34, 35, 36]) hz [3, 4, 5, 8, 9, 10, 11, 12, 13, 0, 1, 2] rfl)).trans ((hf86 z (jnsub (V := [40, 41]) hz [6, 7] rfl)).trans ((hf82 z (jnsub (V := [40, 41, 37, 38, 39, 42, 43, 44, 45, 46, 47, 34, 35, 36, 68, 69, 70]) hz [6, 7, 3, 4, 5, 8, 9, 10, 11, 12, 13, 0, 1, 2, 16, 17, 18] rfl)).trans ((hf74 z (jnsub (V := [37, 38, 39, 42, 43, 44, 45, 46, 47, 34, 35, 36]) hz [3, 4, 5, 8, 9, 10, 11, 12, 13, 0, 1, 2] rfl)).trans ((hf68 z (jnsub (V := [41]) hz [7] rfl)).trans ((hf63 z (jnsub (V := [40, 41, 42, 43, 35, 36]) hz [6, 7, 8, 9, 1, 2] rfl)).trans ((hf56 z (jnsub (V := [70]) hz [18] rfl)).trans ((hf53 z (jnsub (V := [66]) hz [15] rfl)).trans ((hf27 z (jnsub (V := [40, 41, 42, 43, 35, 36]) hz [6, 7, 8, 9, 1, 2] rfl)).trans ((hf19 z (jnsub (V := [72]) hz [20] rfl)).trans ((hf16 z (jnsub (V := [71]) hz [19] rfl)).trans (hf13 z (jnsub (V := [63]) hz [14] rfl)))))))))))))))
                          have hwF : ∀ z, z ∉ [53, 54, 55, 56, 58, 59] → w53 z = w z := (fun z hz => (hw53 z (jnsub (V := [53, 54, 55, 56, 58, 59]) hz [0, 1, 2, 3, 4, 5] rfl)))
                          have e : stHolds s (nI k) (nI b) (nI j) = (0, setK s (s.2.2.1 + 2)) := by
                            unfold stHolds
                            rw [if_pos ⟨nI_rowP hk, nI_rowP hb, nI_rowP hj⟩, hrnk, hrnj, hrnb, if_pos ⟨hlk, hlj, by rw [← ex]; exact b2i_1 c103, by rw [← er0]; exact b2i_1 c117, by rw [← et0]; exact b2i_1 c131⟩, if_neg hw48, ← ex, ← er0, ← et0, b2i_f (fun h => b2i_0 c267 (by have q := h.2.2; rw [hRR] at q; exact q))]
                          exact hR F98 _ _ _ dX12_holds_275 rfl ⟨_, _, _, _, by rw [e]; exact hI.keep (c := s.2.2.1 + 2) M100 hV115 (by omega) (fun z hz => hvF z (jdj rfl hz)) (fun z hz => hnF z (jdj rfl hz)) (fun z hz => hwF z (jdj rfl hz)), by rw [e], O100⟩
                        · refine jr_iconst (v := (1 : Int32)) hE dX12_holds_270 (by decide) ?_
                          refine jr_goto (tgt := 275) hE dX12_holds_271 (by decide) ?_
                          have hV117 : v53 31 = (nI (s.2.2.1 + 2)) := (hvv53 31 (by decide)).trans hvx48
                          have hvF : ∀ z, z ∉ [31, 57] → v53 z = v z := (fun z hz => ((hvv53 z (jne hz 1 rfl)).trans (hvv48 z (jnsub (V := [31]) hz [0] rfl))))
                          have hnF : ∀ z, z ∉ [34, 35, 36, 37, 38, 39, 40, 41, 42, 43, 44, 45, 46, 47, 63, 66, 68, 69, 70, 71, 72] → n100 z = n z := (fun z hz => ((hf100 z (jnsub (V := [40, 41, 37, 38, 39, 42, 43, 44, 45, 46, 47, 34, 35, 36, 68, 69, 70]) hz [6, 7, 3, 4, 5, 8, 9, 10, 11, 12, 13, 0, 1, 2, 16, 17, 18] rfl)).trans ((hf92 z (jnsub (V := [37, 38, 39, 42, 43, 44, 45, 46, 47, 34, 35, 36]) hz [3, 4, 5, 8, 9, 10, 11, 12, 13, 0, 1, 2] rfl)).trans ((hf86 z (jnsub (V := [40, 41]) hz [6, 7] rfl)).trans ((hf82 z (jnsub (V := [40, 41, 37, 38, 39, 42, 43, 44, 45, 46, 47, 34, 35, 36, 68, 69, 70]) hz [6, 7, 3, 4, 5, 8, 9, 10, 11, 12, 13, 0, 1, 2, 16, 17, 18] rfl)).trans ((hf74 z (jnsub (V := [37, 38, 39, 42, 43, 44, 45, 46, 47, 34, 35, 36]) hz [3, 4, 5, 8, 9, 10, 11, 12, 13, 0, 1, 2] rfl)).trans ((hf68 z (jnsub (V := [41]) hz [7] rfl)).trans ((hf63 z (jnsub (V := [40, 41, 42, 43, 35, 36]) hz [6, 7, 8, 9, 1, 2] rfl)).trans ((hf56 z (jnsub (V := [70]) hz [18] rfl)).trans ((hf53 z (jnsub (V := [66]) hz [15] rfl)).trans ((hf27 z (jnsub (V := [40, 41, 42, 43, 35, 36]) hz [6, 7, 8, 9, 1, 2] rfl)).trans ((hf19 z (jnsub (V := [72]) hz [20] rfl)).trans ((hf16 z (jnsub (V := [71]) hz [19] rfl)).trans (hf13 z (jnsub (V := [63]) hz [14] rfl)))))))))))))))
                          have hwF : ∀ z, z ∉ [53, 54, 55, 56, 58, 59] → w53 z = w z := (fun z hz => (hw53 z (jnsub (V := [53, 54, 55, 56, 58, 59]) hz [0, 1, 2, 3, 4, 5] rfl)))
                          have e : stHolds s (nI k) (nI b) (nI j) = (1, setK s (s.2.2.1 + 2)) := by
                            unfold stHolds
                            rw [if_pos ⟨nI_rowP hk, nI_rowP hb, nI_rowP hj⟩, hrnk, hrnj, hrnb, if_pos ⟨hlk, hlj, by rw [← ex]; exact b2i_1 c103, by rw [← er0]; exact b2i_1 c117, by rw [← et0]; exact b2i_1 c131⟩, if_neg hw48, ← ex, ← er0, ← et0, b2i_t ⟨by rw [hRR]; exact hR0, by rw [hRR]; exact odd_f (by have q := (cmp0 (b := 0) (by omega) (by decide)).mp c253; omega), by rw [hRR]; exact b2i_1 c267⟩]
                          exact hR F98 _ _ _ dX12_holds_275 rfl ⟨_, _, _, _, by rw [e]; exact hI.keep (c := s.2.2.1 + 2) M100 hV117 (by omega) (fun z hz => hvF z (jdj rfl hz)) (fun z hz => hnF z (jdj rfl hz)) (fun z hz => hwF z (jdj rfl hz)), by rw [e], O100⟩
                  · refine jr_bipush (v := (-5 : Int32)) hE dX12_holds_144 (by decide) ?_
                    have hvF : ∀ z, z ∉ [999] → v z = v z := (fun z hz => rfl)
                    have hnF : ∀ z, z ∉ [35, 36, 40, 41, 42, 43, 63, 71, 72] → n27 z = n z := (fun z hz => ((hf27 z (jnsub (V := [40, 41, 42, 43, 35, 36]) hz [2, 3, 4, 5, 0, 1] rfl)).trans ((hf19 z (jnsub (V := [72]) hz [8] rfl)).trans ((hf16 z (jnsub (V := [71]) hz [7] rfl)).trans (hf13 z (jnsub (V := [63]) hz [6] rfl))))))
                    have hwF : ∀ z, z ∉ [999] → w z = w z := (fun z hz => rfl)
                    have e : stHolds s (nI k) (nI b) (nI j) = (-5, s) := by
                      unfold stHolds
                      rw [if_pos ⟨nI_rowP hk, nI_rowP hb, nI_rowP hj⟩, hrnk, hrnj, hrnb, if_pos ⟨hlk, hlj, by rw [← ex]; exact b2i_1 c103, by rw [← er0]; exact b2i_1 c117, by rw [← et0]; exact b2i_1 c131⟩, if_pos (b2i_1 (p := 48 < s.2.2.1 + 2) c141)]
                    exact hR F24 _ _ _ dX12_holds_146 rfl ⟨_, _, _, _, by rw [e]; exact hI.keep (c := s.2.2.1) M27 hpI.2.1.1 (hpI.2.1.2) (fun z hz => hvF z (jdj rfl hz)) (fun z hz => hnF z (jdj rfl hz)) (fun z hz => hwF z (jdj rfl hz)), by rw [e], O27⟩
                · refine jr_iconst (v := (0 : Int32)) hE dX12_holds_134 (by decide) ?_
                  have hvF : ∀ z, z ∉ [999] → v z = v z := (fun z hz => rfl)
                  have hnF : ∀ z, z ∉ [35, 36, 40, 41, 42, 43, 63, 71, 72] → n27 z = n z := (fun z hz => ((hf27 z (jnsub (V := [40, 41, 42, 43, 35, 36]) hz [2, 3, 4, 5, 0, 1] rfl)).trans ((hf19 z (jnsub (V := [72]) hz [8] rfl)).trans ((hf16 z (jnsub (V := [71]) hz [7] rfl)).trans (hf13 z (jnsub (V := [63]) hz [6] rfl))))))
                  have hwF : ∀ z, z ∉ [999] → w z = w z := (fun z hz => rfl)
                  have e : stHolds s (nI k) (nI b) (nI j) = (0, s) := by
                    unfold stHolds
                    rw [if_pos ⟨nI_rowP hk, nI_rowP hb, nI_rowP hj⟩, hrnk, hrnj, if_neg (fun h => absurd (b2i_t h.2.2.2.2) (by rw [← et0, c131]; decide))]
                  exact hR F24 _ _ _ dX12_holds_135 rfl ⟨_, _, _, _, by rw [e]; exact hI.keep (c := s.2.2.1) M27 hpI.2.1.1 (hpI.2.1.2) (fun z hz => hvF z (jdj rfl hz)) (fun z hz => hnF z (jdj rfl hz)) (fun z hz => hwF z (jdj rfl hz)), by rw [e], O27⟩
          · refine jr_iconst (v := (0 : Int32)) hE dX12_holds_45 (by decide) ?_
            have hvF : ∀ z, z ∉ [999] → v z = v z := (fun z hz => rfl)
            have hnF : ∀ z, z ∉ [999] → n z = n z := (fun z hz => rfl)
            have hwF : ∀ z, z ∉ [999] → w z = w z := (fun z hz => rfl)
            have e : stHolds s (nI k) (nI b) (nI j) = (0, s) := by
              unfold stHolds
              rw [if_pos ⟨nI_rowP hk, nI_rowP hb, nI_rowP hj⟩, hrnk, hrnj, if_neg (fun h => c42 ((nI_eq (by omega) (by decide)).mpr h.2.1))]
            exact hR F _ _ _ dX12_holds_46 rfl ⟨_, _, _, _, by rw [e]; exact hI.keep (c := s.2.2.1) M0 hpI.2.1.1 (hpI.2.1.2) (fun z hz => hvF z (jdj rfl hz)) (fun z hz => hnF z (jdj rfl hz)) (fun z hz => hwF z (jdj rfl hz)), by rw [e], (mO.rf o a F)⟩
      · refine jr_iconst (v := (-1 : Int32)) hE dX12_holds_21 (by decide) ?_
        have e : stHolds s (nI k) (nI b) t = (-1, s) := by
          unfold stHolds
          rw [if_neg (fun h => absurd (b2i_t h.2.2) (by rw [c18]; decide))]
        exact hR F _ _ _ dX12_holds_22 rfl ⟨v, n, g, w, by rw [e]; exact hI, by rw [e], mO.rf o a F⟩

