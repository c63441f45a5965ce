/-! THE REFERENCE'S manyHold -/
abbrev enG (En : List SE) (i : Nat) : SE := En.getD i ([], [], [], 0)
abbrev wlE (e : SE) : Prop := isX (bnum e.1) ∧ isX (bnum (e.2.2.1.take 32)) ∧ bnum (e.2.2.1.drop 32) < NN
def mhA (En : List SE) : Nat → Nat
  | 0 => 0
  | k + 1 => (mhA En k + (bnum ((enG En k).2.2.1.drop 32)) * (enG En k).2.2.2 % NN) % NN
noncomputable def mhS (En : List SE) : Nat → EP
  | 0 => none
  | k + 1 => eadd PP (eadd PP (mhS En k) (emul PP (enG En k).2.2.2 (lfE (bnum ((enG En k).2.2.1.take 32))))) (emul PP (chS (bnum ((enG En k).2.2.1.take 32)) (bnum (enG En k).1) (enG En k).2.1 * (enG En k).2.2.2 % NN) (lfE (bnum (enG En k).1)))
theorem enI.at {v : Nat → Int32} {g : Nat → Nat → Int64} {w : Nat → Nat → Int32} {En : List SE} (h : enI v g w En) {i : Nat} (hi : i < En.length) : bl (w 11) (32 * i) 32 = (enG En i).1 ∧ w 13 i = nI (enG En i).2.1.length ∧ (enG En i).2.1.length ≤ 40 ∧ bl (w 12) (40 * i) (enG En i).2.1.length = (enG En i).2.1 ∧ bl (w 14) (64 * i) 64 = (enG En i).2.2.1 ∧ g 15 i = lN (enG En i).2.2.2 ∧ 1 ≤ (enG En i).2.2.2 ∧ (enG En i).2.2.2 ≤ 2 ^ 62 ∧ (∀ b, b ∈ (enG En i).1 → b < 256) ∧ (∀ b, b ∈ (enG En i).2.1 → b < 256) ∧ ∀ b, b ∈ (enG En i).2.2.1 → b < 256 := by
  have q := h.2.2 i hi
  unfold enG
  rw [gD_in _ hi]
  exact q
theorem well_iff {v : Nat → Int32} {g : Nat → Nat → Int64} {w : Nat → Nat → Int32} {En : List SE} (h : enI v g w En) : (∀ t, t < En.length → wellE (w 11) (w 14) t) ↔ ∀ t, t < En.length → wlE (enG En t) := by
  have q : ∀ t, t < En.length → (wellE (w 11) (w 14) t ↔ wlE (enG En t)) := fun t ht => by
    obtain ⟨a1, _, _, _, a5, _⟩ := h.at ht
    unfold wellE wlE
    rw [a1, bl_take a5 32 (by decide), bl_drop a5 32 32 rfl]
  exact ⟨fun e t ht => (q t ht).mp (e t ht), fun e t ht => (q t ht).mpr (e t ht)⟩
def clrE (s : ST) : ST := (s.1, ([], s.2.2))
noncomputable def stMany (s : ST) : Int32 × ST := if s.2.1.length = 0 then (-2, s) else if ∀ t, t < s.2.1.length → wlE (enG s.2.1 t) then (if 48 < s.2.2.1 + (1 + (2 * s.2.1.length)) then (-5, s) else (b2i (emul PP (mhA s.2.1 s.2.1.length) GE = mhS s.2.1 s.2.1.length), clrE (setK s (s.2.2.1 + (1 + (2 * s.2.1.length)))))) else (0, clrE s)
theorem mI.many {G : Nat → ClassId} {L : List Nat} {F F1 : Nat → va_E} {o : Nat} {a : Nat → Nat} {v v' : Nat → Int32} {n n' : Nat → Option Nat} {g : Nat → Nat → Int64} {w w' : Nat → Nat → Int32} {s : ST} {c : Nat} (h : mI G L F o a v n g w s) (M : MW G L F1 o a v' n' g w') (h31 : v' 31 = nI c) (hc : c ≤ 48) (h10 : v' 10 = 0) (hv : ∀ k, k ∈ [16, 24, 29, 30] → v' k = v k) (hn : ∀ k, k ∈ [0, 1, 4, 5, 6, 7, 26, 27, 28, 32, 33, 48] → n' k = n k) (hw : ∀ k, k ∈ [8, 9, 50, 51, 52, 17, 18, 21, 22, 23, 25] → w' k = w k) : mI G L F1 o a v' n' g w' (clrE (setK s c)) := by
  obtain ⟨_, a2, a3, a4, a5, a6, hen, hwk, hsg, hnc, htd, hse⟩ := h
  refine ⟨M, a2.fr (hn 0 (by decide)) (hn 1 (by decide)) (hn 32 (by decide)) (hn 33 (by decide)), a3.fr (hn 4 (by decide)) (hn 5 (by decide)) (hn 6 (by decide)) (hn 7 (by decide)) (hn 48 (by decide)), a4.fr (hw 50 (by decide)) (hw 51 (by decide)), a5.fr (hw 52 (by decide)), fun r hr => ?_, ⟨⟨h10, Nat.zero_le _, fun i hi => absurd hi (Nat.not_lt_zero i)⟩, ⟨h31, hc⟩, ?_, ?_, ?_, ?_⟩⟩
  · rw [hw 8 (by decide), hw 9 (by decide)]
    exact a6 r hr
  · unfold sgI at *
    rw [hv 16 (by decide), hw 17 (by decide)]
    exact hsg
  · unfold ncI at *
    rw [hw 18 (by decide), hw 21 (by decide)]
    exact hnc
  · unfold tdI at *
    rw [hw 22 (by decide), hw 23 (by decide)]
    exact htd
  · unfold seI at *
    rw [hv 24 (by decide), hv 29 (by decide), hv 30 (by decide), hw 25 (by decide), hw 17 (by decide), hn 26 (by decide), hn 27 (by decide), hn 28 (by decide)]
    exact hse

set_option maxHeartbeats 4000000 in
set_option maxRecDepth 100000 in
theorem c_m_manyHold (l : Launch) (G : Nat → ClassId) (o : Nat) (a : Nat → Nat) (v : Nat → Int32) (n : Nat → Option Nat) (g : Nat → Nat → Int64) (w : Nat → Nat → Int32) (s : ST) : jKi l yX12_manyHold wsX12_manyHold ({ frames := 7, cells := 0, slots := 0, locals := 172 }) G [.ref o] (fun L F => mI G L F o a v n g w s) (fun L F q F1 => ∃ v' n' g' w', mI G L F1 o a v' n' g' w' (stMany s).2 ∧ q = (stMany s).1 ∧ mO o a F F1) := by
  refine jm_ki (cc := cX12_manyHold) (maxL := 3) (rt := .int) (by decide) rfl (Nat.le_of_ble_eq_true rfl) ?_
  intro E L F hE hR hpre
  have hE : jOk E G _ cX12_manyHold 3 RX12 wsX12_manyHold := hE
  have hI := hpre
  obtain ⟨M0, hK, hC, htg, hrd, hRW, hpI⟩ := id hpre
  have hwk48 := hpI.2.1.2
  have hs4 := hpI.2.2.1.2.1
  have hen4 := hpI.1.2.1
  have f520 : jFl RX12 wsX12_manyHold 520 12 10 := ⟨rfl, by decide, by decide +kernel, by decide +kernel⟩
  have f478 : jFl RX12 wsX12_manyHold 478 12 31 := ⟨rfl, by decide, by decide +kernel, by decide +kernel⟩
  have f338 : jFl RX12 wsX12_manyHold 338 12 73 := ⟨rfl, by decide, by decide +kernel, by decide +kernel⟩
  have f173 : jFl RX12 wsX12_manyHold 173 12 39 := ⟨rfl, by decide, by decide +kernel, by decide +kernel⟩
  have f329 : jFl RX12 wsX12_manyHold 329 12 70 := ⟨rfl, by decide, by decide +kernel, by decide +kernel⟩
  have f167 : jFl RX12 wsX12_manyHold 167 12 37 := ⟨rfl, by decide, by decide +kernel, by decide +kernel⟩
  have f323 : jFl RX12 wsX12_manyHold 323 12 68 := ⟨rfl, by decide, by decide +kernel, by decide +kernel⟩
  have f170 : jFl RX12 wsX12_manyHold 170 12 38 := ⟨rfl, by decide, by decide +kernel, by decide +kernel⟩
  have f326 : jFl RX12 wsX12_manyHold 326 12 69 := ⟨rfl, by decide, by decide +kernel, by decide +kernel⟩
  have f308 : jFl RX12 wsX12_manyHold 308 12 63 := ⟨rfl, by decide, by decide +kernel, by decide +kernel⟩
  have f103 : jFl RX12 wsX12_manyHold 103 12 11 := ⟨rfl, by decide, by decide +kernel, by decide +kernel⟩
  have f332 : jFl RX12 wsX12_manyHold 332 12 71 := ⟨rfl, by decide, by decide +kernel, by decide +kernel⟩
  have f112 : jFl RX12 wsX12_manyHold 112 12 14 := ⟨rfl, by decide, by decide +kernel, by decide +kernel⟩
  have f335 : jFl RX12 wsX12_manyHold 335 12 72 := ⟨rfl, by decide, by decide +kernel, by decide +kernel⟩
  have f341 : jFl RX12 wsX12_manyHold 341 12 74 := ⟨rfl, by decide, by decide +kernel, by decide +kernel⟩
  have f115 : jFl RX12 wsX12_manyHold 115 12 15 := ⟨rfl, by decide, by decide +kernel, by decide +kernel⟩
  have f317 : jFl RX12 wsX12_manyHold 317 12 66 := ⟨rfl, by decide, by decide +kernel, by decide +kernel⟩
  have f106 : jFl RX12 wsX12_manyHold 106 12 12 := ⟨rfl, by decide, by decide +kernel, by decide +kernel⟩
  have f109 : jFl RX12 wsX12_manyHold 109 12 13 := ⟨rfl, by decide, by decide +kernel, by decide +kernel⟩
  refine jr_aload_n hE dX12_manyHold_0 0 rfl ?_
  refine jr_get hE dX12_manyHold_1 f520 M0.ob rfl ?_
  rw [hpI.1.1]
  refine jr_if_ne (tgt := 10) hE dX12_manyHold_4 (by decide) (fun c4 => ?_) (fun c4 => ?_)
  · have hz0 : ¬ s.2.1.length = 0 := fun h => c4 ((nI_eq (by omega) (by decide)).mpr h)
    refine jr_aload_n hE dX12_manyHold_10 0 rfl ?_
    refine jr_kVi (ci := 12) (n := 0) (As := []) (rest := []) hE dX12_manyHold_11 (fun l => c_m_areWell l G o a v n g w s.2.1.length) gX12_manyHold_X12_areWell rfl M0.ob rfl (by decide +kernel) ⟨rfl, rfl, by decide, by decide⟩ (by decide) rfl rfl (Nat.le_of_ble_eq_true rfl) (⟨M0, hK, hC, hpI.1.1, hen4, fun i hi => bB_of (hpI.1.at hi).1 (hpI.1.at hi).2.2.2.2.2.2.2.2.1, fun i hi t ht => bB_of (hpI.1.at hi).2.2.2.2.1 (hpI.1.at hi).2.2.2.2.2.2.2.2.2.2 t ht⟩) (fun r3 F1 q2 => ?_)
    obtain ⟨n4, M4, hf4, r3e, P4⟩ := q2
    have O4 := (mO.rf o a F).tr P4
    have r3e := r3e.trans (b2i_c (well_iff hpI.1))
    subst r3e
    refine jr_if_ne (tgt := 24) hE dX12_manyHold_14 (by decide) (fun c14 => ?_) (fun c14 => ?_)
    · have hwell := b2i_1 c14
      refine jr_aload_n hE dX12_manyHold_24 0 rfl ?_
      refine jr_iconst (v := (1 : Int32)) hE dX12_manyHold_25 (by decide) ?_
      refine jr_iconst (v := (2 : Int32)) hE dX12_manyHold_26 (by decide) ?_
      refine jr_aload_n hE dX12_manyHold_27 0 rfl ?_
      refine jr_get hE dX12_manyHold_28 f520 M4.ob rfl ?_
      rw [hpI.1.1]
      refine jr_imul (z := nI (2 * s.2.1.length)) hE dX12_manyHold_31 (pk_mul 2 s.2.1.length) ?_
      refine jr_iadd (z := nI (1 + (2 * s.2.1.length))) hE dX12_manyHold_32 (nI_add 1 _) ?_
      refine jr_kVi (ci := 12) (n := 1) (As := [.int (nI (1 + (2 * s.2.1.length)))]) (rest := []) hE dX12_manyHold_33 (fun l => c_m_isSpent l G o a v n4 g w s.2.2.1 (1 + (2 * s.2.1.length))) gX12_manyHold_X12_isSpent rfl M4.ob rfl (by decide +kernel) ⟨rfl, rfl, by decide, by decide⟩ (by decide) rfl rfl (Nat.le_of_ble_eq_true rfl) (⟨M4, hpI.2.1.1, by omega, by omega⟩) (fun r7 F5 q6 => ?_)
      obtain ⟨eq6, rq6⟩ := q6
      subst eq6 rq6
      refine jr_if_eq (tgt := 42) hE dX12_manyHold_36 (by decide) (fun c36 => ?_) (fun c36 => ?_)
      · have hw48 : ¬ 48 < s.2.2.1 + (1 + (2 * s.2.1.length)) := fun h => absurd (b2i_t h) (by rw [c36]; decide)
        refine jr_aload_n hE dX12_manyHold_42 0 rfl ?_
        refine jr_dup hE dX12_manyHold_43 rfl ?_
        refine jr_get hE dX12_manyHold_44 f478 M4.ob rfl ?_
        rw [hpI.2.1.1]
        refine jr_iconst (v := (1 : Int32)) hE dX12_manyHold_47 (by decide) ?_
        refine jr_iconst (v := (2 : Int32)) hE dX12_manyHold_48 (by decide) ?_
        refine jr_aload_n hE dX12_manyHold_49 0 rfl ?_
        refine jr_get hE dX12_manyHold_50 f520 M4.ob rfl ?_
        rw [hpI.1.1]
        refine jr_imul (z := nI (2 * s.2.1.length)) hE dX12_manyHold_53 (pk_mul 2 s.2.1.length) ?_
        refine jr_iadd (z := nI (1 + (2 * s.2.1.length))) hE dX12_manyHold_54 (nI_add 1 _) ?_
        refine jr_iadd (z := nI (s.2.2.1 + (1 + (2 * s.2.1.length)))) hE dX12_manyHold_55 (nI_add _ _) ?_
        refine jr_put (ty := .int) hE dX12_manyHold_56 f478 M4.ob rfl (by decide +kernel) rfl rfl (Nat.le_of_ble_eq_true rfl) (fun F8 g9 u10 => ?_)
        have H11 := M4.setV (v' := uz v 31 (nI (s.2.2.1 + (1 + (2 * s.2.1.length))))) g9 u10
        have O12 := O4.so u10
        obtain ⟨v13, e13, hvv13, hvx13⟩ := uz_ab v 31 (nI (s.2.2.1 + (1 + (2 * s.2.1.length))))
        rw [e13] at H11
        refine jr_aload_n hE dX12_manyHold_59 0 rfl ?_
        refine jr_kVv (ci := 12) (n := 0) (As := []) (rest := []) hE dX12_manyHold_60 (fun l => c_m_noSum l G o a v13 n4 g w) gX12_manyHold_X12_noSum rfl H11.ob rfl (by decide +kernel) ⟨rfl, rfl, by decide, by decide⟩ (by decide) rfl rfl (Nat.le_of_ble_eq_true rfl) (H11) (fun F14 q15 => ?_)
        obtain ⟨n16, M16, hf16, hs16, P16⟩ := q15
        have O16 := O12.tr P16
        refine jr_aload_n hE dX12_manyHold_63 0 rfl ?_
        refine jr_get hE dX12_manyHold_64 f338 M16.ob rfl ?_
        refine jr_lconst (v := (0 : Int64)) hE dX12_manyHold_67 (by decide) ?_
        refine jr_kSv (n := 2) (As := [.ref (a 73), .long (0 : Int64)]) (rest := []) hE dX12_manyHold_68 (fun l => c_m_small l G o a v13 n16 g w 73 0) gX12_manyHold_X12_small rfl (by decide +kernel) ⟨rfl, rfl, by decide, by decide⟩ (by decide) rfl rfl (Nat.le_of_ble_eq_true rfl) (⟨M16, by decide, by decide⟩) (fun F17 q18 => ?_)
        obtain ⟨M19, P19⟩ := q18
        have O19 := O16.tr P19
        obtain ⟨n19, e19, hf19, hv19⟩ := uz_ab n16 73 (some 0)
        rw [e19] at M19
        refine jr_iconst (v := (0 : Int32)) hE dX12_manyHold_71 (by decide) ?_
        refine jr_istore_n (lv' := [(1, .int (0 : Int32)), (0, .ref o)]) hE dX12_manyHold_72 (by decide) rfl ?_
        have loop : ∀ (r0 i : Nat) (F4 : Nat → va_E) (n2 : Nat → Option Nat) (v2 : Nat → Int32) (w2 : Nat → Nat → Int32), i + r0 = s.2.1.length → MW G L F4 o a v2 n2 g w2 → (∀ z, z ∉ [34, 35, 36, 37, 38, 39, 40, 41, 42, 43, 44, 45, 46, 47, 63, 66, 68, 69, 70, 71, 72, 73, 74] → n2 z = n19 z) → (∀ z, z ≠ 57 → v2 z = v13 z) → (∀ z, z ∉ [53, 54, 55, 56, 58, 59] → w2 z = w z) → n2 73 = some (mhA s.2.1 i) → sS n2 (mhS s.2.1 i) → onE PP (mhS s.2.1 i) → mO o a F F4 → J E L F4 0 0 73 [(1, .int (nI i)), (0, .ref o)] [] := by
          intro r0
          induction r0 with
          | zero =>
            intro i F4 n2 v2 w2 hi H4 hnf hvf hwf h73 hsm hon O4
            have hiN : i = s.2.1.length := by omega
            subst hiN
            refine jr_iload_n hE dX12_manyHold_73 0 rfl ?_
            refine jr_aload_n hE dX12_manyHold_74 1 rfl ?_
            have hV20 : v2 10 = (nI s.2.1.length) := ((hvf 10 (by decide)).trans (hvv13 10 (by decide))).trans hpI.1.1
            refine jr_get hE dX12_manyHold_75 f520 H4.ob rfl ?_
            rw [hV20]
            refine jr_icmp_ge (tgt := 271) hE dX12_manyHold_78 (by decide) (fun c_78 => ?_) (fun c_78 => absurd (nI_le (a := s.2.1.length) (by omega) (by omega)) c_78)
            refine jr_aload_n hE dX12_manyHold_271 1 rfl ?_
            refine jr_iconst (v := (0 : Int32)) hE dX12_manyHold_272 (by decide) ?_
            refine jr_put (ty := .int) hE dX12_manyHold_273 f520 H4.ob rfl (by decide +kernel) rfl rfl (Nat.le_of_ble_eq_true rfl) (fun F21 g22 u23 => ?_)
            have H24 := H4.setV (v' := uz v2 10 (0 : Int32)) g22 u23
            have O25 := O4.so u23
            obtain ⟨v26, e26, hvv26, hvx26⟩ := uz_ab v2 10 (0 : Int32)
            rw [e26] at H24
            refine jr_aload_n hE dX12_manyHold_276 1 rfl ?_
            have hC27 : mC n2 := hC.fr ((hnf 4 (by decide)).trans ((hf19 4 (by decide)).trans ((hf16 4 (by decide)).trans (hf4 4 (by decide))))) ((hnf 5 (by decide)).trans ((hf19 5 (by decide)).trans ((hf16 5 (by decide)).trans (hf4 5 (by decide))))) ((hnf 6 (by decide)).trans ((hf19 6 (by decide)).trans ((hf16 6 (by decide)).trans (hf4 6 (by decide))))) ((hnf 7 (by decide)).trans ((hf19 7 (by decide)).trans ((hf16 7 (by decide)).trans (hf4 7 (by decide))))) ((hnf 48 (by decide)).trans ((hf19 48 (by decide)).trans ((hf16 48 (by decide)).trans (hf4 48 (by decide)))))
            refine jr_kVv (ci := 12) (n := 0) (As := []) (rest := []) hE dX12_manyHold_277 (fun l => c_m_generator l G o a v26 n2 g w2) gX12_manyHold_X12_generator rfl H24.ob rfl (by decide +kernel) ⟨rfl, rfl, by decide, by decide⟩ (by decide) rfl rfl (Nat.le_of_ble_eq_true rfl) (⟨H24, hC27⟩) (fun F28 q29 => ?_)
            obtain ⟨n30, M30, hf30, hq30, P30⟩ := q29
            have O30 := O25.tr P30
            refine jr_aload_n hE dX12_manyHold_280 1 rfl ?_
            refine jr_aload_n hE dX12_manyHold_281 1 rfl ?_
            refine jr_get hE dX12_manyHold_282 f338 M30.ob rfl ?_
            have hN31 : n30 73 = some (mhA s.2.1 s.2.1.length) := (hf30 73 (by decide)).trans h73
            have hK32 : mK n30 g := hK.fr ((hf30 0 (by decide)).trans ((hnf 0 (by decide)).trans ((hf19 0 (by decide)).trans ((hf16 0 (by decide)).trans (hf4 0 (by decide)))))) ((hf30 1 (by decide)).trans ((hnf 1 (by decide)).trans ((hf19 1 (by decide)).trans ((hf16 1 (by decide)).trans (hf4 1 (by decide)))))) ((hf30 32 (by decide)).trans ((hnf 32 (by decide)).trans ((hf19 32 (by decide)).trans ((hf16 32 (by decide)).trans (hf4 32 (by decide)))))) ((hf30 33 (by decide)).trans ((hnf 33 (by decide)).trans ((hf19 33 (by decide)).trans ((hf16 33 (by decide)).trans (hf4 33 (by decide))))))
            have hC33 : mC n30 := hC27.fr (hf30 4 (by decide)) (hf30 5 (by decide)) (hf30 6 (by decide)) (hf30 7 (by decide)) (hf30 48 (by decide))
            refine jr_kVv (ci := 12) (n := 1) (As := [.ref (a 73)]) (rest := []) hE dX12_manyHold_285 (fun l => c_m_multiply l G o a v26 n30 g w2 73 (mhA s.2.1 s.2.1.length) GE) gX12_manyHold_X12_multiply rfl M30.ob rfl (by decide +kernel) ⟨rfl, rfl, by decide, by decide⟩ (by decide) rfl rfl (Nat.le_of_ble_eq_true rfl) (⟨M30, hK32, hC33.1, by decide, by decide, hN31, hq30⟩) (fun F34 q35 => ?_)
            obtain ⟨n36, M36, hf36, hp36, P36⟩ := q35
            have O36 := O30.tr P36
            have hP37 : sS n36 (mhS s.2.1 s.2.1.length) := hsm.fr ((hf36 68 (by decide)).trans (hf30 68 (by decide))) ((hf36 69 (by decide)).trans (hf30 69 (by decide))) ((hf36 70 (by decide)).trans (hf30 70 (by decide)))
            obtain ⟨SA, eSA⟩ : ∃ Y : EP, Y = (mhS s.2.1 s.2.1.length) := ⟨_, rfl⟩
            have hs38 : sS n36 SA := by rw [eSA]; exact hP37
            have hon38 : onE PP SA := by rw [eSA]; exact hon
            obtain ⟨QA, eQA⟩ : ∃ Y : EP, Y = (emul PP (mhA s.2.1 s.2.1.length) GE) := ⟨_, rfl⟩
            have hs39 : pS n36 QA := by rw [eQA]; exact hp36
            have hon39 : onE PP QA := by rw [eQA]; exact (onE_mul gdP hq30.on _)
            by_cases hPz : QA = none
            · by_cases hSz : SA = none
              · have hz9 := 0
                have hp39 : n36 39 = some 0 := by rw [hs39.z, if_pos hPz]
                have hs70 : n36 70 = some 0 := by rw [hs38.z, if_pos hSz]
                refine jr_aload_n hE dX12_manyHold_288 1 rfl ?_
                refine jr_get hE dX12_manyHold_289 f173 M36.ob rfl ?_
                refine jr_kSi (n := 1) (As := [.ref (a 39)]) (rest := []) hE dX12_manyHold_292 (fun l => c_m_isNull l G o a v26 n36 g w2 39 0) gX12_manyHold_X12_isNull rfl (by decide +kernel) ⟨rfl, rfl, by decide, by decide⟩ (by decide) rfl rfl (Nat.le_of_ble_eq_true rfl) (⟨M36, by decide, hp39⟩) (fun r43 F41 q42 => ?_)
                obtain ⟨eq42, rq42⟩ := q42
                subst eq42 rq42
                refine jr_if_eq (tgt := 312) hE dX12_manyHold_295 (by decide) (fun c_295 => absurd c_295 (by decide)) (fun c_295 => ?_)
                refine jr_aload_n hE dX12_manyHold_298 1 rfl ?_
                refine jr_get hE dX12_manyHold_299 f329 M36.ob rfl ?_
                refine jr_kSi (n := 1) (As := [.ref (a 70)]) (rest := []) hE dX12_manyHold_302 (fun l => c_m_isNull l G o a v26 n36 g w2 70 0) gX12_manyHold_X12_isNull rfl (by decide +kernel) ⟨rfl, rfl, by decide, by decide⟩ (by decide) rfl rfl (Nat.le_of_ble_eq_true rfl) (⟨M36, by decide, hs70⟩) (fun r46 F44 q45 => ?_)
                obtain ⟨eq45, rq45⟩ := q45
                subst eq45 rq45
                refine jr_if_eq (tgt := 312) hE dX12_manyHold_305 (by decide) (fun c_305 => absurd c_305 (by decide)) (fun c_305 => ?_)
                refine jr_iconst (v := (1 : Int32)) hE dX12_manyHold_308 (by decide) ?_
                refine jr_goto (tgt := 313) hE dX12_manyHold_309 (by decide) ?_
                refine jr_istore_n (lv' := [(1, .int (1 : Int32)), (0, .ref o)]) hE dX12_manyHold_313 (by decide) rfl ?_
                refine jr_iload_n hE dX12_manyHold_314 0 rfl ?_
                refine jr_if_ne (tgt := 366) hE dX12_manyHold_315 (by decide) (fun c315 => ?_) (fun c315 => ?_)
                · refine jr_iconst (v := (1 : Int32)) hE dX12_manyHold_366 (by decide) ?_
                  refine jr_goto (tgt := 371) hE dX12_manyHold_367 (by decide) ?_
                  have hV47 : v26 31 = (nI (s.2.2.1 + (1 + (2 * s.2.1.length)))) := ((hvv26 31 (by decide)).trans (hvf 31 (by decide))).trans hvx13
                  have hvF : ∀ z, z ∉ [10, 31, 57] → v26 z = v z := (fun z hz => ((hvv26 z (jnsub (V := [10]) hz [0] rfl)).trans ((hvf z (jne hz 2 rfl)).trans (hvv13 z (jnsub (V := [31]) hz [1] rfl)))))
                  have hnF : ∀ z, z ∉ [34, 35, 36, 37, 38, 39, 40, 41, 42, 43, 44, 45, 46, 47, 63, 66, 68, 69, 70, 71, 72, 73, 74] → n36 z = n z := (fun z hz => ((hf36 z (jnsub (V := [37, 38, 39, 42, 43, 44, 45, 46, 47, 34, 35, 36]) hz [3, 4, 5, 8, 9, 10, 11, 12, 13, 0, 1, 2] rfl)).trans ((hf30 z (jnsub (V := [40, 41]) hz [6, 7] rfl)).trans ((hnf z (jnsub (V := [34, 35, 36, 37, 38, 39, 40, 41, 42, 43, 44, 45, 46, 47, 63, 66, 68, 69, 70, 71, 72, 73, 74]) hz [0, 1, 2, 3, 4, 5, 6, 7, 8, 9, 10, 11, 12, 13, 14, 15, 16, 17, 18, 19, 20, 21, 22] rfl)).trans ((hf19 z (jnsub (V := [73]) hz [21] rfl)).trans ((hf16 z (jnsub (V := [70]) hz [18] rfl)).trans (hf4 z (jnsub (V := [40, 41, 42, 43, 35, 36, 63, 71, 72]) hz [6, 7, 8, 9, 1, 2, 14, 19, 20] rfl))))))))
                  have hwF : ∀ z, z ∉ [53, 54, 55, 56, 58, 59] → w2 z = w z := (fun z hz => (hwf z (jnsub (V := [53, 54, 55, 56, 58, 59]) hz [0, 1, 2, 3, 4, 5] rfl)))
                  have e : stMany s = (1, clrE (setK s (s.2.2.1 + (1 + (2 * s.2.1.length))))) := by
                    unfold stMany
                    rw [if_neg hz0, if_pos hwell, if_neg hw48, ← eQA, ← eSA, (b2i_t (hPz.trans hSz.symm) : b2i (QA = SA) = 1)]
                  exact hR F34 _ _ _ dX12_manyHold_371 rfl ⟨_, _, _, _, by rw [e]; exact hI.many (c := s.2.2.1 + (1 + (2 * s.2.1.length))) M36 hV47 (by omega) hvx26 (fun z hz => hvF z (jdj rfl hz)) (fun z hz => hnF z (jdj rfl hz)) (fun z hz => hwF z (jdj rfl hz)), by rw [e], O36⟩
                · exact absurd c315 (by decide)
              · have hz9 := 0
                have hp39 : n36 39 = some 0 := by rw [hs39.z, if_pos hPz]
                have hs70 : n36 70 = some 1 := by rw [hs38.z, if_neg hSz]
                refine jr_aload_n hE dX12_manyHold_288 1 rfl ?_
                refine jr_get hE dX12_manyHold_289 f173 M36.ob rfl ?_
                refine jr_kSi (n := 1) (As := [.ref (a 39)]) (rest := []) hE dX12_manyHold_292 (fun l => c_m_isNull l G o a v26 n36 g w2 39 0) gX12_manyHold_X12_isNull rfl (by decide +kernel) ⟨rfl, rfl, by decide, by decide⟩ (by decide) rfl rfl (Nat.le_of_ble_eq_true rfl) (⟨M36, by decide, hp39⟩) (fun r52 F50 q51 => ?_)
                obtain ⟨eq51, rq51⟩ := q51
                subst eq51 rq51
                refine jr_if_eq (tgt := 312) hE dX12_manyHold_295 (by decide) (fun c_295 => absurd c_295 (by decide)) (fun c_295 => ?_)
                refine jr_aload_n hE dX12_manyHold_298 1 rfl ?_
                refine jr_get hE dX12_manyHold_299 f329 M36.ob rfl ?_
                refine jr_kSi (n := 1) (As := [.ref (a 70)]) (rest := []) hE dX12_manyHold_302 (fun l => c_m_isNull l G o a v26 n36 g w2 70 1) gX12_manyHold_X12_isNull rfl (by decide +kernel) ⟨rfl, rfl, by decide, by decide⟩ (by decide) rfl rfl (Nat.le_of_ble_eq_true rfl) (⟨M36, by decide, hs70⟩) (fun r55 F53 q54 => ?_)
                obtain ⟨eq54, rq54⟩ := q54
                subst eq54 rq54
                refine jr_if_eq (tgt := 312) hE dX12_manyHold_305 (by decide) (fun c_305 => ?_) (fun c_305 => absurd (by decide) c_305)
                refine jr_iconst (v := (0 : Int32)) hE dX12_manyHold_312 (by decide) ?_
                refine jr_istore_n (lv' := [(1, .int (0 : Int32)), (0, .ref o)]) hE dX12_manyHold_313 (by decide) rfl ?_
                refine jr_iload_n hE dX12_manyHold_314 0 rfl ?_
                refine jr_if_ne (tgt := 366) hE dX12_manyHold_315 (by decide) (fun c_315 => absurd c_315 (by decide)) (fun c_315 => ?_)
                refine jr_aload_n hE dX12_manyHold_318 1 rfl ?_
                refine jr_get hE dX12_manyHold_319 f173 M36.ob rfl ?_
                refine jr_kSi (n := 1) (As := [.ref (a 39)]) (rest := []) hE dX12_manyHold_322 (fun l => c_m_isNull l G o a v26 n36 g w2 39 0) gX12_manyHold_X12_isNull rfl (by decide +kernel) ⟨rfl, rfl, by decide, by decide⟩ (by decide) rfl rfl (Nat.le_of_ble_eq_true rfl) (⟨M36, by decide, hp39⟩) (fun r58 F56 q57 => ?_)
                obtain ⟨eq57, rq57⟩ := q57
                subst eq57 rq57
                refine jr_if_ne (tgt := 370) hE dX12_manyHold_325 (by decide) (fun c325 => ?_) (fun c325 => ?_)
                · refine jr_iconst (v := (0 : Int32)) hE dX12_manyHold_370 (by decide) ?_
                  have hV59 : v26 31 = (nI (s.2.2.1 + (1 + (2 * s.2.1.length)))) := ((hvv26 31 (by decide)).trans (hvf 31 (by decide))).trans hvx13
                  have hvF : ∀ z, z ∉ [10, 31, 57] → v26 z = v z := (fun z hz => ((hvv26 z (jnsub (V := [10]) hz [0] rfl)).trans ((hvf z (jne hz 2 rfl)).trans (hvv13 z (jnsub (V := [31]) hz [1] rfl)))))
                  have hnF : ∀ z, z ∉ [34, 35, 36, 37, 38, 39, 40, 41, 42, 43, 44, 45, 46, 47, 63, 66, 68, 69, 70, 71, 72, 73, 74] → n36 z = n z := (fun z hz => ((hf36 z (jnsub (V := [37, 38, 39, 42, 43, 44, 45, 46, 47, 34, 35, 36]) hz [3, 4, 5, 8, 9, 10, 11, 12, 13, 0, 1, 2] rfl)).trans ((hf30 z (jnsub (V := [40, 41]) hz [6, 7] rfl)).trans ((hnf z (jnsub (V := [34, 35, 36, 37, 38, 39, 40, 41, 42, 43, 44, 45, 46, 47, 63, 66, 68, 69, 70, 71, 72, 73, 74]) hz [0, 1, 2, 3, 4, 5, 6, 7, 8, 9, 10, 11, 12, 13, 14, 15, 16, 17, 18, 19, 20, 21, 22] rfl)).trans ((hf19 z (jnsub (V := [73]) hz [21] rfl)).trans ((hf16 z (jnsub (V := [70]) hz [18] rfl)).trans (hf4 z (jnsub (V := [40, 41, 42, 43, 35, 36, 63, 71, 72]) hz [6, 7, 8, 9, 1, 2, 14, 19, 20] rfl))))))))
                  have hwF : ∀ z, z ∉ [53, 54, 55, 56, 58, 59] → w2 z = w z := (fun z hz => (hwf z (jnsub (V := [53, 54, 55, 56, 58, 59]) hz [0, 1, 2, 3, 4, 5] rfl)))
                  have e : stMany s = (0, clrE (setK s (s.2.2.1 + (1 + (2 * s.2.1.length))))) := by
                    unfold stMany
                    rw [if_neg hz0, if_pos hwell, if_neg hw48, ← eQA, ← eSA, (b2i_f (fun q => hSz (q.symm.trans hPz)) : b2i (QA = SA) = 0)]
                  exact hR F34 _ _ _ dX12_manyHold_371 rfl ⟨_, _, _, _, by rw [e]; exact hI.many (c := s.2.2.1 + (1 + (2 * s.2.1.length))) M36 hV59 (by omega) hvx26 (fun z hz => hvF z (jdj rfl hz)) (fun z hz => hnF z (jdj rfl hz)) (fun z hz => hwF z (jdj rfl hz)), by rw [e], O36⟩
                · exact absurd c325 (by decide)
            · by_cases hSz : SA = none
              · have hz9 := 0
                have hp39 : n36 39 = some 1 := by rw [hs39.z, if_neg hPz]
                have hs70 : n36 70 = some 0 := by rw [hs38.z, if_pos hSz]
                refine jr_aload_n hE dX12_manyHold_288 1 rfl ?_
                refine jr_get hE dX12_manyHold_289 f173 M36.ob rfl ?_
                refine jr_kSi (n := 1) (As := [.ref (a 39)]) (rest := []) hE dX12_manyHold_292 (fun l => c_m_isNull l G o a v26 n36 g w2 39 1) gX12_manyHold_X12_isNull rfl (by decide +kernel) ⟨rfl, rfl, by decide, by decide⟩ (by decide) rfl rfl (Nat.le_of_ble_eq_true rfl) (⟨M36, by decide, hp39⟩) (fun r64 F62 q63 => ?_)
                obtain ⟨eq63, rq63⟩ := q63
                subst eq63 rq63
                refine jr_if_eq (tgt := 312) hE dX12_manyHold_295 (by decide) (fun c_295 => ?_) (fun c_295 => absurd (by decide) c_295)
                refine jr_iconst (v := (0 : Int32)) hE dX12_manyHold_312 (by decide) ?_
                refine jr_istore_n (lv' := [(1, .int (0 : Int32)), (0, .ref o)]) hE dX12_manyHold_313 (by decide) rfl ?_
                refine jr_iload_n hE dX12_manyHold_314 0 rfl ?_
                refine jr_if_ne (tgt := 366) hE dX12_manyHold_315 (by decide) (fun c_315 => absurd c_315 (by decide)) (fun c_315 => ?_)
                refine jr_aload_n hE dX12_manyHold_318 1 rfl ?_
                refine jr_get hE dX12_manyHold_319 f173 M36.ob rfl ?_
                refine jr_kSi (n := 1) (As := [.ref (a 39)]) (rest := []) hE dX12_manyHold_322 (fun l => c_m_isNull l G o a v26 n36 g w2 39 1) gX12_manyHold_X12_isNull rfl (by decide +kernel) ⟨rfl, rfl, by decide, by decide⟩ (by decide) rfl rfl (Nat.le_of_ble_eq_true rfl) (⟨M36, by decide, hp39⟩) (fun r67 F65 q66 => ?_)
                obtain ⟨eq66, rq66⟩ := q66
                subst eq66 rq66
                refine jr_if_ne (tgt := 370) hE dX12_manyHold_325 (by decide) (fun c_325 => absurd c_325 (by decide)) (fun c_325 => ?_)
                refine jr_aload_n hE dX12_manyHold_328 1 rfl ?_
                refine jr_get hE dX12_manyHold_329 f329 M36.ob rfl ?_
                refine jr_kSi (n := 1) (As := [.ref (a 70)]) (rest := []) hE dX12_manyHold_332 (fun l => c_m_isNull l G o a v26 n36 g w2 70 0) gX12_manyHold_X12_isNull rfl (by decide +kernel) ⟨rfl, rfl, by decide, by decide⟩ (by decide) rfl rfl (Nat.le_of_ble_eq_true rfl) (⟨M36, by decide, hs70⟩) (fun r70 F68 q69 => ?_)
                obtain ⟨eq69, rq69⟩ := q69
                subst eq69 rq69
                refine jr_if_ne (tgt := 370) hE dX12_manyHold_335 (by decide) (fun c335 => ?_) (fun c335 => ?_)
                · refine jr_iconst (v := (0 : Int32)) hE dX12_manyHold_370 (by decide) ?_
                  have hV71 : v26 31 = (nI (s.2.2.1 + (1 + (2 * s.2.1.length)))) := ((hvv26 31 (by decide)).trans (hvf 31 (by decide))).trans hvx13
                  have hvF : ∀ z, z ∉ [10, 31, 57] → v26 z = v z := (fun z hz => ((hvv26 z (jnsub (V := [10]) hz [0] rfl)).trans ((hvf z (jne hz 2 rfl)).trans (hvv13 z (jnsub (V := [31]) hz [1] rfl)))))
                  have hnF : ∀ z, z ∉ [34, 35, 36, 37, 38, 39, 40, 41, 42, 43, 44, 45, 46, 47, 63, 66, 68, 69, 70, 71, 72, 73, 74] → n36 z = n z := (fun z hz => ((hf36 z (jnsub (V := [37, 38, 39, 42, 43, 44, 45, 46, 47, 34, 35, 36]) hz [3, 4, 5, 8, 9, 10, 11, 12, 13, 0, 1, 2] rfl)).trans ((hf30 z (jnsub (V := [40, 41]) hz [6, 7] rfl)).trans ((hnf z (jnsub (V := [34, 35, 36, 37, 38, 39, 40, 41, 42, 43, 44, 45, 46, 47, 63, 66, 68, 69, 70, 71, 72, 73, 74]) hz [0, 1, 2, 3, 4, 5, 6, 7, 8, 9, 10, 11, 12, 13, 14, 15, 16, 17, 18, 19, 20, 21, 22] rfl)).trans ((hf19 z (jnsub (V := [73]) hz [21] rfl)).trans ((hf16 z (jnsub (V := [70]) hz [18] rfl)).trans (hf4 z (jnsub (V := [40, 41, 42, 43, 35, 36, 63, 71, 72]) hz [6, 7, 8, 9, 1, 2, 14, 19, 20] rfl))))))))
                  have hwF : ∀ z, z ∉ [53, 54, 55, 56, 58, 59] → w2 z = w z := (fun z hz => (hwf z (jnsub (V := [53, 54, 55, 56, 58, 59]) hz [0, 1, 2, 3, 4, 5] rfl)))
                  have e : stMany s = (0, clrE (setK s (s.2.2.1 + (1 + (2 * s.2.1.length))))) := by
                    unfold stMany
                    rw [if_neg hz0, if_pos hwell, if_neg hw48, ← eQA, ← eSA, (b2i_f (fun q => hPz (q.trans hSz)) : b2i (QA = SA) = 0)]
                  exact hR F34 _ _ _ dX12_manyHold_371 rfl ⟨_, _, _, _, by rw [e]; exact hI.many (c := s.2.2.1 + (1 + (2 * s.2.1.length))) M36 hV71 (by omega) hvx26 (fun z hz => hvF z (jdj rfl hz)) (fun z hz => hnF z (jdj rfl hz)) (fun z hz => hwF z (jdj rfl hz)), by rw [e], O36⟩
                · exact absurd c335 (by decide)
              · have hz9 := 0
                have hp39 : n36 39 = some 1 := by rw [hs39.z, if_neg hPz]
                have hs70 : n36 70 = some 1 := by rw [hs38.z, if_neg hSz]
                have hxp := hs39.xy hPz
                have hxs := hs38.xy hSz
                refine jr_aload_n hE dX12_manyHold_288 1 rfl ?_
                refine jr_get hE dX12_manyHold_289 f173 M36.ob rfl ?_
                refine jr_kSi (n := 1) (As := [.ref (a 39)]) (rest := []) hE dX12_manyHold_292 (fun l => c_m_isNull l G o a v26 n36 g w2 39 1) gX12_manyHold_X12_isNull rfl (by decide +kernel) ⟨rfl, rfl, by decide, by decide⟩ (by decide) rfl rfl (Nat.le_of_ble_eq_true rfl) (⟨M36, by decide, hp39⟩) (fun r76 F74 q75 => ?_)
                obtain ⟨eq75, rq75⟩ := q75
                subst eq75 rq75
                refine jr_if_eq (tgt := 312) hE dX12_manyHold_295 (by decide) (fun c_295 => ?_) (fun c_295 => absurd (by decide) c_295)
                refine jr_iconst (v := (0 : Int32)) hE dX12_manyHold_312 (by decide) ?_
                refine jr_istore_n (lv' := [(1, .int (0 : Int32)), (0, .ref o)]) hE dX12_manyHold_313 (by decide) rfl ?_
                refine jr_iload_n hE dX12_manyHold_314 0 rfl ?_
                refine jr_if_ne (tgt := 366) hE dX12_manyHold_315 (by decide) (fun c_315 => absurd c_315 (by decide)) (fun c_315 => ?_)
                refine jr_aload_n hE dX12_manyHold_318 1 rfl ?_
                refine jr_get hE dX12_manyHold_319 f173 M36.ob rfl ?_
                refine jr_kSi (n := 1) (As := [.ref (a 39)]) (rest := []) hE dX12_manyHold_322 (fun l => c_m_isNull l G o a v26 n36 g w2 39 1) gX12_manyHold_X12_isNull rfl (by decide +kernel) ⟨rfl, rfl, by decide, by decide⟩ (by decide) rfl rfl (Nat.le_of_ble_eq_true rfl) (⟨M36, by decide, hp39⟩) (fun r79 F77 q78 => ?_)
                obtain ⟨eq78, rq78⟩ := q78
                subst eq78 rq78
                refine jr_if_ne (tgt := 370) hE dX12_manyHold_325 (by decide) (fun c_325 => absurd c_325 (by decide)) (fun c_325 => ?_)
                refine jr_aload_n hE dX12_manyHold_328 1 rfl ?_
                refine jr_get hE dX12_manyHold_329 f329 M36.ob rfl ?_
                refine jr_kSi (n := 1) (As := [.ref (a 70)]) (rest := []) hE dX12_manyHold_332 (fun l => c_m_isNull l G o a v26 n36 g w2 70 1) gX12_manyHold_X12_isNull rfl (by decide +kernel) ⟨rfl, rfl, by decide, by decide⟩ (by decide) rfl rfl (Nat.le_of_ble_eq_true rfl) (⟨M36, by decide, hs70⟩) (fun r82 F80 q81 => ?_)
                obtain ⟨eq81, rq81⟩ := q81
                subst eq81 rq81
                refine jr_if_ne (tgt := 370) hE dX12_manyHold_335 (by decide) (fun c_335 => absurd c_335 (by decide)) (fun c_335 => ?_)
                refine jr_aload_n hE dX12_manyHold_338 1 rfl ?_
                refine jr_get hE dX12_manyHold_339 f167 M36.ob rfl ?_
                refine jr_aload_n hE dX12_manyHold_342 1 rfl ?_
                refine jr_get hE dX12_manyHold_343 f323 M36.ob rfl ?_
                refine jr_kSi (n := 2) (As := [.ref (a 37), .ref (a 68)]) (rest := []) hE dX12_manyHold_346 (fun l => c_m_isSame l G o a v26 n36 g w2 37 68 (exE QA) (exE SA)) gX12_manyHold_X12_isSame rfl (by decide +kernel) ⟨rfl, rfl, by decide, by decide⟩ (by decide) rfl rfl (Nat.le_of_ble_eq_true rfl) (⟨M36, by decide, by decide, hxp.1, hxs.1⟩) (fun r85 F83 q84 => ?_)
                obtain ⟨eq84, rq84⟩ := q84
                subst eq84 rq84
                refine jr_if_eq (tgt := 370) hE dX12_manyHold_349 (by decide) (fun cs1 => ?_) (fun cs1 => ?_)
                · refine jr_iconst (v := (0 : Int32)) hE dX12_manyHold_370 (by decide) ?_
                  have hV86 : v26 31 = (nI (s.2.2.1 + (1 + (2 * s.2.1.length)))) := ((hvv26 31 (by decide)).trans (hvf 31 (by decide))).trans hvx13
                  have hvF : ∀ z, z ∉ [10, 31, 57] → v26 z = v z := (fun z hz => ((hvv26 z (jnsub (V := [10]) hz [0] rfl)).trans ((hvf z (jne hz 2 rfl)).trans (hvv13 z (jnsub (V := [31]) hz [1] rfl)))))
                  have hnF : ∀ z, z ∉ [34, 35, 36, 37, 38, 39, 40, 41, 42, 43, 44, 45, 46, 47, 63, 66, 68, 69, 70, 71, 72, 73, 74] → n36 z = n z := (fun z hz => ((hf36 z (jnsub (V := [37, 38, 39, 42, 43, 44, 45, 46, 47, 34, 35, 36]) hz [3, 4, 5, 8, 9, 10, 11, 12, 13, 0, 1, 2] rfl)).trans ((hf30 z (jnsub (V := [40, 41]) hz [6, 7] rfl)).trans ((hnf z (jnsub (V := [34, 35, 36, 37, 38, 39, 40, 41, 42, 43, 44, 45, 46, 47, 63, 66, 68, 69, 70, 71, 72, 73, 74]) hz [0, 1, 2, 3, 4, 5, 6, 7, 8, 9, 10, 11, 12, 13, 14, 15, 16, 17, 18, 19, 20, 21, 22] rfl)).trans ((hf19 z (jnsub (V := [73]) hz [21] rfl)).trans ((hf16 z (jnsub (V := [70]) hz [18] rfl)).trans (hf4 z (jnsub (V := [40, 41, 42, 43, 35, 36, 63, 71, 72]) hz [6, 7, 8, 9, 1, 2, 14, 19, 20] rfl))))))))
                  have hwF : ∀ z, z ∉ [53, 54, 55, 56, 58, 59] → w2 z = w z := (fun z hz => (hwf z (jnsub (V := [53, 54, 55, 56, 58, 59]) hz [0, 1, 2, 3, 4, 5] rfl)))
                  have e : stMany s = (0, clrE (setK s (s.2.2.1 + (1 + (2 * s.2.1.length))))) := by
                    unfold stMany
                    rw [if_neg hz0, if_pos hwell, if_neg hw48, ← eQA, ← eSA, (b2i_f (fun q => b2i_0 cs1 (by rw [q])) : b2i (QA = SA) = 0)]
                  exact hR F34 _ _ _ dX12_manyHold_371 rfl ⟨_, _, _, _, by rw [e]; exact hI.many (c := s.2.2.1 + (1 + (2 * s.2.1.length))) M36 hV86 (by omega) hvx26 (fun z hz => hvF z (jdj rfl hz)) (fun z hz => hnF z (jdj rfl hz)) (fun z hz => hwF z (jdj rfl hz)), by rw [e], O36⟩
                · refine jr_aload_n hE dX12_manyHold_352 1 rfl ?_
                  refine jr_get hE dX12_manyHold_353 f170 M36.ob rfl ?_
                  refine jr_aload_n hE dX12_manyHold_356 1 rfl ?_
                  refine jr_get hE dX12_manyHold_357 f326 M36.ob rfl ?_
                  refine jr_kSi (n := 2) (As := [.ref (a 38), .ref (a 69)]) (rest := []) hE dX12_manyHold_360 (fun l => c_m_isSame l G o a v26 n36 g w2 38 69 (eyN QA) (eyN SA)) gX12_manyHold_X12_isSame rfl (by decide +kernel) ⟨rfl, rfl, by decide, by decide⟩ (by decide) rfl rfl (Nat.le_of_ble_eq_true rfl) (⟨M36, by decide, by decide, hxp.2.1, hxs.2.1⟩) (fun r90 F88 q89 => ?_)
                  obtain ⟨eq89, rq89⟩ := q89
                  subst eq89 rq89
                  refine jr_if_eq (tgt := 370) hE dX12_manyHold_363 (by decide) (fun cs2 => ?_) (fun cs2 => ?_)
                  · refine jr_iconst (v := (0 : Int32)) hE dX12_manyHold_370 (by decide) ?_
                    have hV91 : v26 31 = (nI (s.2.2.1 + (1 + (2 * s.2.1.length)))) := ((hvv26 31 (by decide)).trans (hvf 31 (by decide))).trans hvx13
                    have hvF : ∀ z, z ∉ [10, 31, 57] → v26 z = v z := (fun z hz => ((hvv26 z (jnsub (V := [10]) hz [0] rfl)).trans ((hvf z (jne hz 2 rfl)).trans (hvv13 z (jnsub (V := [31]) hz [1] rfl)))))
                    have hnF : ∀ z, z ∉ [34, 35, 36, 37, 38, 39, 40, 41, 42, 43, 44, 45, 46, 47, 63, 66, 68, 69, 70, 71, 72, 73, 74] → n36 z = n z := (fun z hz => ((hf36 z (jnsub (V := [37, 38, 39, 42, 43, 44, 45, 46, 47, 34, 35, 36]) hz [3, 4, 5, 8, 9, 10, 11, 12, 13, 0, 1, 2] rfl)).trans ((hf30 z (jnsub (V := [40, 41]) hz [6, 7] rfl)).trans ((hnf z (jnsub (V := [34, 35, 36, 37, 38, 39, 40, 41, 42, 43, 44, 45, 46, 47, 63, 66, 68, 69, 70, 71, 72, 73, 74]) hz [0, 1, 2, 3, 4, 5, 6, 7, 8, 9, 10, 11, 12, 13, 14, 15, 16, 17, 18, 19, 20, 21, 22] rfl)).trans ((hf19 z (jnsub (V := [73]) hz [21] rfl)).trans ((hf16 z (jnsub (V := [70]) hz [18] rfl)).trans (hf4 z (jnsub (V := [40, 41, 42, 43, 35, 36, 63, 71, 72]) hz [6, 7, 8, 9, 1, 2, 14, 19, 20] rfl))))))))
                    have hwF : ∀ z, z ∉ [53, 54, 55, 56, 58, 59] → w2 z = w z := (fun z hz => (hwf z (jnsub (V := [53, 54, 55, 56, 58, 59]) hz [0, 1, 2, 3, 4, 5] rfl)))
                    have e : stMany s = (0, clrE (setK s (s.2.2.1 + (1 + (2 * s.2.1.length))))) := by
                      unfold stMany
                      rw [if_neg hz0, if_pos hwell, if_neg hw48, ← eQA, ← eSA, (b2i_f (fun q => b2i_0 cs2 (by rw [q])) : b2i (QA = SA) = 0)]
                    exact hR F34 _ _ _ dX12_manyHold_371 rfl ⟨_, _, _, _, by rw [e]; exact hI.many (c := s.2.2.1 + (1 + (2 * s.2.1.length))) M36 hV91 (by omega) hvx26 (fun z hz => hvF z (jdj rfl hz)) (fun z hz => hnF z (jdj rfl hz)) (fun z hz => hwF z (jdj rfl hz)), by rw [e], O36⟩
                  · refine jr_iconst (v := (1 : Int32)) hE dX12_manyHold_366 (by decide) ?_
                    refine jr_goto (tgt := 371) hE dX12_manyHold_367 (by decide) ?_
                    have hV93 : v26 31 = (nI (s.2.2.1 + (1 + (2 * s.2.1.length)))) := ((hvv26 31 (by decide)).trans (hvf 31 (by decide))).trans hvx13
                    have hvF : ∀ z, z ∉ [10, 31, 57] → v26 z = v z := (fun z hz => ((hvv26 z (jnsub (V := [10]) hz [0] rfl)).trans ((hvf z (jne hz 2 rfl)).trans (hvv13 z (jnsub (V := [31]) hz [1] rfl)))))
                    have hnF : ∀ z, z ∉ [34, 35, 36, 37, 38, 39, 40, 41, 42, 43, 44, 45, 46, 47, 63, 66, 68, 69, 70, 71, 72, 73, 74] → n36 z = n z := (fun z hz => ((hf36 z (jnsub (V := [37, 38, 39, 42, 43, 44, 45, 46, 47, 34, 35, 36]) hz [3, 4, 5, 8, 9, 10, 11, 12, 13, 0, 1, 2] rfl)).trans ((hf30 z (jnsub (V := [40, 41]) hz [6, 7] rfl)).trans ((hnf z (jnsub (V := [34, 35, 36, 37, 38, 39, 40, 41, 42, 43, 44, 45, 46, 47, 63, 66, 68, 69, 70, 71, 72, 73, 74]) hz [0, 1, 2, 3, 4, 5, 6, 7, 8, 9, 10, 11, 12, 13, 14, 15, 16, 17, 18, 19, 20, 21, 22] rfl)).trans ((hf19 z (jnsub (V := [73]) hz [21] rfl)).trans ((hf16 z (jnsub (V := [70]) hz [18] rfl)).trans (hf4 z (jnsub (V := [40, 41, 42, 43, 35, 36, 63, 71, 72]) hz [6, 7, 8, 9, 1, 2, 14, 19, 20] rfl))))))))
                    have hwF : ∀ z, z ∉ [53, 54, 55, 56, 58, 59] → w2 z = w z := (fun z hz => (hwf z (jnsub (V := [53, 54, 55, 56, 58, 59]) hz [0, 1, 2, 3, 4, 5] rfl)))
                    have e : stMany s = (1, clrE (setK s (s.2.2.1 + (1 + (2 * s.2.1.length))))) := by
                      unfold stMany
                      rw [if_neg hz0, if_pos hwell, if_neg hw48, ← eQA, ← eSA, (b2i_t (ex_ey hPz hSz (b2i_1 cs1) (b2i_1 cs2)) : b2i (QA = SA) = 1)]
                    exact hR F34 _ _ _ dX12_manyHold_371 rfl ⟨_, _, _, _, by rw [e]; exact hI.many (c := s.2.2.1 + (1 + (2 * s.2.1.length))) M36 hV93 (by omega) hvx26 (fun z hz => hvF z (jdj rfl hz)) (fun z hz => hnF z (jdj rfl hz)) (fun z hz => hwF z (jdj rfl hz)), by rw [e], O36⟩
          | succ r0 ih =>
            intro i F4 n2 v2 w2 hi H4 hnf hvf hwf h73 hsm hon O4
            obtain ⟨y1, y2, y3, y4, y5, y6, y7, y8, y9, y10, y11⟩ := hpI.1.at (i := i) (by omega)
            have hwl := hwell i (by omega)
            refine jr_iload_n hE dX12_manyHold_73 0 rfl ?_
            refine jr_aload_n hE dX12_manyHold_74 1 rfl ?_
            have hV95 : v2 10 = (nI s.2.1.length) := ((hvf 10 (by decide)).trans (hvv13 10 (by decide))).trans hpI.1.1
            refine jr_get hE dX12_manyHold_75 f520 H4.ob rfl ?_
            rw [hV95]
            refine jr_icmp_ge (tgt := 271) hE dX12_manyHold_78 (by decide) (fun c_78 => absurd c_78 (nI_ge (b := s.2.1.length) (by omega) (by omega))) (fun c_78 => ?_)
            refine jr_aload_n hE dX12_manyHold_81 1 rfl ?_
            refine jr_get hE dX12_manyHold_82 f308 H4.ob rfl ?_
            refine jr_aload_n hE dX12_manyHold_85 1 rfl ?_
            refine jr_get hE dX12_manyHold_86 f103 H4.ob rfl ?_
            refine jr_bipush (v := (32 : Int32)) hE dX12_manyHold_89 (by decide) ?_
            refine jr_iload_n hE dX12_manyHold_91 0 rfl ?_
            refine jr_imul (z := nI (32 * i)) hE dX12_manyHold_92 (pk_mul 32 i) ?_
            have hC96 : bl (w2 11) (32 * i) 32 = (enG s.2.1 i).1 := by
              rw [show w2 11 = w 11 from (hwf 11 (by decide))]
              exact y1
            refine jr_kSv (n := 3) (As := [.ref (a 63), .ref (a 11), .int (nI (32 * i))]) (rest := []) hE dX12_manyHold_93 (fun l => c_m_numberOf l G o a v2 n2 g w2 63 11 (32 * i) 128) gX12_manyHold_X12_numberOf rfl (by decide +kernel) ⟨rfl, rfl, by decide, by decide⟩ (by decide) rfl rfl (Nat.le_of_ble_eq_true rfl) (⟨H4, by decide, by decide, by omega, by decide, bB_of hC96 y9⟩) (fun F97 q98 => ?_)
            obtain ⟨M99, P99⟩ := q98
            have O99 := O4.tr P99
            rw [hC96] at M99
            obtain ⟨n99, e99, hf99, hv99⟩ := uz_ab n2 63 (some (bnum ((enG s.2.1 i).1)))
            rw [e99] at M99
            refine jr_aload_n hE dX12_manyHold_96 1 rfl ?_
            refine jr_get hE dX12_manyHold_97 f332 M99.ob rfl ?_
            refine jr_aload_n hE dX12_manyHold_100 1 rfl ?_
            refine jr_get hE dX12_manyHold_101 f112 M99.ob rfl ?_
            refine jr_bipush (v := (64 : Int32)) hE dX12_manyHold_104 (by decide) ?_
            refine jr_iload_n hE dX12_manyHold_106 0 rfl ?_
            refine jr_imul (z := nI (64 * i)) hE dX12_manyHold_107 (pk_mul 64 i) ?_
            have hC100 : bl (w2 14) (64 * i) 32 = (enG s.2.1 i).2.2.1.take 32 := by
              rw [show w2 14 = w 14 from (hwf 14 (by decide))]
              exact (bl_take y5 32 (by decide))
            refine jr_kSv (n := 3) (As := [.ref (a 71), .ref (a 14), .int (nI (64 * i))]) (rest := []) hE dX12_manyHold_108 (fun l => c_m_numberOf l G o a v2 n99 g w2 71 14 (64 * i) 256) gX12_manyHold_X12_numberOf rfl (by decide +kernel) ⟨rfl, rfl, by decide, by decide⟩ (by decide) rfl rfl (Nat.le_of_ble_eq_true rfl) (⟨M99, by decide, by decide, by omega, by decide, bB_of hC100 (take_lt y11 32)⟩) (fun F101 q102 => ?_)
            obtain ⟨M103, P103⟩ := q102
            have O103 := O99.tr P103
            rw [hC100] at M103
            obtain ⟨n103, e103, hf103, hv103⟩ := uz_ab n99 71 (some (bnum ((enG s.2.1 i).2.2.1.take 32)))
            rw [e103] at M103
            refine jr_aload_n hE dX12_manyHold_111 1 rfl ?_
            refine jr_get hE dX12_manyHold_112 f335 M103.ob rfl ?_
            refine jr_aload_n hE dX12_manyHold_115 1 rfl ?_
            refine jr_get hE dX12_manyHold_116 f112 M103.ob rfl ?_
            refine jr_bipush (v := (64 : Int32)) hE dX12_manyHold_119 (by decide) ?_
            refine jr_iload_n hE dX12_manyHold_121 0 rfl ?_
            refine jr_imul (z := nI (64 * i)) hE dX12_manyHold_122 (pk_mul 64 i) ?_
            refine jr_bipush (v := (32 : Int32)) hE dX12_manyHold_123 (by decide) ?_
            refine jr_iadd (z := nI (64 * i + 32)) hE dX12_manyHold_125 (nI_add _ 32) ?_
            have hC104 : bl (w2 14) (64 * i + 32) 32 = (enG s.2.1 i).2.2.1.drop 32 := by
              rw [show w2 14 = w 14 from (hwf 14 (by decide))]
              exact (bl_drop y5 32 32 rfl)
            refine jr_kSv (n := 3) (As := [.ref (a 72), .ref (a 14), .int (nI (64 * i + 32))]) (rest := []) hE dX12_manyHold_126 (fun l => c_m_numberOf l G o a v2 n103 g w2 72 14 (64 * i + 32) 256) gX12_manyHold_X12_numberOf rfl (by decide +kernel) ⟨rfl, rfl, by decide, by decide⟩ (by decide) rfl rfl (Nat.le_of_ble_eq_true rfl) (⟨M103, by decide, by decide, by omega, by decide, bB_of hC104 (drop_lt y11 32)⟩) (fun F105 q106 => ?_)
            obtain ⟨M107, P107⟩ := q106
            have O107 := O103.tr P107
            rw [hC104] at M107
            obtain ⟨n107, e107, hf107, hv107⟩ := uz_ab n103 72 (some (bnum ((enG s.2.1 i).2.2.1.drop 32)))
            rw [e107] at M107
            refine jr_aload_n hE dX12_manyHold_129 1 rfl ?_
            refine jr_get hE dX12_manyHold_130 f341 M107.ob rfl ?_
            refine jr_aload_n hE dX12_manyHold_133 1 rfl ?_
            refine jr_get hE dX12_manyHold_134 f115 M107.ob rfl ?_
            refine jr_iload_n hE dX12_manyHold_137 0 rfl ?_
            refine jr_lald (v := lN (enG s.2.1 i).2.2.2) hE dX12_manyHold_138 (M107.L (k := 15) (N := 4) (by decide) (by decide)) (vp_in_nI (by omega) (by decide)) (by rw [nI_clamp (by omega)]; exact y6) ?_
            refine jr_kSv (n := 2) (As := [.ref (a 74), .long (lN (enG s.2.1 i).2.2.2)]) (rest := []) hE dX12_manyHold_139 (fun l => c_m_small l G o a v2 n107 g w2 74 ((enG s.2.1 i).2.2.2)) gX12_manyHold_X12_small rfl (by decide +kernel) ⟨rfl, rfl, by decide, by decide⟩ (by decide) rfl rfl (Nat.le_of_ble_eq_true rfl) (⟨M107, by decide, by omega⟩) (fun F108 q109 => ?_)
            obtain ⟨M110, P110⟩ := q109
            have O110 := O107.tr P110
            obtain ⟨n110, e110, hf110, hv110⟩ := uz_ab n107 74 (some ((enG s.2.1 i).2.2.2))
            rw [e110] at M110
            refine jr_aload_n hE dX12_manyHold_142 1 rfl ?_
            refine jr_aload_n hE dX12_manyHold_143 1 rfl ?_
            refine jr_get hE dX12_manyHold_144 f317 M110.ob rfl ?_
            refine jr_aload_n hE dX12_manyHold_147 1 rfl ?_
            refine jr_get hE dX12_manyHold_148 f332 M110.ob rfl ?_
            refine jr_aload_n hE dX12_manyHold_151 1 rfl ?_
            refine jr_get hE dX12_manyHold_152 f308 M110.ob rfl ?_
            refine jr_aload_n hE dX12_manyHold_155 1 rfl ?_
            refine jr_get hE dX12_manyHold_156 f106 M110.ob rfl ?_
            refine jr_bipush (v := (40 : Int32)) hE dX12_manyHold_159 (by decide) ?_
            refine jr_iload_n hE dX12_manyHold_161 0 rfl ?_
            refine jr_imul (z := nI (40 * i)) hE dX12_manyHold_162 (pk_mul 40 i) ?_
            refine jr_aload_n hE dX12_manyHold_163 1 rfl ?_
            refine jr_get hE dX12_manyHold_164 f109 M110.ob rfl ?_
            refine jr_iload_n hE dX12_manyHold_167 0 rfl ?_
            refine jr_iald (v := nI (enG s.2.1 i).2.1.length) hE dX12_manyHold_168 (M110.I (k := 13) (N := 4) (by decide)) (vp_in_nI (by omega) (by decide)) (by rw [nI_clamp (by omega)]; exact (congrFun (hwf 13 (by decide)) i).trans y2) ?_
            have hN111 : n110 71 = some (bnum ((enG s.2.1 i).2.2.1.take 32)) := ((hf110 71 (by decide)).trans (hf107 71 (by decide))).trans hv103
            have hN112 : n110 63 = some (bnum ((enG s.2.1 i).1)) := ((hf110 63 (by decide)).trans ((hf107 63 (by decide)).trans (hf103 63 (by decide)))).trans hv99
            have hC113 : bl (w2 12) (40 * i) ((enG s.2.1 i).2.1.length) = (enG s.2.1 i).2.1 := by
              rw [show w2 12 = w 12 from (hwf 12 (by decide))]
              exact y4
            have hK114 : mK n110 g := hK.fr ((hf110 0 (by decide)).trans ((hf107 0 (by decide)).trans ((hf103 0 (by decide)).trans ((hf99 0 (by decide)).trans ((hnf 0 (by decide)).trans ((hf19 0 (by decide)).trans ((hf16 0 (by decide)).trans (hf4 0 (by decide))))))))) ((hf110 1 (by decide)).trans ((hf107 1 (by decide)).trans ((hf103 1 (by decide)).trans ((hf99 1 (by decide)).trans ((hnf 1 (by decide)).trans ((hf19 1 (by decide)).trans ((hf16 1 (by decide)).trans (hf4 1 (by decide))))))))) ((hf110 32 (by decide)).trans ((hf107 32 (by decide)).trans ((hf103 32 (by decide)).trans ((hf99 32 (by decide)).trans ((hnf 32 (by decide)).trans ((hf19 32 (by decide)).trans ((hf16 32 (by decide)).trans (hf4 32 (by decide))))))))) ((hf110 33 (by decide)).trans ((hf107 33 (by decide)).trans ((hf103 33 (by decide)).trans ((hf99 33 (by decide)).trans ((hnf 33 (by decide)).trans ((hf19 33 (by decide)).trans ((hf16 33 (by decide)).trans (hf4 33 (by decide)))))))))
            have hT115 : tgOK w2 := htg.fr (hwf 50 (by decide)) (hwf 51 (by decide))
            have hD116 : rdOK w2 := hrd.fr (hwf 52 (by decide))
            refine jr_kVv (ci := 12) (n := 6) (As := [.ref (a 66), .ref (a 71), .ref (a 63), .ref (a 12), .int (nI (40 * i)), .int (nI (enG s.2.1 i).2.1.length)]) (rest := []) hE dX12_manyHold_169 (fun l => c_m_challenge l G o a v2 n110 g w2 66 71 63 12 (40 * i) ((enG s.2.1 i).2.1.length) 160 (bnum ((enG s.2.1 i).2.2.1.take 32)) (bnum ((enG s.2.1 i).1))) gX12_manyHold_X12_challenge rfl M110.ob rfl (by decide +kernel) ⟨rfl, rfl, by decide, by decide⟩ (by decide) rfl rfl (Nat.le_of_ble_eq_true rfl) (⟨M110, hK114, hT115, hD116, by decide, by decide, by decide, hN111, hN112, by decide, by decide, by omega, by decide, by omega, bB_of hC113 y10⟩) (fun F117 q118 => ?_)
            obtain ⟨v119, w119, M119, hvv119, hw119, P119⟩ := q118
            rw [hC113] at M119
            have O119 := O110.tr P119
            rw [← chS_eq] at M119
            obtain ⟨n119, e119, hf119, hv119⟩ := uz_ab n110 66 (some (chS (bnum ((enG s.2.1 i).2.2.1.take 32)) (bnum ((enG s.2.1 i).1)) ((enG s.2.1 i).2.1)))
            rw [e119] at M119
            refine jr_aload_n hE dX12_manyHold_172 1 rfl ?_
            refine jr_aload_n hE dX12_manyHold_173 1 rfl ?_
            refine jr_get hE dX12_manyHold_174 f335 M119.ob rfl ?_
            refine jr_aload_n hE dX12_manyHold_177 1 rfl ?_
            refine jr_get hE dX12_manyHold_178 f335 M119.ob rfl ?_
            refine jr_aload_n hE dX12_manyHold_181 1 rfl ?_
            refine jr_get hE dX12_manyHold_182 f341 M119.ob rfl ?_
            refine jr_iconst (v := (1 : Int32)) hE dX12_manyHold_185 (by decide) ?_
            have hN120 : n119 72 = some (bnum ((enG s.2.1 i).2.2.1.drop 32)) := ((hf119 72 (by decide)).trans (hf110 72 (by decide))).trans hv107
            have hN121 : n119 74 = some ((enG s.2.1 i).2.2.2) := (hf119 74 (by decide)).trans hv110
            have hK122 : mK n119 g := hK114.fr (hf119 0 (by decide)) (hf119 1 (by decide)) (hf119 32 (by decide)) (hf119 33 (by decide))
            refine jr_kVv (ci := 12) (n := 4) (As := [.ref (a 72), .ref (a 72), .ref (a 74), .int (1 : Int32)]) (rest := []) hE dX12_manyHold_186 (fun l => c_m_times l G o a v119 n119 g w119 72 72 74 (bnum ((enG s.2.1 i).2.2.1.drop 32)) ((enG s.2.1 i).2.2.2) true) gX12_manyHold_X12_times rfl M119.ob rfl (by decide +kernel) ⟨rfl, rfl, by decide, by decide⟩ (by decide) rfl rfl (Nat.le_of_ble_eq_true rfl) (⟨M119, hK122, by decide, by decide, by decide, hN120, hN121⟩) (fun F123 q124 => ?_)
            obtain ⟨M125, P125⟩ := q124
            have O125 := O119.tr P125
            have M125 : MW G L F123 o a v119 (uz n119 72 (some ((bnum ((enG s.2.1 i).2.2.1.drop 32)) * ((enG s.2.1 i).2.2.2) % NN))) g w119 := M125
            obtain ⟨n125, e125, hf125, hv125⟩ := uz_ab n119 72 (some ((bnum ((enG s.2.1 i).2.2.1.drop 32)) * ((enG s.2.1 i).2.2.2) % NN))
            rw [e125] at M125
            refine jr_aload_n hE dX12_manyHold_189 1 rfl ?_
            refine jr_aload_n hE dX12_manyHold_190 1 rfl ?_
            refine jr_get hE dX12_manyHold_191 f338 M125.ob rfl ?_
            refine jr_aload_n hE dX12_manyHold_194 1 rfl ?_
            refine jr_get hE dX12_manyHold_195 f338 M125.ob rfl ?_
            refine jr_aload_n hE dX12_manyHold_198 1 rfl ?_
            refine jr_get hE dX12_manyHold_199 f335 M125.ob rfl ?_
            refine jr_iconst (v := (1 : Int32)) hE dX12_manyHold_202 (by decide) ?_
            have hN126 : n125 73 = some (mhA s.2.1 i) := ((hf125 73 (by decide)).trans ((hf119 73 (by decide)).trans ((hf110 73 (by decide)).trans ((hf107 73 (by decide)).trans ((hf103 73 (by decide)).trans (hf99 73 (by decide))))))).trans h73
            have hK127 : mK n125 g := hK122.fr (hf125 0 (by decide)) (hf125 1 (by decide)) (hf125 32 (by decide)) (hf125 33 (by decide))
            refine jr_kVv (ci := 12) (n := 4) (As := [.ref (a 73), .ref (a 73), .ref (a 72), .int (1 : Int32)]) (rest := []) hE dX12_manyHold_203 (fun l => c_m_add l G o a v119 n125 g w119 73 73 72 (mhA s.2.1 i) ((bnum ((enG s.2.1 i).2.2.1.drop 32)) * ((enG s.2.1 i).2.2.2) % NN) true) gX12_manyHold_X12_add rfl M125.ob rfl (by decide +kernel) ⟨rfl, rfl, by decide, by decide⟩ (by decide) rfl rfl (Nat.le_of_ble_eq_true rfl) (⟨M125, hK127, by decide, by decide, by decide, hN126, hv125⟩) (fun F128 q129 => ?_)
            obtain ⟨M130, P130⟩ := q129
            have O130 := O125.tr P130
            have M130 : MW G L F128 o a v119 (uz n125 73 (some (((mhA s.2.1 i) + (bnum ((enG s.2.1 i).2.2.1.drop 32)) * ((enG s.2.1 i).2.2.2) % NN) % NN))) g w119 := M130
            obtain ⟨n130, e130, hf130, hv130⟩ := uz_ab n125 73 (some (((mhA s.2.1 i) + (bnum ((enG s.2.1 i).2.2.1.drop 32)) * ((enG s.2.1 i).2.2.2) % NN) % NN))
            rw [e130] at M130
            refine jr_aload_n hE dX12_manyHold_206 1 rfl ?_
            refine jr_aload_n hE dX12_manyHold_207 1 rfl ?_
            refine jr_get hE dX12_manyHold_208 f332 M130.ob rfl ?_
            have hN131 : n130 71 = some (bnum ((enG s.2.1 i).2.2.1.take 32)) := ((hf130 71 (by decide)).trans ((hf125 71 (by decide)).trans (hf119 71 (by decide)))).trans hN111
            have hK132 : mK n130 g := hK127.fr (hf130 0 (by decide)) (hf130 1 (by decide)) (hf130 32 (by decide)) (hf130 33 (by decide))
            have hC133 : mC n130 := hC.fr ((hf130 4 (by decide)).trans ((hf125 4 (by decide)).trans ((hf119 4 (by decide)).trans ((hf110 4 (by decide)).trans ((hf107 4 (by decide)).trans ((hf103 4 (by decide)).trans ((hf99 4 (by decide)).trans ((hnf 4 (by decide)).trans ((hf19 4 (by decide)).trans ((hf16 4 (by decide)).trans (hf4 4 (by decide)))))))))))) ((hf130 5 (by decide)).trans ((hf125 5 (by decide)).trans ((hf119 5 (by decide)).trans ((hf110 5 (by decide)).trans ((hf107 5 (by decide)).trans ((hf103 5 (by decide)).trans ((hf99 5 (by decide)).trans ((hnf 5 (by decide)).trans ((hf19 5 (by decide)).trans ((hf16 5 (by decide)).trans (hf4 5 (by decide)))))))))))) ((hf130 6 (by decide)).trans ((hf125 6 (by decide)).trans ((hf119 6 (by decide)).trans ((hf110 6 (by decide)).trans ((hf107 6 (by decide)).trans ((hf103 6 (by decide)).trans ((hf99 6 (by decide)).trans ((hnf 6 (by decide)).trans ((hf19 6 (by decide)).trans ((hf16 6 (by decide)).trans (hf4 6 (by decide)))))))))))) ((hf130 7 (by decide)).trans ((hf125 7 (by decide)).trans ((hf119 7 (by decide)).trans ((hf110 7 (by decide)).trans ((hf107 7 (by decide)).trans ((hf103 7 (by decide)).trans ((hf99 7 (by decide)).trans ((hnf 7 (by decide)).trans ((hf19 7 (by decide)).trans ((hf16 7 (by decide)).trans (hf4 7 (by decide)))))))))))) ((hf130 48 (by decide)).trans ((hf125 48 (by decide)).trans ((hf119 48 (by decide)).trans ((hf110 48 (by decide)).trans ((hf107 48 (by decide)).trans ((hf103 48 (by decide)).trans ((hf99 48 (by decide)).trans ((hnf 48 (by decide)).trans ((hf19 48 (by decide)).trans ((hf16 48 (by decide)).trans (hf4 48 (by decide))))))))))))
            refine jr_kVi (ci := 12) (n := 1) (As := [.ref (a 71)]) (rest := []) hE dX12_manyHold_211 (fun l => c_m_lift l G o a v119 n130 g w119 71 (bnum ((enG s.2.1 i).2.2.1.take 32))) gX12_manyHold_X12_lift rfl M130.ob rfl (by decide +kernel) ⟨rfl, rfl, by decide, by decide⟩ (by decide) rfl rfl (Nat.le_of_ble_eq_true rfl) (⟨M130, hK132, hC133, by decide, by decide, hN131⟩) (fun r136 F134 q135 => ?_)
            obtain ⟨n137, M137, hf137, hq137, rfl, P137⟩ := q135
            have O137 := O130.tr P137
            refine jr_istore_n (lv' := [(2, .int (b2i (isX (bnum ((enG s.2.1 i).2.2.1.take 32))))), (1, .int (nI i)), (0, .ref o)]) hE dX12_manyHold_214 (by decide) rfl ?_
            refine jr_aload_n hE dX12_manyHold_215 2 rfl ?_
            refine jr_aload_n hE dX12_manyHold_216 2 rfl ?_
            refine jr_get hE dX12_manyHold_217 f341 M137.ob rfl ?_
            have hN138 : n137 74 = some ((enG s.2.1 i).2.2.2) := ((hf137 74 (by decide)).trans ((hf130 74 (by decide)).trans (hf125 74 (by decide)))).trans hN121
            have hK139 : mK n137 g := hK132.fr (hf137 0 (by decide)) (hf137 1 (by decide)) (hf137 32 (by decide)) (hf137 33 (by decide))
            have hC140 : mC n137 := hC133.fr (hf137 4 (by decide)) (hf137 5 (by decide)) (hf137 6 (by decide)) (hf137 7 (by decide)) (hf137 48 (by decide))
            refine jr_kVv (ci := 12) (n := 1) (As := [.ref (a 74)]) (rest := []) hE dX12_manyHold_220 (fun l => c_m_multiply l G o a v119 n137 g w119 74 ((enG s.2.1 i).2.2.2) (lfE (bnum ((enG s.2.1 i).2.2.1.take 32)))) gX12_manyHold_X12_multiply rfl M137.ob rfl (by decide +kernel) ⟨rfl, rfl, by decide, by decide⟩ (by decide) rfl rfl (Nat.le_of_ble_eq_true rfl) (⟨M137, hK139, hC140.1, by decide, by decide, hN138, (hq137 hwl.2.1)⟩) (fun F141 q142 => ?_)
            obtain ⟨n143, M143, hf143, hp143, P143⟩ := q142
            have O143 := O137.tr P143
            refine jr_aload_n hE dX12_manyHold_223 2 rfl ?_
            have hP144 : sS n143 (mhS s.2.1 i) := hsm.fr ((hf143 68 (by decide)).trans ((hf137 68 (by decide)).trans ((hf130 68 (by decide)).trans ((hf125 68 (by decide)).trans ((hf119 68 (by decide)).trans ((hf110 68 (by decide)).trans ((hf107 68 (by decide)).trans ((hf103 68 (by decide)).trans (hf99 68 (by decide)))))))))) ((hf143 69 (by decide)).trans ((hf137 69 (by decide)).trans ((hf130 69 (by decide)).trans ((hf125 69 (by decide)).trans ((hf119 69 (by decide)).trans ((hf110 69 (by decide)).trans ((hf107 69 (by decide)).trans ((hf103 69 (by decide)).trans (hf99 69 (by decide)))))))))) ((hf143 70 (by decide)).trans ((hf137 70 (by decide)).trans ((hf130 70 (by decide)).trans ((hf125 70 (by decide)).trans ((hf119 70 (by decide)).trans ((hf110 70 (by decide)).trans ((hf107 70 (by decide)).trans ((hf103 70 (by decide)).trans (hf99 70 (by decide))))))))))
            have hK145 : mK n143 g := hK139.fr (hf143 0 (by decide)) (hf143 1 (by decide)) (hf143 32 (by decide)) (hf143 33 (by decide))
            have hC146 : mC n143 := hC140.fr (hf143 4 (by decide)) (hf143 5 (by decide)) (hf143 6 (by decide)) (hf143 7 (by decide)) (hf143 48 (by decide))
            have hon146 : onE PP (emul PP ((enG s.2.1 i).2.2.2) (lfE (bnum ((enG s.2.1 i).2.2.1.take 32)))) := (onE_mul gdP (hq137 hwl.2.1).on _)
            have hon147 : onE PP (mhS s.2.1 i) := hon
            refine jr_kVv (ci := 12) (n := 0) (As := []) (rest := []) hE dX12_manyHold_224 (fun l => c_m_addToSum l G o a v119 n143 g w119 (mhS s.2.1 i) (emul PP ((enG s.2.1 i).2.2.2) (lfE (bnum ((enG s.2.1 i).2.2.1.take 32))))) gX12_manyHold_X12_addToSum rfl M143.ob rfl (by decide +kernel) ⟨rfl, rfl, by decide, by decide⟩ (by decide) rfl rfl (Nat.le_of_ble_eq_true rfl) (⟨M143, hK145, hC146.1, hp143, hon146, hP144, hon147⟩) (fun F149 q150 => ?_)
            obtain ⟨n151, M151, hf151, hs151, P151⟩ := q150
            have O151 := O143.tr P151
            have hon151 : onE PP (eadd PP (mhS s.2.1 i) (emul PP ((enG s.2.1 i).2.2.2) (lfE (bnum ((enG s.2.1 i).2.2.1.take 32))))) := onE_add gdP hon147 hon146
            refine jr_aload_n hE dX12_manyHold_227 2 rfl ?_
            refine jr_aload_n hE dX12_manyHold_228 2 rfl ?_
            refine jr_get hE dX12_manyHold_229 f317 M151.ob rfl ?_
            refine jr_aload_n hE dX12_manyHold_232 2 rfl ?_
            refine jr_get hE dX12_manyHold_233 f317 M151.ob rfl ?_
            refine jr_aload_n hE dX12_manyHold_236 2 rfl ?_
            refine jr_get hE dX12_manyHold_237 f341 M151.ob rfl ?_
            refine jr_iconst (v := (1 : Int32)) hE dX12_manyHold_240 (by decide) ?_
            have hN152 : n151 66 = some (chS (bnum ((enG s.2.1 i).2.2.1.take 32)) (bnum ((enG s.2.1 i).1)) ((enG s.2.1 i).2.1)) := ((hf151 66 (by decide)).trans ((hf143 66 (by decide)).trans ((hf137 66 (by decide)).trans ((hf130 66 (by decide)).trans (hf125 66 (by decide)))))).trans hv119
            have hN153 : n151 74 = some ((enG s.2.1 i).2.2.2) := ((hf151 74 (by decide)).trans (hf143 74 (by decide))).trans hN138
            have hK154 : mK n151 g := hK145.fr (hf151 0 (by decide)) (hf151 1 (by decide)) (hf151 32 (by decide)) (hf151 33 (by decide))
            refine jr_kVv (ci := 12) (n := 4) (As := [.ref (a 66), .ref (a 66), .ref (a 74), .int (1 : Int32)]) (rest := []) hE dX12_manyHold_241 (fun l => c_m_times l G o a v119 n151 g w119 66 66 74 (chS (bnum ((enG s.2.1 i).2.2.1.take 32)) (bnum ((enG s.2.1 i).1)) ((enG s.2.1 i).2.1)) ((enG s.2.1 i).2.2.2) true) gX12_manyHold_X12_times rfl M151.ob rfl (by decide +kernel) ⟨rfl, rfl, by decide, by decide⟩ (by decide) rfl rfl (Nat.le_of_ble_eq_true rfl) (⟨M151, hK154, by decide, by decide, by decide, hN152, hN153⟩) (fun F155 q156 => ?_)
            obtain ⟨M157, P157⟩ := q156
            have O157 := O151.tr P157
            have M157 : MW G L F155 o a v119 (uz n151 66 (some ((chS (bnum ((enG s.2.1 i).2.2.1.take 32)) (bnum ((enG s.2.1 i).1)) ((enG s.2.1 i).2.1)) * ((enG s.2.1 i).2.2.2) % NN))) g w119 := M157
            obtain ⟨n157, e157, hf157, hv157⟩ := uz_ab n151 66 (some ((chS (bnum ((enG s.2.1 i).2.2.1.take 32)) (bnum ((enG s.2.1 i).1)) ((enG s.2.1 i).2.1)) * ((enG s.2.1 i).2.2.2) % NN))
            rw [e157] at M157
            refine jr_aload_n hE dX12_manyHold_244 2 rfl ?_
            refine jr_aload_n hE dX12_manyHold_245 2 rfl ?_
            refine jr_get hE dX12_manyHold_246 f308 M157.ob rfl ?_
            have hN158 : n157 63 = some (bnum ((enG s.2.1 i).1)) := ((hf157 63 (by decide)).trans ((hf151 63 (by decide)).trans ((hf143 63 (by decide)).trans ((hf137 63 (by decide)).trans ((hf130 63 (by decide)).trans ((hf125 63 (by decide)).trans (hf119 63 (by decide)))))))).trans hN112
            have hK159 : mK n157 g := hK154.fr (hf157 0 (by decide)) (hf157 1 (by decide)) (hf157 32 (by decide)) (hf157 33 (by decide))
            have hC160 : mC n157 := hC146.fr ((hf157 4 (by decide)).trans (hf151 4 (by decide))) ((hf157 5 (by decide)).trans (hf151 5 (by decide))) ((hf157 6 (by decide)).trans (hf151 6 (by decide))) ((hf157 7 (by decide)).trans (hf151 7 (by decide))) ((hf157 48 (by decide)).trans (hf151 48 (by decide)))
            refine jr_kVi (ci := 12) (n := 1) (As := [.ref (a 63)]) (rest := []) hE dX12_manyHold_249 (fun l => c_m_lift l G o a v119 n157 g w119 63 (bnum ((enG s.2.1 i).1))) gX12_manyHold_X12_lift rfl M157.ob rfl (by decide +kernel) ⟨rfl, rfl, by decide, by decide⟩ (by decide) rfl rfl (Nat.le_of_ble_eq_true rfl) (⟨M157, hK159, hC160, by decide, by decide, hN158⟩) (fun r163 F161 q162 => ?_)
            obtain ⟨n164, M164, hf164, hq164, rfl, P164⟩ := q162
            have O164 := O157.tr P164
            refine jr_istore_n (lv' := [(2, .int (b2i (isX (bnum ((enG s.2.1 i).1))))), (1, .int (nI i)), (0, .ref o)]) hE dX12_manyHold_252 (by decide) rfl ?_
            refine jr_aload_n hE dX12_manyHold_253 2 rfl ?_
            refine jr_aload_n hE dX12_manyHold_254 2 rfl ?_
            refine jr_get hE dX12_manyHold_255 f317 M164.ob rfl ?_
            have hN165 : n164 66 = some ((chS (bnum ((enG s.2.1 i).2.2.1.take 32)) (bnum ((enG s.2.1 i).1)) ((enG s.2.1 i).2.1)) * ((enG s.2.1 i).2.2.2) % NN) := (hf164 66 (by decide)).trans hv157
            have hK166 : mK n164 g := hK159.fr (hf164 0 (by decide)) (hf164 1 (by decide)) (hf164 32 (by decide)) (hf164 33 (by decide))
            have hC167 : mC n164 := hC160.fr (hf164 4 (by decide)) (hf164 5 (by decide)) (hf164 6 (by decide)) (hf164 7 (by decide)) (hf164 48 (by decide))
            refine jr_kVv (ci := 12) (n := 1) (As := [.ref (a 66)]) (rest := []) hE dX12_manyHold_258 (fun l => c_m_multiply l G o a v119 n164 g w119 66 ((chS (bnum ((enG s.2.1 i).2.2.1.take 32)) (bnum ((enG s.2.1 i).1)) ((enG s.2.1 i).2.1)) * ((enG s.2.1 i).2.2.2) % NN) (lfE (bnum ((enG s.2.1 i).1)))) gX12_manyHold_X12_multiply rfl M164.ob rfl (by decide +kernel) ⟨rfl, rfl, by decide, by decide⟩ (by decide) rfl rfl (Nat.le_of_ble_eq_true rfl) (⟨M164, hK166, hC167.1, by decide, by decide, hN165, (hq164 hwl.1)⟩) (fun F168 q169 => ?_)
            obtain ⟨n170, M170, hf170, hp170, P170⟩ := q169
            have O170 := O164.tr P170
            refine jr_aload_n hE dX12_manyHold_261 2 rfl ?_
            have hP171 : sS n170 (eadd PP (mhS s.2.1 i) (emul PP ((enG s.2.1 i).2.2.2) (lfE (bnum ((enG s.2.1 i).2.2.1.take 32))))) := hs151.fr ((hf170 68 (by decide)).trans ((hf164 68 (by decide)).trans (hf157 68 (by decide)))) ((hf170 69 (by decide)).trans ((hf164 69 (by decide)).trans (hf157 69 (by decide)))) ((hf170 70 (by decide)).trans ((hf164 70 (by decide)).trans (hf157 70 (by decide))))
            have hK172 : mK n170 g := hK166.fr (hf170 0 (by decide)) (hf170 1 (by decide)) (hf170 32 (by decide)) (hf170 33 (by decide))
            have hC173 : mC n170 := hC167.fr (hf170 4 (by decide)) (hf170 5 (by decide)) (hf170 6 (by decide)) (hf170 7 (by decide)) (hf170 48 (by decide))
            have hon173 : onE PP (emul PP ((chS (bnum ((enG s.2.1 i).2.2.1.take 32)) (bnum ((enG s.2.1 i).1)) ((enG s.2.1 i).2.1)) * ((enG s.2.1 i).2.2.2) % NN) (lfE (bnum ((enG s.2.1 i).1)))) := (onE_mul gdP (hq164 hwl.1).on _)
            have hon174 : onE PP (eadd PP (mhS s.2.1 i) (emul PP ((enG s.2.1 i).2.2.2) (lfE (bnum ((enG s.2.1 i).2.2.1.take 32))))) := hon151
            refine jr_kVv (ci := 12) (n := 0) (As := []) (rest := []) hE dX12_manyHold_262 (fun l => c_m_addToSum l G o a v119 n170 g w119 (eadd PP (mhS s.2.1 i) (emul PP ((enG s.2.1 i).2.2.2) (lfE (bnum ((enG s.2.1 i).2.2.1.take 32))))) (emul PP ((chS (bnum ((enG s.2.1 i).2.2.1.take 32)) (bnum ((enG s.2.1 i).1)) ((enG s.2.1 i).2.1)) * ((enG s.2.1 i).2.2.2) % NN) (lfE (bnum ((enG s.2.1 i).1))))) gX12_manyHold_X12_addToSum rfl M170.ob rfl (by decide +kernel) ⟨rfl, rfl, by decide, by decide⟩ (by decide) rfl rfl (Nat.le_of_ble_eq_true rfl) (⟨M170, hK172, hC173.1, hp170, hon173, hP171, hon174⟩) (fun F176 q177 => ?_)
            obtain ⟨n178, M178, hf178, hs178, P178⟩ := q177
            have O178 := O170.tr P178
            have hon178 : onE PP (eadd PP (eadd PP (mhS s.2.1 i) (emul PP ((enG s.2.1 i).2.2.2) (lfE (bnum ((enG s.2.1 i).2.2.1.take 32))))) (emul PP ((chS (bnum ((enG s.2.1 i).2.2.1.take 32)) (bnum ((enG s.2.1 i).1)) ((enG s.2.1 i).2.1)) * ((enG s.2.1 i).2.2.2) % NN) (lfE (bnum ((enG s.2.1 i).1))))) := onE_add gdP hon174 hon173
            refine jr_iinc (v := nI (i + 1)) (lv' := [(1, .int (nI (i + 1))), (2, .int (b2i (isX (bnum ((enG s.2.1 i).1))))), (0, .ref o)]) hE dX12_manyHold_265 1 rfl (nI_1 _) (by decide) rfl ?_
            refine jr_goto (tgt := 73) hE dX12_manyHold_268 (by decide) ?_
            have hN179 : n178 73 = some (((mhA s.2.1 i) + (bnum ((enG s.2.1 i).2.2.1.drop 32)) * ((enG s.2.1 i).2.2.2) % NN) % NN) := ((hf178 73 (by decide)).trans ((hf170 73 (by decide)).trans ((hf164 73 (by decide)).trans ((hf157 73 (by decide)).trans ((hf151 73 (by decide)).trans ((hf143 73 (by decide)).trans (hf137 73 (by decide)))))))).trans hv130
            refine jr_lv (lv' := [(1, .int (nI (i + 1))), (0, .ref o)]) [0, 2] rfl ?_
            exact ih (i + 1) F176 n178 v119 w119 (by omega) M178 (fun z hz => ((hf178 z (jnsub (V := [40, 41, 37, 38, 39, 42, 43, 44, 45, 46, 47, 34, 35, 36, 68, 69, 70]) hz [6, 7, 3, 4, 5, 8, 9, 10, 11, 12, 13, 0, 1, 2, 16, 17, 18] rfl)).trans ((hf170 z (jnsub (V := [37, 38, 39, 42, 43, 44, 45, 46, 47, 34, 35, 36]) hz [3, 4, 5, 8, 9, 10, 11, 12, 13, 0, 1, 2] rfl)).trans ((hf164 z (jnsub (V := [40, 41, 42, 43, 35, 36]) hz [6, 7, 8, 9, 1, 2] rfl)).trans ((hf157 z (jnsub (V := [66]) hz [15] rfl)).trans ((hf151 z (jnsub (V := [40, 41, 37, 38, 39, 42, 43, 44, 45, 46, 47, 34, 35, 36, 68, 69, 70]) hz [6, 7, 3, 4, 5, 8, 9, 10, 11, 12, 13, 0, 1, 2, 16, 17, 18] rfl)).trans ((hf143 z (jnsub (V := [37, 38, 39, 42, 43, 44, 45, 46, 47, 34, 35, 36]) hz [3, 4, 5, 8, 9, 10, 11, 12, 13, 0, 1, 2] rfl)).trans ((hf137 z (jnsub (V := [40, 41, 42, 43, 35, 36]) hz [6, 7, 8, 9, 1, 2] rfl)).trans ((hf130 z (jnsub (V := [73]) hz [21] rfl)).trans ((hf125 z (jnsub (V := [72]) hz [20] rfl)).trans ((hf119 z (jnsub (V := [66]) hz [15] rfl)).trans ((hf110 z (jnsub (V := [74]) hz [22] rfl)).trans ((hf107 z (jnsub (V := [72]) hz [20] rfl)).trans ((hf103 z (jnsub (V := [71]) hz [19] rfl)).trans ((hf99 z (jnsub (V := [63]) hz [14] rfl)).trans (hnf z (jnsub (V := [34, 35, 36, 37, 38, 39, 40, 41, 42, 43, 44, 45, 46, 47, 63, 66, 68, 69, 70, 71, 72, 73, 74]) hz [0, 1, 2, 3, 4, 5, 6, 7, 8, 9, 10, 11, 12, 13, 14, 15, 16, 17, 18, 19, 20, 21, 22] rfl))))))))))))))))) (fun z hz => ((hvv119 z hz).trans (hvf z hz))) (fun z hz => ((hw119 z (jnsub (V := [53, 54, 55, 56, 58, 59]) hz [0, 1, 2, 3, 4, 5] rfl)).trans (hwf z (jnsub (V := [53, 54, 55, 56, 58, 59]) hz [0, 1, 2, 3, 4, 5] rfl)))) hN179 hs178 hon178 O178
        have hP180 : sS n19 none := hs16.fr (hf19 68 (by decide)) (hf19 69 (by decide)) (hf19 70 (by decide))
        exact loop s.2.1.length 0 F17 n19 v13 w (by omega) M19 (fun z hz => rfl) (fun z hz => rfl) (fun z hz => rfl) hv19 hP180 trivial O19
      · refine jr_bipush (v := (-5 : Int32)) hE dX12_manyHold_39 (by decide) ?_
        have hvF : ∀ z, z ∉ [999] → v z = v z := (fun z hz => rfl)
        have hnF : ∀ z, z ∉ [35, 36, 40, 41, 42, 43, 63, 71, 72] → n4 z = n z := (fun z hz => (hf4 z (jnsub (V := [40, 41, 42, 43, 35, 36, 63, 71, 72]) hz [2, 3, 4, 5, 0, 1, 6, 7, 8] rfl)))
        have hwF : ∀ z, z ∉ [999] → w z = w z := (fun z hz => rfl)
        have e : stMany s = (-5, s) := by
          unfold stMany
          rw [if_neg hz0, if_pos hwell, if_pos (b2i_1 (p := 48 < s.2.2.1 + (1 + (2 * s.2.1.length))) c36)]
        exact hR F1 _ _ _ dX12_manyHold_41 rfl ⟨_, _, _, _, by rw [e]; exact hI.keep (c := s.2.2.1) M4 hpI.2.1.1 (hpI.2.1.2) (fun z hz => hvF z (jdj rfl hz)) (fun z hz => hnF z (jdj rfl hz)) (fun z hz => hwF z (jdj rfl hz)), by rw [e], O4⟩
    · refine jr_aload_n hE dX12_manyHold_17 0 rfl ?_
      refine jr_iconst (v := (0 : Int32)) hE dX12_manyHold_18 (by decide) ?_
      refine jr_put (ty := .int) hE dX12_manyHold_19 f520 M4.ob rfl (by decide +kernel) rfl rfl (Nat.le_of_ble_eq_true rfl) (fun F182 g183 u184 => ?_)
      have H185 := M4.setV (v' := uz v 10 (0 : Int32)) g183 u184
      have O186 := O4.so u184
      obtain ⟨v187, e187, hvv187, hvx187⟩ := uz_ab v 10 (0 : Int32)
      rw [e187] at H185
      refine jr_iconst (v := (0 : Int32)) hE dX12_manyHold_22 (by decide) ?_
      have hV188 : v187 31 = (nI s.2.2.1) := (hvv187 31 (by decide)).trans hpI.2.1.1
      have hvF : ∀ z, z ∉ [10] → v187 z = v z := (fun z hz => (hvv187 z (jnsub (V := [10]) hz [0] rfl)))
      have hnF : ∀ z, z ∉ [35, 36, 40, 41, 42, 43, 63, 71, 72] → n4 z = n z := (fun z hz => (hf4 z (jnsub (V := [40, 41, 42, 43, 35, 36, 63, 71, 72]) hz [2, 3, 4, 5, 0, 1, 6, 7, 8] rfl)))
      have hwF : ∀ z, z ∉ [999] → w z = w z := (fun z hz => rfl)
      have e : stMany s = (0, clrE s) := by
        unfold stMany
        rw [if_neg hz0, if_neg (fun h => absurd (b2i_t h) (by rw [c14]; decide))]
      exact hR F182 _ _ _ dX12_manyHold_23 rfl ⟨_, _, _, _, by rw [e]; exact hI.many (c := s.2.2.1) H185 hV188 (hpI.2.1.2) hvx187 (fun z hz => hvF z (jdj rfl hz)) (fun z hz => hnF z (jdj rfl hz)) (fun z hz => hwF z (jdj rfl hz)), by rw [e], O186⟩
  · refine jr_bipush (v := (-2 : Int32)) hE dX12_manyHold_7 (by decide) ?_
    have e : stMany s = (-2, s) := by
      unfold stMany
      rw [if_pos ((nI_eq (by omega) (by decide)).mp c4)]
    exact hR F _ _ _ dX12_manyHold_9 rfl ⟨v, n, g, w, by rw [e]; exact hI, by rw [e], mO.rf o a F⟩

