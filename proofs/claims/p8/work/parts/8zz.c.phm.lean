/-! THE REFERENCE'S partHolds -/
theorem ex_ey {A B : EP} (hA : A ≠ none) (hB : B ≠ none) (h1 : exE A = exE B) (h2 : eyN A = eyN B) : A = B := by
  obtain ⟨x, rfl⟩ := Option.ne_none_iff_exists'.mp hA
  obtain ⟨y, rfl⟩ := Option.ne_none_iff_exists'.mp hB
  exact congrArg some (Prod.ext h1 h2)
noncomputable def tdE0 (l : List Nat) : EP := rdE (l.getD 0 0) (bnum ((l.take 33).drop 1))
noncomputable def tdE1 (l : List Nat) : EP := rdE (l.getD 33 0) (bnum (l.drop 34))
theorem td_pts {w : Nat → Nat → Int32} {Td : Nat → Option (List Nat)} {m j : Nat} {l : List Nat} (h : tdI w Td m) (hj : j < 4) (e : Td j = some l) : bl (w 23) (66 * j) 66 = l ∧ bB (w 23) (66 * j) 66 ∧ rdX (l.getD 0 0) (bnum ((l.take 33).drop 1)) ∧ rdX (l.getD 33 0) (bnum (l.drop 34)) := by
  have q := (h j hj).2
  rw [e] at q
  obtain ⟨_, b2, b3, b4, b5⟩ := q
  have r := td_of b2
  refine ⟨b2, b3, ?_, ?_⟩
  · unfold fT vT at b4
    rw [Nat.mul_zero, Nat.add_zero] at b4
    rwa [r.1, r.2.1] at b4
  · unfold fT vT at b5
    rw [Nat.mul_one] at b5
    rwa [r.2.2.1, r.2.2.2] at b5
noncomputable def ngE (q : Bool) (A : EP) : EP := if q = true then eneg PP A else A
theorem ngE_f {q : Bool} {A : EP} (h : q = false) : ngE q A = A := by rw [h]; rfl
theorem ngE_t {q : Bool} {A : EP} (h : q = true) : ngE q A = eneg PP A := if_pos h
theorem onE_ng {q : Bool} {A : EP} (h : onE PP A) : onE PP (ngE q A) := by
  unfold ngE
  split
  · exact onE_neg gdP h
  · exact h
theorem sS_ng {n n1 : Nat → Option Nat} {A : EP} (h : sS n A) (hA : A ≠ none) (h68 : n1 68 = n 68) (h69 : n1 69 = some (fk (-1) (eyN A))) (h70 : n1 70 = n 70) : sS n1 (eneg PP A) := by
  obtain ⟨x, rfl⟩ := Option.ne_none_iff_exists'.mp hA
  obtain ⟨a1, a2, a3, a4, a5⟩ := h.xy hA
  refine Or.inr ⟨x.1, fk (-1) x.2, ?_, a4, fk_lt _ _, h68.trans a1, h69, h70.trans a3⟩
  exact ep_neg a4
noncomputable def tdL (s : ST) (u : Nat) : List Nat := (s.2.2.2.2.2.1 u).getD []
noncomputable def phR (s : ST) (t : SSe) (u : Nat) : EP := eadd PP (ngE t.2.2.2.2 (eadd PP (emul PP t.2.1 (tdE1 (tdL s u))) (tdE0 (tdL s u)))) (emul PP (ngN (oQ s) (t.2.2.1 * wKs s.2.2.2.1 u % NN)) (pKs (s.2.2.2.1.getD u [])))
noncomputable def stPH1 (s : ST) (t : SSe) (u b : Nat) : Int32 × ST := if (s.1 b).length = 32 then (if bnum (s.1 b) < NN then (if 48 < s.2.2.1 + 3 then (-5, s) else (b2i (emul PP (bnum (s.1 b)) GE = phR s t u), setK s (s.2.2.1 + 3))) else (0, s)) else (-2, s)
noncomputable def stPH (s : ST) (j r : Int32) : Int32 × ST := if (0 ≤ j.toInt ∧ j.toInt < s.2.2.2.1.length) ∧ rowP r then (match s.2.2.2.2.2.2 with
  | none => (-2, s)
  | some t => stPH1 s t (rn j) (rn r)) else (-1, s)
theorem stPH_n {s : ST} {r j : Int32} (h : (0 ≤ j.toInt ∧ j.toInt < s.2.2.2.1.length) ∧ rowP r) (e : s.2.2.2.2.2.2 = none) : stPH s j r = (-2, s) := by
  unfold stPH
  rw [if_pos h, e]
theorem stPH_s {s : ST} {r j : Int32} {t : SSe} (h : (0 ≤ j.toInt ∧ j.toInt < s.2.2.2.1.length) ∧ rowP r) (e : s.2.2.2.2.2.2 = some t) : stPH s j r = stPH1 s t (rn j) (rn r) := by
  unfold stPH
  rw [if_pos h, e]
theorem PP_256 : PP < 2 ^ 256 := by decide +kernel
theorem sg_lt {v : Nat → Int32} {w : Nat → Nat → Int32} {Sg : List (List Nat)} (h : sgI v w Sg) {j : Nat} (hj : j < Sg.length) : ∀ b, b ∈ Sg.getD j [] → b < 256 := fun b hb => by
  rw [← h.K hj] at hb
  exact bl_mem (bB1 h.2.2.1 (by omega)) hb

set_option maxHeartbeats 4000000 in
set_option maxRecDepth 100000 in
theorem c_m_partHolds (l : Launch) (G : Nat → ClassId) (o : Nat) (a : Nat → Nat) (v : Nat → Int32) (n : Nat → Option Nat) (g : Nat → Nat → Int64) (w : Nat → Nat → Int32) (s : ST) (j r : Int32) : jKi l yX12_partHolds wsX12_partHolds ({ frames := 7, cells := 0, slots := 0, locals := 172 }) G [.ref o, .int j, .int r] (fun L F => mI G L F o a v n g w s) (fun L F q F1 => ∃ v' n' g' w', mI G L F1 o a v' n' g' w' (stPH s j r).2 ∧ q = (stPH s j r).1 ∧ mO o a F F1) := by
  refine jm_ki (cc := cX12_partHolds) (maxL := 5) (rt := .int) (by decide) rfl (Nat.le_of_ble_eq_true rfl) ?_
  intro E L F hE hR hpre
  have hE : jOk E G _ cX12_partHolds 5 RX12 wsX12_partHolds := hE

  have f529 : jFl RX12 wsX12_partHolds 529 12 24 := ⟨rfl, by decide, by decide +kernel, by decide +kernel⟩
  have f96 : jFl RX12 wsX12_partHolds 96 12 8 := ⟨rfl, by decide, by decide +kernel, by decide +kernel⟩
  have f335 : jFl RX12 wsX12_partHolds 335 12 72 := ⟨rfl, by decide, by decide +kernel, by decide +kernel⟩
  have f100 : jFl RX12 wsX12_partHolds 100 12 9 := ⟨rfl, by decide, by decide +kernel, by decide +kernel⟩
  have f27 : jFl RX12 wsX12_partHolds 27 12 1 := ⟨rfl, by decide, by decide +kernel, by decide +kernel⟩
  have f478 : jFl RX12 wsX12_partHolds 478 12 31 := ⟨rfl, by decide, by decide +kernel, by decide +kernel⟩
  have f137 : jFl RX12 wsX12_partHolds 137 12 23 := ⟨rfl, by decide, by decide +kernel, by decide +kernel⟩
  have f143 : jFl RX12 wsX12_partHolds 143 12 26 := ⟨rfl, by decide, by decide +kernel, by decide +kernel⟩
  have f167 : jFl RX12 wsX12_partHolds 167 12 37 := ⟨rfl, by decide, by decide +kernel, by decide +kernel⟩
  have f176 : jFl RX12 wsX12_partHolds 176 12 40 := ⟨rfl, by decide, by decide +kernel, by decide +kernel⟩
  have f170 : jFl RX12 wsX12_partHolds 170 12 38 := ⟨rfl, by decide, by decide +kernel, by decide +kernel⟩
  have f179 : jFl RX12 wsX12_partHolds 179 12 41 := ⟨rfl, by decide, by decide +kernel, by decide +kernel⟩
  have f173 : jFl RX12 wsX12_partHolds 173 12 39 := ⟨rfl, by decide, by decide +kernel, by decide +kernel⟩
  have f575 : jFl RX12 wsX12_partHolds 575 12 29 := ⟨rfl, by decide, by decide +kernel, by decide +kernel⟩
  have f329 : jFl RX12 wsX12_partHolds 329 12 70 := ⟨rfl, by decide, by decide +kernel, by decide +kernel⟩
  have f326 : jFl RX12 wsX12_partHolds 326 12 69 := ⟨rfl, by decide, by decide +kernel, by decide +kernel⟩
  have f15 : jFl RX12 wsX12_partHolds 15 12 0 := ⟨rfl, by decide, by decide +kernel, by decide +kernel⟩
  have f317 : jFl RX12 wsX12_partHolds 317 12 66 := ⟨rfl, by decide, by decide +kernel, by decide +kernel⟩
  have f118 : jFl RX12 wsX12_partHolds 118 12 17 := ⟨rfl, by decide, by decide +kernel, by decide +kernel⟩
  have f323 : jFl RX12 wsX12_partHolds 323 12 68 := ⟨rfl, by decide, by decide +kernel, by decide +kernel⟩
  have hI := hpre
  obtain ⟨M0, hK, hC, htg, hrd, hRW, hpI⟩ := id hpre
  have hwk48 := hpI.2.1.2
  have hs4 := hpI.2.2.1.2.1
  have hqS := hpI.2.2.1.qSe _ (Nat.le_refl _)
  have hqSon := hpI.2.2.1.on
  have hwK : ∀ u, u < s.2.2.2.1.length → wK (w 17) s.2.2.2.1.length u = wKs s.2.2.2.1 u := fun u hu => hpI.2.2.1.wKe hu
  have hse := hpI.2.2.2.2.2
  rcases hSe : s.2.2.2.2.2.2 with _ | ⟨te⟩
  · have hz0 := 0
    refine jr_aload_n hE dX12_partHolds_0 0 rfl ?_
    refine jr_iload_n hE dX12_partHolds_1 1 rfl ?_
    refine jr_kVi (ci := 12) (n := 1) (As := [.int j]) (rest := []) hE dX12_partHolds_2 (fun l => c_m_isSigner l G o a v n g w j s.2.2.2.1.length) gX12_partHolds_X12_isSigner rfl M0.ob rfl (by decide +kernel) ⟨rfl, rfl, by decide, by decide⟩ (by decide) rfl rfl (Nat.le_of_ble_eq_true rfl) (⟨M0, hpI.2.2.1.1, hpI.2.2.1.2.1⟩) (fun r3 F1 q2 => ?_)
    obtain ⟨eq2, rq2⟩ := q2
    subst eq2 rq2
    refine jr_if_eq (tgt := 15) hE dX12_partHolds_5 (by decide) (fun c5 => ?_) (fun c5 => ?_)
    · refine jr_iconst (v := (-1 : Int32)) hE dX12_partHolds_15 (by decide) ?_
      have e : stPH s j r = (-1, s) := by
        unfold stPH
        rw [if_neg (fun h => absurd (b2i_t h.1) (by rw [c5]; decide))]
      exact hR F _ _ _ dX12_partHolds_16 rfl ⟨v, n, g, w, by rw [e]; exact hI, by rw [e], mO.rf o a F⟩
    · have hru := b2i_1 c5
      obtain ⟨u, hu, rfl⟩ := sgn_nI hru hpI.2.2.1.2.1
      have hrnu : rn (nI u) = u := nI_rn (by have := hpI.2.2.1.2.1; omega)
      have hu4u : u < 4 := Nat.lt_of_lt_of_le hu hpI.2.2.1.2.1
      have hsuu : 0 ≤ (nI u).toInt ∧ (nI u).toInt < s.2.2.2.1.length := by rw [nI_toInt (by omega)]; omega
      refine jr_iload_n hE dX12_partHolds_8 2 rfl ?_
      refine jr_kSi (n := 1) (As := [.int r]) (rest := []) hE dX12_partHolds_9 (fun l => c_m_isRow l G r) gX12_partHolds_X12_isRow rfl (by decide +kernel) ⟨rfl, rfl, by decide, by decide⟩ (by decide) rfl rfl (Nat.le_of_ble_eq_true rfl) (trivial) (fun r6 F4 q5 => ?_)
      obtain ⟨eq5, rq5⟩ := q5
      subst eq5 rq5
      refine jr_if_ne (tgt := 17) hE dX12_partHolds_12 (by decide) (fun c12 => ?_) (fun c12 => ?_)
      · have hrb : rowP r := b2i_1 c12
        obtain ⟨b, hb, rfl⟩ := rowP_nI hrb
        obtain ⟨z1b, z2b, z3b, z4b⟩ := hRW b hb
        have hrnb := nI_rn hb
        refine jr_aload_n hE dX12_partHolds_17 0 rfl ?_
        refine jr_get hE dX12_partHolds_18 f529 M0.ob rfl ?_
        rw [(seI_n hse hSe)]
        refine jr_if_eq (tgt := 35) hE dX12_partHolds_21 (by decide) (fun c_21 => ?_) (fun c_21 => absurd (by decide) c_21)
        refine jr_bipush (v := (-2 : Int32)) hE dX12_partHolds_35 (by decide) ?_
        have e := stPH_n ⟨hsuu, nI_rowP hb⟩ hSe
        exact hR F _ _ _ dX12_partHolds_37 rfl ⟨v, n, g, w, by rw [e]; exact hI, by rw [e], mO.rf o a F⟩
      · refine jr_iconst (v := (-1 : Int32)) hE dX12_partHolds_15 (by decide) ?_
        have e : stPH s (nI u) r = (-1, s) := by
          unfold stPH
          rw [if_neg (fun h => absurd (b2i_t h.2) (by rw [c12]; decide))]
        exact hR F _ _ _ dX12_partHolds_16 rfl ⟨v, n, g, w, by rw [e]; exact hI, by rw [e], mO.rf o a F⟩
  · obtain ⟨h24, _, h25, hb25, h26, h27, h28, h29, hb26, hb27, hb28, h30, hTn⟩ := seI_s hse hSe
    have hoQ := oQ_v hpI.2.2.1 h30
    refine jr_aload_n hE dX12_partHolds_0 0 rfl ?_
    refine jr_iload_n hE dX12_partHolds_1 1 rfl ?_
    refine jr_kVi (ci := 12) (n := 1) (As := [.int j]) (rest := []) hE dX12_partHolds_2 (fun l => c_m_isSigner l G o a v n g w j s.2.2.2.1.length) gX12_partHolds_X12_isSigner rfl M0.ob rfl (by decide +kernel) ⟨rfl, rfl, by decide, by decide⟩ (by decide) rfl rfl (Nat.le_of_ble_eq_true rfl) (⟨M0, hpI.2.2.1.1, hpI.2.2.1.2.1⟩) (fun r3 F1 q2 => ?_)
    obtain ⟨eq2, rq2⟩ := q2
    subst eq2 rq2
    refine jr_if_eq (tgt := 15) hE dX12_partHolds_5 (by decide) (fun c5 => ?_) (fun c5 => ?_)
    · refine jr_iconst (v := (-1 : Int32)) hE dX12_partHolds_15 (by decide) ?_
      have e : stPH s j r = (-1, s) := by
        unfold stPH
        rw [if_neg (fun h => absurd (b2i_t h.1) (by rw [c5]; decide))]
      exact hR F _ _ _ dX12_partHolds_16 rfl ⟨v, n, g, w, by rw [e]; exact hI, by rw [e], mO.rf o a F⟩
    · have hru := b2i_1 c5
      obtain ⟨u, hu, rfl⟩ := sgn_nI hru hpI.2.2.1.2.1
      have hrnu : rn (nI u) = u := nI_rn (by have := hpI.2.2.1.2.1; omega)
      have hu4u : u < 4 := Nat.lt_of_lt_of_le hu hpI.2.2.1.2.1
      have hsuu : 0 ≤ (nI u).toInt ∧ (nI u).toInt < s.2.2.2.1.length := by rw [nI_toInt (by omega)]; omega
      refine jr_iload_n hE dX12_partHolds_8 2 rfl ?_
      refine jr_kSi (n := 1) (As := [.int r]) (rest := []) hE dX12_partHolds_9 (fun l => c_m_isRow l G r) gX12_partHolds_X12_isRow rfl (by decide +kernel) ⟨rfl, rfl, by decide, by decide⟩ (by decide) rfl rfl (Nat.le_of_ble_eq_true rfl) (trivial) (fun r6 F4 q5 => ?_)
      obtain ⟨eq5, rq5⟩ := q5
      subst eq5 rq5
      refine jr_if_ne (tgt := 17) hE dX12_partHolds_12 (by decide) (fun c12 => ?_) (fun c12 => ?_)
      · have hrb : rowP r := b2i_1 c12
        obtain ⟨b, hb, rfl⟩ := rowP_nI hrb
        obtain ⟨z1b, z2b, z3b, z4b⟩ := hRW b hb
        have hrnb := nI_rn hb
        refine jr_aload_n hE dX12_partHolds_17 0 rfl ?_
        refine jr_get hE dX12_partHolds_18 f529 M0.ob rfl ?_
        rw [h24]
        refine jr_if_eq (tgt := 35) hE dX12_partHolds_21 (by decide) (fun c_21 => absurd c_21 (by decide)) (fun c_21 => ?_)
        refine jr_aload_n hE dX12_partHolds_24 0 rfl ?_
        refine jr_get hE dX12_partHolds_25 f96 M0.ob rfl ?_
        refine jr_iload_n hE dX12_partHolds_28 2 rfl ?_
        refine jr_iald (v := nI (s.1 b).length) hE dX12_partHolds_29 (M0.I (k := 8) (N := 16) (by decide)) (vp_in_nI (by omega) (by decide)) (by rw [nI_clamp (by omega)]; exact z1b) ?_
        refine jr_bipush (v := (32 : Int32)) hE dX12_partHolds_30 (by decide) ?_
        refine jr_icmp_eq (tgt := 38) hE dX12_partHolds_32 (by decide) (fun c32 => ?_) (fun c32 => ?_)
        · have hlb : (s.1 b).length = 32 := (nI_eq (by omega) (by decide)).mp c32
          have z5b : bl (w 9) (100 * b) 32 = s.1 b := by have q := z2b; rw [hlb] at q; exact q
          refine jr_aload_n hE dX12_partHolds_38 0 rfl ?_
          refine jr_get hE dX12_partHolds_39 f335 M0.ob rfl ?_
          refine jr_aload_n hE dX12_partHolds_42 0 rfl ?_
          refine jr_get hE dX12_partHolds_43 f100 M0.ob rfl ?_
          refine jr_bipush (v := (100 : Int32)) hE dX12_partHolds_46 (by decide) ?_
          refine jr_iload_n hE dX12_partHolds_48 2 rfl ?_
          refine jr_imul (z := nI (100 * b)) hE dX12_partHolds_49 (pk_mul 100 b) ?_
          refine jr_kSv (n := 3) (As := [.ref (a 72), .ref (a 9), .int (nI (100 * b))]) (rest := []) hE dX12_partHolds_50 (fun l => c_m_numberOf l G o a v n g w 72 9 (100 * b) 1600) gX12_partHolds_X12_numberOf rfl (by decide +kernel) ⟨rfl, rfl, by decide, by decide⟩ (by decide) rfl rfl (Nat.le_of_ble_eq_true rfl) (⟨M0, by decide, by decide, by omega, by decide, bB_of z5b z4b⟩) (fun F7 q8 => ?_)
          obtain ⟨M9, P9⟩ := q8
          have O9 := (mO.rf o a F).tr P9
          rw [z5b] at M9
          obtain ⟨n9, e9, hf9, hv9⟩ := uz_ab n 72 (some (bnum (s.1 b)))
          rw [e9] at M9
          obtain ⟨t0, et0⟩ : ∃ x : Nat, x = bnum (s.1 b) := ⟨_, rfl⟩
          have hnt0 : n9 72 = some t0 := by rw [et0]; exact hv9
          refine jr_aload_n hE dX12_partHolds_53 0 rfl ?_
          refine jr_get hE dX12_partHolds_54 f335 M9.ob rfl ?_
          refine jr_aload_n hE dX12_partHolds_57 0 rfl ?_
          refine jr_get hE dX12_partHolds_58 f27 M9.ob rfl ?_
          have hN10 : n9 1 = some NN := (hf9 1 (by decide)).trans hK.2.1
          refine jr_kSi (n := 2) (As := [.ref (a 72), .ref (a 1)]) (rest := []) hE dX12_partHolds_61 (fun l => c_m_isBelow l G o a v n9 g w 72 1 t0 NN) gX12_partHolds_X12_isBelow rfl (by decide +kernel) ⟨rfl, rfl, by decide, by decide⟩ (by decide) rfl rfl (Nat.le_of_ble_eq_true rfl) (⟨M9, by decide, by decide, hnt0, hN10⟩) (fun r13 F11 q12 => ?_)
          obtain ⟨eq12, rq12⟩ := q12
          subst eq12 rq12
          refine jr_if_ne (tgt := 69) hE dX12_partHolds_64 (by decide) (fun c64 => ?_) (fun c64 => ?_)
          · refine jr_aload_n hE dX12_partHolds_69 0 rfl ?_
            refine jr_iconst (v := (3 : Int32)) hE dX12_partHolds_70 (by decide) ?_
            refine jr_kVi (ci := 12) (n := 1) (As := [.int (3 : Int32)]) (rest := []) hE dX12_partHolds_71 (fun l => c_m_isSpent l G o a v n9 g w s.2.2.1 3) gX12_partHolds_X12_isSpent rfl M9.ob rfl (by decide +kernel) ⟨rfl, rfl, by decide, by decide⟩ (by decide) rfl rfl (Nat.le_of_ble_eq_true rfl) (⟨M9, hpI.2.1.1, by omega, by omega⟩) (fun r16 F14 q15 => ?_)
            obtain ⟨eq15, rq15⟩ := q15
            subst eq15 rq15
            refine jr_if_eq (tgt := 80) hE dX12_partHolds_74 (by decide) (fun c74 => ?_) (fun c74 => ?_)
            · have hw48 : ¬ 48 < s.2.2.1 + 3 := fun h => absurd (b2i_t h) (by rw [c74]; decide)
              have htN : t0 < NN := b2i_1 c64
              obtain ⟨lu, hlu⟩ : ∃ l, s.2.2.2.2.2.1 u = some l := Option.ne_none_iff_exists'.mp (hTn u hu)
              obtain ⟨q1, q2, q3, q4⟩ := td_pts hpI.2.2.2.2.1 hu4u hlu
              have qtd := td_of q1
              refine jr_aload_n hE dX12_partHolds_80 0 rfl ?_
              refine jr_dup hE dX12_partHolds_81 rfl ?_
              refine jr_get hE dX12_partHolds_82 f478 M9.ob rfl ?_
              rw [hpI.2.1.1]
              refine jr_iconst (v := (3 : Int32)) hE dX12_partHolds_85 (by decide) ?_
              refine jr_iadd (z := nI (s.2.2.1 + 3)) hE dX12_partHolds_86 (nI_add _ 3) ?_
              refine jr_put (ty := .int) hE dX12_partHolds_87 f478 M9.ob rfl (by decide +kernel) rfl rfl (Nat.le_of_ble_eq_true rfl) (fun F17 g18 u19 => ?_)
              have H20 := M9.setV (v' := uz v 31 (nI (s.2.2.1 + 3))) g18 u19
              have O21 := O9.so u19
              obtain ⟨v22, e22, hvv22, hvx22⟩ := uz_ab v 31 (nI (s.2.2.1 + 3))
              rw [e22] at H20
              refine jr_aload_n hE dX12_partHolds_90 0 rfl ?_
              refine jr_kVv (ci := 12) (n := 0) (As := []) (rest := []) hE dX12_partHolds_91 (fun l => c_m_noSum l G o a v22 n9 g w) gX12_partHolds_X12_noSum rfl H20.ob rfl (by decide +kernel) ⟨rfl, rfl, by decide, by decide⟩ (by decide) rfl rfl (Nat.le_of_ble_eq_true rfl) (H20) (fun F23 q24 => ?_)
              obtain ⟨n25, M25, hf25, hs25, P25⟩ := q24
              have O25 := O21.tr P25
              refine jr_aload_n hE dX12_partHolds_94 0 rfl ?_
              refine jr_aload_n hE dX12_partHolds_95 0 rfl ?_
              refine jr_get hE dX12_partHolds_96 f137 M25.ob rfl ?_
              refine jr_bipush (v := (66 : Int32)) hE dX12_partHolds_99 (by decide) ?_
              refine jr_iload_n hE dX12_partHolds_101 1 rfl ?_
              refine jr_imul (z := nI (66 * u)) hE dX12_partHolds_102 (pk_mul 66 u) ?_
              refine jr_bipush (v := (33 : Int32)) hE dX12_partHolds_103 (by decide) ?_
              refine jr_iadd (z := nI (66 * u + 33)) hE dX12_partHolds_105 (nI_add _ 33) ?_
              have hK26 : mK n25 g := hK.fr ((hf25 0 (by decide)).trans (hf9 0 (by decide))) ((hf25 1 (by decide)).trans (hf9 1 (by decide))) ((hf25 32 (by decide)).trans (hf9 32 (by decide))) ((hf25 33 (by decide)).trans (hf9 33 (by decide)))
              have hC27 : mC n25 := hC.fr ((hf25 4 (by decide)).trans (hf9 4 (by decide))) ((hf25 5 (by decide)).trans (hf9 5 (by decide))) ((hf25 6 (by decide)).trans (hf9 6 (by decide))) ((hf25 7 (by decide)).trans (hf9 7 (by decide))) ((hf25 48 (by decide)).trans (hf9 48 (by decide)))
              refine jr_kVi (ci := 12) (n := 2) (As := [.ref (a 23), .int (nI (66 * u + 33))]) (rest := []) hE dX12_partHolds_106 (fun l => c_m_reads l G o a v22 n25 g w 23 (66 * u + 33) 264 (lu.getD 33 0) (bnum (lu.drop 34))) gX12_partHolds_X12_reads rfl M25.ob rfl (by decide +kernel) ⟨rfl, rfl, by decide, by decide⟩ (by decide) rfl rfl (Nat.le_of_ble_eq_true rfl) (⟨M25, hK26, hC27, by decide, by omega, by decide, (bB1' q2 33 33 (by decide)), qtd.2.2.1.symm, qtd.2.2.2.symm⟩) (fun r30 F28 q29 => ?_)
              obtain ⟨n31, M31, hf31, hq31, rfl, P31⟩ := q29
              have O31 := O25.tr P31
              refine jr_istore_n (lv' := [(3, .int (b2i (rdX (lu.getD 33 0) (bnum (lu.drop 34))))), (0, .ref o), (1, .int (nI u)), (2, .int (nI b))]) hE dX12_partHolds_109 (by decide) rfl ?_
              refine jr_aload_n hE dX12_partHolds_110 1 rfl ?_
              refine jr_aload_n hE dX12_partHolds_111 1 rfl ?_
              refine jr_get hE dX12_partHolds_112 f143 M31.ob rfl ?_
              have hN32 : n31 26 = some te.2.1 := ((hf31 26 (by decide)).trans ((hf25 26 (by decide)).trans (hf9 26 (by decide)))).trans h26
              have hK33 : mK n31 g := hK26.fr (hf31 0 (by decide)) (hf31 1 (by decide)) (hf31 32 (by decide)) (hf31 33 (by decide))
              have hC34 : mC n31 := hC27.fr (hf31 4 (by decide)) (hf31 5 (by decide)) (hf31 6 (by decide)) (hf31 7 (by decide)) (hf31 48 (by decide))
              refine jr_kVv (ci := 12) (n := 1) (As := [.ref (a 26)]) (rest := []) hE dX12_partHolds_115 (fun l => c_m_multiply l G o a v22 n31 g w 26 te.2.1 (rdE (lu.getD 33 0) (bnum (lu.drop 34)))) gX12_partHolds_X12_multiply rfl M31.ob rfl (by decide +kernel) ⟨rfl, rfl, by decide, by decide⟩ (by decide) rfl rfl (Nat.le_of_ble_eq_true rfl) (⟨M31, hK33, hC34.1, by decide, by decide, hN32, (hq31 q4)⟩) (fun F35 q36 => ?_)
              obtain ⟨n37, M37, hf37, hp37, P37⟩ := q36
              have O37 := O31.tr P37
              refine jr_aload_n hE dX12_partHolds_118 1 rfl ?_
              have hP38 : sS n37 none := hs25.fr ((hf37 68 (by decide)).trans (hf31 68 (by decide))) ((hf37 69 (by decide)).trans (hf31 69 (by decide))) ((hf37 70 (by decide)).trans (hf31 70 (by decide)))
              have hK39 : mK n37 g := hK33.fr (hf37 0 (by decide)) (hf37 1 (by decide)) (hf37 32 (by decide)) (hf37 33 (by decide))
              have hC40 : mC n37 := hC34.fr (hf37 4 (by decide)) (hf37 5 (by decide)) (hf37 6 (by decide)) (hf37 7 (by decide)) (hf37 48 (by decide))
              have hon40 : onE PP (emul PP te.2.1 (rdE (lu.getD 33 0) (bnum (lu.drop 34)))) := (onE_mul gdP (hq31 q4).on _)
              have hon41 : onE PP none := trivial
              refine jr_kVv (ci := 12) (n := 0) (As := []) (rest := []) hE dX12_partHolds_119 (fun l => c_m_addToSum l G o a v22 n37 g w none (emul PP te.2.1 (rdE (lu.getD 33 0) (bnum (lu.drop 34))))) gX12_partHolds_X12_addToSum rfl M37.ob rfl (by decide +kernel) ⟨rfl, rfl, by decide, by decide⟩ (by decide) rfl rfl (Nat.le_of_ble_eq_true rfl) (⟨M37, hK39, hC40.1, hp37, hon40, hP38, hon41⟩) (fun F43 q44 => ?_)
              obtain ⟨n45, M45, hf45, hs45, P45⟩ := q44
              have O45 := O37.tr P45
              rw [eadd_0'] at hs45
              refine jr_aload_n hE dX12_partHolds_122 1 rfl ?_
              refine jr_aload_n hE dX12_partHolds_123 1 rfl ?_
              refine jr_get hE dX12_partHolds_124 f137 M45.ob rfl ?_
              refine jr_bipush (v := (66 : Int32)) hE dX12_partHolds_127 (by decide) ?_
              refine jr_iload_n hE dX12_partHolds_129 2 rfl ?_
              refine jr_imul (z := nI (66 * u)) hE dX12_partHolds_130 (pk_mul 66 u) ?_
              have hK46 : mK n45 g := hK39.fr (hf45 0 (by decide)) (hf45 1 (by decide)) (hf45 32 (by decide)) (hf45 33 (by decide))
              have hC47 : mC n45 := hC40.fr (hf45 4 (by decide)) (hf45 5 (by decide)) (hf45 6 (by decide)) (hf45 7 (by decide)) (hf45 48 (by decide))
              refine jr_kVi (ci := 12) (n := 2) (As := [.ref (a 23), .int (nI (66 * u))]) (rest := []) hE dX12_partHolds_131 (fun l => c_m_reads l G o a v22 n45 g w 23 (66 * u) 264 (lu.getD 0 0) (bnum ((lu.take 33).drop 1))) gX12_partHolds_X12_reads rfl M45.ob rfl (by decide +kernel) ⟨rfl, rfl, by decide, by decide⟩ (by decide) rfl rfl (Nat.le_of_ble_eq_true rfl) (⟨M45, hK46, hC47, by decide, by omega, by decide, (bB1' q2 0 33 (by decide)), qtd.1.symm, qtd.2.1.symm⟩) (fun r50 F48 q49 => ?_)
              obtain ⟨n51, M51, hf51, hq51, rfl, P51⟩ := q49
              have O51 := O45.tr P51
              refine jr_istore_n (lv' := [(3, .int (b2i (rdX (lu.getD 0 0) (bnum ((lu.take 33).drop 1))))), (0, .ref o), (1, .int (nI u)), (2, .int (nI b))]) hE dX12_partHolds_134 (by decide) rfl ?_
              refine jr_aload_n hE dX12_partHolds_135 1 rfl ?_
              refine jr_get hE dX12_partHolds_136 f167 M51.ob rfl ?_
              refine jr_aload_n hE dX12_partHolds_139 1 rfl ?_
              refine jr_get hE dX12_partHolds_140 f176 M51.ob rfl ?_
              refine jr_kSv (n := 2) (As := [.ref (a 37), .ref (a 40)]) (rest := []) hE dX12_partHolds_143 (fun l => c_m_set l G o a v22 n51 g w 37 40) gX12_partHolds_X12_set rfl (by decide +kernel) ⟨rfl, rfl, by decide, by decide⟩ (by decide) rfl rfl (Nat.le_of_ble_eq_true rfl) (⟨M51, by decide, by decide⟩) (fun F52 q53 => ?_)
              obtain ⟨M54, P54⟩ := q53
              have O54 := O51.tr P54
              obtain ⟨n54, e54, hf54, hv54⟩ := uz_ab n51 37 (n51 40)
              rw [e54] at M54
              refine jr_aload_n hE dX12_partHolds_146 1 rfl ?_
              refine jr_get hE dX12_partHolds_147 f170 M54.ob rfl ?_
              refine jr_aload_n hE dX12_partHolds_150 1 rfl ?_
              refine jr_get hE dX12_partHolds_151 f179 M54.ob rfl ?_
              refine jr_kSv (n := 2) (As := [.ref (a 38), .ref (a 41)]) (rest := []) hE dX12_partHolds_154 (fun l => c_m_set l G o a v22 n54 g w 38 41) gX12_partHolds_X12_set rfl (by decide +kernel) ⟨rfl, rfl, by decide, by decide⟩ (by decide) rfl rfl (Nat.le_of_ble_eq_true rfl) (⟨M54, by decide, by decide⟩) (fun F55 q56 => ?_)
              obtain ⟨M57, P57⟩ := q56
              have O57 := O54.tr P57
              obtain ⟨n57, e57, hf57, hv57⟩ := uz_ab n54 38 (n54 41)
              rw [e57] at M57
              refine jr_aload_n hE dX12_partHolds_157 1 rfl ?_
              refine jr_get hE dX12_partHolds_158 f173 M57.ob rfl ?_
              refine jr_lconst (v := (1 : Int64)) hE dX12_partHolds_161 (by decide) ?_
              refine jr_kSv (n := 2) (As := [.ref (a 39), .long (1 : Int64)]) (rest := []) hE dX12_partHolds_162 (fun l => c_m_small l G o a v22 n57 g w 39 1) gX12_partHolds_X12_small rfl (by decide +kernel) ⟨rfl, rfl, by decide, by decide⟩ (by decide) rfl rfl (Nat.le_of_ble_eq_true rfl) (⟨M57, by decide, by decide⟩) (fun F58 q59 => ?_)
              obtain ⟨M60, P60⟩ := q59
              have O60 := O57.tr P60
              obtain ⟨n60, e60, hf60, hv60⟩ := uz_ab n57 39 (some 1)
              rw [e60] at M60
              have hp61 : pS n60 (rdE (lu.getD 0 0) (bnum ((lu.take 33).drop 1))) := (hq51 q3).p (((hf60 37 (by decide)).trans (hf57 37 (by decide))).trans hv54) ((hf60 38 (by decide)).trans (hv57.trans (hf54 41 (by decide)))) hv60
              refine jr_aload_n hE dX12_partHolds_165 1 rfl ?_
              have hP62 : sS n60 (emul PP te.2.1 (rdE (lu.getD 33 0) (bnum (lu.drop 34)))) := hs45.fr ((hf60 68 (by decide)).trans ((hf57 68 (by decide)).trans ((hf54 68 (by decide)).trans (hf51 68 (by decide))))) ((hf60 69 (by decide)).trans ((hf57 69 (by decide)).trans ((hf54 69 (by decide)).trans (hf51 69 (by decide))))) ((hf60 70 (by decide)).trans ((hf57 70 (by decide)).trans ((hf54 70 (by decide)).trans (hf51 70 (by decide)))))
              have hK63 : mK n60 g := hK46.fr ((hf60 0 (by decide)).trans ((hf57 0 (by decide)).trans ((hf54 0 (by decide)).trans (hf51 0 (by decide))))) ((hf60 1 (by decide)).trans ((hf57 1 (by decide)).trans ((hf54 1 (by decide)).trans (hf51 1 (by decide))))) ((hf60 32 (by decide)).trans ((hf57 32 (by decide)).trans ((hf54 32 (by decide)).trans (hf51 32 (by decide))))) ((hf60 33 (by decide)).trans ((hf57 33 (by decide)).trans ((hf54 33 (by decide)).trans (hf51 33 (by decide)))))
              have hC64 : mC n60 := hC47.fr ((hf60 4 (by decide)).trans ((hf57 4 (by decide)).trans ((hf54 4 (by decide)).trans (hf51 4 (by decide))))) ((hf60 5 (by decide)).trans ((hf57 5 (by decide)).trans ((hf54 5 (by decide)).trans (hf51 5 (by decide))))) ((hf60 6 (by decide)).trans ((hf57 6 (by decide)).trans ((hf54 6 (by decide)).trans (hf51 6 (by decide))))) ((hf60 7 (by decide)).trans ((hf57 7 (by decide)).trans ((hf54 7 (by decide)).trans (hf51 7 (by decide))))) ((hf60 48 (by decide)).trans ((hf57 48 (by decide)).trans ((hf54 48 (by decide)).trans (hf51 48 (by decide)))))
              have hon64 : onE PP (rdE (lu.getD 0 0) (bnum ((lu.take 33).drop 1))) := (hq51 q3).on
              have hon65 : onE PP (emul PP te.2.1 (rdE (lu.getD 33 0) (bnum (lu.drop 34)))) := hon40
              refine jr_kVv (ci := 12) (n := 0) (As := []) (rest := []) hE dX12_partHolds_166 (fun l => c_m_addToSum l G o a v22 n60 g w (emul PP te.2.1 (rdE (lu.getD 33 0) (bnum (lu.drop 34)))) (rdE (lu.getD 0 0) (bnum ((lu.take 33).drop 1)))) gX12_partHolds_X12_addToSum rfl M60.ob rfl (by decide +kernel) ⟨rfl, rfl, by decide, by decide⟩ (by decide) rfl rfl (Nat.le_of_ble_eq_true rfl) (⟨M60, hK63, hC64.1, hp61, hon64, hP62, hon65⟩) (fun F67 q68 => ?_)
              obtain ⟨n69, M69, hf69, hs69, P69⟩ := q68
              have O69 := O60.tr P69
              have hon69 : onE PP (eadd PP (emul PP te.2.1 (rdE (lu.getD 33 0) (bnum (lu.drop 34)))) (rdE (lu.getD 0 0) (bnum ((lu.take 33).drop 1)))) := onE_add gdP hon65 hon64
              obtain ⟨S0, eS0⟩ : ∃ Y : EP, Y = (eadd PP (emul PP te.2.1 (rdE (lu.getD 33 0) (bnum (lu.drop 34)))) (rdE (lu.getD 0 0) (bnum ((lu.take 33).drop 1)))) := ⟨_, rfl⟩
              have hs70 : sS n69 S0 := by rw [eS0]; exact hs69
              have hon70 : onE PP S0 := by rw [eS0]; exact hon69
              have hN71 : n69 0 = some PP := ((hf69 0 (by decide)).trans ((hf60 0 (by decide)).trans ((hf57 0 (by decide)).trans ((hf54 0 (by decide)).trans ((hf51 0 (by decide)).trans ((hf45 0 (by decide)).trans ((hf37 0 (by decide)).trans ((hf31 0 (by decide)).trans ((hf25 0 (by decide)).trans (hf9 0 (by decide))))))))))).trans hK.1
              have hV72 : v22 29 = (bi te.2.2.2.2) := (hvv22 29 (by decide)).trans h29
              have U73 : (∀ (F1 : Nat → va_E) (n1 : Nat → Option Nat), MW G L F1 o a v22 n1 g w → (∀ z, z ∉ [69] → n1 z = n69 z) → sS n1 (ngE te.2.2.2.2 S0) → mO o a F67 F1 → J E L F1 0 0 211 [(3, .int (b2i (rdX (lu.getD 0 0) (bnum ((lu.take 33).drop 1))))), (0, .ref o), (1, .int (nI u)), (2, .int (nI b))] []) → J E L F67 0 0 169 [(3, .int (b2i (rdX (lu.getD 0 0) (bnum ((lu.take 33).drop 1))))), (0, .ref o), (1, .int (nI u)), (2, .int (nI b))] [] := by
                intro cont
                refine jr_aload_n hE dX12_partHolds_169 1 rfl ?_
                refine jr_get hE dX12_partHolds_170 f575 M69.ob rfl ?_
                rw [hV72]
                refine jr_if_eq (tgt := 211) hE dX12_partHolds_173 (by decide) (fun c173 => ?_) (fun c173 => ?_)
                · exact cont F67 n69 M69 (fun z hz => rfl) (by rw [ngE_f (bi_0 c173)]; exact hs70) (mO.rf o a F67)
                · refine jr_aload_n hE dX12_partHolds_176 1 rfl ?_
                  refine jr_get hE dX12_partHolds_177 f329 M69.ob rfl ?_
                  refine jr_kSi (n := 1) (As := [.ref (a 70)]) (rest := []) hE dX12_partHolds_180 (fun l => c_m_isNull l G o a v22 n69 g w 70 (if S0 = none then 0 else 1)) gX12_partHolds_X12_isNull rfl (by decide +kernel) ⟨rfl, rfl, by decide, by decide⟩ (by decide) rfl rfl (Nat.le_of_ble_eq_true rfl) (⟨M69, by decide, hs70.z⟩) (fun r76 F74 q75 => ?_)
                  obtain ⟨eq75, rq75⟩ := q75
                  subst eq75 rq75
                  refine jr_if_ne (tgt := 211) hE dX12_partHolds_183 (by decide) (fun c183 => ?_) (fun c183 => ?_)
                  · exact cont F67 n69 M69 (fun z hz => rfl) (by rw [ngE_t (bi_1 c173)]; have hS0 : S0 = none := Classical.byContradiction (fun h => b2i_1 c183 |> fun q => by rw [if_neg h] at q; exact absurd q (by decide)); rw [hS0] at hs70 ⊢; exact hs70) (mO.rf o a F67)
                  · have hS0 : S0 ≠ none := fun h => b2i_0 c183 (if_pos h)
                    have hxyS := hs70.xy hS0
                    refine jr_aload_n hE dX12_partHolds_186 1 rfl ?_
                    refine jr_get hE dX12_partHolds_187 f326 M69.ob rfl ?_
                    refine jr_kSi (n := 1) (As := [.ref (a 69)]) (rest := []) hE dX12_partHolds_190 (fun l => c_m_isNull l G o a v22 n69 g w 69 (eyN S0)) gX12_partHolds_X12_isNull rfl (by decide +kernel) ⟨rfl, rfl, by decide, by decide⟩ (by decide) rfl rfl (Nat.le_of_ble_eq_true rfl) (⟨M69, by decide, hxyS.2.1⟩) (fun r79 F77 q78 => ?_)
                    obtain ⟨eq78, rq78⟩ := q78
                    subst eq78 rq78
                    refine jr_if_ne (tgt := 211) hE dX12_partHolds_193 (by decide) (fun c193 => ?_) (fun c193 => ?_)
                    · exact cont F67 n69 M69 (fun z hz => rfl) (by rw [ngE_t (bi_1 c173)]; exact sS_ng hs70 hS0 rfl (hxyS.2.1.trans (by rw [fk_neg hxyS.2.2.2.2, if_pos (b2i_1 c193)]; exact congrArg some (b2i_1 c193))) rfl) (mO.rf o a F67)
                    · have hy0 : eyN S0 ≠ 0 := b2i_0 c193
                      refine jr_aload_n hE dX12_partHolds_196 1 rfl ?_
                      refine jr_get hE dX12_partHolds_197 f326 M69.ob rfl ?_
                      refine jr_aload_n hE dX12_partHolds_200 1 rfl ?_
                      refine jr_get hE dX12_partHolds_201 f15 M69.ob rfl ?_
                      refine jr_aload_n hE dX12_partHolds_204 1 rfl ?_
                      refine jr_get hE dX12_partHolds_205 f326 M69.ob rfl ?_
                      refine jr_kSv (n := 3) (As := [.ref (a 69), .ref (a 0), .ref (a 69)]) (rest := []) hE dX12_partHolds_208 (fun l => c_m_take l G o a v22 n69 g w 69 0 69 PP (eyN S0)) gX12_partHolds_X12_take rfl (by decide +kernel) ⟨rfl, rfl, by decide, by decide⟩ (by decide) rfl rfl (Nat.le_of_ble_eq_true rfl) (⟨M69, by decide, by decide, by decide, hN71, hxyS.2.1⟩) (fun F80 q81 => ?_)
                      obtain ⟨M82, P82⟩ := q81
                      have O82 := (mO.rf o a F67).tr P82
                      rw [show (PP + 2 ^ 256 - (eyN S0)) % 2 ^ 256 = PP - (eyN S0) from neg_tk hy0 hxyS.2.2.2.2 PP_256] at M82
                      obtain ⟨n82, e82, hf82, hv82⟩ := uz_ab n69 69 (some (PP - (eyN S0)))
                      rw [e82] at M82
                      exact cont F80 n82 M82 (fun z hz => (hf82 z (jnsub (V := [69]) hz [0] rfl))) (by rw [ngE_t (bi_1 c173)]; exact sS_ng hs70 hS0 (hf82 68 (by decide)) (hv82.trans (by rw [fk_neg hxyS.2.2.2.2, if_neg hy0])) (hf82 70 (by decide))) O82
              refine U73 (fun F73 n73 M73 hu73 hy73 P73 => ?_)
              have O73 := O69.tr P73
              refine jr_aload_n hE dX12_partHolds_211 1 rfl ?_
              refine jr_aload_n hE dX12_partHolds_212 1 rfl ?_
              refine jr_get hE dX12_partHolds_213 f317 M73.ob rfl ?_
              refine jr_iload_n hE dX12_partHolds_216 2 rfl ?_
              have hV83 : v22 16 = (nI s.2.2.2.1.length) := (hvv22 16 (by decide)).trans hpI.2.2.1.1
              have hK84 : mK n73 g := hK63.fr ((hu73 0 (by decide)).trans (hf69 0 (by decide))) ((hu73 1 (by decide)).trans (hf69 1 (by decide))) ((hu73 32 (by decide)).trans (hf69 32 (by decide))) ((hu73 33 (by decide)).trans (hf69 33 (by decide)))
              have hN85 : n73 27 = some te.2.2.1 := ((hu73 27 (by decide)).trans ((hf69 27 (by decide)).trans ((hf60 27 (by decide)).trans ((hf57 27 (by decide)).trans ((hf54 27 (by decide)).trans ((hf51 27 (by decide)).trans ((hf45 27 (by decide)).trans ((hf37 27 (by decide)).trans ((hf31 27 (by decide)).trans ((hf25 27 (by decide)).trans (hf9 27 (by decide)))))))))))).trans h27
              have hV86 : v22 30 = (bi (oQ s)) := (hvv22 30 (by decide)).trans hoQ.1
              refine jr_kVv (ci := 12) (n := 2) (As := [.ref (a 66), .int (nI u)]) (rest := []) hE dX12_partHolds_217 (fun l => c_m_share l G o a v22 n73 g w u s.2.2.2.1.length te.2.2.1 (oQ s)) gX12_partHolds_X12_share rfl M73.ob rfl (by decide +kernel) ⟨rfl, rfl, by decide, by decide⟩ (by decide) rfl rfl (Nat.le_of_ble_eq_true rfl) (⟨M73, hK84, htg, hrd, hV83, hu, hpI.2.2.1.2.1, hpI.2.2.1.2.2.1, hN85, hV86⟩) (fun F87 q88 => ?_)
              obtain ⟨n89, v89, w89, M89, hf89, h6689, hvv89, hw89, P89⟩ := q88
              rw [hwK u hu] at h6689
              have O89 := O73.tr P89
              have hku : bl (w 17) (33 * u) 33 = s.2.2.2.1.getD u [] := hpI.2.2.1.K hu
              refine jr_aload_n hE dX12_partHolds_220 1 rfl ?_
              refine jr_aload_n hE dX12_partHolds_221 1 rfl ?_
              refine jr_get hE dX12_partHolds_222 f118 M89.ob rfl ?_
              refine jr_bipush (v := (33 : Int32)) hE dX12_partHolds_225 (by decide) ?_
              refine jr_iload_n hE dX12_partHolds_227 2 rfl ?_
              refine jr_imul (z := nI (33 * u)) hE dX12_partHolds_228 (pk_mul 33 u) ?_
              have hK90 : mK n89 g := hK84.fr (hf89 0 (by decide)) (hf89 1 (by decide)) (hf89 32 (by decide)) (hf89 33 (by decide))
              have hC91 : mC n89 := hC64.fr ((hf89 4 (by decide)).trans ((hu73 4 (by decide)).trans (hf69 4 (by decide)))) ((hf89 5 (by decide)).trans ((hu73 5 (by decide)).trans (hf69 5 (by decide)))) ((hf89 6 (by decide)).trans ((hu73 6 (by decide)).trans (hf69 6 (by decide)))) ((hf89 7 (by decide)).trans ((hu73 7 (by decide)).trans (hf69 7 (by decide)))) ((hf89 48 (by decide)).trans ((hu73 48 (by decide)).trans (hf69 48 (by decide))))
              refine jr_kVi (ci := 12) (n := 2) (As := [.ref (a 17), .int (nI (33 * u))]) (rest := []) hE dX12_partHolds_229 (fun l => c_m_reads l G o a v89 n89 g w89 17 (33 * u) 132 ((s.2.2.2.1.getD u []).getD 0 0) (bnum ((s.2.2.2.1.getD u []).drop 1))) gX12_partHolds_X12_reads rfl M89.ob rfl (by decide +kernel) ⟨rfl, rfl, by decide, by decide⟩ (by decide) rfl rfl (Nat.le_of_ble_eq_true rfl) (⟨M89, hK90, hC91, by decide, by omega, by decide, (by rw [show w89 17 = w 17 from (hw89 17 (by decide))]; exact (bB_of hku (fun b hb => sg_lt hpI.2.2.1 hu b hb))), (by rw [show w89 17 = w 17 from (hw89 17 (by decide))]; exact (rd_of hku).1.symm), (by rw [show w89 17 = w 17 from (hw89 17 (by decide))]; exact (rd_of hku).2.symm)⟩) (fun r94 F92 q93 => ?_)
              obtain ⟨n95, M95, hf95, hq95, rfl, P95⟩ := q93
              have O95 := O89.tr P95
              refine jr_istore_n (lv' := [(3, .int (b2i (rdX ((s.2.2.2.1.getD u []).getD 0 0) (bnum ((s.2.2.2.1.getD u []).drop 1))))), (0, .ref o), (1, .int (nI u)), (2, .int (nI b))]) hE dX12_partHolds_232 (by decide) rfl ?_
              refine jr_aload_n hE dX12_partHolds_233 1 rfl ?_
              refine jr_aload_n hE dX12_partHolds_234 1 rfl ?_
              refine jr_get hE dX12_partHolds_235 f317 M95.ob rfl ?_
              have hN96 : n95 66 = some (ngN (oQ s) (te.2.2.1 * wKs s.2.2.2.1 u % NN)) := (hf95 66 (by decide)).trans h6689
              have hK97 : mK n95 g := hK90.fr (hf95 0 (by decide)) (hf95 1 (by decide)) (hf95 32 (by decide)) (hf95 33 (by decide))
              have hC98 : mC n95 := hC91.fr (hf95 4 (by decide)) (hf95 5 (by decide)) (hf95 6 (by decide)) (hf95 7 (by decide)) (hf95 48 (by decide))
              refine jr_kVv (ci := 12) (n := 1) (As := [.ref (a 66)]) (rest := []) hE dX12_partHolds_238 (fun l => c_m_multiply l G o a v89 n95 g w89 66 (ngN (oQ s) (te.2.2.1 * wKs s.2.2.2.1 u % NN)) (rdE ((s.2.2.2.1.getD u []).getD 0 0) (bnum ((s.2.2.2.1.getD u []).drop 1)))) gX12_partHolds_X12_multiply rfl M95.ob rfl (by decide +kernel) ⟨rfl, rfl, by decide, by decide⟩ (by decide) rfl rfl (Nat.le_of_ble_eq_true rfl) (⟨M95, hK97, hC98.1, by decide, by decide, hN96, (hq95 (hpI.2.2.1.ok hu))⟩) (fun F99 q100 => ?_)
              obtain ⟨n101, M101, hf101, hp101, P101⟩ := q100
              have O101 := O95.tr P101
              refine jr_aload_n hE dX12_partHolds_241 1 rfl ?_
              have hP102 : sS n101 (ngE te.2.2.2.2 S0) := hy73.fr ((hf101 68 (by decide)).trans ((hf95 68 (by decide)).trans (hf89 68 (by decide)))) ((hf101 69 (by decide)).trans ((hf95 69 (by decide)).trans (hf89 69 (by decide)))) ((hf101 70 (by decide)).trans ((hf95 70 (by decide)).trans (hf89 70 (by decide))))
              have hK103 : mK n101 g := hK97.fr (hf101 0 (by decide)) (hf101 1 (by decide)) (hf101 32 (by decide)) (hf101 33 (by decide))
              have hC104 : mC n101 := hC98.fr (hf101 4 (by decide)) (hf101 5 (by decide)) (hf101 6 (by decide)) (hf101 7 (by decide)) (hf101 48 (by decide))
              have hon104 : onE PP (emul PP (ngN (oQ s) (te.2.2.1 * wKs s.2.2.2.1 u % NN)) (rdE ((s.2.2.2.1.getD u []).getD 0 0) (bnum ((s.2.2.2.1.getD u []).drop 1)))) := (onE_mul gdP (hq95 (hpI.2.2.1.ok hu)).on _)
              have hon105 : onE PP (ngE te.2.2.2.2 S0) := (onE_ng hon70)
              refine jr_kVv (ci := 12) (n := 0) (As := []) (rest := []) hE dX12_partHolds_242 (fun l => c_m_addToSum l G o a v89 n101 g w89 (ngE te.2.2.2.2 S0) (emul PP (ngN (oQ s) (te.2.2.1 * wKs s.2.2.2.1 u % NN)) (rdE ((s.2.2.2.1.getD u []).getD 0 0) (bnum ((s.2.2.2.1.getD u []).drop 1))))) gX12_partHolds_X12_addToSum rfl M101.ob rfl (by decide +kernel) ⟨rfl, rfl, by decide, by decide⟩ (by decide) rfl rfl (Nat.le_of_ble_eq_true rfl) (⟨M101, hK103, hC104.1, hp101, hon104, hP102, hon105⟩) (fun F107 q108 => ?_)
              obtain ⟨n109, M109, hf109, hs109, P109⟩ := q108
              have O109 := O101.tr P109
              have hon109 : onE PP (eadd PP (ngE te.2.2.2.2 S0) (emul PP (ngN (oQ s) (te.2.2.1 * wKs s.2.2.2.1 u % NN)) (rdE ((s.2.2.2.1.getD u []).getD 0 0) (bnum ((s.2.2.2.1.getD u []).drop 1))))) := onE_add gdP hon105 hon104
              refine jr_aload_n hE dX12_partHolds_245 1 rfl ?_
              have hC110 : mC n109 := hC104.fr (hf109 4 (by decide)) (hf109 5 (by decide)) (hf109 6 (by decide)) (hf109 7 (by decide)) (hf109 48 (by decide))
              refine jr_kVv (ci := 12) (n := 0) (As := []) (rest := []) hE dX12_partHolds_246 (fun l => c_m_generator l G o a v89 n109 g w89) gX12_partHolds_X12_generator rfl M109.ob rfl (by decide +kernel) ⟨rfl, rfl, by decide, by decide⟩ (by decide) rfl rfl (Nat.le_of_ble_eq_true rfl) (⟨M109, hC110⟩) (fun F111 q112 => ?_)
              obtain ⟨n113, M113, hf113, hq113, P113⟩ := q112
              have O113 := O109.tr P113
              refine jr_aload_n hE dX12_partHolds_249 1 rfl ?_
              refine jr_aload_n hE dX12_partHolds_250 1 rfl ?_
              refine jr_get hE dX12_partHolds_251 f335 M113.ob rfl ?_
              have hN114 : n113 72 = some t0 := ((hf113 72 (by decide)).trans ((hf109 72 (by decide)).trans ((hf101 72 (by decide)).trans ((hf95 72 (by decide)).trans ((hf89 72 (by decide)).trans ((hu73 72 (by decide)).trans ((hf69 72 (by decide)).trans ((hf60 72 (by decide)).trans ((hf57 72 (by decide)).trans ((hf54 72 (by decide)).trans ((hf51 72 (by decide)).trans ((hf45 72 (by decide)).trans ((hf37 72 (by decide)).trans ((hf31 72 (by decide)).trans (hf25 72 (by decide)))))))))))))))).trans hnt0
              have hK115 : mK n113 g := hK103.fr ((hf113 0 (by decide)).trans (hf109 0 (by decide))) ((hf113 1 (by decide)).trans (hf109 1 (by decide))) ((hf113 32 (by decide)).trans (hf109 32 (by decide))) ((hf113 33 (by decide)).trans (hf109 33 (by decide)))
              have hC116 : mC n113 := hC110.fr (hf113 4 (by decide)) (hf113 5 (by decide)) (hf113 6 (by decide)) (hf113 7 (by decide)) (hf113 48 (by decide))
              refine jr_kVv (ci := 12) (n := 1) (As := [.ref (a 72)]) (rest := []) hE dX12_partHolds_254 (fun l => c_m_multiply l G o a v89 n113 g w89 72 t0 GE) gX12_partHolds_X12_multiply rfl M113.ob rfl (by decide +kernel) ⟨rfl, rfl, by decide, by decide⟩ (by decide) rfl rfl (Nat.le_of_ble_eq_true rfl) (⟨M113, hK115, hC116.1, by decide, by decide, hN114, hq113⟩) (fun F117 q118 => ?_)
              obtain ⟨n119, M119, hf119, hp119, P119⟩ := q118
              have O119 := O113.tr P119
              have hP120 : sS n119 (eadd PP (ngE te.2.2.2.2 S0) (emul PP (ngN (oQ s) (te.2.2.1 * wKs s.2.2.2.1 u % NN)) (rdE ((s.2.2.2.1.getD u []).getD 0 0) (bnum ((s.2.2.2.1.getD u []).drop 1))))) := hs109.fr ((hf119 68 (by decide)).trans (hf113 68 (by decide))) ((hf119 69 (by decide)).trans (hf113 69 (by decide))) ((hf119 70 (by decide)).trans (hf113 70 (by decide)))
              obtain ⟨SA, eSA⟩ : ∃ Y : EP, Y = (eadd PP (ngE te.2.2.2.2 S0) (emul PP (ngN (oQ s) (te.2.2.1 * wKs s.2.2.2.1 u % NN)) (rdE ((s.2.2.2.1.getD u []).getD 0 0) (bnum ((s.2.2.2.1.getD u []).drop 1))))) := ⟨_, rfl⟩
              have hs121 : sS n119 SA := by rw [eSA]; exact hP120
              have hon121 : onE PP SA := by rw [eSA]; exact hon109
              obtain ⟨QA, eQA⟩ : ∃ Y : EP, Y = (emul PP t0 GE) := ⟨_, rfl⟩
              have hs122 : pS n119 QA := by rw [eQA]; exact hp119
              have hon122 : onE PP QA := by rw [eQA]; exact (onE_mul gdP hq113.on _)
              have hPH : phR s te u = SA := by
                rw [eSA, eS0]
                unfold phR tdL
                rw [hlu]
                rfl
              by_cases hPz : QA = none
              · by_cases hSz : SA = none
                · have hz9 := 0
                  have hp39 : n119 39 = some 0 := by rw [hs122.z, if_pos hPz]
                  have hs70 : n119 70 = some 0 := by rw [hs121.z, if_pos hSz]
                  refine jr_aload_n hE dX12_partHolds_257 1 rfl ?_
                  refine jr_get hE dX12_partHolds_258 f173 M119.ob rfl ?_
                  refine jr_kSi (n := 1) (As := [.ref (a 39)]) (rest := []) hE dX12_partHolds_261 (fun l => c_m_isNull l G o a v89 n119 g w89 39 0) gX12_partHolds_X12_isNull rfl (by decide +kernel) ⟨rfl, rfl, by decide, by decide⟩ (by decide) rfl rfl (Nat.le_of_ble_eq_true rfl) (⟨M119, by decide, hp39⟩) (fun r126 F124 q125 => ?_)
                  obtain ⟨eq125, rq125⟩ := q125
                  subst eq125 rq125
                  refine jr_if_eq (tgt := 281) hE dX12_partHolds_264 (by decide) (fun c_264 => absurd c_264 (by decide)) (fun c_264 => ?_)
                  refine jr_aload_n hE dX12_partHolds_267 1 rfl ?_
                  refine jr_get hE dX12_partHolds_268 f329 M119.ob rfl ?_
                  refine jr_kSi (n := 1) (As := [.ref (a 70)]) (rest := []) hE dX12_partHolds_271 (fun l => c_m_isNull l G o a v89 n119 g w89 70 0) gX12_partHolds_X12_isNull rfl (by decide +kernel) ⟨rfl, rfl, by decide, by decide⟩ (by decide) rfl rfl (Nat.le_of_ble_eq_true rfl) (⟨M119, by decide, hs70⟩) (fun r129 F127 q128 => ?_)
                  obtain ⟨eq128, rq128⟩ := q128
                  subst eq128 rq128
                  refine jr_if_eq (tgt := 281) hE dX12_partHolds_274 (by decide) (fun c_274 => absurd c_274 (by decide)) (fun c_274 => ?_)
                  refine jr_iconst (v := (1 : Int32)) hE dX12_partHolds_277 (by decide) ?_
                  refine jr_goto (tgt := 282) hE dX12_partHolds_278 (by decide) ?_
                  refine jr_istore (lv' := [(4, .int (1 : Int32)), (3, .int (b2i (rdX ((s.2.2.2.1.getD u []).getD 0 0) (bnum ((s.2.2.2.1.getD u []).drop 1))))), (0, .ref o), (1, .int (nI u)), (2, .int (nI b))]) hE dX12_partHolds_282 (by decide) rfl ?_
                  refine jr_iload hE dX12_partHolds_284 0 rfl ?_
                  refine jr_if_ne (tgt := 337) hE dX12_partHolds_286 (by decide) (fun c286 => ?_) (fun c286 => ?_)
                  · refine jr_iconst (v := (1 : Int32)) hE dX12_partHolds_337 (by decide) ?_
                    refine jr_goto (tgt := 342) hE dX12_partHolds_338 (by decide) ?_
                    have hV130 : v89 31 = (nI (s.2.2.1 + 3)) := (hvv89 31 (by decide)).trans hvx22
                    have hvF : ∀ z, z ∉ [31, 57] → v89 z = v z := (fun z hz => ((hvv89 z (jne hz 1 rfl)).trans (hvv22 z (jnsub (V := [31]) hz [0] rfl))))
                    have hnF : ∀ z, z ∉ [34, 35, 36, 37, 38, 39, 40, 41, 42, 43, 44, 45, 46, 47, 49, 66, 68, 69, 70, 72, 76] → n119 z = n z := (fun z hz => ((hf119 z (jnsub (V := [37, 38, 39, 42, 43, 44, 45, 46, 47, 34, 35, 36]) hz [3, 4, 5, 8, 9, 10, 11, 12, 13, 0, 1, 2] rfl)).trans ((hf113 z (jnsub (V := [40, 41]) hz [6, 7] rfl)).trans ((hf109 z (jnsub (V := [40, 41, 37, 38, 39, 42, 43, 44, 45, 46, 47, 34, 35, 36, 68, 69, 70]) hz [6, 7, 3, 4, 5, 8, 9, 10, 11, 12, 13, 0, 1, 2, 16, 17, 18] rfl)).trans ((hf101 z (jnsub (V := [37, 38, 39, 42, 43, 44, 45, 46, 47, 34, 35, 36]) hz [3, 4, 5, 8, 9, 10, 11, 12, 13, 0, 1, 2] rfl)).trans ((hf95 z (jnsub (V := [40, 41, 42, 43, 35, 36, 49]) hz [6, 7, 8, 9, 1, 2, 14] rfl)).trans ((hf89 z (jnsub (V := [66, 76]) hz [15, 20] rfl)).trans ((hu73 z (jnsub (V := [69]) hz [17] rfl)).trans ((hf69 z (jnsub (V := [40, 41, 37, 38, 39, 42, 43, 44, 45, 46, 47, 34, 35, 36, 68, 69, 70]) hz [6, 7, 3, 4, 5, 8, 9, 10, 11, 12, 13, 0, 1, 2, 16, 17, 18] rfl)).trans ((hf60 z (jnsub (V := [39]) hz [5] rfl)).trans ((hf57 z (jnsub (V := [38]) hz [4] rfl)).trans ((hf54 z (jnsub (V := [37]) hz [3] rfl)).trans ((hf51 z (jnsub (V := [40, 41, 42, 43, 35, 36, 49]) hz [6, 7, 8, 9, 1, 2, 14] rfl)).trans ((hf45 z (jnsub (V := [40, 41, 37, 38, 39, 42, 43, 44, 45, 46, 47, 34, 35, 36, 68, 69, 70]) hz [6, 7, 3, 4, 5, 8, 9, 10, 11, 12, 13, 0, 1, 2, 16, 17, 18] rfl)).trans ((hf37 z (jnsub (V := [37, 38, 39, 42, 43, 44, 45, 46, 47, 34, 35, 36]) hz [3, 4, 5, 8, 9, 10, 11, 12, 13, 0, 1, 2] rfl)).trans ((hf31 z (jnsub (V := [40, 41, 42, 43, 35, 36, 49]) hz [6, 7, 8, 9, 1, 2, 14] rfl)).trans ((hf25 z (jnsub (V := [70]) hz [18] rfl)).trans (hf9 z (jnsub (V := [72]) hz [19] rfl)))))))))))))))))))
                    have hwF : ∀ z, z ∉ [53, 54, 55, 56, 58, 59, 75] → w89 z = w z := (fun z hz => (hw89 z (jnsub (V := [53, 54, 55, 56, 58, 59, 75]) hz [0, 1, 2, 3, 4, 5, 6] rfl)))
                    have e : stPH s (nI u) (nI b) = (1, setK s (s.2.2.1 + 3)) := by
                      rw [stPH_s ⟨hsuu, nI_rowP hb⟩ hSe, hrnu, hrnb]
                      unfold stPH1
                      rw [if_pos hlb, ← et0, if_pos htN, if_neg hw48, ← eQA, hPH, (b2i_t (hPz.trans hSz.symm) : b2i (QA = SA) = 1)]
                    exact hR F117 _ _ _ dX12_partHolds_342 rfl ⟨_, _, _, _, by rw [e]; exact hI.keep (c := s.2.2.1 + 3) M119 hV130 (by omega) (fun z hz => hvF z (jdj rfl hz)) (fun z hz => hnF z (jdj rfl hz)) (fun z hz => hwF z (jdj rfl hz)), by rw [e], O119⟩
                  · exact absurd c286 (by decide)
                · have hz9 := 0
                  have hp39 : n119 39 = some 0 := by rw [hs122.z, if_pos hPz]
                  have hs70 : n119 70 = some 1 := by rw [hs121.z, if_neg hSz]
                  refine jr_aload_n hE dX12_partHolds_257 1 rfl ?_
                  refine jr_get hE dX12_partHolds_258 f173 M119.ob rfl ?_
                  refine jr_kSi (n := 1) (As := [.ref (a 39)]) (rest := []) hE dX12_partHolds_261 (fun l => c_m_isNull l G o a v89 n119 g w89 39 0) gX12_partHolds_X12_isNull rfl (by decide +kernel) ⟨rfl, rfl, by decide, by decide⟩ (by decide) rfl rfl (Nat.le_of_ble_eq_true rfl) (⟨M119, by decide, hp39⟩) (fun r135 F133 q134 => ?_)
                  obtain ⟨eq134, rq134⟩ := q134
                  subst eq134 rq134
                  refine jr_if_eq (tgt := 281) hE dX12_partHolds_264 (by decide) (fun c_264 => absurd c_264 (by decide)) (fun c_264 => ?_)
                  refine jr_aload_n hE dX12_partHolds_267 1 rfl ?_
                  refine jr_get hE dX12_partHolds_268 f329 M119.ob rfl ?_
                  refine jr_kSi (n := 1) (As := [.ref (a 70)]) (rest := []) hE dX12_partHolds_271 (fun l => c_m_isNull l G o a v89 n119 g w89 70 1) gX12_partHolds_X12_isNull rfl (by decide +kernel) ⟨rfl, rfl, by decide, by decide⟩ (by decide) rfl rfl (Nat.le_of_ble_eq_true rfl) (⟨M119, by decide, hs70⟩) (fun r138 F136 q137 => ?_)
                  obtain ⟨eq137, rq137⟩ := q137
                  subst eq137 rq137
                  refine jr_if_eq (tgt := 281) hE dX12_partHolds_274 (by decide) (fun c_274 => ?_) (fun c_274 => absurd (by decide) c_274)
                  refine jr_iconst (v := (0 : Int32)) hE dX12_partHolds_281 (by decide) ?_
                  refine jr_istore (lv' := [(4, .int (0 : Int32)), (3, .int (b2i (rdX ((s.2.2.2.1.getD u []).getD 0 0) (bnum ((s.2.2.2.1.getD u []).drop 1))))), (0, .ref o), (1, .int (nI u)), (2, .int (nI b))]) hE dX12_partHolds_282 (by decide) rfl ?_
                  refine jr_iload hE dX12_partHolds_284 0 rfl ?_
                  refine jr_if_ne (tgt := 337) hE dX12_partHolds_286 (by decide) (fun c_286 => absurd c_286 (by decide)) (fun c_286 => ?_)
                  refine jr_aload_n hE dX12_partHolds_289 2 rfl ?_
                  refine jr_get hE dX12_partHolds_290 f173 M119.ob rfl ?_
                  refine jr_kSi (n := 1) (As := [.ref (a 39)]) (rest := []) hE dX12_partHolds_293 (fun l => c_m_isNull l G o a v89 n119 g w89 39 0) gX12_partHolds_X12_isNull rfl (by decide +kernel) ⟨rfl, rfl, by decide, by decide⟩ (by decide) rfl rfl (Nat.le_of_ble_eq_true rfl) (⟨M119, by decide, hp39⟩) (fun r141 F139 q140 => ?_)
                  obtain ⟨eq140, rq140⟩ := q140
                  subst eq140 rq140
                  refine jr_if_ne (tgt := 341) hE dX12_partHolds_296 (by decide) (fun c296 => ?_) (fun c296 => ?_)
                  · refine jr_iconst (v := (0 : Int32)) hE dX12_partHolds_341 (by decide) ?_
                    have hV142 : v89 31 = (nI (s.2.2.1 + 3)) := (hvv89 31 (by decide)).trans hvx22
                    have hvF : ∀ z, z ∉ [31, 57] → v89 z = v z := (fun z hz => ((hvv89 z (jne hz 1 rfl)).trans (hvv22 z (jnsub (V := [31]) hz [0] rfl))))
                    have hnF : ∀ z, z ∉ [34, 35, 36, 37, 38, 39, 40, 41, 42, 43, 44, 45, 46, 47, 49, 66, 68, 69, 70, 72, 76] → n119 z = n z := (fun z hz => ((hf119 z (jnsub (V := [37, 38, 39, 42, 43, 44, 45, 46, 47, 34, 35, 36]) hz [3, 4, 5, 8, 9, 10, 11, 12, 13, 0, 1, 2] rfl)).trans ((hf113 z (jnsub (V := [40, 41]) hz [6, 7] rfl)).trans ((hf109 z (jnsub (V := [40, 41, 37, 38, 39, 42, 43, 44, 45, 46, 47, 34, 35, 36, 68, 69, 70]) hz [6, 7, 3, 4, 5, 8, 9, 10, 11, 12, 13, 0, 1, 2, 16, 17, 18] rfl)).trans ((hf101 z (jnsub (V := [37, 38, 39, 42, 43, 44, 45, 46, 47, 34, 35, 36]) hz [3, 4, 5, 8, 9, 10, 11, 12, 13, 0, 1, 2] rfl)).trans ((hf95 z (jnsub (V := [40, 41, 42, 43, 35, 36, 49]) hz [6, 7, 8, 9, 1, 2, 14] rfl)).trans ((hf89 z (jnsub (V := [66, 76]) hz [15, 20] rfl)).trans ((hu73 z (jnsub (V := [69]) hz [17] rfl)).trans ((hf69 z (jnsub (V := [40, 41, 37, 38, 39, 42, 43, 44, 45, 46, 47, 34, 35, 36, 68, 69, 70]) hz [6, 7, 3, 4, 5, 8, 9, 10, 11, 12, 13, 0, 1, 2, 16, 17, 18] rfl)).trans ((hf60 z (jnsub (V := [39]) hz [5] rfl)).trans ((hf57 z (jnsub (V := [38]) hz [4] rfl)).trans ((hf54 z (jnsub (V := [37]) hz [3] rfl)).trans ((hf51 z (jnsub (V := [40, 41, 42, 43, 35, 36, 49]) hz [6, 7, 8, 9, 1, 2, 14] rfl)).trans ((hf45 z (jnsub (V := [40, 41, 37, 38, 39, 42, 43, 44, 45, 46, 47, 34, 35, 36, 68, 69, 70]) hz [6, 7, 3, 4, 5, 8, 9, 10, 11, 12, 13, 0, 1, 2, 16, 17, 18] rfl)).trans ((hf37 z (jnsub (V := [37, 38, 39, 42, 43, 44, 45, 46, 47, 34, 35, 36]) hz [3, 4, 5, 8, 9, 10, 11, 12, 13, 0, 1, 2] rfl)).trans ((hf31 z (jnsub (V := [40, 41, 42, 43, 35, 36, 49]) hz [6, 7, 8, 9, 1, 2, 14] rfl)).trans ((hf25 z (jnsub (V := [70]) hz [18] rfl)).trans (hf9 z (jnsub (V := [72]) hz [19] rfl)))))))))))))))))))
                    have hwF : ∀ z, z ∉ [53, 54, 55, 56, 58, 59, 75] → w89 z = w z := (fun z hz => (hw89 z (jnsub (V := [53, 54, 55, 56, 58, 59, 75]) hz [0, 1, 2, 3, 4, 5, 6] rfl)))
                    have e : stPH s (nI u) (nI b) = (0, setK s (s.2.2.1 + 3)) := by
                      rw [stPH_s ⟨hsuu, nI_rowP hb⟩ hSe, hrnu, hrnb]
                      unfold stPH1
                      rw [if_pos hlb, ← et0, if_pos htN, if_neg hw48, ← eQA, hPH, (b2i_f (fun q => hSz (q.symm.trans hPz)) : b2i (QA = SA) = 0)]
                    exact hR F117 _ _ _ dX12_partHolds_342 rfl ⟨_, _, _, _, by rw [e]; exact hI.keep (c := s.2.2.1 + 3) M119 hV142 (by omega) (fun z hz => hvF z (jdj rfl hz)) (fun z hz => hnF z (jdj rfl hz)) (fun z hz => hwF z (jdj rfl hz)), by rw [e], O119⟩
                  · exact absurd c296 (by decide)
              · by_cases hSz : SA = none
                · have hz9 := 0
                  have hp39 : n119 39 = some 1 := by rw [hs122.z, if_neg hPz]
                  have hs70 : n119 70 = some 0 := by rw [hs121.z, if_pos hSz]
                  refine jr_aload_n hE dX12_partHolds_257 1 rfl ?_
                  refine jr_get hE dX12_partHolds_258 f173 M119.ob rfl ?_
                  refine jr_kSi (n := 1) (As := [.ref (a 39)]) (rest := []) hE dX12_partHolds_261 (fun l => c_m_isNull l G o a v89 n119 g w89 39 1) gX12_partHolds_X12_isNull rfl (by decide +kernel) ⟨rfl, rfl, by decide, by decide⟩ (by decide) rfl rfl (Nat.le_of_ble_eq_true rfl) (⟨M119, by decide, hp39⟩) (fun r147 F145 q146 => ?_)
                  obtain ⟨eq146, rq146⟩ := q146
                  subst eq146 rq146
                  refine jr_if_eq (tgt := 281) hE dX12_partHolds_264 (by decide) (fun c_264 => ?_) (fun c_264 => absurd (by decide) c_264)
                  refine jr_iconst (v := (0 : Int32)) hE dX12_partHolds_281 (by decide) ?_
                  refine jr_istore (lv' := [(4, .int (0 : Int32)), (3, .int (b2i (rdX ((s.2.2.2.1.getD u []).getD 0 0) (bnum ((s.2.2.2.1.getD u []).drop 1))))), (0, .ref o), (1, .int (nI u)), (2, .int (nI b))]) hE dX12_partHolds_282 (by decide) rfl ?_
                  refine jr_iload hE dX12_partHolds_284 0 rfl ?_
                  refine jr_if_ne (tgt := 337) hE dX12_partHolds_286 (by decide) (fun c_286 => absurd c_286 (by decide)) (fun c_286 => ?_)
                  refine jr_aload_n hE dX12_partHolds_289 2 rfl ?_
                  refine jr_get hE dX12_partHolds_290 f173 M119.ob rfl ?_
                  refine jr_kSi (n := 1) (As := [.ref (a 39)]) (rest := []) hE dX12_partHolds_293 (fun l => c_m_isNull l G o a v89 n119 g w89 39 1) gX12_partHolds_X12_isNull rfl (by decide +kernel) ⟨rfl, rfl, by decide, by decide⟩ (by decide) rfl rfl (Nat.le_of_ble_eq_true rfl) (⟨M119, by decide, hp39⟩) (fun r150 F148 q149 => ?_)
                  obtain ⟨eq149, rq149⟩ := q149
                  subst eq149 rq149
                  refine jr_if_ne (tgt := 341) hE dX12_partHolds_296 (by decide) (fun c_296 => absurd c_296 (by decide)) (fun c_296 => ?_)
                  refine jr_aload_n hE dX12_partHolds_299 2 rfl ?_
                  refine jr_get hE dX12_partHolds_300 f329 M119.ob rfl ?_
                  refine jr_kSi (n := 1) (As := [.ref (a 70)]) (rest := []) hE dX12_partHolds_303 (fun l => c_m_isNull l G o a v89 n119 g w89 70 0) gX12_partHolds_X12_isNull rfl (by decide +kernel) ⟨rfl, rfl, by decide, by decide⟩ (by decide) rfl rfl (Nat.le_of_ble_eq_true rfl) (⟨M119, by decide, hs70⟩) (fun r153 F151 q152 => ?_)
                  obtain ⟨eq152, rq152⟩ := q152
                  subst eq152 rq152
                  refine jr_if_ne (tgt := 341) hE dX12_partHolds_306 (by decide) (fun c306 => ?_) (fun c306 => ?_)
                  · refine jr_iconst (v := (0 : Int32)) hE dX12_partHolds_341 (by decide) ?_
                    have hV154 : v89 31 = (nI (s.2.2.1 + 3)) := (hvv89 31 (by decide)).trans hvx22
                    have hvF : ∀ z, z ∉ [31, 57] → v89 z = v z := (fun z hz => ((hvv89 z (jne hz 1 rfl)).trans (hvv22 z (jnsub (V := [31]) hz [0] rfl))))
                    have hnF : ∀ z, z ∉ [34, 35, 36, 37, 38, 39, 40, 41, 42, 43, 44, 45, 46, 47, 49, 66, 68, 69, 70, 72, 76] → n119 z = n z := (fun z hz => ((hf119 z (jnsub (V := [37, 38, 39, 42, 43, 44, 45, 46, 47, 34, 35, 36]) hz [3, 4, 5, 8, 9, 10, 11, 12, 13, 0, 1, 2] rfl)).trans ((hf113 z (jnsub (V := [40, 41]) hz [6, 7] rfl)).trans ((hf109 z (jnsub (V := [40, 41, 37, 38, 39, 42, 43, 44, 45, 46, 47, 34, 35, 36, 68, 69, 70]) hz [6, 7, 3, 4, 5, 8, 9, 10, 11, 12, 13, 0, 1, 2, 16, 17, 18] rfl)).trans ((hf101 z (jnsub (V := [37, 38, 39, 42, 43, 44, 45, 46, 47, 34, 35, 36]) hz [3, 4, 5, 8, 9, 10, 11, 12, 13, 0, 1, 2] rfl)).trans ((hf95 z (jnsub (V := [40, 41, 42, 43, 35, 36, 49]) hz [6, 7, 8, 9, 1, 2, 14] rfl)).trans ((hf89 z (jnsub (V := [66, 76]) hz [15, 20] rfl)).trans ((hu73 z (jnsub (V := [69]) hz [17] rfl)).trans ((hf69 z (jnsub (V := [40, 41, 37, 38, 39, 42, 43, 44, 45, 46, 47, 34, 35, 36, 68, 69, 70]) hz [6, 7, 3, 4, 5, 8, 9, 10, 11, 12, 13, 0, 1, 2, 16, 17, 18] rfl)).trans ((hf60 z (jnsub (V := [39]) hz [5] rfl)).trans ((hf57 z (jnsub (V := [38]) hz [4] rfl)).trans ((hf54 z (jnsub (V := [37]) hz [3] rfl)).trans ((hf51 z (jnsub (V := [40, 41, 42, 43, 35, 36, 49]) hz [6, 7, 8, 9, 1, 2, 14] rfl)).trans ((hf45 z (jnsub (V := [40, 41, 37, 38, 39, 42, 43, 44, 45, 46, 47, 34, 35, 36, 68, 69, 70]) hz [6, 7, 3, 4, 5, 8, 9, 10, 11, 12, 13, 0, 1, 2, 16, 17, 18] rfl)).trans ((hf37 z (jnsub (V := [37, 38, 39, 42, 43, 44, 45, 46, 47, 34, 35, 36]) hz [3, 4, 5, 8, 9, 10, 11, 12, 13, 0, 1, 2] rfl)).trans ((hf31 z (jnsub (V := [40, 41, 42, 43, 35, 36, 49]) hz [6, 7, 8, 9, 1, 2, 14] rfl)).trans ((hf25 z (jnsub (V := [70]) hz [18] rfl)).trans (hf9 z (jnsub (V := [72]) hz [19] rfl)))))))))))))))))))
                    have hwF : ∀ z, z ∉ [53, 54, 55, 56, 58, 59, 75] → w89 z = w z := (fun z hz => (hw89 z (jnsub (V := [53, 54, 55, 56, 58, 59, 75]) hz [0, 1, 2, 3, 4, 5, 6] rfl)))
                    have e : stPH s (nI u) (nI b) = (0, setK s (s.2.2.1 + 3)) := by
                      rw [stPH_s ⟨hsuu, nI_rowP hb⟩ hSe, hrnu, hrnb]
                      unfold stPH1
                      rw [if_pos hlb, ← et0, if_pos htN, if_neg hw48, ← eQA, hPH, (b2i_f (fun q => hPz (q.trans hSz)) : b2i (QA = SA) = 0)]
                    exact hR F117 _ _ _ dX12_partHolds_342 rfl ⟨_, _, _, _, by rw [e]; exact hI.keep (c := s.2.2.1 + 3) M119 hV154 (by omega) (fun z hz => hvF z (jdj rfl hz)) (fun z hz => hnF z (jdj rfl hz)) (fun z hz => hwF z (jdj rfl hz)), by rw [e], O119⟩
                  · exact absurd c306 (by decide)
                · have hz9 := 0
                  have hp39 : n119 39 = some 1 := by rw [hs122.z, if_neg hPz]
                  have hs70 : n119 70 = some 1 := by rw [hs121.z, if_neg hSz]
                  have hxp := hs122.xy hPz
                  have hxs := hs121.xy hSz
                  refine jr_aload_n hE dX12_partHolds_257 1 rfl ?_
                  refine jr_get hE dX12_partHolds_258 f173 M119.ob rfl ?_
                  refine jr_kSi (n := 1) (As := [.ref (a 39)]) (rest := []) hE dX12_partHolds_261 (fun l => c_m_isNull l G o a v89 n119 g w89 39 1) gX12_partHolds_X12_isNull rfl (by decide +kernel) ⟨rfl, rfl, by decide, by decide⟩ (by decide) rfl rfl (Nat.le_of_ble_eq_true rfl) (⟨M119, by decide, hp39⟩) (fun r159 F157 q158 => ?_)
                  obtain ⟨eq158, rq158⟩ := q158
                  subst eq158 rq158
                  refine jr_if_eq (tgt := 281) hE dX12_partHolds_264 (by decide) (fun c_264 => ?_) (fun c_264 => absurd (by decide) c_264)
                  refine jr_iconst (v := (0 : Int32)) hE dX12_partHolds_281 (by decide) ?_
                  refine jr_istore (lv' := [(4, .int (0 : Int32)), (3, .int (b2i (rdX ((s.2.2.2.1.getD u []).getD 0 0) (bnum ((s.2.2.2.1.getD u []).drop 1))))), (0, .ref o), (1, .int (nI u)), (2, .int (nI b))]) hE dX12_partHolds_282 (by decide) rfl ?_
                  refine jr_iload hE dX12_partHolds_284 0 rfl ?_
                  refine jr_if_ne (tgt := 337) hE dX12_partHolds_286 (by decide) (fun c_286 => absurd c_286 (by decide)) (fun c_286 => ?_)
                  refine jr_aload_n hE dX12_partHolds_289 2 rfl ?_
                  refine jr_get hE dX12_partHolds_290 f173 M119.ob rfl ?_
                  refine jr_kSi (n := 1) (As := [.ref (a 39)]) (rest := []) hE dX12_partHolds_293 (fun l => c_m_isNull l G o a v89 n119 g w89 39 1) gX12_partHolds_X12_isNull rfl (by decide +kernel) ⟨rfl, rfl, by decide, by decide⟩ (by decide) rfl rfl (Nat.le_of_ble_eq_true rfl) (⟨M119, by decide, hp39⟩) (fun r162 F160 q161 => ?_)
                  obtain ⟨eq161, rq161⟩ := q161
                  subst eq161 rq161
                  refine jr_if_ne (tgt := 341) hE dX12_partHolds_296 (by decide) (fun c_296 => absurd c_296 (by decide)) (fun c_296 => ?_)
                  refine jr_aload_n hE dX12_partHolds_299 2 rfl ?_
                  refine jr_get hE dX12_partHolds_300 f329 M119.ob rfl ?_
                  refine jr_kSi (n := 1) (As := [.ref (a 70)]) (rest := []) hE dX12_partHolds_303 (fun l => c_m_isNull l G o a v89 n119 g w89 70 1) gX12_partHolds_X12_isNull rfl (by decide +kernel) ⟨rfl, rfl, by decide, by decide⟩ (by decide) rfl rfl (Nat.le_of_ble_eq_true rfl) (⟨M119, by decide, hs70⟩) (fun r165 F163 q164 => ?_)
                  obtain ⟨eq164, rq164⟩ := q164
                  subst eq164 rq164
                  refine jr_if_ne (tgt := 341) hE dX12_partHolds_306 (by decide) (fun c_306 => absurd c_306 (by decide)) (fun c_306 => ?_)
                  refine jr_aload_n hE dX12_partHolds_309 2 rfl ?_
                  refine jr_get hE dX12_partHolds_310 f167 M119.ob rfl ?_
                  refine jr_aload_n hE dX12_partHolds_313 2 rfl ?_
                  refine jr_get hE dX12_partHolds_314 f323 M119.ob rfl ?_
                  refine jr_kSi (n := 2) (As := [.ref (a 37), .ref (a 68)]) (rest := []) hE dX12_partHolds_317 (fun l => c_m_isSame l G o a v89 n119 g w89 37 68 (exE QA) (exE SA)) gX12_partHolds_X12_isSame rfl (by decide +kernel) ⟨rfl, rfl, by decide, by decide⟩ (by decide) rfl rfl (Nat.le_of_ble_eq_true rfl) (⟨M119, by decide, by decide, hxp.1, hxs.1⟩) (fun r168 F166 q167 => ?_)
                  obtain ⟨eq167, rq167⟩ := q167
                  subst eq167 rq167
                  refine jr_if_eq (tgt := 341) hE dX12_partHolds_320 (by decide) (fun cs1 => ?_) (fun cs1 => ?_)
                  · refine jr_iconst (v := (0 : Int32)) hE dX12_partHolds_341 (by decide) ?_
                    have hV169 : v89 31 = (nI (s.2.2.1 + 3)) := (hvv89 31 (by decide)).trans hvx22
                    have hvF : ∀ z, z ∉ [31, 57] → v89 z = v z := (fun z hz => ((hvv89 z (jne hz 1 rfl)).trans (hvv22 z (jnsub (V := [31]) hz [0] rfl))))
                    have hnF : ∀ z, z ∉ [34, 35, 36, 37, 38, 39, 40, 41, 42, 43, 44, 45, 46, 47, 49, 66, 68, 69, 70, 72, 76] → n119 z = n z := (fun z hz => ((hf119 z (jnsub (V := [37, 38, 39, 42, 43, 44, 45, 46, 47, 34, 35, 36]) hz [3, 4, 5, 8, 9, 10, 11, 12, 13, 0, 1, 2] rfl)).trans ((hf113 z (jnsub (V := [40, 41]) hz [6, 7] rfl)).trans ((hf109 z (jnsub (V := [40, 41, 37, 38, 39, 42, 43, 44, 45, 46, 47, 34, 35, 36, 68, 69, 70]) hz [6, 7, 3, 4, 5, 8, 9, 10, 11, 12, 13, 0, 1, 2, 16, 17, 18] rfl)).trans ((hf101 z (jnsub (V := [37, 38, 39, 42, 43, 44, 45, 46, 47, 34, 35, 36]) hz [3, 4, 5, 8, 9, 10, 11, 12, 13, 0, 1, 2] rfl)).trans ((hf95 z (jnsub (V := [40, 41, 42, 43, 35, 36, 49]) hz [6, 7, 8, 9, 1, 2, 14] rfl)).trans ((hf89 z (jnsub (V := [66, 76]) hz [15, 20] rfl)).trans ((hu73 z (jnsub (V := [69]) hz [17] rfl)).trans ((hf69 z (jnsub (V := [40, 41, 37, 38, 39, 42, 43, 44, 45, 46, 47, 34, 35, 36, 68, 69, 70]) hz [6, 7, 3, 4, 5, 8, 9, 10, 11, 12, 13, 0, 1, 2, 16, 17, 18] rfl)).trans ((hf60 z (jnsub (V := [39]) hz [5] rfl)).trans ((hf57 z (jnsub (V := [38]) hz [4] rfl)).trans ((hf54 z (jnsub (V := [37]) hz [3] rfl)).trans ((hf51 z (jnsub (V := [40, 41, 42, 43, 35, 36, 49]) hz [6, 7, 8, 9, 1, 2, 14] rfl)).trans ((hf45 z (jnsub (V := [40, 41, 37, 38, 39, 42, 43, 44, 45, 46, 47, 34, 35, 36, 68, 69, 70]) hz [6, 7, 3, 4, 5, 8, 9, 10, 11, 12, 13, 0, 1, 2, 16, 17, 18] rfl)).trans ((hf37 z (jnsub (V := [37, 38, 39, 42, 43, 44, 45, 46, 47, 34, 35, 36]) hz [3, 4, 5, 8, 9, 10, 11, 12, 13, 0, 1, 2] rfl)).trans ((hf31 z (jnsub (V := [40, 41, 42, 43, 35, 36, 49]) hz [6, 7, 8, 9, 1, 2, 14] rfl)).trans ((hf25 z (jnsub (V := [70]) hz [18] rfl)).trans (hf9 z (jnsub (V := [72]) hz [19] rfl)))))))))))))))))))
                    have hwF : ∀ z, z ∉ [53, 54, 55, 56, 58, 59, 75] → w89 z = w z := (fun z hz => (hw89 z (jnsub (V := [53, 54, 55, 56, 58, 59, 75]) hz [0, 1, 2, 3, 4, 5, 6] rfl)))
                    have e : stPH s (nI u) (nI b) = (0, setK s (s.2.2.1 + 3)) := by
                      rw [stPH_s ⟨hsuu, nI_rowP hb⟩ hSe, hrnu, hrnb]
                      unfold stPH1
                      rw [if_pos hlb, ← et0, if_pos htN, if_neg hw48, ← eQA, hPH, (b2i_f (fun q => b2i_0 cs1 (by rw [q])) : b2i (QA = SA) = 0)]
                    exact hR F117 _ _ _ dX12_partHolds_342 rfl ⟨_, _, _, _, by rw [e]; exact hI.keep (c := s.2.2.1 + 3) M119 hV169 (by omega) (fun z hz => hvF z (jdj rfl hz)) (fun z hz => hnF z (jdj rfl hz)) (fun z hz => hwF z (jdj rfl hz)), by rw [e], O119⟩
                  · refine jr_aload_n hE dX12_partHolds_323 2 rfl ?_
                    refine jr_get hE dX12_partHolds_324 f170 M119.ob rfl ?_
                    refine jr_aload_n hE dX12_partHolds_327 2 rfl ?_
                    refine jr_get hE dX12_partHolds_328 f326 M119.ob rfl ?_
                    refine jr_kSi (n := 2) (As := [.ref (a 38), .ref (a 69)]) (rest := []) hE dX12_partHolds_331 (fun l => c_m_isSame l G o a v89 n119 g w89 38 69 (eyN QA) (eyN SA)) gX12_partHolds_X12_isSame rfl (by decide +kernel) ⟨rfl, rfl, by decide, by decide⟩ (by decide) rfl rfl (Nat.le_of_ble_eq_true rfl) (⟨M119, by decide, by decide, hxp.2.1, hxs.2.1⟩) (fun r173 F171 q172 => ?_)
                    obtain ⟨eq172, rq172⟩ := q172
                    subst eq172 rq172
                    refine jr_if_eq (tgt := 341) hE dX12_partHolds_334 (by decide) (fun cs2 => ?_) (fun cs2 => ?_)
                    · refine jr_iconst (v := (0 : Int32)) hE dX12_partHolds_341 (by decide) ?_
                      have hV174 : v89 31 = (nI (s.2.2.1 + 3)) := (hvv89 31 (by decide)).trans hvx22
                      have hvF : ∀ z, z ∉ [31, 57] → v89 z = v z := (fun z hz => ((hvv89 z (jne hz 1 rfl)).trans (hvv22 z (jnsub (V := [31]) hz [0] rfl))))
                      have hnF : ∀ z, z ∉ [34, 35, 36, 37, 38, 39, 40, 41, 42, 43, 44, 45, 46, 47, 49, 66, 68, 69, 70, 72, 76] → n119 z = n z := (fun z hz => ((hf119 z (jnsub (V := [37, 38, 39, 42, 43, 44, 45, 46, 47, 34, 35, 36]) hz [3, 4, 5, 8, 9, 10, 11, 12, 13, 0, 1, 2] rfl)).trans ((hf113 z (jnsub (V := [40, 41]) hz [6, 7] rfl)).trans ((hf109 z (jnsub (V := [40, 41, 37, 38, 39, 42, 43, 44, 45, 46, 47, 34, 35, 36, 68, 69, 70]) hz [6, 7, 3, 4, 5, 8, 9, 10, 11, 12, 13, 0, 1, 2, 16, 17, 18] rfl)).trans ((hf101 z (jnsub (V := [37, 38, 39, 42, 43, 44, 45, 46, 47, 34, 35, 36]) hz [3, 4, 5, 8, 9, 10, 11, 12, 13, 0, 1, 2] rfl)).trans ((hf95 z (jnsub (V := [40, 41, 42, 43, 35, 36, 49]) hz [6, 7, 8, 9, 1, 2, 14] rfl)).trans ((hf89 z (jnsub (V := [66, 76]) hz [15, 20] rfl)).trans ((hu73 z (jnsub (V := [69]) hz [17] rfl)).trans ((hf69 z (jnsub (V := [40, 41, 37, 38, 39, 42, 43, 44, 45, 46, 47, 34, 35, 36, 68, 69, 70]) hz [6, 7, 3, 4, 5, 8, 9, 10, 11, 12, 13, 0, 1, 2, 16, 17, 18] rfl)).trans ((hf60 z (jnsub (V := [39]) hz [5] rfl)).trans ((hf57 z (jnsub (V := [38]) hz [4] rfl)).trans ((hf54 z (jnsub (V := [37]) hz [3] rfl)).trans ((hf51 z (jnsub (V := [40, 41, 42, 43, 35, 36, 49]) hz [6, 7, 8, 9, 1, 2, 14] rfl)).trans ((hf45 z (jnsub (V := [40, 41, 37, 38, 39, 42, 43, 44, 45, 46, 47, 34, 35, 36, 68, 69, 70]) hz [6, 7, 3, 4, 5, 8, 9, 10, 11, 12, 13, 0, 1, 2, 16, 17, 18] rfl)).trans ((hf37 z (jnsub (V := [37, 38, 39, 42, 43, 44, 45, 46, 47, 34, 35, 36]) hz [3, 4, 5, 8, 9, 10, 11, 12, 13, 0, 1, 2] rfl)).trans ((hf31 z (jnsub (V := [40, 41, 42, 43, 35, 36, 49]) hz [6, 7, 8, 9, 1, 2, 14] rfl)).trans ((hf25 z (jnsub (V := [70]) hz [18] rfl)).trans (hf9 z (jnsub (V := [72]) hz [19] rfl)))))))))))))))))))
                      have hwF : ∀ z, z ∉ [53, 54, 55, 56, 58, 59, 75] → w89 z = w z := (fun z hz => (hw89 z (jnsub (V := [53, 54, 55, 56, 58, 59, 75]) hz [0, 1, 2, 3, 4, 5, 6] rfl)))
                      have e : stPH s (nI u) (nI b) = (0, setK s (s.2.2.1 + 3)) := by
                        rw [stPH_s ⟨hsuu, nI_rowP hb⟩ hSe, hrnu, hrnb]
                        unfold stPH1
                        rw [if_pos hlb, ← et0, if_pos htN, if_neg hw48, ← eQA, hPH, (b2i_f (fun q => b2i_0 cs2 (by rw [q])) : b2i (QA = SA) = 0)]
                      exact hR F117 _ _ _ dX12_partHolds_342 rfl ⟨_, _, _, _, by rw [e]; exact hI.keep (c := s.2.2.1 + 3) M119 hV174 (by omega) (fun z hz => hvF z (jdj rfl hz)) (fun z hz => hnF z (jdj rfl hz)) (fun z hz => hwF z (jdj rfl hz)), by rw [e], O119⟩
                    · refine jr_iconst (v := (1 : Int32)) hE dX12_partHolds_337 (by decide) ?_
                      refine jr_goto (tgt := 342) hE dX12_partHolds_338 (by decide) ?_
                      have hV176 : v89 31 = (nI (s.2.2.1 + 3)) := (hvv89 31 (by decide)).trans hvx22
                      have hvF : ∀ z, z ∉ [31, 57] → v89 z = v z := (fun z hz => ((hvv89 z (jne hz 1 rfl)).trans (hvv22 z (jnsub (V := [31]) hz [0] rfl))))
                      have hnF : ∀ z, z ∉ [34, 35, 36, 37, 38, 39, 40, 41, 42, 43, 44, 45, 46, 47, 49, 66, 68, 69, 70, 72, 76] → n119 z = n z := (fun z hz => ((hf119 z (jnsub (V := [37, 38, 39, 42, 43, 44, 45, 46, 47, 34, 35, 36]) hz [3, 4, 5, 8, 9, 10, 11, 12, 13, 0, 1, 2] rfl)).trans ((hf113 z (jnsub (V := [40, 41]) hz [6, 7] rfl)).trans ((hf109 z (jnsub (V := [40, 41, 37, 38, 39, 42, 43, 44, 45, 46, 47, 34, 35, 36, 68, 69, 70]) hz [6, 7, 3, 4, 5, 8, 9, 10, 11, 12, 13, 0, 1, 2, 16, 17, 18] rfl)).trans ((hf101 z (jnsub (V := [37, 38, 39, 42, 43, 44, 45, 46, 47, 34, 35, 36]) hz [3, 4, 5, 8, 9, 10, 11, 12, 13, 0, 1, 2] rfl)).trans ((hf95 z (jnsub (V := [40, 41, 42, 43, 35, 36, 49]) hz [6, 7, 8, 9, 1, 2, 14] rfl)).trans ((hf89 z (jnsub (V := [66, 76]) hz [15, 20] rfl)).trans ((hu73 z (jnsub (V := [69]) hz [17] rfl)).trans ((hf69 z (jnsub (V := [40, 41, 37, 38, 39, 42, 43, 44, 45, 46, 47, 34, 35, 36, 68, 69, 70]) hz [6, 7, 3, 4, 5, 8, 9, 10, 11, 12, 13, 0, 1, 2, 16, 17, 18] rfl)).trans ((hf60 z (jnsub (V := [39]) hz [5] rfl)).trans ((hf57 z (jnsub (V := [38]) hz [4] rfl)).trans ((hf54 z (jnsub (V := [37]) hz [3] rfl)).trans ((hf51 z (jnsub (V := [40, 41, 42, 43, 35, 36, 49]) hz [6, 7, 8, 9, 1, 2, 14] rfl)).trans ((hf45 z (jnsub (V := [40, 41, 37, 38, 39, 42, 43, 44, 45, 46, 47, 34, 35, 36, 68, 69, 70]) hz [6, 7, 3, 4, 5, 8, 9, 10, 11, 12, 13, 0, 1, 2, 16, 17, 18] rfl)).trans ((hf37 z (jnsub (V := [37, 38, 39, 42, 43, 44, 45, 46, 47, 34, 35, 36]) hz [3, 4, 5, 8, 9, 10, 11, 12, 13, 0, 1, 2] rfl)).trans ((hf31 z (jnsub (V := [40, 41, 42, 43, 35, 36, 49]) hz [6, 7, 8, 9, 1, 2, 14] rfl)).trans ((hf25 z (jnsub (V := [70]) hz [18] rfl)).trans (hf9 z (jnsub (V := [72]) hz [19] rfl)))))))))))))))))))
                      have hwF : ∀ z, z ∉ [53, 54, 55, 56, 58, 59, 75] → w89 z = w z := (fun z hz => (hw89 z (jnsub (V := [53, 54, 55, 56, 58, 59, 75]) hz [0, 1, 2, 3, 4, 5, 6] rfl)))
                      have e : stPH s (nI u) (nI b) = (1, setK s (s.2.2.1 + 3)) := by
                        rw [stPH_s ⟨hsuu, nI_rowP hb⟩ hSe, hrnu, hrnb]
                        unfold stPH1
                        rw [if_pos hlb, ← et0, if_pos htN, if_neg hw48, ← eQA, hPH, (b2i_t (ex_ey hPz hSz (b2i_1 cs1) (b2i_1 cs2)) : b2i (QA = SA) = 1)]
                      exact hR F117 _ _ _ dX12_partHolds_342 rfl ⟨_, _, _, _, by rw [e]; exact hI.keep (c := s.2.2.1 + 3) M119 hV176 (by omega) (fun z hz => hvF z (jdj rfl hz)) (fun z hz => hnF z (jdj rfl hz)) (fun z hz => hwF z (jdj rfl hz)), by rw [e], O119⟩
            · refine jr_bipush (v := (-5 : Int32)) hE dX12_partHolds_77 (by decide) ?_
              have hvF : ∀ z, z ∉ [999] → v z = v z := (fun z hz => rfl)
              have hnF : ∀ z, z ∉ [72] → n9 z = n z := (fun z hz => (hf9 z (jnsub (V := [72]) hz [0] rfl)))
              have hwF : ∀ z, z ∉ [999] → w z = w z := (fun z hz => rfl)
              have e : stPH s (nI u) (nI b) = (-5, s) := by
                rw [stPH_s ⟨hsuu, nI_rowP hb⟩ hSe, hrnu, hrnb]
                unfold stPH1
                rw [if_pos hlb, ← et0, if_pos (b2i_1 (p := t0 < NN) c64), if_pos (b2i_1 (p := 48 < s.2.2.1 + 3) c74)]
              exact hR F7 _ _ _ dX12_partHolds_79 rfl ⟨_, _, _, _, by rw [e]; exact hI.keep (c := s.2.2.1) M9 hpI.2.1.1 (hpI.2.1.2) (fun z hz => hvF z (jdj rfl hz)) (fun z hz => hnF z (jdj rfl hz)) (fun z hz => hwF z (jdj rfl hz)), by rw [e], O9⟩
          · refine jr_iconst (v := (0 : Int32)) hE dX12_partHolds_67 (by decide) ?_
            have hvF : ∀ z, z ∉ [999] → v z = v z := (fun z hz => rfl)
            have hnF : ∀ z, z ∉ [72] → n9 z = n z := (fun z hz => (hf9 z (jnsub (V := [72]) hz [0] rfl)))
            have hwF : ∀ z, z ∉ [999] → w z = w z := (fun z hz => rfl)
            have e : stPH s (nI u) (nI b) = (0, s) := by
              rw [stPH_s ⟨hsuu, nI_rowP hb⟩ hSe, hrnu, hrnb]
              unfold stPH1
              rw [if_pos hlb, ← et0, if_neg (fun h => absurd (b2i_t h) (by rw [c64]; decide))]
            exact hR F7 _ _ _ dX12_partHolds_68 rfl ⟨_, _, _, _, by rw [e]; exact hI.keep (c := s.2.2.1) M9 hpI.2.1.1 (hpI.2.1.2) (fun z hz => hvF z (jdj rfl hz)) (fun z hz => hnF z (jdj rfl hz)) (fun z hz => hwF z (jdj rfl hz)), by rw [e], O9⟩
        · refine jr_bipush (v := (-2 : Int32)) hE dX12_partHolds_35 (by decide) ?_
          have hvF : ∀ z, z ∉ [999] → v z = v z := (fun z hz => rfl)
          have hnF : ∀ z, z ∉ [999] → n z = n z := (fun z hz => rfl)
          have hwF : ∀ z, z ∉ [999] → w z = w z := (fun z hz => rfl)
          have e : stPH s (nI u) (nI b) = (-2, s) := by
            rw [stPH_s ⟨hsuu, nI_rowP hb⟩ hSe, hrnu, hrnb]
            unfold stPH1
            rw [if_neg (fun h => c32 ((nI_eq (by omega) (by decide)).mpr h))]
          exact hR F _ _ _ dX12_partHolds_37 rfl ⟨_, _, _, _, by rw [e]; exact hI.keep (c := s.2.2.1) M0 hpI.2.1.1 (hpI.2.1.2) (fun z hz => hvF z (jdj rfl hz)) (fun z hz => hnF z (jdj rfl hz)) (fun z hz => hwF z (jdj rfl hz)), by rw [e], (mO.rf o a F)⟩
      · refine jr_iconst (v := (-1 : Int32)) hE dX12_partHolds_15 (by decide) ?_
        have e : stPH s (nI u) r = (-1, s) := by
          unfold stPH
          rw [if_neg (fun h => absurd (b2i_t h.2) (by rw [c12]; decide))]
        exact hR F _ _ _ dX12_partHolds_16 rfl ⟨v, n, g, w, by rw [e]; exact hI, by rw [e], mO.rf o a F⟩

