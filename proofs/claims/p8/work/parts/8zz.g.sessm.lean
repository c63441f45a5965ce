/-! THE REFERENCE'S session -/
noncomputable def tdE (wh : Nat) (l : List Nat) : EP := if wh = 0 then tdE0 l else tdE1 l
noncomputable def tSs (Td : Nat → Option (List Nat)) (wh : Nat) : Nat → EP
  | 0 => none
  | k + 1 => eadd PP (tSs Td wh k) (tdE wh ((Td k).getD []))
theorem td_ok {w : Nat → Nat → Int32} {Td : Nat → Option (List Nat)} {m j : Nat} (h : tdI w Td m) (hj : j < 4) (hT : Td j ≠ none) : rdE (fT (w 23) 0 j) (vT (w 23) 0 j) = tdE 0 ((Td j).getD []) ∧ rdE (fT (w 23) 1 j) (vT (w 23) 1 j) = tdE 1 ((Td j).getD []) ∧ rdX (fT (w 23) 0 j) (vT (w 23) 0 j) ∧ rdX (fT (w 23) 1 j) (vT (w 23) 1 j) ∧ bB (w 23) (66 * j) 66 := by
  obtain ⟨l, hl⟩ := Option.ne_none_iff_exists'.mp hT
  have q := (h j hj).2
  rw [hl] at q ⊢
  obtain ⟨_, b2, b3, b4, b5⟩ := q
  have r := td_of b2
  refine ⟨?_, ?_, b4, b5, b3⟩
  · unfold fT vT
    rw [Nat.mul_zero, Nat.add_zero, r.1, r.2.1]
    rfl
  · unfold fT vT
    rw [Nat.mul_one, r.2.2.1, r.2.2.2]
    rfl
theorem tS_s {w : Nat → Nat → Int32} {Td : Nat → Option (List Nat)} {m : Nat} (h : tdI w Td m) (hm : m ≤ 4) (hT : ∀ j, j < m → Td j ≠ none) : ∀ k, k ≤ m → tS (w 23) 0 k = tSs Td 0 k ∧ tS (w 23) 1 k = tSs Td 1 k
  | 0, _ => ⟨rfl, rfl⟩
  | k + 1, hk => by
    obtain ⟨i1, i2⟩ := tS_s h hm hT k (by omega)
    obtain ⟨q1, q2, _⟩ := td_ok h (j := k) (by omega) (hT k (by omega))
    refine ⟨?_, ?_⟩
    · show eadd PP (tS (w 23) 0 k) (rdE (fT (w 23) 0 k) (vT (w 23) 0 k)) = eadd PP (tSs Td 0 k) (tdE 0 ((Td k).getD []))
      rw [i1, q1]
    · show eadd PP (tS (w 23) 1 k) (rdE (fT (w 23) 1 k) (vT (w 23) 1 k)) = eadd PP (tSs Td 1 k) (tdE 1 ((Td k).getD []))
      rw [i2, q2]
theorem some_xy {A : EP} (h : A ≠ none) : some (exE A, eyN A) = A := by
  obtain ⟨x, rfl⟩ := Option.ne_none_iff_exists'.mp h
  rfl
noncomputable def finE (A : EP) : EP := if A = none then GE else A
noncomputable def seT (s : ST) (wh : Nat) : EP := tSs s.2.2.2.2.2.1 wh s.2.2.2.1.length
noncomputable def seJ (s : ST) : EP := qSs s.2.2.2.1 s.2.2.2.1.length
noncomputable def seB (s : ST) (m : List Nat) : Nat := bnum (sha (sha (tgb 7) ++ sha (tgb 7) ++ (pbE (seT s 0) ++ pbE (seT s 1)) ++ bex (exE (seJ s)) 32 ++ m)) % NN
noncomputable def seR (s : ST) (m : List Nat) : EP := finE (eadd PP (emul PP (seB s m) (seT s 1)) (seT s 0))
noncomputable def seTp (s : ST) (m : List Nat) : SSe := (pbE (seT s 0) ++ pbE (seT s 1), seB s m, chS (exE (seR s m)) (exE (seJ s)) m, exE (seR s m), eyO (seR s m))
noncomputable def setSe (s : ST) (t : SSe) : ST := (s.1, (s.2.1, s.2.2.1, s.2.2.2.1, s.2.2.2.2.1, s.2.2.2.2.2.1, some t))
noncomputable def stSess (s : ST) (m : Int32) : Int32 × ST := if rowP m then (if ((s.1 (rn m)).length ≤ 40 ∧ 0 < s.2.2.2.1.length) ∧ ∀ t, t < s.2.2.2.1.length → s.2.2.2.2.2.1 t ≠ none then (if 48 < s.2.2.1 + (1 + s.2.2.2.1.length) then (-5, s) else if seJ s = none then (-2, setK s (s.2.2.1 + s.2.2.2.1.length)) else (1, setSe (setK s (s.2.2.1 + s.2.2.2.1.length + 1)) (seTp s (s.1 (rn m))))) else (-2, s)) else (-1, s)
theorem mI.se {G : Nat → ClassId} {L : List Nat} {F F1 : Nat → va_E} {o : Nat} {a : Nat → Nat} {v v' : Nat → Int32} {n n' : Nat → Option Nat} {g : Nat → Nat → Int64} {w w' : Nat → Nat → Int32} {s : ST} {c : Nat} {t : SSe} (h : mI G L F o a v n g w s) (M : MW G L F1 o a v' n' g w') (h31 : v' 31 = nI c) (hc : c ≤ 48) (h24 : v' 24 = 1) (h29 : v' 29 = bi t.2.2.2.2) (h30 : v' 30 = b2i (eyN (seJ s) % 2 = 1)) (hJ : seJ s ≠ none) (hl : 1 ≤ s.2.2.2.1.length) (hT : ∀ j, j < s.2.2.2.1.length → s.2.2.2.2.2.1 j ≠ none) (hv : ∀ k, k ∈ [10, 16] → v' k = v k) (hn : ∀ k, k ∈ [0, 1, 4, 5, 6, 7, 32, 33, 48] → n' k = n k) (h26 : n' 26 = some t.2.1) (h27 : n' 27 = some t.2.2.1) (h28 : n' 28 = some t.2.2.2.1) (b26 : t.2.1 < NN) (b27 : t.2.2.1 < NN) (b28 : t.2.2.2.1 < PP) (hw : ∀ k, k ∈ [8, 9, 50, 51, 52, 11, 12, 13, 14, 17, 18, 21, 22, 23] → w' k = w k) (h25 : bl (w' 25) 0 66 = t.1) (b25 : ∀ b, b ∈ t.1 → b < 256) : mI G L F1 o a v' n' g w' (setSe (setK s c) t) := by
  obtain ⟨_, a2, a3, a4, a5, a6, hen, hwk, hsg, hnc, htd, hse⟩ := h
  have hqs := hsg.qSe _ (Nat.le_refl _)
  obtain ⟨xy, hxy⟩ := Option.ne_none_iff_exists'.mp hJ
  refine ⟨M, a2.fr (hn 0 (by decide)) (hn 1 (by decide)) (hn 32 (by decide)) (hn 33 (by decide)), a3.fr (hn 4 (by decide)) (hn 5 (by decide)) (hn 6 (by decide)) (hn 7 (by decide)) (hn 48 (by decide)), a4.fr (hw 50 (by decide)) (hw 51 (by decide)), a5.fr (hw 52 (by decide)), fun r hr => ?_, ⟨?_, ⟨h31, hc⟩, ?_, ?_, ?_, ⟨h24, hl, h25, b25, h26, h27, h28, h29, b26, b27, b28, ⟨xy.1, xy.2, ?_, ?_⟩, hT⟩⟩⟩
  · rw [hw 8 (by decide), hw 9 (by decide)]
    exact a6 r hr
  · unfold enI at *
    rw [hv 10 (by decide), hw 11 (by decide), hw 12 (by decide), hw 13 (by decide), hw 14 (by decide)]
    exact hen
  · unfold sgI at *
    rw [hv 16 (by decide), hw 17 (by decide)]
    exact hsg
  · unfold ncI at *
    rw [hw 18 (by decide), hw 21 (by decide)]
    exact hnc
  · unfold tdI at *
    rw [hw 22 (by decide), hw 23 (by decide)]
    exact htd
  · rw [hw 17 (by decide)]
    exact hqs.trans hxy
  · rw [h30, hxy]
    rfl
theorem first_b {f : Nat → Int32} {A : EP} {l : List Nat} (h : bl f 0 66 = pbE A ++ l) : f 0 = nI ((pbE A).getD 0 0) := by
  have e := bl_get f 0 66 0 (by decide)
  rw [h, List.getD_eq_getElem?_getD, List.getElem?_append_left (by rw [pbE_len]; decide), ← List.getD_eq_getElem?_getD] at e
  rw [e]
  exact bt_nI f 0
theorem pb0 {A : EP} : (pbE A).getD 0 0 = 0 ↔ A = none := by
  cases A with
  | none => exact ⟨fun _ => rfl, fun _ => rfl⟩
  | some a =>
    refine ⟨fun h => ?_, fun h => by cases h⟩
    have e : (pbE (some a)).getD 0 0 = if a.2 % 2 = 1 then 3 else 2 := rfl
    rw [e] at h
    split at h <;> cases h
theorem pb_tk {f : Nat → Int32} {A : EP} {l : List Nat} (h : bl f 0 66 = pbE A ++ l) : bl f 0 33 = pbE A := by
  rw [bl_take h 33 (by decide), List.take_append_of_le_length (by rw [pbE_len]; exact Nat.le_refl _), List.take_of_length_le (by rw [pbE_len]; exact Nat.le_refl _)]
theorem sS_GE {n : Nat → Option Nat} (h1 : n 68 = some gX) (h2 : n 69 = some gY) : n 68 = some (exE GE) ∧ n 69 = some (eyN GE) := ⟨h1, h2⟩
theorem onFin {A : EP} (h : onE PP A) : onE PP (finE A) := by
  unfold finE
  split
  · exact onG
  · exact h
theorem fin_ne (A : EP) : finE A ≠ none := by
  unfold finE
  split
  · exact GE_ne
  · assumption
theorem ex_lt {A : EP} (h : onE PP A) : exE A < PP := by
  cases A with
  | none => exact PP0
  | some a => exact h.1
theorem td_is {w : Nat → Nat → Int32} {Td : Nat → Option (List Nat)} {m j : Nat} (h : tdI w Td m) (hj : j < 4) : w 22 j = bi (Td j).isSome := by
  have q := (h j hj).2
  revert q
  cases Td j with
  | none => exact fun q => q
  | some t => exact fun q => q.1
theorem b2i_fit (p : Prop) [Decidable p] : fits .boolean (.int (b2i p)) = true := by
  by_cases h : p
  · rw [b2i_t h]; rfl
  · rw [b2i_f h]; rfl
theorem gt40 {a b : Int32} (h : b < a) : ¬ a ≤ b := Int32.not_le.mpr h
theorem le40 {a b : Int32} (h : ¬ b < a) : a ≤ b := Int32.not_lt.mp h

set_option maxHeartbeats 4000000 in
set_option maxRecDepth 100000 in
theorem c_m_session (l : Launch) (G : Nat → ClassId) (o : Nat) (a : Nat → Nat) (v : Nat → Int32) (n : Nat → Option Nat) (g : Nat → Nat → Int64) (w : Nat → Nat → Int32) (s : ST) (m : Int32) : jKi l yX12_session wsX12_session ({ frames := 8, cells := 0, slots := 0, locals := 194 }) G [.ref o, .int m] (fun L F => mI G L F o a v n g w s) (fun L F q F1 => ∃ v' n' g' w', mI G L F1 o a v' n' g' w' (stSess s m).2 ∧ q = (stSess s m).1 ∧ mO o a F F1) := by
  refine jm_ki (cc := cX12_session) (maxL := 4) (rt := .int) (by decide) rfl (Nat.le_of_ble_eq_true rfl) ?_
  intro E L F hE hR hpre
  have hE : jOk E G _ cX12_session 4 RX12 wsX12_session := hE
  have hI := hpre
  obtain ⟨M0, hK, hC, htg, hrd, hRW, hpI⟩ := id hpre
  have hwk48 := hpI.2.1.2
  have hs4 := hpI.2.2.1.2.1
  have hqS := hpI.2.2.1.qSe _ (Nat.le_refl _)
  have hqSon := hpI.2.2.1.on
  have f533 : jFl RX12 wsX12_session 533 12 16 := ⟨rfl, by decide, by decide +kernel, by decide +kernel⟩
  have f478 : jFl RX12 wsX12_session 478 12 31 := ⟨rfl, by decide, by decide +kernel, by decide +kernel⟩
  have f356 : jFl RX12 wsX12_session 356 12 80 := ⟨rfl, by decide, by decide +kernel, by decide +kernel⟩
  have f350 : jFl RX12 wsX12_session 350 12 77 := ⟨rfl, by decide, by decide +kernel, by decide +kernel⟩
  have f100 : jFl RX12 wsX12_session 100 12 9 := ⟨rfl, by decide, by decide +kernel, by decide +kernel⟩
  have f96 : jFl RX12 wsX12_session 96 12 8 := ⟨rfl, by decide, by decide +kernel, by decide +kernel⟩
  have f143 : jFl RX12 wsX12_session 143 12 26 := ⟨rfl, by decide, by decide +kernel, by decide +kernel⟩
  have f329 : jFl RX12 wsX12_session 329 12 70 := ⟨rfl, by decide, by decide +kernel, by decide +kernel⟩
  have f173 : jFl RX12 wsX12_session 173 12 39 := ⟨rfl, by decide, by decide +kernel, by decide +kernel⟩
  have f167 : jFl RX12 wsX12_session 167 12 37 := ⟨rfl, by decide, by decide +kernel, by decide +kernel⟩
  have f176 : jFl RX12 wsX12_session 176 12 40 := ⟨rfl, by decide, by decide +kernel, by decide +kernel⟩
  have f170 : jFl RX12 wsX12_session 170 12 38 := ⟨rfl, by decide, by decide +kernel, by decide +kernel⟩
  have f179 : jFl RX12 wsX12_session 179 12 41 := ⟨rfl, by decide, by decide +kernel, by decide +kernel⟩
  have f323 : jFl RX12 wsX12_session 323 12 68 := ⟨rfl, by decide, by decide +kernel, by decide +kernel⟩
  have f74 : jFl RX12 wsX12_session 74 12 6 := ⟨rfl, by decide, by decide +kernel, by decide +kernel⟩
  have f326 : jFl RX12 wsX12_session 326 12 69 := ⟨rfl, by decide, by decide +kernel, by decide +kernel⟩
  have f93 : jFl RX12 wsX12_session 93 12 7 := ⟨rfl, by decide, by decide +kernel, by decide +kernel⟩
  have f149 : jFl RX12 wsX12_session 149 12 28 := ⟨rfl, by decide, by decide +kernel, by decide +kernel⟩
  have f575 : jFl RX12 wsX12_session 575 12 29 := ⟨rfl, by decide, by decide +kernel, by decide +kernel⟩
  have f552 : jFl RX12 wsX12_session 552 12 78 := ⟨rfl, by decide, by decide +kernel, by decide +kernel⟩
  have f578 : jFl RX12 wsX12_session 578 12 30 := ⟨rfl, by decide, by decide +kernel, by decide +kernel⟩
  have f146 : jFl RX12 wsX12_session 146 12 27 := ⟨rfl, by decide, by decide +kernel, by decide +kernel⟩
  have f140 : jFl RX12 wsX12_session 140 12 25 := ⟨rfl, by decide, by decide +kernel, by decide +kernel⟩
  have f529 : jFl RX12 wsX12_session 529 12 24 := ⟨rfl, by decide, by decide +kernel, by decide +kernel⟩
  have f134 : jFl RX12 wsX12_session 134 12 22 := ⟨rfl, by decide, by decide +kernel, by decide +kernel⟩
  refine jr_iload_n hE dX12_session_0 1 rfl ?_
  refine jr_kSi (n := 1) (As := [.int m]) (rest := []) hE dX12_session_1 (fun l => c_m_isRow l G m) gX12_session_X12_isRow rfl (by decide +kernel) ⟨rfl, rfl, by decide, by decide⟩ (by decide) rfl rfl (Nat.le_of_ble_eq_true rfl) (trivial) (fun r3 F1 q2 => ?_)
  obtain ⟨eq2, rq2⟩ := q2
  subst eq2 rq2
  refine jr_if_ne (tgt := 9) hE dX12_session_4 (by decide) (fun c4 => ?_) (fun c4 => ?_)
  · have hrk : rowP m := b2i_1 c4
    obtain ⟨k, hk, rfl⟩ := rowP_nI hrk
    obtain ⟨z1k, z2k, z3k, z4k⟩ := hRW k hk
    have hrnk := nI_rn hk
    have rest : ∀ (b : Int32), b = b2i ((s.1 k).length ≤ 40 ∧ 0 < s.2.2.2.1.length) → J E L F 0 0 35 [(3, .int (0 : Int32)), (2, .int b), (0, .ref o), (1, .int (nI k))] [] := by
      intro b hb0
      have loop : ∀ (r0 i : Nat) (b : Int32), i + r0 = s.2.2.2.1.length → b = b2i (((s.1 k).length ≤ 40 ∧ 0 < s.2.2.2.1.length) ∧ ∀ t, t < i → s.2.2.2.2.2.1 t ≠ none) → J E L F 0 0 35 [(3, .int (nI i)), (2, .int b), (0, .ref o), (1, .int (nI k))] [] := by
        intro r0
        induction r0 with
        | zero =>
          intro i b hi hb
          have hiN : i = s.2.2.2.1.length := by omega
          subst hiN
          refine jr_iload_n hE dX12_session_35 0 rfl ?_
          refine jr_aload_n hE dX12_session_36 2 rfl ?_
          refine jr_get hE dX12_session_37 f533 M0.ob rfl ?_
          rw [hpI.2.2.1.1]
          refine jr_icmp_ge (tgt := 68) hE dX12_session_40 (by decide) (fun c_40 => ?_) (fun c_40 => absurd (nI_le (a := s.2.2.2.1.length) (by omega) (by omega)) c_40)
          refine jr_iload_n hE dX12_session_68 1 rfl ?_
          refine jr_if_ne (tgt := 75) hE dX12_session_69 (by decide) (fun c69 => ?_) (fun c69 => ?_)
          · have hok := b2i_1 (p := ((s.1 k).length ≤ 40 ∧ 0 < s.2.2.2.1.length) ∧ ∀ t, t < s.2.2.2.1.length → s.2.2.2.2.2.1 t ≠ none) (by rw [← hb]; exact c69)
            have hlk40 := hok.1.1
            have hl0 := hok.1.2
            have htS := tS_s hpI.2.2.2.2.1 hs4 hok.2 _ (Nat.le_refl _)
            have htS0 := htS.1
            have htS1 := htS.2
            have htok : ∀ j, j < s.2.2.2.1.length → _ := fun j hj => td_ok hpI.2.2.2.2.1 (j := j) (by omega) (hok.2 j hj)
            have htB0 : ∀ j, j < s.2.2.2.1.length → bB (w 23) (66 * j + 33 * 0) 33 := fun j hj => bB1' (htok j hj).2.2.2.2 (33 * 0) 33 (by decide)
            have htB1 : ∀ j, j < s.2.2.2.1.length → bB (w 23) (66 * j + 33 * 1) 33 := fun j hj => bB1' (htok j hj).2.2.2.2 (33 * 1) 33 (by decide)
            have htR0 : ∀ j, j < s.2.2.2.1.length → rdX (fT (w 23) 0 j) (vT (w 23) 0 j) := fun j hj => (htok j hj).2.2.1
            have htR1 : ∀ j, j < s.2.2.2.1.length → rdX (fT (w 23) 1 j) (vT (w 23) 1 j) := fun j hj => (htok j hj).2.2.2.1
            have htSon0 : onE PP (tSs s.2.2.2.2.2.1 0 s.2.2.2.1.length) := by rw [← htS0]; exact tS_on htR0 _ (Nat.le_refl _)
            have htSon1 : onE PP (tSs s.2.2.2.2.2.1 1 s.2.2.2.1.length) := by rw [← htS1]; exact tS_on htR1 _ (Nat.le_refl _)
            refine jr_aload_n hE dX12_session_75 2 rfl ?_
            refine jr_iconst (v := (1 : Int32)) hE dX12_session_76 (by decide) ?_
            refine jr_aload_n hE dX12_session_77 2 rfl ?_
            refine jr_get hE dX12_session_78 f533 M0.ob rfl ?_
            rw [hpI.2.2.1.1]
            refine jr_iadd (z := nI (1 + s.2.2.2.1.length)) hE dX12_session_81 (nI_add 1 _) ?_
            refine jr_kVi (ci := 12) (n := 1) (As := [.int (nI (1 + s.2.2.2.1.length))]) (rest := []) hE dX12_session_82 (fun l => c_m_isSpent l G o a v n g w s.2.2.1 (1 + s.2.2.2.1.length)) gX12_session_X12_isSpent rfl M0.ob rfl (by decide +kernel) ⟨rfl, rfl, by decide, by decide⟩ (by decide) rfl rfl (Nat.le_of_ble_eq_true rfl) (⟨M0, hpI.2.1.1, by omega, by omega⟩) (fun r6 F4 q5 => ?_)
            obtain ⟨eq5, rq5⟩ := q5
            subst eq5 rq5
            refine jr_if_eq (tgt := 91) hE dX12_session_85 (by decide) (fun c85 => ?_) (fun c85 => ?_)
            · have hw48 : ¬ 48 < s.2.2.1 + (1 + s.2.2.2.1.length) := fun h => absurd (b2i_t h) (by rw [c85]; decide)
              refine jr_aload_n hE dX12_session_91 2 rfl ?_
              refine jr_kVi (ci := 12) (n := 0) (As := []) (rest := []) hE dX12_session_92 (fun l => c_m_join l G o a v n g w s.2.2.1 s.2.2.2.1.length) gX12_session_X12_join rfl M0.ob rfl (by decide +kernel) ⟨rfl, rfl, by decide, by decide⟩ (by decide) rfl rfl (Nat.le_of_ble_eq_true rfl) (⟨M0, hK, hC, htg, hrd, hpI.2.1.1, hpI.2.2.1.1, hpI.2.2.1.2.1, hpI.2.2.1.2.2.1, fun t ht => (hpI.2.2.1.2.2.2 t ht).2⟩) (fun r9 F7 q8 => ?_)
              obtain ⟨n10, v10, w10, M10, hf10, h3110, hvv10, hw10, hs10, h7710, hod10, r9e, P10⟩ := q8
              have O10 := (mO.rf o a F).tr P10
              rw [hqS] at hs10
              rw [hqS] at hod10
              rw [hqS] at r9e
              subst r9e
              refine jr_if_ne (tgt := 101) hE dX12_session_95 (by decide) (fun c95 => ?_) (fun c95 => ?_)
              · have hQ : (qSs s.2.2.2.1 s.2.2.2.1.length) ≠ none := b2i_1 c95
                have hJ : seJ s ≠ none := hQ
                have hxy11 := hs10.xy hQ
                have hj11 : n10 77 = some (exE (qSs s.2.2.2.1 s.2.2.2.1.length)) := h7710.trans hxy11.1
                have ho11 : v10 78 = b2i (eyN (qSs s.2.2.2.1 s.2.2.2.1.length) % 2 = 1) := by
                  obtain ⟨xy, hxy⟩ := Option.ne_none_iff_exists'.mp hQ
                  rw [hod10 xy.1 xy.2 hxy, hxy]
                  rfl
                refine jr_aload_n hE dX12_session_101 2 rfl ?_
                refine jr_dup hE dX12_session_102 rfl ?_
                refine jr_get hE dX12_session_103 f478 M10.ob rfl ?_
                rw [h3110]
                refine jr_iconst (v := (1 : Int32)) hE dX12_session_106 (by decide) ?_
                refine jr_iadd (z := nI (s.2.2.1 + s.2.2.2.1.length + 1)) hE dX12_session_107 (nI_add _ 1) ?_
                refine jr_put (ty := .int) hE dX12_session_108 f478 M10.ob rfl (by decide +kernel) rfl rfl (Nat.le_of_ble_eq_true rfl) (fun F12 g13 u14 => ?_)
                have H15 := M10.setV (v' := uz v10 31 (nI (s.2.2.1 + s.2.2.2.1.length + 1))) g13 u14
                have O16 := O10.so u14
                obtain ⟨v17, e17, hvv17, hvx17⟩ := uz_ab v10 31 (nI (s.2.2.1 + s.2.2.2.1.length + 1))
                rw [e17] at H15
                refine jr_aload_n hE dX12_session_111 2 rfl ?_
                refine jr_iconst (v := (0 : Int32)) hE dX12_session_112 (by decide) ?_
                refine jr_aload_n hE dX12_session_113 2 rfl ?_
                refine jr_get hE dX12_session_114 f356 H15.ob rfl ?_
                have hV18 : v17 16 = (nI s.2.2.2.1.length) := ((hvv17 16 (by decide)).trans (hvv10 16 (by decide) (by decide) (by decide))).trans hpI.2.2.1.1
                have hK19 : mK n10 g := hK.fr (hf10 0 (by decide)) (hf10 1 (by decide)) (hf10 32 (by decide)) (hf10 33 (by decide))
                have hC20 : mC n10 := hC.fr (hf10 4 (by decide)) (hf10 5 (by decide)) (hf10 6 (by decide)) (hf10 7 (by decide)) (hf10 48 (by decide))
                refine jr_kVv (ci := 12) (n := 2) (As := [.int (0 : Int32), .ref (a 80)]) (rest := []) hE dX12_session_117 (fun l => c_m_addTold l G o a v17 n10 g w10 0 s.2.2.2.1.length) gX12_session_X12_addTold rfl H15.ob rfl (by decide +kernel) ⟨rfl, rfl, by decide, by decide⟩ (by decide) rfl rfl (Nat.le_of_ble_eq_true rfl) (⟨H15, hK19, hC20, hV18, hpI.2.2.1.2.1, by decide, by rw [show w10 23 = w 23 from (hw10 23 (by decide))]; exact htB0, by rw [show w10 23 = w 23 from (hw10 23 (by decide))]; exact htR0⟩) (fun F21 q22 => ?_)
                obtain ⟨n23, M23, hf23, hs23, P23⟩ := q22
                rw [show w10 23 = w 23 from (hw10 23 (by decide))] at M23
                rw [show w10 23 = w 23 from (hw10 23 (by decide))] at hs23
                rw [htS0] at M23
                rw [htS0] at hs23
                have O23 := O16.tr P23
                obtain ⟨w23, e23, hw23, hx23⟩ := uz_ab w10 80 (wrt (w10 80) (33 * 0) (pbE (tSs s.2.2.2.2.2.1 0 s.2.2.2.1.length)))
                rw [e23] at M23
                have ho23 : bl (w23 80) 0 33 = pbE (tSs s.2.2.2.2.2.1 0 s.2.2.2.1.length) := by rw [hx23]; exact bl_w0 (pbE_len _) (pbE_lt _)
                refine jr_aload_n hE dX12_session_120 2 rfl ?_
                refine jr_iconst (v := (1 : Int32)) hE dX12_session_121 (by decide) ?_
                refine jr_aload_n hE dX12_session_122 2 rfl ?_
                refine jr_get hE dX12_session_123 f356 M23.ob rfl ?_
                have hK24 : mK n23 g := hK19.fr (hf23 0 (by decide)) (hf23 1 (by decide)) (hf23 32 (by decide)) (hf23 33 (by decide))
                have hC25 : mC n23 := hC20.fr (hf23 4 (by decide)) (hf23 5 (by decide)) (hf23 6 (by decide)) (hf23 7 (by decide)) (hf23 48 (by decide))
                refine jr_kVv (ci := 12) (n := 2) (As := [.int (1 : Int32), .ref (a 80)]) (rest := []) hE dX12_session_126 (fun l => c_m_addTold l G o a v17 n23 g w23 1 s.2.2.2.1.length) gX12_session_X12_addTold rfl M23.ob rfl (by decide +kernel) ⟨rfl, rfl, by decide, by decide⟩ (by decide) rfl rfl (Nat.le_of_ble_eq_true rfl) (⟨M23, hK24, hC25, hV18, hpI.2.2.1.2.1, by decide, by rw [show w23 23 = w 23 from ((hw23 23 (by decide)).trans (hw10 23 (by decide)))]; exact htB1, by rw [show w23 23 = w 23 from ((hw23 23 (by decide)).trans (hw10 23 (by decide)))]; exact htR1⟩) (fun F26 q27 => ?_)
                obtain ⟨n28, M28, hf28, hs28, P28⟩ := q27
                rw [show w23 23 = w 23 from ((hw23 23 (by decide)).trans (hw10 23 (by decide)))] at M28
                rw [show w23 23 = w 23 from ((hw23 23 (by decide)).trans (hw10 23 (by decide)))] at hs28
                rw [htS1] at M28
                rw [htS1] at hs28
                have O28 := O23.tr P28
                obtain ⟨w28, e28, hw28, hx28⟩ := uz_ab w23 80 (wrt (w23 80) (33 * 1) (pbE (tSs s.2.2.2.2.2.1 1 s.2.2.2.1.length)))
                rw [e28] at M28
                have ho28 : bl (w28 80) 0 66 = pbE (tSs s.2.2.2.2.2.1 0 s.2.2.2.1.length) ++ pbE (tSs s.2.2.2.2.2.1 1 s.2.2.2.1.length) := by rw [hx28]; exact bl_ext ho23 (pbE_len _) (pbE_lt _) rfl
                refine jr_aload_n hE dX12_session_129 2 rfl ?_
                refine jr_bipush (v := (7 : Int32)) hE dX12_session_130 (by decide) ?_
                have hT29 : tgOK w28 := htg.fr ((hw28 50 (by decide)).trans ((hw23 50 (by decide)).trans (hw10 50 (by decide)))) ((hw28 51 (by decide)).trans ((hw23 51 (by decide)).trans (hw10 51 (by decide))))
                have hD30 : rdOK w28 := hrd.fr ((hw28 52 (by decide)).trans ((hw23 52 (by decide)).trans (hw10 52 (by decide))))
                refine jr_kVv (ci := 12) (n := 1) (As := [.int (7 : Int32)]) (rest := []) hE dX12_session_132 (fun l => c_m_begin l G o a v17 n28 g w28 7) gX12_session_X12_begin rfl M28.ob rfl (by decide +kernel) ⟨rfl, rfl, by decide, by decide⟩ (by decide) rfl rfl (Nat.le_of_ble_eq_true rfl) (⟨M28, by decide, hT29, hD30⟩) (fun F31 q32 => ?_)
                obtain ⟨v33, w33, M33, hvv33, hw33, hX33, P33⟩ := q32
                have O33 := O28.tr P33
                refine jr_aload_n hE dX12_session_135 2 rfl ?_
                refine jr_aload_n hE dX12_session_136 2 rfl ?_
                refine jr_get hE dX12_session_137 f356 M33.ob rfl ?_
                refine jr_iconst (v := (0 : Int32)) hE dX12_session_140 (by decide) ?_
                refine jr_bipush (v := (66 : Int32)) hE dX12_session_141 (by decide) ?_
                have hC34 : bl (w33 80) 0 66 = (pbE (tSs s.2.2.2.2.2.1 0 s.2.2.2.1.length) ++ pbE (tSs s.2.2.2.2.2.1 1 s.2.2.2.1.length)) := by
                  rw [show w33 80 = w28 80 from (hw33 80 (by decide))]
                  exact ho28
                refine jr_kVv (ci := 12) (n := 3) (As := [.ref (a 80), .int (0 : Int32), .int (66 : Int32)]) (rest := []) hE dX12_session_143 (fun l => c_m_putAll l G o a v33 n28 g w33 _ 80 0 66 66) gX12_session_X12_putAll rfl M33.ob rfl (by decide +kernel) ⟨rfl, rfl, by decide, by decide⟩ (by decide) rfl rfl (Nat.le_of_ble_eq_true rfl) (⟨M33, hX33, by decide, by decide, by omega, by decide, by simp only [List.length_append, sha_len, bl_len, bex_len, xorL_len, pbE_len, List.length_cons, List.length_nil, List.length_replicate]; omega, bB_of hC34 (app_lt (pbE_lt _) (pbE_lt _))⟩) (fun F35 q36 => ?_)
                obtain ⟨v37, w37, M37, hvv37, hw37, hX37, P37⟩ := q36
                rw [hC34] at hX37
                have O37 := O33.tr P37
                refine jr_aload_n hE dX12_session_146 2 rfl ?_
                refine jr_aload_n hE dX12_session_147 2 rfl ?_
                refine jr_get hE dX12_session_148 f350 M37.ob rfl ?_
                have hN38 : n28 77 = some (exE (qSs s.2.2.2.1 s.2.2.2.1.length)) := ((hf28 77 (by decide)).trans (hf23 77 (by decide))).trans hj11
                refine jr_kVv (ci := 12) (n := 1) (As := [.ref (a 77)]) (rest := []) hE dX12_session_151 (fun l => c_m_putNumber l G o a v37 n28 g w37 _ 77 (exE (qSs s.2.2.2.1 s.2.2.2.1.length))) gX12_session_X12_putNumber rfl M37.ob rfl (by decide +kernel) ⟨rfl, rfl, by decide, by decide⟩ (by decide) rfl rfl (Nat.le_of_ble_eq_true rfl) (⟨M37, hX37, by decide, hN38, by simp only [List.length_append, sha_len, bl_len, bex_len, xorL_len, pbE_len, List.length_cons, List.length_nil, List.length_replicate]; omega⟩) (fun F39 q40 => ?_)
                obtain ⟨v41, w41, M41, hvv41, hw41, hX41, P41⟩ := q40
                have O41 := O37.tr P41
                refine jr_aload_n hE dX12_session_154 2 rfl ?_
                refine jr_aload_n hE dX12_session_155 2 rfl ?_
                refine jr_get hE dX12_session_156 f100 M41.ob rfl ?_
                refine jr_bipush (v := (100 : Int32)) hE dX12_session_159 (by decide) ?_
                refine jr_iload_n hE dX12_session_161 3 rfl ?_
                refine jr_imul (z := nI (100 * k)) hE dX12_session_162 (pk_mul 100 k) ?_
                refine jr_aload_n hE dX12_session_163 2 rfl ?_
                refine jr_get hE dX12_session_164 f96 M41.ob rfl ?_
                refine jr_iload_n hE dX12_session_167 3 rfl ?_
                refine jr_iald (v := nI (s.1 k).length) hE dX12_session_168 (M41.I (k := 8) (N := 16) (by decide)) (vp_in_nI (by omega) (by decide)) (by rw [nI_clamp (by omega)]; exact (congrFun ((hw41 8 (by decide)).trans ((hw37 8 (by decide)).trans ((hw33 8 (by decide)).trans ((hw28 8 (by decide)).trans ((hw23 8 (by decide)).trans (hw10 8 (by decide))))))) k).trans z1k) ?_
                have hC42 : bl (w41 9) (100 * k) ((s.1 k).length) = s.1 k := by
                  rw [show w41 9 = w 9 from ((hw41 9 (by decide)).trans ((hw37 9 (by decide)).trans ((hw33 9 (by decide)).trans ((hw28 9 (by decide)).trans ((hw23 9 (by decide)).trans (hw10 9 (by decide)))))))]
                  exact z2k
                refine jr_kVv (ci := 12) (n := 3) (As := [.ref (a 9), .int (nI (100 * k)), .int (nI (s.1 k).length)]) (rest := []) hE dX12_session_169 (fun l => c_m_putAll l G o a v41 n28 g w41 _ 9 (100 * k) ((s.1 k).length) 1600) gX12_session_X12_putAll rfl M41.ob rfl (by decide +kernel) ⟨rfl, rfl, by decide, by decide⟩ (by decide) rfl rfl (Nat.le_of_ble_eq_true rfl) (⟨M41, hX41, by decide, by decide, by omega, by decide, by simp only [List.length_append, sha_len, bl_len, bex_len, xorL_len, pbE_len, List.length_cons, List.length_nil, List.length_replicate]; omega, bB_of hC42 z4k⟩) (fun F43 q44 => ?_)
                obtain ⟨v45, w45, M45, hvv45, hw45, hX45, P45⟩ := q44
                rw [hC42] at hX45
                have O45 := O41.tr P45
                refine jr_aload_n hE dX12_session_172 2 rfl ?_
                refine jr_aload_n hE dX12_session_173 2 rfl ?_
                refine jr_get hE dX12_session_174 f143 M45.ob rfl ?_
                have hK46 : mK n28 g := hK24.fr (hf28 0 (by decide)) (hf28 1 (by decide)) (hf28 32 (by decide)) (hf28 33 (by decide))
                have hD47 : rdOK w45 := hD30.fr ((hw45 52 (by decide)).trans ((hw41 52 (by decide)).trans ((hw37 52 (by decide)).trans (hw33 52 (by decide)))))
                refine jr_kVv (ci := 12) (n := 1) (As := [.ref (a 26)]) (rest := []) hE dX12_session_177 (fun l => c_m_endNumber l G o a v45 n28 g w45 _ 26 _) gX12_session_X12_endNumber rfl M45.ob rfl (by decide +kernel) ⟨rfl, rfl, by decide, by decide⟩ (by decide) rfl rfl (Nat.le_of_ble_eq_true rfl) (⟨M45, hK46, hX45, hD47, by decide, rfl⟩) (fun F48 q49 => ?_)
                obtain ⟨w50, M50, hw50, hs50, P50⟩ := q49
                have O50 := O45.tr P50
                obtain ⟨BB, eBB⟩ : ∃ x, x = bnum (sha (sha (tgb 7) ++ sha (tgb 7) ++ (pbE (tSs s.2.2.2.2.2.1 0 s.2.2.2.1.length) ++ pbE (tSs s.2.2.2.2.2.1 1 s.2.2.2.1.length)) ++ bex (exE (qSs s.2.2.2.1 s.2.2.2.1.length)) 32 ++ s.1 k)) % NN := ⟨_, rfl⟩
                rw [← eBB] at M50
                obtain ⟨n50, e50, hf50, hv50⟩ := uz_ab n28 26 (some BB)
                rw [e50] at M50
                have hP51 : sS n50 (tSs s.2.2.2.2.2.1 1 s.2.2.2.1.length) := hs28.fr (hf50 68 (by decide)) (hf50 69 (by decide)) (hf50 70 (by decide))
                obtain ⟨T1, eT1⟩ : ∃ Y : EP, Y = (tSs s.2.2.2.2.2.1 1 s.2.2.2.1.length) := ⟨_, rfl⟩
                have hs52 : sS n50 T1 := by rw [eT1]; exact hP51
                have hon52 : onE PP T1 := by rw [eT1]; exact htSon1
                have hT1on : onE PP T1 := by rw [eT1]; exact htSon1
                have hBB : seB s (s.1 k) = BB := by rw [eBB]; rfl
                have hBN : BB < NN := by rw [eBB]; exact Nat.mod_lt _ NN0
                have hK53 : mK n50 g := hK46.fr (hf50 0 (by decide)) (hf50 1 (by decide)) (hf50 32 (by decide)) (hf50 33 (by decide))
                have hC54 : mC n50 := hC25.fr ((hf50 4 (by decide)).trans (hf28 4 (by decide))) ((hf50 5 (by decide)).trans (hf28 5 (by decide))) ((hf50 6 (by decide)).trans (hf28 6 (by decide))) ((hf50 7 (by decide)).trans (hf28 7 (by decide))) ((hf50 48 (by decide)).trans (hf28 48 (by decide)))
                have U55 : (∀ (F1 : Nat → va_E) (n1 : Nat → Option Nat), MW G L F1 o a v45 n1 g w50 → (∀ z, z ∉ [34, 35, 36, 37, 38, 39, 40, 41, 42, 43, 44, 45, 46, 47] → n1 z = n50 z) → pS n1 (emul PP BB T1) → mO o a F48 F1 → J E L F1 0 0 217 [(2, .int b), (0, .ref o), (1, .int (nI k))] []) → J E L F48 0 0 180 [(3, .int (nI s.2.2.2.1.length)), (2, .int b), (0, .ref o), (1, .int (nI k))] [] := by
                  intro cont
                  refine jr_aload_n hE dX12_session_180 2 rfl ?_
                  refine jr_get hE dX12_session_181 f329 M50.ob rfl ?_
                  refine jr_kSi (n := 1) (As := [.ref (a 70)]) (rest := []) hE dX12_session_184 (fun l => c_m_isNull l G o a v45 n50 g w50 70 (if T1 = none then 0 else 1)) gX12_session_X12_isNull rfl (by decide +kernel) ⟨rfl, rfl, by decide, by decide⟩ (by decide) rfl rfl (Nat.le_of_ble_eq_true rfl) (⟨M50, by decide, hs52.z⟩) (fun r58 F56 q57 => ?_)
                  obtain ⟨eq57, rq57⟩ := q57
                  subst eq57 rq57
                  refine jr_if_ne (tgt := 209) hE dX12_session_187 (by decide) (fun c187 => ?_) (fun c187 => ?_)
                  · have hT1n : T1 = none := Classical.byContradiction (fun h => by have q := b2i_1 c187; rw [if_neg h] at q; exact absurd q (by decide))
                    refine jr_aload_n hE dX12_session_209 2 rfl ?_
                    refine jr_get hE dX12_session_210 f173 M50.ob rfl ?_
                    refine jr_lconst (v := (0 : Int64)) hE dX12_session_213 (by decide) ?_
                    refine jr_kSv (n := 2) (As := [.ref (a 39), .long (0 : Int64)]) (rest := []) hE dX12_session_214 (fun l => c_m_small l G o a v45 n50 g w50 39 0) gX12_session_X12_small rfl (by decide +kernel) ⟨rfl, rfl, by decide, by decide⟩ (by decide) rfl rfl (Nat.le_of_ble_eq_true rfl) (⟨M50, by decide, by decide⟩) (fun F59 q60 => ?_)
                    obtain ⟨M61, P61⟩ := q60
                    have O61 := (mO.rf o a F48).tr P61
                    obtain ⟨n61, e61, hf61, hv61⟩ := uz_ab n50 39 (some 0)
                    rw [e61] at M61
                    refine jr_lv (lv' := [(2, .int b), (0, .ref o), (1, .int (nI k))]) [1, 2, 3] rfl ?_
                    exact cont F59 n61 M61 (fun z hz => (hf61 z (jnsub (V := [39]) hz [5] rfl))) (by rw [hT1n, emul_none]; exact Or.inl ⟨rfl, hv61⟩) O61
                  · have hT1 : T1 ≠ none := fun h => b2i_0 c187 (if_pos h)
                    refine jr_aload_n hE dX12_session_190 2 rfl ?_
                    refine jr_kVv (ci := 12) (n := 0) (As := []) (rest := []) hE dX12_session_191 (fun l => c_m_fromSum l G o a v45 n50 g w50 T1) gX12_session_X12_fromSum rfl M50.ob rfl (by decide +kernel) ⟨rfl, rfl, by decide, by decide⟩ (by decide) rfl rfl (Nat.le_of_ble_eq_true rfl) (⟨M50, hs52⟩) (fun F62 q63 => ?_)
                    obtain ⟨n64, M64, hf64, hp64, P64⟩ := q63
                    have O64 := (mO.rf o a F48).tr P64
                    refine jr_aload_n hE dX12_session_194 2 rfl ?_
                    have hxy65 := hp64.xy hT1
                    refine jr_kVv (ci := 12) (n := 0) (As := []) (rest := []) hE dX12_session_195 (fun l => c_m_turnIn l G o a v45 n64 g w50 (exE T1) (eyN T1)) gX12_session_X12_turnIn rfl M64.ob rfl (by decide +kernel) ⟨rfl, rfl, by decide, by decide⟩ (by decide) rfl rfl (Nat.le_of_ble_eq_true rfl) (⟨M64, hxy65.1, hxy65.2.1, by rw [some_xy hT1]; exact hT1on⟩) (fun F66 q67 => ?_)
                    obtain ⟨n68, M68, hf68, hq68, P68⟩ := q67
                    rw [some_xy hT1] at hq68
                    have O68 := O64.tr P68
                    refine jr_aload_n hE dX12_session_198 2 rfl ?_
                    refine jr_aload_n hE dX12_session_199 2 rfl ?_
                    refine jr_get hE dX12_session_200 f143 M68.ob rfl ?_
                    have hN69 : n68 26 = some BB := ((hf68 26 (by decide)).trans (hf64 26 (by decide))).trans hv50
                    have hK70 : mK n68 g := hK53.fr ((hf68 0 (by decide)).trans (hf64 0 (by decide))) ((hf68 1 (by decide)).trans (hf64 1 (by decide))) ((hf68 32 (by decide)).trans (hf64 32 (by decide))) ((hf68 33 (by decide)).trans (hf64 33 (by decide)))
                    have hC71 : mC n68 := hC54.fr ((hf68 4 (by decide)).trans (hf64 4 (by decide))) ((hf68 5 (by decide)).trans (hf64 5 (by decide))) ((hf68 6 (by decide)).trans (hf64 6 (by decide))) ((hf68 7 (by decide)).trans (hf64 7 (by decide))) ((hf68 48 (by decide)).trans (hf64 48 (by decide)))
                    refine jr_kVv (ci := 12) (n := 1) (As := [.ref (a 26)]) (rest := []) hE dX12_session_203 (fun l => c_m_multiply l G o a v45 n68 g w50 26 BB T1) gX12_session_X12_multiply rfl M68.ob rfl (by decide +kernel) ⟨rfl, rfl, by decide, by decide⟩ (by decide) rfl rfl (Nat.le_of_ble_eq_true rfl) (⟨M68, hK70, hC71.1, by decide, by decide, hN69, hq68⟩) (fun F72 q73 => ?_)
                    obtain ⟨n74, M74, hf74, hp74, P74⟩ := q73
                    have O74 := O68.tr P74
                    refine jr_goto (tgt := 217) hE dX12_session_206 (by decide) ?_
                    refine jr_lv (lv' := [(2, .int b), (0, .ref o), (1, .int (nI k))]) [1, 2, 3] rfl ?_
                    exact cont F72 n74 M74 (fun z hz => ((hf74 z (jnsub (V := [37, 38, 39, 42, 43, 44, 45, 46, 47, 34, 35, 36]) hz [3, 4, 5, 8, 9, 10, 11, 12, 13, 0, 1, 2] rfl)).trans ((hf68 z (jnsub (V := [40, 41]) hz [6, 7] rfl)).trans (hf64 z (jnsub (V := [37, 38, 39]) hz [3, 4, 5] rfl))))) (hp74) O74
                refine U55 (fun F55 n55 M55 hu55 hy55 P55 => ?_)
                have O55 := O50.tr P55
                refine jr_aload_n hE dX12_session_217 1 rfl ?_
                refine jr_kVv (ci := 12) (n := 0) (As := []) (rest := []) hE dX12_session_218 (fun l => c_m_noSum l G o a v45 n55 g w50) gX12_session_X12_noSum rfl M55.ob rfl (by decide +kernel) ⟨rfl, rfl, by decide, by decide⟩ (by decide) rfl rfl (Nat.le_of_ble_eq_true rfl) (M55) (fun F75 q76 => ?_)
                obtain ⟨n77, M77, hf77, hs77, P77⟩ := q76
                have O77 := O55.tr P77
                refine jr_aload_n hE dX12_session_221 1 rfl ?_
                have hP78 : pS n77 (emul PP BB T1) := hy55.fr (hf77 37 (by decide)) (hf77 38 (by decide)) (hf77 39 (by decide))
                have hK79 : mK n77 g := hK53.fr ((hf77 0 (by decide)).trans (hu55 0 (by decide))) ((hf77 1 (by decide)).trans (hu55 1 (by decide))) ((hf77 32 (by decide)).trans (hu55 32 (by decide))) ((hf77 33 (by decide)).trans (hu55 33 (by decide)))
                have hC80 : mC n77 := hC54.fr ((hf77 4 (by decide)).trans (hu55 4 (by decide))) ((hf77 5 (by decide)).trans (hu55 5 (by decide))) ((hf77 6 (by decide)).trans (hu55 6 (by decide))) ((hf77 7 (by decide)).trans (hu55 7 (by decide))) ((hf77 48 (by decide)).trans (hu55 48 (by decide)))
                have hon80 : onE PP (emul PP BB T1) := (onE_mul gdP hT1on _)
                have hon81 : onE PP none := trivial
                refine jr_kVv (ci := 12) (n := 0) (As := []) (rest := []) hE dX12_session_222 (fun l => c_m_addToSum l G o a v45 n77 g w50 none (emul PP BB T1)) gX12_session_X12_addToSum rfl M77.ob rfl (by decide +kernel) ⟨rfl, rfl, by decide, by decide⟩ (by decide) rfl rfl (Nat.le_of_ble_eq_true rfl) (⟨M77, hK79, hC80.1, hP78, hon80, hs77, hon81⟩) (fun F83 q84 => ?_)
                obtain ⟨n85, M85, hf85, hs85, P85⟩ := q84
                have O85 := O77.tr P85
                rw [eadd_0'] at hs85
                have hK86 : mK n85 g := hK79.fr (hf85 0 (by decide)) (hf85 1 (by decide)) (hf85 32 (by decide)) (hf85 33 (by decide))
                have hC87 : mC n85 := hC80.fr (hf85 4 (by decide)) (hf85 5 (by decide)) (hf85 6 (by decide)) (hf85 7 (by decide)) (hf85 48 (by decide))
                have hC88 : bl (w50 80) 0 66 = (pbE (tSs s.2.2.2.2.2.1 0 s.2.2.2.1.length) ++ pbE (tSs s.2.2.2.2.2.1 1 s.2.2.2.1.length)) := by
                  rw [show w50 80 = w33 80 from ((hw50 80 (by decide)).trans ((hw45 80 (by decide)).trans ((hw41 80 (by decide)).trans (hw37 80 (by decide)))))]
                  exact hC34
                have h33 : bl (w50 80) 0 33 = pbE (tSs s.2.2.2.2.2.1 0 s.2.2.2.1.length) := pb_tk hC88
                have U89 : (∀ (F1 : Nat → va_E) (n1 : Nat → Option Nat), MW G L F1 o a v45 n1 g w50 → (∀ z, z ∉ [34, 35, 36, 37, 38, 39, 40, 41, 42, 43, 44, 45, 46, 47, 49, 68, 69, 70] → n1 z = n85 z) → sS n1 (eadd PP (emul PP BB T1) (tSs s.2.2.2.2.2.1 0 s.2.2.2.1.length)) → mO o a F83 F1 → J E L F1 0 0 278 [(2, .int b), (0, .ref o), (1, .int (nI k))] []) → J E L F83 0 0 225 [(2, .int b), (0, .ref o), (1, .int (nI k))] [] := by
                  intro cont
                  refine jr_aload_n hE dX12_session_225 1 rfl ?_
                  refine jr_get hE dX12_session_226 f356 M85.ob rfl ?_
                  refine jr_iconst (v := (0 : Int32)) hE dX12_session_229 (by decide) ?_
                  refine jr_iald (v := nI ((pbE (tSs s.2.2.2.2.2.1 0 s.2.2.2.1.length)).getD 0 0)) hE dX12_session_230 (M85.I (k := 80) (N := 66) (by decide)) (vp_in_nI (n := 0) (by decide) (by decide)) (first_b hC88) ?_
                  refine jr_if_eq (tgt := 278) hE dX12_session_231 (by decide) (fun c231 => ?_) (fun c231 => ?_)
                  · refine jr_lv (lv' := [(2, .int b), (0, .ref o), (1, .int (nI k))]) [0, 1, 2] rfl ?_
                    exact cont F83 n85 M85 (fun z hz => rfl) (by rw [pb0.mp ((nI_eq (Nat.lt_trans (gd_lt (pbE_lt _) 0) (by decide)) (by decide)).mp c231), eadd_0]; exact hs85) (mO.rf o a F83)
                  · have hT0 : (tSs s.2.2.2.2.2.1 0 s.2.2.2.1.length) ≠ none := fun h => c231 (by rw [pb0.mpr h]; rfl)
                    refine jr_aload_n hE dX12_session_234 1 rfl ?_
                    refine jr_aload_n hE dX12_session_235 1 rfl ?_
                    refine jr_get hE dX12_session_236 f356 M85.ob rfl ?_
                    refine jr_iconst (v := (0 : Int32)) hE dX12_session_239 (by decide) ?_
                    refine jr_kVi (ci := 12) (n := 2) (As := [.ref (a 80), .int (0 : Int32)]) (rest := []) hE dX12_session_240 (fun l => c_m_reads l G o a v45 n85 g w50 80 0 66 ((pbE (tSs s.2.2.2.2.2.1 0 s.2.2.2.1.length)).getD 0 0) (bnum ((pbE (tSs s.2.2.2.2.2.1 0 s.2.2.2.1.length)).drop 1))) gX12_session_X12_reads rfl M85.ob rfl (by decide +kernel) ⟨rfl, rfl, by decide, by decide⟩ (by decide) rfl rfl (Nat.le_of_ble_eq_true rfl) (⟨M85, hK86, hC87, by decide, by omega, by decide, (bB_of h33 (pbE_lt _)), (rd_of h33).1.symm, (rd_of h33).2.symm⟩) (fun r92 F90 q91 => ?_)
                    obtain ⟨n93, M93, hf93, hq93, rfl, P93⟩ := q91
                    have O93 := (mO.rf o a F83).tr P93
                    refine jr_istore_n (lv' := [(3, .int (b2i (rdX ((pbE (tSs s.2.2.2.2.2.1 0 s.2.2.2.1.length)).getD 0 0) (bnum ((pbE (tSs s.2.2.2.2.2.1 0 s.2.2.2.1.length)).drop 1))))), (2, .int b), (0, .ref o), (1, .int (nI k))]) hE dX12_session_243 (by decide) rfl ?_
                    have hq94 : qE n93 (tSs s.2.2.2.2.2.1 0 s.2.2.2.1.length) := by
                      have q := (hq93 (pbE_rd htSon0 hT0).1)
                      rwa [(pbE_rd htSon0 hT0).2] at q
                    refine jr_aload_n hE dX12_session_244 2 rfl ?_
                    refine jr_get hE dX12_session_245 f167 M93.ob rfl ?_
                    refine jr_aload_n hE dX12_session_248 2 rfl ?_
                    refine jr_get hE dX12_session_249 f176 M93.ob rfl ?_
                    refine jr_kSv (n := 2) (As := [.ref (a 37), .ref (a 40)]) (rest := []) hE dX12_session_252 (fun l => c_m_set l G o a v45 n93 g w50 37 40) gX12_session_X12_set rfl (by decide +kernel) ⟨rfl, rfl, by decide, by decide⟩ (by decide) rfl rfl (Nat.le_of_ble_eq_true rfl) (⟨M93, by decide, by decide⟩) (fun F95 q96 => ?_)
                    obtain ⟨M97, P97⟩ := q96
                    have O97 := O93.tr P97
                    obtain ⟨n97, e97, hf97, hv97⟩ := uz_ab n93 37 (n93 40)
                    rw [e97] at M97
                    refine jr_aload_n hE dX12_session_255 2 rfl ?_
                    refine jr_get hE dX12_session_256 f170 M97.ob rfl ?_
                    refine jr_aload_n hE dX12_session_259 2 rfl ?_
                    refine jr_get hE dX12_session_260 f179 M97.ob rfl ?_
                    refine jr_kSv (n := 2) (As := [.ref (a 38), .ref (a 41)]) (rest := []) hE dX12_session_263 (fun l => c_m_set l G o a v45 n97 g w50 38 41) gX12_session_X12_set rfl (by decide +kernel) ⟨rfl, rfl, by decide, by decide⟩ (by decide) rfl rfl (Nat.le_of_ble_eq_true rfl) (⟨M97, by decide, by decide⟩) (fun F98 q99 => ?_)
                    obtain ⟨M100, P100⟩ := q99
                    have O100 := O97.tr P100
                    obtain ⟨n100, e100, hf100, hv100⟩ := uz_ab n97 38 (n97 41)
                    rw [e100] at M100
                    refine jr_aload_n hE dX12_session_266 2 rfl ?_
                    refine jr_get hE dX12_session_267 f173 M100.ob rfl ?_
                    refine jr_lconst (v := (1 : Int64)) hE dX12_session_270 (by decide) ?_
                    refine jr_kSv (n := 2) (As := [.ref (a 39), .long (1 : Int64)]) (rest := []) hE dX12_session_271 (fun l => c_m_small l G o a v45 n100 g w50 39 1) gX12_session_X12_small rfl (by decide +kernel) ⟨rfl, rfl, by decide, by decide⟩ (by decide) rfl rfl (Nat.le_of_ble_eq_true rfl) (⟨M100, by decide, by decide⟩) (fun F101 q102 => ?_)
                    obtain ⟨M103, P103⟩ := q102
                    have O103 := O100.tr P103
                    obtain ⟨n103, e103, hf103, hv103⟩ := uz_ab n100 39 (some 1)
                    rw [e103] at M103
                    have hp104 : pS n103 (tSs s.2.2.2.2.2.1 0 s.2.2.2.1.length) := hq94.p (((hf103 37 (by decide)).trans (hf100 37 (by decide))).trans hv97) ((hf103 38 (by decide)).trans (hv100.trans (hf97 41 (by decide)))) hv103
                    refine jr_aload_n hE dX12_session_274 2 rfl ?_
                    have hP105 : sS n103 (emul PP BB T1) := hs85.fr ((hf103 68 (by decide)).trans ((hf100 68 (by decide)).trans ((hf97 68 (by decide)).trans (hf93 68 (by decide))))) ((hf103 69 (by decide)).trans ((hf100 69 (by decide)).trans ((hf97 69 (by decide)).trans (hf93 69 (by decide))))) ((hf103 70 (by decide)).trans ((hf100 70 (by decide)).trans ((hf97 70 (by decide)).trans (hf93 70 (by decide)))))
                    have hK106 : mK n103 g := hK86.fr ((hf103 0 (by decide)).trans ((hf100 0 (by decide)).trans ((hf97 0 (by decide)).trans (hf93 0 (by decide))))) ((hf103 1 (by decide)).trans ((hf100 1 (by decide)).trans ((hf97 1 (by decide)).trans (hf93 1 (by decide))))) ((hf103 32 (by decide)).trans ((hf100 32 (by decide)).trans ((hf97 32 (by decide)).trans (hf93 32 (by decide))))) ((hf103 33 (by decide)).trans ((hf100 33 (by decide)).trans ((hf97 33 (by decide)).trans (hf93 33 (by decide)))))
                    have hC107 : mC n103 := hC87.fr ((hf103 4 (by decide)).trans ((hf100 4 (by decide)).trans ((hf97 4 (by decide)).trans (hf93 4 (by decide))))) ((hf103 5 (by decide)).trans ((hf100 5 (by decide)).trans ((hf97 5 (by decide)).trans (hf93 5 (by decide))))) ((hf103 6 (by decide)).trans ((hf100 6 (by decide)).trans ((hf97 6 (by decide)).trans (hf93 6 (by decide))))) ((hf103 7 (by decide)).trans ((hf100 7 (by decide)).trans ((hf97 7 (by decide)).trans (hf93 7 (by decide))))) ((hf103 48 (by decide)).trans ((hf100 48 (by decide)).trans ((hf97 48 (by decide)).trans (hf93 48 (by decide)))))
                    have hon107 : onE PP (tSs s.2.2.2.2.2.1 0 s.2.2.2.1.length) := hq94.on
                    have hon108 : onE PP (emul PP BB T1) := hon80
                    refine jr_kVv (ci := 12) (n := 0) (As := []) (rest := []) hE dX12_session_275 (fun l => c_m_addToSum l G o a v45 n103 g w50 (emul PP BB T1) (tSs s.2.2.2.2.2.1 0 s.2.2.2.1.length)) gX12_session_X12_addToSum rfl M103.ob rfl (by decide +kernel) ⟨rfl, rfl, by decide, by decide⟩ (by decide) rfl rfl (Nat.le_of_ble_eq_true rfl) (⟨M103, hK106, hC107.1, hp104, hon107, hP105, hon108⟩) (fun F110 q111 => ?_)
                    obtain ⟨n112, M112, hf112, hs112, P112⟩ := q111
                    have O112 := O103.tr P112
                    have hon112 : onE PP (eadd PP (emul PP BB T1) (tSs s.2.2.2.2.2.1 0 s.2.2.2.1.length)) := onE_add gdP hon108 hon107
                    refine jr_lv (lv' := [(2, .int b), (0, .ref o), (1, .int (nI k))]) [1, 2, 3] rfl ?_
                    exact cont F110 n112 M112 (fun z hz => ((hf112 z (jnsub (V := [40, 41, 37, 38, 39, 42, 43, 44, 45, 46, 47, 34, 35, 36, 68, 69, 70]) hz [6, 7, 3, 4, 5, 8, 9, 10, 11, 12, 13, 0, 1, 2, 15, 16, 17] rfl)).trans ((hf103 z (jnsub (V := [39]) hz [5] rfl)).trans ((hf100 z (jnsub (V := [38]) hz [4] rfl)).trans ((hf97 z (jnsub (V := [37]) hz [3] rfl)).trans (hf93 z (jnsub (V := [40, 41, 42, 43, 35, 36, 49]) hz [6, 7, 8, 9, 1, 2, 14] rfl))))))) (hs112) O112
                refine U89 (fun F89 n89 M89 hu89 hy89 P89 => ?_)
                have O89 := O85.tr P89
                obtain ⟨R1, eR1⟩ : ∃ Y : EP, Y = (eadd PP (emul PP BB T1) (tSs s.2.2.2.2.2.1 0 s.2.2.2.1.length)) := ⟨_, rfl⟩
                have hs113 : sS n89 R1 := by rw [eR1]; exact hy89
                have hon113 : onE PP R1 := by rw [eR1]; exact (onE_add gdP (onE_mul gdP hT1on _) htSon0)
                have hR1on : onE PP R1 := hon113
                have hN114 : n89 6 = some gX := ((hu89 6 (by decide)).trans ((hf85 6 (by decide)).trans ((hf77 6 (by decide)).trans ((hu55 6 (by decide)).trans ((hf50 6 (by decide)).trans ((hf28 6 (by decide)).trans ((hf23 6 (by decide)).trans (hf10 6 (by decide))))))))).trans hC.2.2.1
                have hN115 : n89 7 = some gY := ((hu89 7 (by decide)).trans ((hf85 7 (by decide)).trans ((hf77 7 (by decide)).trans ((hu55 7 (by decide)).trans ((hf50 7 (by decide)).trans ((hf28 7 (by decide)).trans ((hf23 7 (by decide)).trans (hf10 7 (by decide))))))))).trans hC.2.2.2.1
                have U116 : (∀ (F1 : Nat → va_E) (n1 : Nat → Option Nat), MW G L F1 o a v45 n1 g w50 → (∀ z, z ∉ [68, 69] → n1 z = n89 z) → n1 68 = some (exE (finE R1)) ∧ n1 69 = some (eyN (finE R1)) → mO o a F89 F1 → J E L F1 0 0 310 [(2, .int b), (0, .ref o), (1, .int (nI k))] []) → J E L F89 0 0 278 [(2, .int b), (0, .ref o), (1, .int (nI k))] [] := by
                  intro cont
                  refine jr_aload_n hE dX12_session_278 1 rfl ?_
                  refine jr_get hE dX12_session_279 f329 M89.ob rfl ?_
                  refine jr_kSi (n := 1) (As := [.ref (a 70)]) (rest := []) hE dX12_session_282 (fun l => c_m_isNull l G o a v45 n89 g w50 70 (if R1 = none then 0 else 1)) gX12_session_X12_isNull rfl (by decide +kernel) ⟨rfl, rfl, by decide, by decide⟩ (by decide) rfl rfl (Nat.le_of_ble_eq_true rfl) (⟨M89, by decide, hs113.z⟩) (fun r119 F117 q118 => ?_)
                  obtain ⟨eq118, rq118⟩ := q118
                  subst eq118 rq118
                  refine jr_if_eq (tgt := 310) hE dX12_session_285 (by decide) (fun c285 => ?_) (fun c285 => ?_)
                  · refine jr_lv (lv' := [(2, .int b), (0, .ref o), (1, .int (nI k))]) [0, 1, 2] rfl ?_
                    exact cont F89 n89 M89 (fun z hz => rfl) (by rw [show finE R1 = R1 from if_neg (fun h => absurd (b2i_t (p := (if R1 = none then 0 else 1) = 0) (if_pos h)) (by rw [c285]; decide))]; exact ⟨(hs113.xy (fun h => absurd (b2i_t (p := (if R1 = none then 0 else 1) = 0) (if_pos h)) (by rw [c285]; decide))).1, (hs113.xy (fun h => absurd (b2i_t (p := (if R1 = none then 0 else 1) = 0) (if_pos h)) (by rw [c285]; decide))).2.1⟩) (mO.rf o a F89)
                  · refine jr_aload_n hE dX12_session_288 1 rfl ?_
                    refine jr_get hE dX12_session_289 f323 M89.ob rfl ?_
                    refine jr_aload_n hE dX12_session_292 1 rfl ?_
                    refine jr_get hE dX12_session_293 f74 M89.ob rfl ?_
                    refine jr_kSv (n := 2) (As := [.ref (a 68), .ref (a 6)]) (rest := []) hE dX12_session_296 (fun l => c_m_set l G o a v45 n89 g w50 68 6) gX12_session_X12_set rfl (by decide +kernel) ⟨rfl, rfl, by decide, by decide⟩ (by decide) rfl rfl (Nat.le_of_ble_eq_true rfl) (⟨M89, by decide, by decide⟩) (fun F120 q121 => ?_)
                    obtain ⟨M122, P122⟩ := q121
                    have O122 := (mO.rf o a F89).tr P122
                    obtain ⟨n122, e122, hf122, hv122⟩ := uz_ab n89 68 (n89 6)
                    rw [e122] at M122
                    refine jr_aload_n hE dX12_session_299 1 rfl ?_
                    refine jr_get hE dX12_session_300 f326 M122.ob rfl ?_
                    refine jr_aload_n hE dX12_session_303 1 rfl ?_
                    refine jr_get hE dX12_session_304 f93 M122.ob rfl ?_
                    have hN123 : n122 7 = some gY := (hf122 7 (by decide)).trans hN115
                    refine jr_kSv (n := 2) (As := [.ref (a 69), .ref (a 7)]) (rest := []) hE dX12_session_307 (fun l => c_m_set l G o a v45 n122 g w50 69 7) gX12_session_X12_set rfl (by decide +kernel) ⟨rfl, rfl, by decide, by decide⟩ (by decide) rfl rfl (Nat.le_of_ble_eq_true rfl) (⟨M122, by decide, by decide⟩) (fun F124 q125 => ?_)
                    obtain ⟨M126, P126⟩ := q125
                    have O126 := O122.tr P126
                    obtain ⟨n126, e126, hf126, hv126⟩ := uz_ab n122 69 (n122 7)
                    rw [e126] at M126
                    have hN127 : n126 68 = some gX := (hf126 68 (by decide)).trans (hv122.trans hN114)
                    refine jr_lv (lv' := [(2, .int b), (0, .ref o), (1, .int (nI k))]) [0, 1, 2] rfl ?_
                    exact cont F124 n126 M126 (fun z hz => ((hf126 z (jnsub (V := [69]) hz [1] rfl)).trans (hf122 z (jnsub (V := [68]) hz [0] rfl)))) (by rw [show finE R1 = GE from if_pos (Classical.byContradiction (fun h => by have q := b2i_1 c285; rw [if_neg h] at q; exact absurd q (by decide)))]; exact sS_GE hN127 (hv126.trans hN123)) O126
                refine U116 (fun F116 n116 M116 hu116 hy116 P116 => ?_)
                have O116 := O89.tr P116
                obtain ⟨RF, eRF⟩ : ∃ Y : EP, Y = finE R1 := ⟨_, rfl⟩
                rw [← eRF] at hy116
                refine jr_aload_n hE dX12_session_310 1 rfl ?_
                refine jr_get hE dX12_session_311 f149 M116.ob rfl ?_
                refine jr_aload_n hE dX12_session_314 1 rfl ?_
                refine jr_get hE dX12_session_315 f323 M116.ob rfl ?_
                refine jr_kSv (n := 2) (As := [.ref (a 28), .ref (a 68)]) (rest := []) hE dX12_session_318 (fun l => c_m_set l G o a v45 n116 g w50 28 68) gX12_session_X12_set rfl (by decide +kernel) ⟨rfl, rfl, by decide, by decide⟩ (by decide) rfl rfl (Nat.le_of_ble_eq_true rfl) (⟨M116, by decide, by decide⟩) (fun F128 q129 => ?_)
                obtain ⟨M130, P130⟩ := q129
                have O130 := O116.tr P130
                obtain ⟨n130, e130, hf130, hv130⟩ := uz_ab n116 28 (n116 68)
                rw [e130] at M130
                refine jr_aload_n hE dX12_session_321 1 rfl ?_
                refine jr_aload_n hE dX12_session_322 1 rfl ?_
                refine jr_get hE dX12_session_323 f326 M130.ob rfl ?_
                refine jr_iconst (v := (0 : Int32)) hE dX12_session_326 (by decide) ?_
                have hN131 : n130 69 = some (eyN RF) := (hf130 69 (by decide)).trans hy116.2
                obtain ⟨f132, jf132, ef132⟩ := M130.ld (k := 69) (by decide) (x := (eyN RF)) hN131
                refine jr_lald (v := lN ((eyN RF) / 2 ^ (32 * 0) % 2 ^ 32)) hE dX12_session_327 jf132 (vp_in_nI (n := 0) (by decide) (by decide)) (ef132 0 (by decide)) ?_
                refine jr_lconst (v := (1 : Int64)) hE dX12_session_328 (by decide) ?_
                refine jr_land (z := lN ((eyN RF) % 2)) hE dX12_session_329 (by rw [wb_a1 (Nat.lt_trans (Nat.mod_lt _ (Nat.two_pow_pos 32)) (by decide)), dig0]) ?_
                refine jr_lconst (v := (1 : Int64)) hE dX12_session_330 (by decide) ?_
                refine jr_lcmp hE dX12_session_331 ?_
                refine jr_if_ne (tgt := 339) hE dX12_session_332 (by decide) (fun c332 => ?_) (fun c332 => ?_)
                · refine jr_iconst (v := (0 : Int32)) hE dX12_session_339 (by decide) ?_
                  refine jr_put (ty := .boolean) hE dX12_session_340 f575 M130.ob rfl (by decide +kernel) rfl rfl (Nat.le_of_ble_eq_true rfl) (fun F133 g134 u135 => ?_)
                  have H136 := M130.setV (v' := uz v45 29 (0 : Int32)) g134 u135
                  have O137 := O130.so u135
                  obtain ⟨v138, e138, hvv138, hvx138⟩ := uz_ab v45 29 (0 : Int32)
                  rw [e138] at H136
                  refine jr_aload_n hE dX12_session_343 1 rfl ?_
                  refine jr_aload_n hE dX12_session_344 1 rfl ?_
                  have hV139 : v138 78 = (b2i (eyN (qSs s.2.2.2.1 s.2.2.2.1.length) % 2 = 1)) := ((hvv138 78 (by decide)).trans ((hvv45 78 (by decide)).trans ((hvv41 78 (by decide)).trans ((hvv37 78 (by decide)).trans ((hvv33 78 (by decide)).trans (hvv17 78 (by decide))))))).trans ho11
                  refine jr_get hE dX12_session_345 f552 H136.ob rfl ?_
                  rw [hV139]
                  refine jr_put (ty := .boolean) hE dX12_session_348 f578 H136.ob rfl (by decide +kernel) (b2i_z _) (b2i_fit _) (Nat.le_of_ble_eq_true rfl) (fun F140 g141 u142 => ?_)
                  have H143 := H136.setV (v' := uz v138 30 (b2i (eyN (qSs s.2.2.2.1 s.2.2.2.1.length) % 2 = 1))) g141 u142
                  have O144 := O137.so u142
                  obtain ⟨v145, e145, hvv145, hvx145⟩ := uz_ab v138 30 (b2i (eyN (qSs s.2.2.2.1 s.2.2.2.1.length) % 2 = 1))
                  rw [e145] at H143
                  refine jr_aload_n hE dX12_session_351 1 rfl ?_
                  refine jr_aload_n hE dX12_session_352 1 rfl ?_
                  refine jr_get hE dX12_session_353 f146 H143.ob rfl ?_
                  refine jr_aload_n hE dX12_session_356 1 rfl ?_
                  refine jr_get hE dX12_session_357 f149 H143.ob rfl ?_
                  refine jr_aload_n hE dX12_session_360 1 rfl ?_
                  refine jr_get hE dX12_session_361 f350 H143.ob rfl ?_
                  refine jr_aload_n hE dX12_session_364 1 rfl ?_
                  refine jr_get hE dX12_session_365 f100 H143.ob rfl ?_
                  refine jr_bipush (v := (100 : Int32)) hE dX12_session_368 (by decide) ?_
                  refine jr_iload_n hE dX12_session_370 2 rfl ?_
                  refine jr_imul (z := nI (100 * k)) hE dX12_session_371 (pk_mul 100 k) ?_
                  refine jr_aload_n hE dX12_session_372 1 rfl ?_
                  refine jr_get hE dX12_session_373 f96 H143.ob rfl ?_
                  refine jr_iload_n hE dX12_session_376 2 rfl ?_
                  refine jr_iald (v := nI (s.1 k).length) hE dX12_session_377 (H143.I (k := 8) (N := 16) (by decide)) (vp_in_nI (by omega) (by decide)) (by rw [nI_clamp (by omega)]; exact (congrFun ((hw50 8 (by decide)).trans ((hw45 8 (by decide)).trans ((hw41 8 (by decide)).trans ((hw37 8 (by decide)).trans ((hw33 8 (by decide)).trans ((hw28 8 (by decide)).trans ((hw23 8 (by decide)).trans (hw10 8 (by decide))))))))) k).trans z1k) ?_
                  have hN146 : n130 77 = some (exE (qSs s.2.2.2.1 s.2.2.2.1.length)) := ((hf130 77 (by decide)).trans ((hu116 77 (by decide)).trans ((hu89 77 (by decide)).trans ((hf85 77 (by decide)).trans ((hf77 77 (by decide)).trans ((hu55 77 (by decide)).trans (hf50 77 (by decide)))))))).trans hN38
                  have hC147 : bl (w50 9) (100 * k) ((s.1 k).length) = s.1 k := by
                    rw [show w50 9 = w41 9 from ((hw50 9 (by decide)).trans (hw45 9 (by decide)))]
                    exact hC42
                  have hK148 : mK n130 g := hK86.fr ((hf130 0 (by decide)).trans ((hu116 0 (by decide)).trans (hu89 0 (by decide)))) ((hf130 1 (by decide)).trans ((hu116 1 (by decide)).trans (hu89 1 (by decide)))) ((hf130 32 (by decide)).trans ((hu116 32 (by decide)).trans (hu89 32 (by decide)))) ((hf130 33 (by decide)).trans ((hu116 33 (by decide)).trans (hu89 33 (by decide))))
                  have hT149 : tgOK w50 := hT29.fr ((hw50 50 (by decide)).trans ((hw45 50 (by decide)).trans ((hw41 50 (by decide)).trans ((hw37 50 (by decide)).trans (hw33 50 (by decide)))))) ((hw50 51 (by decide)).trans ((hw45 51 (by decide)).trans ((hw41 51 (by decide)).trans ((hw37 51 (by decide)).trans (hw33 51 (by decide))))))
                  have hD150 : rdOK w50 := hD47.fr (hw50 52 (by decide))
                  refine jr_kVv (ci := 12) (n := 6) (As := [.ref (a 27), .ref (a 28), .ref (a 77), .ref (a 9), .int (nI (100 * k)), .int (nI (s.1 k).length)]) (rest := []) hE dX12_session_378 (fun l => c_m_challenge l G o a v145 n130 g w50 27 28 77 9 (100 * k) ((s.1 k).length) 1600 (exE RF) (exE (qSs s.2.2.2.1 s.2.2.2.1.length))) gX12_session_X12_challenge rfl H143.ob rfl (by decide +kernel) ⟨rfl, rfl, by decide, by decide⟩ (by decide) rfl rfl (Nat.le_of_ble_eq_true rfl) (⟨H143, hK148, hT149, hD150, by decide, by decide, by decide, (hv130.trans hy116.1), hN146, by decide, by decide, by omega, by decide, by omega, bB_of hC147 z4k⟩) (fun F151 q152 => ?_)
                  obtain ⟨v153, w153, M153, hvv153, hw153, P153⟩ := q152
                  rw [hC147] at M153
                  have O153 := O144.tr P153
                  rw [← chS_eq] at M153
                  obtain ⟨EE, eEE⟩ : ∃ x, x = chS (exE RF) (exE (qSs s.2.2.2.1 s.2.2.2.1.length)) (s.1 k) := ⟨_, rfl⟩
                  rw [← eEE] at M153
                  obtain ⟨n153, e153, hf153, hv153⟩ := uz_ab n130 27 (some EE)
                  rw [e153] at M153
                  have hEN : EE < NN := by rw [eEE]; exact Nat.mod_lt _ NN0
                  refine jr_iconst (v := (0 : Int32)) hE dX12_session_381 (by decide) ?_
                  refine jr_istore_n (lv' := [(3, .int (0 : Int32)), (2, .int b), (0, .ref o), (1, .int (nI k))]) hE dX12_session_382 (by decide) rfl ?_
                  have hC154 : bl (w153 80) 0 66 = (pbE (tSs s.2.2.2.2.2.1 0 s.2.2.2.1.length) ++ pbE (tSs s.2.2.2.2.2.1 1 s.2.2.2.1.length)) := by
                    rw [show w153 80 = w50 80 from (hw153 80 (by decide))]
                    exact hC88
                  have U155 : (∀ (F1 : Nat → va_E) (f : Nat → Int32), MW G L F1 o a v153 n153 g (uz w153 25 f) → f = wrt (w153 25) 0 (bl (w153 80) 0 66) → mO o a F151 F1 → J E L F1 0 0 407 [(3, .int (nI 66)), (2, .int b), (0, .ref o), (1, .int (nI k))] []) → J E L F151 0 0 383 [(3, .int (0 : Int32)), (2, .int b), (0, .ref o), (1, .int (nI k))] [] := by
                    intro cont
                    have loop : ∀ (r0 i : Nat) (F4 : Nat → va_E) (f : Nat → Int32), i + r0 = 66 → MW G L F4 o a v153 n153 g (uz w153 25 f) → f = wrt (w153 25) 0 (bl (w153 80) 0 i) → mO o a F151 F4 → J E L F4 0 0 383 [(3, .int (nI i)), (2, .int b), (0, .ref o), (1, .int (nI k))] [] := by
                      intro r0
                      induction r0 with
                      | zero =>
                        intro i F4 f hi H4 hf O4
                        have hwf : ∀ z, z ∉ [25] → (uz w153 25 f) z = w153 z := fun z hz => uz_n _ _ (jne hz 0 rfl)
                        refine jr_iload_n hE dX12_session_383 0 rfl ?_
                        refine jr_bipush (v := (66 : Int32)) hE dX12_session_384 (by decide) ?_
                        refine jr_icmp_ge (tgt := 407) hE dX12_session_386 (by decide) (fun c_386 => ?_) (fun c_386 => absurd (nI_le (a := 66) (by omega) (by omega)) c_386)
                        have hiN : i = 66 := by omega
                        subst hiN
                        exact cont F4 f H4 hf O4
                      | succ r0 ih =>
                        intro i F4 f hi H4 hf O4
                        have hwf : ∀ z, z ∉ [25] → (uz w153 25 f) z = w153 z := fun z hz => uz_n _ _ (jne hz 0 rfl)
                        refine jr_iload_n hE dX12_session_383 0 rfl ?_
                        refine jr_bipush (v := (66 : Int32)) hE dX12_session_384 (by decide) ?_
                        refine jr_icmp_ge (tgt := 407) hE dX12_session_386 (by decide) (fun c_386 => absurd c_386 (nI_ge (b := 66) (by omega) (by omega))) (fun c_386 => ?_)
                        refine jr_aload_n hE dX12_session_389 2 rfl ?_
                        refine jr_get hE dX12_session_390 f140 H4.ob rfl ?_
                        refine jr_iload_n hE dX12_session_393 0 rfl ?_
                        refine jr_aload_n hE dX12_session_394 2 rfl ?_
                        refine jr_get hE dX12_session_395 f356 H4.ob rfl ?_
                        refine jr_iload_n hE dX12_session_398 0 rfl ?_
                        refine jr_iald (v := w153 80 (0 + i)) hE dX12_session_399 (H4.I (k := 80) (N := 66) (by decide)) (vp_in_nI (by omega) (by decide)) (by rw [nI_clamp (by omega), Nat.zero_add]; rfl) ?_
                        refine jr_iast hE dX12_session_400 (H4.I (k := 25) (N := 66) (by decide)) (vp_in_nI (by omega) (by decide)) (fun F156 g157 u158 => ?_)
                        have H159 := H4.setI (k := 25) (N := 66) (by decide) g157 u158
                        have O160 := O4.st (k := 25) (by decide) (by decide) u158
                        rw [uz_uz, uz_s] at H159
                        refine jr_iinc (v := nI (i + 1)) (lv' := [(3, .int (nI (i + 1))), (2, .int b), (0, .ref o), (1, .int (nI k))]) hE dX12_session_401 0 rfl (nI_1 _) (by decide) rfl ?_
                        refine jr_goto (tgt := 383) hE dX12_session_404 (by decide) ?_
                        refine jr_lv (lv' := [(3, .int (nI (i + 1))), (2, .int b), (0, .ref o), (1, .int (nI k))]) [0, 1, 2, 3] rfl ?_
                        exact ih (i + 1) F156 _ (by omega) H159 (by
                          rw [bl_s]
                          have q := wrt_snoc (s := 0) (i := i) hf (bl_len _ _ _) (bt_nI (w153 80) (0 + i)) (by omega)
                          simp only [Nat.zero_add] at q ⊢
                          exact q) O160
                    exact loop 66 0 F151 (w153 25) (by omega) (by rw [uz_id]; exact M153) (by rw [show bl (w153 80) 0 0 = [] from rfl, wrt_nil]) (mO.rf o a F151)
                  refine U155 (fun F155 f155 M155 hf155 P155 => ?_)
                  have O155 := O153.tr P155
                  obtain ⟨w155, e155, hw155, hx155⟩ := uz_ab w153 25 f155
                  rw [e155] at M155
                  rw [hf155] at hx155
                  refine jr_aload_n hE dX12_session_407 2 rfl ?_
                  refine jr_iconst (v := (1 : Int32)) hE dX12_session_408 (by decide) ?_
                  refine jr_put (ty := .boolean) hE dX12_session_409 f529 M155.ob rfl (by decide +kernel) rfl rfl (Nat.le_of_ble_eq_true rfl) (fun F161 g162 u163 => ?_)
                  have H164 := M155.setV (v' := uz v153 24 (1 : Int32)) g162 u163
                  have O165 := O155.so u163
                  obtain ⟨v166, e166, hvv166, hvx166⟩ := uz_ab v153 24 (1 : Int32)
                  rw [e166] at H164
                  refine jr_iconst (v := (1 : Int32)) hE dX12_session_412 (by decide) ?_
                  have hV167 : v166 31 = (nI (s.2.2.1 + s.2.2.2.1.length + 1)) := ((hvv166 31 (by decide)).trans ((hvv153 31 (by decide)).trans ((hvv145 31 (by decide)).trans ((hvv138 31 (by decide)).trans ((hvv45 31 (by decide)).trans ((hvv41 31 (by decide)).trans ((hvv37 31 (by decide)).trans (hvv33 31 (by decide))))))))).trans hvx17
                  have hV168 : v166 29 = (0 : Int32) := ((hvv166 29 (by decide)).trans ((hvv153 29 (by decide)).trans (hvv145 29 (by decide)))).trans hvx138
                  have hV169 : v166 30 = (b2i (eyN (qSs s.2.2.2.1 s.2.2.2.1.length) % 2 = 1)) := ((hvv166 30 (by decide)).trans (hvv153 30 (by decide))).trans hvx145
                  have hN170 : n153 26 = some BB := ((hf153 26 (by decide)).trans ((hf130 26 (by decide)).trans ((hu116 26 (by decide)).trans ((hu89 26 (by decide)).trans ((hf85 26 (by decide)).trans ((hf77 26 (by decide)).trans (hu55 26 (by decide)))))))).trans hv50
                  have hN171 : n153 28 = some (exE RF) := (hf153 28 (by decide)).trans (hv130.trans hy116.1)
                  have hvF : ∀ z, z ∉ [24, 29, 30, 31, 57, 78] → v166 z = v z := (fun z hz => ((hvv166 z (jnsub (V := [24]) hz [0] rfl)).trans ((hvv153 z (jne hz 4 rfl)).trans ((hvv145 z (jnsub (V := [30]) hz [2] rfl)).trans ((hvv138 z (jnsub (V := [29]) hz [1] rfl)).trans ((hvv45 z (jne hz 4 rfl)).trans ((hvv41 z (jne hz 4 rfl)).trans ((hvv37 z (jne hz 4 rfl)).trans ((hvv33 z (jne hz 4 rfl)).trans ((hvv17 z (jnsub (V := [31]) hz [3] rfl)).trans (hvv10 z (jne hz 3 rfl) (jne hz 4 rfl) (jne hz 5 rfl))))))))))))
                  have hnF : ∀ z, z ∉ [26, 27, 28, 34, 35, 36, 37, 38, 39, 40, 41, 42, 43, 44, 45, 46, 47, 49, 68, 69, 70, 76, 77] → n153 z = n z := (fun z hz => ((hf153 z (jnsub (V := [27]) hz [1] rfl)).trans ((hf130 z (jnsub (V := [28]) hz [2] rfl)).trans ((hu116 z (jnsub (V := [68, 69]) hz [18, 19] rfl)).trans ((hu89 z (jnsub (V := [34, 35, 36, 37, 38, 39, 40, 41, 42, 43, 44, 45, 46, 47, 49, 68, 69, 70]) hz [3, 4, 5, 6, 7, 8, 9, 10, 11, 12, 13, 14, 15, 16, 17, 18, 19, 20] rfl)).trans ((hf85 z (jnsub (V := [40, 41, 37, 38, 39, 42, 43, 44, 45, 46, 47, 34, 35, 36, 68, 69, 70]) hz [9, 10, 6, 7, 8, 11, 12, 13, 14, 15, 16, 3, 4, 5, 18, 19, 20] rfl)).trans ((hf77 z (jnsub (V := [70]) hz [20] rfl)).trans ((hu55 z (jnsub (V := [34, 35, 36, 37, 38, 39, 40, 41, 42, 43, 44, 45, 46, 47]) hz [3, 4, 5, 6, 7, 8, 9, 10, 11, 12, 13, 14, 15, 16] rfl)).trans ((hf50 z (jnsub (V := [26]) hz [0] rfl)).trans ((hf28 z (jnsub (V := [34, 35, 36, 37, 38, 39, 40, 41, 42, 43, 44, 45, 46, 47, 49, 68, 69, 70]) hz [3, 4, 5, 6, 7, 8, 9, 10, 11, 12, 13, 14, 15, 16, 17, 18, 19, 20] rfl)).trans ((hf23 z (jnsub (V := [34, 35, 36, 37, 38, 39, 40, 41, 42, 43, 44, 45, 46, 47, 49, 68, 69, 70]) hz [3, 4, 5, 6, 7, 8, 9, 10, 11, 12, 13, 14, 15, 16, 17, 18, 19, 20] rfl)).trans (hf10 z (jnsub (V := [34, 35, 36, 37, 38, 39, 40, 41, 42, 43, 44, 45, 46, 47, 49, 68, 69, 70, 76, 77]) hz [3, 4, 5, 6, 7, 8, 9, 10, 11, 12, 13, 14, 15, 16, 17, 18, 19, 20, 21, 22] rfl)))))))))))))
                  have hwF : ∀ z, z ∉ [25, 53, 54, 55, 56, 58, 59, 75, 80] → w155 z = w z := (fun z hz => ((hw155 z (jnsub (V := [25]) hz [0] rfl)).trans ((hw153 z (jnsub (V := [53, 54, 55, 56, 58, 59]) hz [1, 2, 3, 4, 5, 6] rfl)).trans ((hw50 z (jnsub (V := [53, 54, 55, 58]) hz [1, 2, 3, 5] rfl)).trans ((hw45 z (jne hz 4 rfl)).trans ((hw41 z (jne hz 4 rfl)).trans ((hw37 z (jne hz 4 rfl)).trans ((hw33 z (jnsub (V := [53, 54, 55, 56, 58, 59]) hz [1, 2, 3, 4, 5, 6] rfl)).trans ((hw28 z (jnsub (V := [80]) hz [8] rfl)).trans ((hw23 z (jnsub (V := [80]) hz [8] rfl)).trans (hw10 z (jnsub (V := [53, 54, 55, 56, 58, 59, 75]) hz [1, 2, 3, 4, 5, 6, 7] rfl))))))))))))
                  have hTP : seTp s (s.1 k) = ((pbE (tSs s.2.2.2.2.2.1 0 s.2.2.2.1.length) ++ pbE (tSs s.2.2.2.2.2.1 1 s.2.2.2.1.length)), BB, EE, exE RF, eyO RF) := by
                    have hR1 : seR s (s.1 k) = RF := by rw [eRF, eR1, eT1]; unfold seR; rw [hBB]; rfl
                    unfold seTp
                    rw [hBB, hR1, eEE]
                    rfl
                  have e : stSess s (nI k) = (1, setSe (setK s (s.2.2.1 + s.2.2.2.1.length + 1)) ((pbE (tSs s.2.2.2.2.2.1 0 s.2.2.2.1.length) ++ pbE (tSs s.2.2.2.2.2.1 1 s.2.2.2.1.length)), BB, EE, exE RF, eyO RF)) := by
                    unfold stSess
                    rw [if_pos (nI_rowP hk), hrnk, if_pos hok, if_neg hw48, if_neg hJ, hTP]
                  have g25 : bl (w155 25) 0 66 = (pbE (tSs s.2.2.2.2.2.1 0 s.2.2.2.1.length) ++ pbE (tSs s.2.2.2.2.2.1 1 s.2.2.2.1.length)) := by
                    rw [show w155 25 = w155 25 from rfl, hx155, hC154]
                    exact bl_w0 (by simp only [List.length_append, pbE_len]) (app_lt (pbE_lt _) (pbE_lt _))
                  exact hR F161 _ _ _ dX12_session_413 rfl ⟨_, _, _, _, by rw [e]; exact hI.se (c := s.2.2.1 + s.2.2.2.1.length + 1) (t := ((pbE (tSs s.2.2.2.2.2.1 0 s.2.2.2.1.length) ++ pbE (tSs s.2.2.2.2.2.1 1 s.2.2.2.1.length)), BB, EE, exE RF, eyO RF)) H164 hV167 (by omega) hvx166 (hV168.trans (by rw [odd_f (fun q => c332 ((cmp0 (b := 1) (by omega) (by decide)).mpr q))]; rfl)) hV169 hJ (by omega) hok.2 (fun z hz => hvF z (jdj rfl hz)) (fun z hz => hnF z (jdj rfl hz)) hN170 hv153 hN171 hBN hEN (ex_lt (eRF ▸ onFin (eR1 ▸ hR1on))) (fun z hz => hwF z (jdj rfl hz)) g25 (app_lt (pbE_lt _) (pbE_lt _)), by rw [e], O165⟩
                · refine jr_iconst (v := (1 : Int32)) hE dX12_session_335 (by decide) ?_
                  refine jr_goto (tgt := 340) hE dX12_session_336 (by decide) ?_
                  refine jr_put (ty := .boolean) hE dX12_session_340 f575 M130.ob rfl (by decide +kernel) rfl rfl (Nat.le_of_ble_eq_true rfl) (fun F173 g174 u175 => ?_)
                  have H176 := M130.setV (v' := uz v45 29 (1 : Int32)) g174 u175
                  have O177 := O130.so u175
                  obtain ⟨v178, e178, hvv178, hvx178⟩ := uz_ab v45 29 (1 : Int32)
                  rw [e178] at H176
                  refine jr_aload_n hE dX12_session_343 1 rfl ?_
                  refine jr_aload_n hE dX12_session_344 1 rfl ?_
                  have hV179 : v178 78 = (b2i (eyN (qSs s.2.2.2.1 s.2.2.2.1.length) % 2 = 1)) := ((hvv178 78 (by decide)).trans ((hvv45 78 (by decide)).trans ((hvv41 78 (by decide)).trans ((hvv37 78 (by decide)).trans ((hvv33 78 (by decide)).trans (hvv17 78 (by decide))))))).trans ho11
                  refine jr_get hE dX12_session_345 f552 H176.ob rfl ?_
                  rw [hV179]
                  refine jr_put (ty := .boolean) hE dX12_session_348 f578 H176.ob rfl (by decide +kernel) (b2i_z _) (b2i_fit _) (Nat.le_of_ble_eq_true rfl) (fun F180 g181 u182 => ?_)
                  have H183 := H176.setV (v' := uz v178 30 (b2i (eyN (qSs s.2.2.2.1 s.2.2.2.1.length) % 2 = 1))) g181 u182
                  have O184 := O177.so u182
                  obtain ⟨v185, e185, hvv185, hvx185⟩ := uz_ab v178 30 (b2i (eyN (qSs s.2.2.2.1 s.2.2.2.1.length) % 2 = 1))
                  rw [e185] at H183
                  refine jr_aload_n hE dX12_session_351 1 rfl ?_
                  refine jr_aload_n hE dX12_session_352 1 rfl ?_
                  refine jr_get hE dX12_session_353 f146 H183.ob rfl ?_
                  refine jr_aload_n hE dX12_session_356 1 rfl ?_
                  refine jr_get hE dX12_session_357 f149 H183.ob rfl ?_
                  refine jr_aload_n hE dX12_session_360 1 rfl ?_
                  refine jr_get hE dX12_session_361 f350 H183.ob rfl ?_
                  refine jr_aload_n hE dX12_session_364 1 rfl ?_
                  refine jr_get hE dX12_session_365 f100 H183.ob rfl ?_
                  refine jr_bipush (v := (100 : Int32)) hE dX12_session_368 (by decide) ?_
                  refine jr_iload_n hE dX12_session_370 2 rfl ?_
                  refine jr_imul (z := nI (100 * k)) hE dX12_session_371 (pk_mul 100 k) ?_
                  refine jr_aload_n hE dX12_session_372 1 rfl ?_
                  refine jr_get hE dX12_session_373 f96 H183.ob rfl ?_
                  refine jr_iload_n hE dX12_session_376 2 rfl ?_
                  refine jr_iald (v := nI (s.1 k).length) hE dX12_session_377 (H183.I (k := 8) (N := 16) (by decide)) (vp_in_nI (by omega) (by decide)) (by rw [nI_clamp (by omega)]; exact (congrFun ((hw50 8 (by decide)).trans ((hw45 8 (by decide)).trans ((hw41 8 (by decide)).trans ((hw37 8 (by decide)).trans ((hw33 8 (by decide)).trans ((hw28 8 (by decide)).trans ((hw23 8 (by decide)).trans (hw10 8 (by decide))))))))) k).trans z1k) ?_
                  have hN186 : n130 77 = some (exE (qSs s.2.2.2.1 s.2.2.2.1.length)) := ((hf130 77 (by decide)).trans ((hu116 77 (by decide)).trans ((hu89 77 (by decide)).trans ((hf85 77 (by decide)).trans ((hf77 77 (by decide)).trans ((hu55 77 (by decide)).trans (hf50 77 (by decide)))))))).trans hN38
                  have hC187 : bl (w50 9) (100 * k) ((s.1 k).length) = s.1 k := by
                    rw [show w50 9 = w41 9 from ((hw50 9 (by decide)).trans (hw45 9 (by decide)))]
                    exact hC42
                  have hK188 : mK n130 g := hK86.fr ((hf130 0 (by decide)).trans ((hu116 0 (by decide)).trans (hu89 0 (by decide)))) ((hf130 1 (by decide)).trans ((hu116 1 (by decide)).trans (hu89 1 (by decide)))) ((hf130 32 (by decide)).trans ((hu116 32 (by decide)).trans (hu89 32 (by decide)))) ((hf130 33 (by decide)).trans ((hu116 33 (by decide)).trans (hu89 33 (by decide))))
                  have hT189 : tgOK w50 := hT29.fr ((hw50 50 (by decide)).trans ((hw45 50 (by decide)).trans ((hw41 50 (by decide)).trans ((hw37 50 (by decide)).trans (hw33 50 (by decide)))))) ((hw50 51 (by decide)).trans ((hw45 51 (by decide)).trans ((hw41 51 (by decide)).trans ((hw37 51 (by decide)).trans (hw33 51 (by decide))))))
                  have hD190 : rdOK w50 := hD47.fr (hw50 52 (by decide))
                  refine jr_kVv (ci := 12) (n := 6) (As := [.ref (a 27), .ref (a 28), .ref (a 77), .ref (a 9), .int (nI (100 * k)), .int (nI (s.1 k).length)]) (rest := []) hE dX12_session_378 (fun l => c_m_challenge l G o a v185 n130 g w50 27 28 77 9 (100 * k) ((s.1 k).length) 1600 (exE RF) (exE (qSs s.2.2.2.1 s.2.2.2.1.length))) gX12_session_X12_challenge rfl H183.ob rfl (by decide +kernel) ⟨rfl, rfl, by decide, by decide⟩ (by decide) rfl rfl (Nat.le_of_ble_eq_true rfl) (⟨H183, hK188, hT189, hD190, by decide, by decide, by decide, (hv130.trans hy116.1), hN186, by decide, by decide, by omega, by decide, by omega, bB_of hC187 z4k⟩) (fun F191 q192 => ?_)
                  obtain ⟨v193, w193, M193, hvv193, hw193, P193⟩ := q192
                  rw [hC187] at M193
                  have O193 := O184.tr P193
                  rw [← chS_eq] at M193
                  obtain ⟨EE, eEE⟩ : ∃ x, x = chS (exE RF) (exE (qSs s.2.2.2.1 s.2.2.2.1.length)) (s.1 k) := ⟨_, rfl⟩
                  rw [← eEE] at M193
                  obtain ⟨n193, e193, hf193, hv193⟩ := uz_ab n130 27 (some EE)
                  rw [e193] at M193
                  have hEN : EE < NN := by rw [eEE]; exact Nat.mod_lt _ NN0
                  refine jr_iconst (v := (0 : Int32)) hE dX12_session_381 (by decide) ?_
                  refine jr_istore_n (lv' := [(3, .int (0 : Int32)), (2, .int b), (0, .ref o), (1, .int (nI k))]) hE dX12_session_382 (by decide) rfl ?_
                  have hC194 : bl (w193 80) 0 66 = (pbE (tSs s.2.2.2.2.2.1 0 s.2.2.2.1.length) ++ pbE (tSs s.2.2.2.2.2.1 1 s.2.2.2.1.length)) := by
                    rw [show w193 80 = w50 80 from (hw193 80 (by decide))]
                    exact hC88
                  have U195 : (∀ (F1 : Nat → va_E) (f : Nat → Int32), MW G L F1 o a v193 n193 g (uz w193 25 f) → f = wrt (w193 25) 0 (bl (w193 80) 0 66) → mO o a F191 F1 → J E L F1 0 0 407 [(3, .int (nI 66)), (2, .int b), (0, .ref o), (1, .int (nI k))] []) → J E L F191 0 0 383 [(3, .int (0 : Int32)), (2, .int b), (0, .ref o), (1, .int (nI k))] [] := by
                    intro cont
                    have loop : ∀ (r0 i : Nat) (F4 : Nat → va_E) (f : Nat → Int32), i + r0 = 66 → MW G L F4 o a v193 n193 g (uz w193 25 f) → f = wrt (w193 25) 0 (bl (w193 80) 0 i) → mO o a F191 F4 → J E L F4 0 0 383 [(3, .int (nI i)), (2, .int b), (0, .ref o), (1, .int (nI k))] [] := by
                      intro r0
                      induction r0 with
                      | zero =>
                        intro i F4 f hi H4 hf O4
                        have hwf : ∀ z, z ∉ [25] → (uz w193 25 f) z = w193 z := fun z hz => uz_n _ _ (jne hz 0 rfl)
                        refine jr_iload_n hE dX12_session_383 0 rfl ?_
                        refine jr_bipush (v := (66 : Int32)) hE dX12_session_384 (by decide) ?_
                        refine jr_icmp_ge (tgt := 407) hE dX12_session_386 (by decide) (fun c_386 => ?_) (fun c_386 => absurd (nI_le (a := 66) (by omega) (by omega)) c_386)
                        have hiN : i = 66 := by omega
                        subst hiN
                        exact cont F4 f H4 hf O4
                      | succ r0 ih =>
                        intro i F4 f hi H4 hf O4
                        have hwf : ∀ z, z ∉ [25] → (uz w193 25 f) z = w193 z := fun z hz => uz_n _ _ (jne hz 0 rfl)
                        refine jr_iload_n hE dX12_session_383 0 rfl ?_
                        refine jr_bipush (v := (66 : Int32)) hE dX12_session_384 (by decide) ?_
                        refine jr_icmp_ge (tgt := 407) hE dX12_session_386 (by decide) (fun c_386 => absurd c_386 (nI_ge (b := 66) (by omega) (by omega))) (fun c_386 => ?_)
                        refine jr_aload_n hE dX12_session_389 2 rfl ?_
                        refine jr_get hE dX12_session_390 f140 H4.ob rfl ?_
                        refine jr_iload_n hE dX12_session_393 0 rfl ?_
                        refine jr_aload_n hE dX12_session_394 2 rfl ?_
                        refine jr_get hE dX12_session_395 f356 H4.ob rfl ?_
                        refine jr_iload_n hE dX12_session_398 0 rfl ?_
                        refine jr_iald (v := w193 80 (0 + i)) hE dX12_session_399 (H4.I (k := 80) (N := 66) (by decide)) (vp_in_nI (by omega) (by decide)) (by rw [nI_clamp (by omega), Nat.zero_add]; rfl) ?_
                        refine jr_iast hE dX12_session_400 (H4.I (k := 25) (N := 66) (by decide)) (vp_in_nI (by omega) (by decide)) (fun F196 g197 u198 => ?_)
                        have H199 := H4.setI (k := 25) (N := 66) (by decide) g197 u198
                        have O200 := O4.st (k := 25) (by decide) (by decide) u198
                        rw [uz_uz, uz_s] at H199
                        refine jr_iinc (v := nI (i + 1)) (lv' := [(3, .int (nI (i + 1))), (2, .int b), (0, .ref o), (1, .int (nI k))]) hE dX12_session_401 0 rfl (nI_1 _) (by decide) rfl ?_
                        refine jr_goto (tgt := 383) hE dX12_session_404 (by decide) ?_
                        refine jr_lv (lv' := [(3, .int (nI (i + 1))), (2, .int b), (0, .ref o), (1, .int (nI k))]) [0, 1, 2, 3] rfl ?_
                        exact ih (i + 1) F196 _ (by omega) H199 (by
                          rw [bl_s]
                          have q := wrt_snoc (s := 0) (i := i) hf (bl_len _ _ _) (bt_nI (w193 80) (0 + i)) (by omega)
                          simp only [Nat.zero_add] at q ⊢
                          exact q) O200
                    exact loop 66 0 F191 (w193 25) (by omega) (by rw [uz_id]; exact M193) (by rw [show bl (w193 80) 0 0 = [] from rfl, wrt_nil]) (mO.rf o a F191)
                  refine U195 (fun F195 f195 M195 hf195 P195 => ?_)
                  have O195 := O193.tr P195
                  obtain ⟨w195, e195, hw195, hx195⟩ := uz_ab w193 25 f195
                  rw [e195] at M195
                  rw [hf195] at hx195
                  refine jr_aload_n hE dX12_session_407 2 rfl ?_
                  refine jr_iconst (v := (1 : Int32)) hE dX12_session_408 (by decide) ?_
                  refine jr_put (ty := .boolean) hE dX12_session_409 f529 M195.ob rfl (by decide +kernel) rfl rfl (Nat.le_of_ble_eq_true rfl) (fun F201 g202 u203 => ?_)
                  have H204 := M195.setV (v' := uz v193 24 (1 : Int32)) g202 u203
                  have O205 := O195.so u203
                  obtain ⟨v206, e206, hvv206, hvx206⟩ := uz_ab v193 24 (1 : Int32)
                  rw [e206] at H204
                  refine jr_iconst (v := (1 : Int32)) hE dX12_session_412 (by decide) ?_
                  have hV207 : v206 31 = (nI (s.2.2.1 + s.2.2.2.1.length + 1)) := ((hvv206 31 (by decide)).trans ((hvv193 31 (by decide)).trans ((hvv185 31 (by decide)).trans ((hvv178 31 (by decide)).trans ((hvv45 31 (by decide)).trans ((hvv41 31 (by decide)).trans ((hvv37 31 (by decide)).trans (hvv33 31 (by decide))))))))).trans hvx17
                  have hV208 : v206 29 = (1 : Int32) := ((hvv206 29 (by decide)).trans ((hvv193 29 (by decide)).trans (hvv185 29 (by decide)))).trans hvx178
                  have hV209 : v206 30 = (b2i (eyN (qSs s.2.2.2.1 s.2.2.2.1.length) % 2 = 1)) := ((hvv206 30 (by decide)).trans (hvv193 30 (by decide))).trans hvx185
                  have hN210 : n193 26 = some BB := ((hf193 26 (by decide)).trans ((hf130 26 (by decide)).trans ((hu116 26 (by decide)).trans ((hu89 26 (by decide)).trans ((hf85 26 (by decide)).trans ((hf77 26 (by decide)).trans (hu55 26 (by decide)))))))).trans hv50
                  have hN211 : n193 28 = some (exE RF) := (hf193 28 (by decide)).trans (hv130.trans hy116.1)
                  have hvF : ∀ z, z ∉ [24, 29, 30, 31, 57, 78] → v206 z = v z := (fun z hz => ((hvv206 z (jnsub (V := [24]) hz [0] rfl)).trans ((hvv193 z (jne hz 4 rfl)).trans ((hvv185 z (jnsub (V := [30]) hz [2] rfl)).trans ((hvv178 z (jnsub (V := [29]) hz [1] rfl)).trans ((hvv45 z (jne hz 4 rfl)).trans ((hvv41 z (jne hz 4 rfl)).trans ((hvv37 z (jne hz 4 rfl)).trans ((hvv33 z (jne hz 4 rfl)).trans ((hvv17 z (jnsub (V := [31]) hz [3] rfl)).trans (hvv10 z (jne hz 3 rfl) (jne hz 4 rfl) (jne hz 5 rfl))))))))))))
                  have hnF : ∀ z, z ∉ [26, 27, 28, 34, 35, 36, 37, 38, 39, 40, 41, 42, 43, 44, 45, 46, 47, 49, 68, 69, 70, 76, 77] → n193 z = n z := (fun z hz => ((hf193 z (jnsub (V := [27]) hz [1] rfl)).trans ((hf130 z (jnsub (V := [28]) hz [2] rfl)).trans ((hu116 z (jnsub (V := [68, 69]) hz [18, 19] rfl)).trans ((hu89 z (jnsub (V := [34, 35, 36, 37, 38, 39, 40, 41, 42, 43, 44, 45, 46, 47, 49, 68, 69, 70]) hz [3, 4, 5, 6, 7, 8, 9, 10, 11, 12, 13, 14, 15, 16, 17, 18, 19, 20] rfl)).trans ((hf85 z (jnsub (V := [40, 41, 37, 38, 39, 42, 43, 44, 45, 46, 47, 34, 35, 36, 68, 69, 70]) hz [9, 10, 6, 7, 8, 11, 12, 13, 14, 15, 16, 3, 4, 5, 18, 19, 20] rfl)).trans ((hf77 z (jnsub (V := [70]) hz [20] rfl)).trans ((hu55 z (jnsub (V := [34, 35, 36, 37, 38, 39, 40, 41, 42, 43, 44, 45, 46, 47]) hz [3, 4, 5, 6, 7, 8, 9, 10, 11, 12, 13, 14, 15, 16] rfl)).trans ((hf50 z (jnsub (V := [26]) hz [0] rfl)).trans ((hf28 z (jnsub (V := [34, 35, 36, 37, 38, 39, 40, 41, 42, 43, 44, 45, 46, 47, 49, 68, 69, 70]) hz [3, 4, 5, 6, 7, 8, 9, 10, 11, 12, 13, 14, 15, 16, 17, 18, 19, 20] rfl)).trans ((hf23 z (jnsub (V := [34, 35, 36, 37, 38, 39, 40, 41, 42, 43, 44, 45, 46, 47, 49, 68, 69, 70]) hz [3, 4, 5, 6, 7, 8, 9, 10, 11, 12, 13, 14, 15, 16, 17, 18, 19, 20] rfl)).trans (hf10 z (jnsub (V := [34, 35, 36, 37, 38, 39, 40, 41, 42, 43, 44, 45, 46, 47, 49, 68, 69, 70, 76, 77]) hz [3, 4, 5, 6, 7, 8, 9, 10, 11, 12, 13, 14, 15, 16, 17, 18, 19, 20, 21, 22] rfl)))))))))))))
                  have hwF : ∀ z, z ∉ [25, 53, 54, 55, 56, 58, 59, 75, 80] → w195 z = w z := (fun z hz => ((hw195 z (jnsub (V := [25]) hz [0] rfl)).trans ((hw193 z (jnsub (V := [53, 54, 55, 56, 58, 59]) hz [1, 2, 3, 4, 5, 6] rfl)).trans ((hw50 z (jnsub (V := [53, 54, 55, 58]) hz [1, 2, 3, 5] rfl)).trans ((hw45 z (jne hz 4 rfl)).trans ((hw41 z (jne hz 4 rfl)).trans ((hw37 z (jne hz 4 rfl)).trans ((hw33 z (jnsub (V := [53, 54, 55, 56, 58, 59]) hz [1, 2, 3, 4, 5, 6] rfl)).trans ((hw28 z (jnsub (V := [80]) hz [8] rfl)).trans ((hw23 z (jnsub (V := [80]) hz [8] rfl)).trans (hw10 z (jnsub (V := [53, 54, 55, 56, 58, 59, 75]) hz [1, 2, 3, 4, 5, 6, 7] rfl))))))))))))
                  have hTP : seTp s (s.1 k) = ((pbE (tSs s.2.2.2.2.2.1 0 s.2.2.2.1.length) ++ pbE (tSs s.2.2.2.2.2.1 1 s.2.2.2.1.length)), BB, EE, exE RF, eyO RF) := by
                    have hR1 : seR s (s.1 k) = RF := by rw [eRF, eR1, eT1]; unfold seR; rw [hBB]; rfl
                    unfold seTp
                    rw [hBB, hR1, eEE]
                    rfl
                  have e : stSess s (nI k) = (1, setSe (setK s (s.2.2.1 + s.2.2.2.1.length + 1)) ((pbE (tSs s.2.2.2.2.2.1 0 s.2.2.2.1.length) ++ pbE (tSs s.2.2.2.2.2.1 1 s.2.2.2.1.length)), BB, EE, exE RF, eyO RF)) := by
                    unfold stSess
                    rw [if_pos (nI_rowP hk), hrnk, if_pos hok, if_neg hw48, if_neg hJ, hTP]
                  have g25 : bl (w195 25) 0 66 = (pbE (tSs s.2.2.2.2.2.1 0 s.2.2.2.1.length) ++ pbE (tSs s.2.2.2.2.2.1 1 s.2.2.2.1.length)) := by
                    rw [show w195 25 = w195 25 from rfl, hx195, hC194]
                    exact bl_w0 (by simp only [List.length_append, pbE_len]) (app_lt (pbE_lt _) (pbE_lt _))
                  exact hR F201 _ _ _ dX12_session_413 rfl ⟨_, _, _, _, by rw [e]; exact hI.se (c := s.2.2.1 + s.2.2.2.1.length + 1) (t := ((pbE (tSs s.2.2.2.2.2.1 0 s.2.2.2.1.length) ++ pbE (tSs s.2.2.2.2.2.1 1 s.2.2.2.1.length)), BB, EE, exE RF, eyO RF)) H204 hV207 (by omega) hvx206 (hV208.trans (by rw [odd_t ((cmp0 (b := 1) (by omega) (by decide)).mp c332)]; rfl)) hV209 hJ (by omega) hok.2 (fun z hz => hvF z (jdj rfl hz)) (fun z hz => hnF z (jdj rfl hz)) hN210 hv193 hN211 hBN hEN (ex_lt (eRF ▸ onFin (eR1 ▸ hR1on))) (fun z hz => hwF z (jdj rfl hz)) g25 (app_lt (pbE_lt _) (pbE_lt _)), by rw [e], O205⟩
              · refine jr_bipush (v := (-2 : Int32)) hE dX12_session_98 (by decide) ?_
                have hvF : ∀ z, z ∉ [31, 57, 78] → v10 z = v z := (fun z hz => (hvv10 z (jne hz 0 rfl) (jne hz 1 rfl) (jne hz 2 rfl)))
                have hnF : ∀ z, z ∉ [34, 35, 36, 37, 38, 39, 40, 41, 42, 43, 44, 45, 46, 47, 49, 68, 69, 70, 76, 77] → n10 z = n z := (fun z hz => (hf10 z (jnsub (V := [34, 35, 36, 37, 38, 39, 40, 41, 42, 43, 44, 45, 46, 47, 49, 68, 69, 70, 76, 77]) hz [0, 1, 2, 3, 4, 5, 6, 7, 8, 9, 10, 11, 12, 13, 14, 15, 16, 17, 18, 19] rfl)))
                have hwF : ∀ z, z ∉ [53, 54, 55, 56, 58, 59, 75] → w10 z = w z := (fun z hz => (hw10 z (jnsub (V := [53, 54, 55, 56, 58, 59, 75]) hz [0, 1, 2, 3, 4, 5, 6] rfl)))
                have e : stSess s (nI k) = (-2, setK s (s.2.2.1 + s.2.2.2.1.length)) := by
                  unfold stSess
                  rw [if_pos (nI_rowP hk), hrnk, if_pos hok, if_neg hw48, if_pos (show seJ s = none from Classical.byContradiction (fun h => b2i_0 c95 h))]
                exact hR F7 _ _ _ dX12_session_100 rfl ⟨_, _, _, _, by rw [e]; exact hI.keep (c := s.2.2.1 + s.2.2.2.1.length) M10 h3110 (by omega) (fun z hz => hvF z (jdj rfl hz)) (fun z hz => hnF z (jdj rfl hz)) (fun z hz => hwF z (jdj rfl hz)), by rw [e], O10⟩
            · refine jr_bipush (v := (-5 : Int32)) hE dX12_session_88 (by decide) ?_
              have e : stSess s (nI k) = (-5, s) := by
                unfold stSess
                rw [if_pos (nI_rowP hk), hrnk, if_pos hok, if_pos (b2i_1 (p := 48 < s.2.2.1 + (1 + s.2.2.2.1.length)) c85)]
              exact hR F _ _ _ dX12_session_90 rfl ⟨v, n, g, w, by rw [e]; exact hI, by rw [e], mO.rf o a F⟩
          · refine jr_bipush (v := (-2 : Int32)) hE dX12_session_72 (by decide) ?_
            have e : stSess s (nI k) = (-2, s) := by
              unfold stSess
              rw [if_pos (nI_rowP hk), hrnk, if_neg (fun h => absurd (b2i_t h) (by rw [← hb, c69]; decide))]
            exact hR F _ _ _ dX12_session_74 rfl ⟨v, n, g, w, by rw [e]; exact hI, by rw [e], mO.rf o a F⟩
        | succ r0 ih =>
          intro i b hi hb
          refine jr_iload_n hE dX12_session_35 0 rfl ?_
          refine jr_aload_n hE dX12_session_36 2 rfl ?_
          refine jr_get hE dX12_session_37 f533 M0.ob rfl ?_
          rw [hpI.2.2.1.1]
          refine jr_icmp_ge (tgt := 68) hE dX12_session_40 (by decide) (fun c_40 => absurd c_40 (nI_ge (b := s.2.2.2.1.length) (by omega) (by omega))) (fun c_40 => ?_)
          refine jr_iload_n hE dX12_session_43 1 rfl ?_
          refine jr_if_eq (tgt := 60) hE dX12_session_44 (by decide) (fun c44 => ?_) (fun c44 => ?_)
          · refine jr_iconst (v := (0 : Int32)) hE dX12_session_60 (by decide) ?_
            refine jr_istore_n (lv' := [(2, .int (0 : Int32)), (3, .int (nI i)), (0, .ref o), (1, .int (nI k))]) hE dX12_session_61 (by decide) rfl ?_
            refine jr_iinc (v := nI (i + 1)) (lv' := [(3, .int (nI (i + 1))), (2, .int (0 : Int32)), (0, .ref o), (1, .int (nI k))]) hE dX12_session_62 1 rfl (nI_1 _) (by decide) rfl ?_
            refine jr_goto (tgt := 35) hE dX12_session_65 (by decide) ?_
            refine jr_lv (lv' := [(3, .int (nI (i + 1))), (2, .int (0 : Int32)), (0, .ref o), (1, .int (nI k))]) [0, 1, 2, 3] rfl ?_
            exact ih (i + 1) 0 (by omega) ((b2i_f (fun q => absurd (b2i_t (p := ((s.1 k).length ≤ 40 ∧ 0 < s.2.2.2.1.length) ∧ ∀ t, t < i → s.2.2.2.2.2.1 t ≠ none) ⟨q.1, fun t ht => q.2 t (by omega)⟩) (by rw [← hb, c44]; decide))).symm)
          · refine jr_aload_n hE dX12_session_47 2 rfl ?_
            refine jr_get hE dX12_session_48 f134 M0.ob rfl ?_
            refine jr_iload_n hE dX12_session_51 0 rfl ?_
            refine jr_zald (v := (bi (s.2.2.2.2.2.1 i).isSome)) hE dX12_session_52 (M0.Z (k := 22) (N := 4) (by decide)) (vp_in_nI (by omega) (by decide)) (by rw [nI_clamp (by omega)]; exact td_is hpI.2.2.2.2.1 (by omega)) ?_
            refine jr_if_eq (tgt := 60) hE dX12_session_53 (by decide) (fun c53 => ?_) (fun c53 => ?_)
            · refine jr_iconst (v := (0 : Int32)) hE dX12_session_60 (by decide) ?_
              refine jr_istore_n (lv' := [(2, .int (0 : Int32)), (3, .int (nI i)), (0, .ref o), (1, .int (nI k))]) hE dX12_session_61 (by decide) rfl ?_
              refine jr_iinc (v := nI (i + 1)) (lv' := [(3, .int (nI (i + 1))), (2, .int (0 : Int32)), (0, .ref o), (1, .int (nI k))]) hE dX12_session_62 1 rfl (nI_1 _) (by decide) rfl ?_
              refine jr_goto (tgt := 35) hE dX12_session_65 (by decide) ?_
              refine jr_lv (lv' := [(3, .int (nI (i + 1))), (2, .int (0 : Int32)), (0, .ref o), (1, .int (nI k))]) [0, 1, 2, 3] rfl ?_
              exact ih (i + 1) 0 (by omega) ((b2i_f (fun q => absurd (Option.isSome_iff_ne_none.mpr (q.2 i (Nat.lt_succ_self i))) (by rw [bi_0 c53]; decide))).symm)
            · refine jr_iconst (v := (1 : Int32)) hE dX12_session_56 (by decide) ?_
              refine jr_goto (tgt := 61) hE dX12_session_57 (by decide) ?_
              refine jr_istore_n (lv' := [(2, .int (1 : Int32)), (3, .int (nI i)), (0, .ref o), (1, .int (nI k))]) hE dX12_session_61 (by decide) rfl ?_
              refine jr_iinc (v := nI (i + 1)) (lv' := [(3, .int (nI (i + 1))), (2, .int (1 : Int32)), (0, .ref o), (1, .int (nI k))]) hE dX12_session_62 1 rfl (nI_1 _) (by decide) rfl ?_
              refine jr_goto (tgt := 35) hE dX12_session_65 (by decide) ?_
              refine jr_lv (lv' := [(3, .int (nI (i + 1))), (2, .int (1 : Int32)), (0, .ref o), (1, .int (nI k))]) [0, 1, 2, 3] rfl ?_
              exact ih (i + 1) 1 (by omega) ((b2i_t (by
                have hp := b2i_1 (p := ((s.1 k).length ≤ 40 ∧ 0 < s.2.2.2.1.length) ∧ ∀ t, t < i → s.2.2.2.2.2.1 t ≠ none) (by rw [← hb]; exact c44)
                exact ⟨hp.1, fun t ht => by
                  rcases Nat.lt_or_ge t i with q | q
                  · exact hp.2 t q
                  · rw [show t = i by omega]
                    exact Option.isSome_iff_ne_none.mp (bi_1 c53)⟩)).symm)
      exact loop s.2.2.2.1.length 0 b (by omega) (by rw [hb0]; exact b2i_c ⟨fun h => ⟨h, fun t ht => absurd ht (Nat.not_lt_zero t)⟩, fun h => h.1⟩)
    refine jr_aload_n hE dX12_session_9 0 rfl ?_
    refine jr_get hE dX12_session_10 f96 M0.ob rfl ?_
    refine jr_iload_n hE dX12_session_13 1 rfl ?_
    refine jr_iald (v := nI (s.1 k).length) hE dX12_session_14 (M0.I (k := 8) (N := 16) (by decide)) (vp_in_nI (by omega) (by decide)) (by rw [nI_clamp (by omega)]; exact z1k) ?_
    refine jr_bipush (v := (40 : Int32)) hE dX12_session_15 (by decide) ?_
    refine jr_icmp_gt (tgt := 31) hE dX12_session_17 (by decide) (fun c17 => ?_) (fun c17 => ?_)
    · refine jr_iconst (v := (0 : Int32)) hE dX12_session_31 (by decide) ?_
      refine jr_istore_n (lv' := [(2, .int (0 : Int32)), (0, .ref o), (1, .int (nI k))]) hE dX12_session_32 (by decide) rfl ?_
      refine jr_iconst (v := (0 : Int32)) hE dX12_session_33 (by decide) ?_
      refine jr_istore_n (lv' := [(3, .int (0 : Int32)), (2, .int (0 : Int32)), (0, .ref o), (1, .int (nI k))]) hE dX12_session_34 (by decide) rfl ?_
      refine jr_lv (lv' := [(3, .int (0 : Int32)), (2, .int (0 : Int32)), (0, .ref o), (1, .int (nI k))]) [0, 1, 2, 3] rfl ?_
      exact rest 0 ((b2i_f (fun h => absurd (nI_le (b := 40) h.1 (by decide)) (gt40 c17))).symm)
    · refine jr_aload_n hE dX12_session_20 0 rfl ?_
      refine jr_get hE dX12_session_21 f533 M0.ob rfl ?_
      rw [hpI.2.2.1.1]
      refine jr_if_le (tgt := 31) hE dX12_session_24 (by decide) (fun c24 => ?_) (fun c24 => ?_)
      · refine jr_iconst (v := (0 : Int32)) hE dX12_session_31 (by decide) ?_
        refine jr_istore_n (lv' := [(2, .int (0 : Int32)), (0, .ref o), (1, .int (nI k))]) hE dX12_session_32 (by decide) rfl ?_
        refine jr_iconst (v := (0 : Int32)) hE dX12_session_33 (by decide) ?_
        refine jr_istore_n (lv' := [(3, .int (0 : Int32)), (2, .int (0 : Int32)), (0, .ref o), (1, .int (nI k))]) hE dX12_session_34 (by decide) rfl ?_
        refine jr_lv (lv' := [(3, .int (0 : Int32)), (2, .int (0 : Int32)), (0, .ref o), (1, .int (nI k))]) [0, 1, 2, 3] rfl ?_
        exact rest 0 ((b2i_f (fun h => absurd (nI_leC (m := 0) (by omega) (by decide) c24) (by omega))).symm)
      · refine jr_iconst (v := (1 : Int32)) hE dX12_session_27 (by decide) ?_
        refine jr_goto (tgt := 32) hE dX12_session_28 (by decide) ?_
        refine jr_istore_n (lv' := [(2, .int (1 : Int32)), (0, .ref o), (1, .int (nI k))]) hE dX12_session_32 (by decide) rfl ?_
        refine jr_iconst (v := (0 : Int32)) hE dX12_session_33 (by decide) ?_
        refine jr_istore_n (lv' := [(3, .int (0 : Int32)), (2, .int (1 : Int32)), (0, .ref o), (1, .int (nI k))]) hE dX12_session_34 (by decide) rfl ?_
        refine jr_lv (lv' := [(3, .int (0 : Int32)), (2, .int (1 : Int32)), (0, .ref o), (1, .int (nI k))]) [0, 1, 2, 3] rfl ?_
        exact rest 1 ((b2i_t ⟨nI_leC (by omega) (by decide) (le40 c17), Nat.pos_of_ne_zero (fun h => c24 (by rw [h]; decide))⟩).symm)
  · refine jr_iconst (v := (-1 : Int32)) hE dX12_session_7 (by decide) ?_
    have e : stSess s m = (-1, s) := by
      unfold stSess
      rw [if_neg (fun h => absurd (b2i_t h) (by rw [c4]; decide))]
    exact hR F _ _ _ dX12_session_8 rfl ⟨v, n, g, w, by rw [e]; exact hI, by rw [e], mO.rf o a F⟩

