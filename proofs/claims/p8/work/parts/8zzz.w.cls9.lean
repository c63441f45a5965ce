/-! JointSigns: manyHold -/
set_option maxHeartbeats 4000000 in
set_option maxRecDepth 100000 in
theorem c_c_manyHold (l : Launch) (G : Nat → ClassId) (c : Nat → Nat) (B : Nat → List Nat) (S : Nat → Nat) (P : Nat → JP) (q : SS) (X : Nat) (v : Nat → Int32) (s : ST) : jKi l yX11_manyHold wsX11_manyHold ({ frames := 7, cells := 0, slots := 0, locals := 172 }) G [.ref (c 0)] (fun L F => cI G L F c B S P q X v s) (fun L F ans F1 => ∃ B1 S1 P1 q1 X1 v1, cI G L F1 c B1 S1 P1 q1 X1 v1 (stMany s).2 ∧ ans = (stMany s).1 ∧ cO c F F1) := by
  refine jm_ki (cc := cX11_manyHold) (maxL := 4) (rt := .int) (by decide) rfl (Nat.le_of_ble_eq_true rfl) ?_
  intro E L F hE hR hpre
  have hE : jOk E G _ cX11_manyHold 4 RX11 wsX11_manyHold := hE
  have hI := hpre
  obtain ⟨W0, hG, hRw, h0, hen, hwk, h2, hsg, hnc, htd, hse⟩ := id hpre
  have hwk48 := hwk.2
  have hs4 := hsg.1
  have hen4 := hen.1
  have f56 : jFl RX11 wsX11_manyHold 56 11 6 := ⟨rfl, by decide, by decide +kernel, by decide +kernel⟩
  have f60 : jFl RX11 wsX11_manyHold 60 11 7 := ⟨rfl, by decide, by decide +kernel, by decide +kernel⟩
  have f37 : jFl RX11 wsX11_manyHold 37 11 3 := ⟨rfl, by decide, by decide +kernel, by decide +kernel⟩
  have f52 : jFl RX11 wsX11_manyHold 52 11 5 := ⟨rfl, by decide, by decide +kernel, by decide +kernel⟩
  refine jr_aload_n hE dX11_manyHold_0 0 rfl ?_
  refine jr_get hE dX11_manyHold_1 f56 W0.o0 rfl ?_
  rw [show v 0 = (nI s.2.1.length) from h0]
  refine jr_if_ne (tgt := 10) hE dX11_manyHold_4 (by decide) (fun c4 => ?_) (fun c4 => ?_)
  · have hne : ¬ s.2.1.length = 0 := fun h => c4 ((nI_eq (b := 0) (by omega) (by decide)).mpr h)
    refine jr_iconst (v := (1 : Int32)) hE dX11_manyHold_10 (by decide) ?_
    refine jr_istore_n (lv' := [(1, .int (1 : Int32)), (0, .ref (c 0))]) hE dX11_manyHold_11 (by decide) rfl ?_
    refine jr_iconst (v := (0 : Int32)) hE dX11_manyHold_12 (by decide) ?_
    refine jr_istore_n (lv' := [(2, .int (0 : Int32)), (1, .int (1 : Int32)), (0, .ref (c 0))]) hE dX11_manyHold_13 (by decide) rfl ?_
    have loop : ∀ (r0 i : Nat) (F4 : Nat → va_E) (y4 : Int32) (Sz : Nat → Nat) (Pz : Nat → JP), i + r0 = s.2.1.length → CW G L F4 c B Sz Pz q X v → (∀ z, z ∉ [11, 13, 15, 17] → Sz z = S z) → (∀ z, z ∉ [21, 22, 23, 24, 25, 26, 27, 28] → Pz z = P z) → ((y4 = 1 ∧ (∀ t, t < i → wlE (enG s.2.1 t) ∧ Sz (11 + 2 * t) = bnum ((enG s.2.1 t).2.2.1.drop 32) ∧ rep (Pz (21 + 2 * t)) (lfE (bnum (enG s.2.1 t).1)) ∧ rep (Pz (22 + 2 * t)) (lfE (bnum ((enG s.2.1 t).2.2.1.take 32))))) ∨ (y4 = 0 ∧ ¬ (∀ t, t < i → wlE (enG s.2.1 t)))) → cO c F F4 → J E L F4 0 0 14 [(2, .int (nI i)), (1, .int y4), (0, .ref (c 0))] [] := by
      intro r0
      induction r0 with
      | zero =>
        intro i F4 y4 Sz Pz hi W4 hSf hPf hy O4
        have hiN : s.2.1.length = i := by omega
        subst hiN
        refine jr_iload_n hE dX11_manyHold_14 0 rfl ?_
        refine jr_aload_n hE dX11_manyHold_15 2 rfl ?_
        refine jr_get hE dX11_manyHold_16 f56 W4.o0 rfl ?_
        rw [show v 0 = (nI s.2.1.length) from h0]
        refine jr_icmp_ge (tgt := 59) hE dX11_manyHold_19 (by decide) (fun c_19 => ?_) (fun c_19 => absurd (nI_le (by omega) (by omega)) c_19)
        rcases hy with ⟨hy1, hRd⟩ | ⟨hy1, hRd⟩
        · subst hy1
          have hall : (∀ t, t < s.2.1.length → wlE (enG s.2.1 t)) := fun t ht => (hRd t ht).1
          refine jr_iload_n hE dX11_manyHold_59 1 rfl ?_
          refine jr_if_eq (tgt := 74) hE dX11_manyHold_60 (by decide) (fun c_60 => absurd c_60 (by decide)) (fun c_60 => ?_)
          refine jr_iconst (v := (1 : Int32)) hE dX11_manyHold_63 (by decide) ?_
          refine jr_iconst (v := (2 : Int32)) hE dX11_manyHold_64 (by decide) ?_
          refine jr_aload_n hE dX11_manyHold_65 2 rfl ?_
          refine jr_get hE dX11_manyHold_66 f56 W4.o0 rfl ?_
          rw [show v 0 = (nI s.2.1.length) from h0]
          refine jr_imul (z := nI (2 * s.2.1.length)) hE dX11_manyHold_69 (pk_mul 2 s.2.1.length) ?_
          refine jr_iadd (z := nI (1 + (2 * s.2.1.length))) hE dX11_manyHold_70 (nI_add 1 _) ?_
          refine jr_goto (tgt := 75) hE dX11_manyHold_71 (by decide) ?_
          refine jr_istore_n (lv' := [(2, .int (nI (1 + (2 * s.2.1.length)))), (1, .int (1 : Int32)), (0, .ref (c 0))]) hE dX11_manyHold_75 (by decide) rfl ?_
          refine jr_aload_n hE dX11_manyHold_76 2 rfl ?_
          refine jr_iload_n hE dX11_manyHold_77 0 rfl ?_
          refine jr_kVi (ci := 11) (n := 1) (As := [.int (nI (1 + (2 * s.2.1.length)))]) (rest := []) hE dX11_manyHold_78 (fun l => c_c_wouldPass l G c B Sz Pz q X v s.2.2.1 (1 + (2 * s.2.1.length))) gX11_manyHold_X11_wouldPass rfl W4.o0 rfl (by decide +kernel) ⟨rfl, rfl, by decide, by decide⟩ (by decide) rfl rfl (Nat.le_of_ble_eq_true rfl) (⟨W4, hwk.1, by omega, by omega⟩) (fun r3 F1 q2 => ?_)
          obtain ⟨eq2, rq2⟩ := q2
          subst eq2 rq2
          refine jr_if_eq (tgt := 87) hE dX11_manyHold_81 (by decide) (fun c81 => ?_) (fun c81 => ?_)
          · have hw48 : ¬ 48 < s.2.2.1 + (1 + 2 * s.2.1.length) := b2i_0 c81
            refine jr_aload_n hE dX11_manyHold_87 2 rfl ?_
            refine jr_dup hE dX11_manyHold_88 rfl ?_
            refine jr_get hE dX11_manyHold_89 f60 W4.o0 rfl ?_
            rw [show v 1 = (nI s.2.2.1) from hwk.1]
            refine jr_iload_n hE dX11_manyHold_92 0 rfl ?_
            refine jr_iadd (z := nI (s.2.2.1 + (1 + (2 * s.2.1.length)))) hE dX11_manyHold_93 (nI_add _ _) ?_
            refine jr_put (ty := .int) hE dX11_manyHold_94 f60 W4.o0 rfl (by decide +kernel) rfl rfl (Nat.le_of_ble_eq_true rfl) (fun F4 h4 u4 => ?_)
            obtain ⟨W4, P4⟩ := W4.setV0 (v1 := (uz v 1 (nI (s.2.2.1 + (1 + (2 * s.2.1.length)))))) h4 (fun z hz => uz_n _ _ (jne hz 1 rfl)) u4
            have O4 := O4.tr P4
            obtain ⟨v4, ev4, hv4, yv4⟩ := uz_ab v 1 (nI (s.2.2.1 + (1 + (2 * s.2.1.length))))
            rw [ev4] at W4
            have nv4 : ∀ z, z ≠ 1 → v4 z = v z := fun z hz => hv4 z (fun e => hz (List.mem_singleton.mp e))
            refine jr_iload_n hE dX11_manyHold_97 1 rfl ?_
            refine jr_if_eq (tgt := 123) hE dX11_manyHold_98 (by decide) (fun c_98 => absurd c_98 (by decide)) (fun c_98 => ?_)
            refine jr_aload_n hE dX11_manyHold_101 2 rfl ?_
            refine jr_get hE dX11_manyHold_102 f37 W4.o0 rfl ?_
            refine jr_aload_n hE dX11_manyHold_105 2 rfl ?_
            refine jr_get hE dX11_manyHold_106 f52 W4.o0 rfl ?_
            refine jr_aload_n hE dX11_manyHold_109 2 rfl ?_
            refine jr_get hE dX11_manyHold_110 f56 W4.o0 rfl ?_
            have hv5 : v4 0 = (nI s.2.1.length) := (nv4 0 (by decide)).trans h0
            rw [show v4 0 = (nI s.2.1.length) from hv5]
            have hp6 : rep (Pz 16) GE := by rw [show Pz 16 = P 16 from (hPf 16 (by decide))]; exact hG
            have hdat : ∀ t, t < s.2.1.length → B (26 + 3 * t) = (enG s.2.1 t).1 ∧ B (27 + 3 * t) = (enG s.2.1 t).2.1 ∧ B (28 + 3 * t) = (enG s.2.1 t).2.2.1 ∧ (enG s.2.1 t).1.length = 32 ∧ (enG s.2.1 t).2.1.length ≤ 40 ∧ (enG s.2.1 t).2.2.1.length = 64 ∧ Sz (10 + 2 * t) = (enG s.2.1 t).2.2.2 ∧ (enG s.2.1 t).2.2.2 < NN ∧ Sz (11 + 2 * t) = bnum ((enG s.2.1 t).2.2.1.drop 32) ∧ bnum ((enG s.2.1 t).2.2.1.drop 32) < NN ∧ rep (Pz (21 + 2 * t)) (lfE (bnum (enG s.2.1 t).1)) ∧ rep (Pz (22 + 2 * t)) (lfE (bnum ((enG s.2.1 t).2.2.1.take 32))) := by
              intro t ht
              obtain ⟨d1, d2, d3, d4, d5, d6, d7, d8⟩ := hen.2 t ht
              obtain ⟨y1, y2, y3, y5⟩ := hRd t ht
              exact ⟨d1, d2, d3, d4, d5, d6, ((hSf (10 + 2 * t) (by simp only [List.mem_cons, List.not_mem_nil, or_false, not_or]; omega))).trans d7, d8, y2, y1.2.2, y3, y5⟩
            refine jr_kVi (ci := 10) (n := 2) (As := [.ref (c 2), .int (nI s.2.1.length)]) (rest := []) hE dX11_manyHold_113 (fun l => c_s_judgeMany l G c B Sz Pz q X v4 s.2.1.length s.2.1) gX11_manyHold_X10_judgeMany rfl W4.o6 rfl (by decide +kernel) ⟨rfl, rfl, by decide, by decide⟩ (by decide) rfl rfl (Nat.le_of_ble_eq_true rfl) (⟨W4, hen4, hp6, hdat⟩) (fun r9 F7 q8 => ?_)
            obtain ⟨B10, S10, Pf10, q10, W10, hB10, hS10, hPf10, r9e, P10⟩ := q8
            subst r9e
            have O10 := O4.tr P10
            refine jr_if_eq (tgt := 123) hE dX11_manyHold_116 (by decide) (fun c116 => ?_) (fun c116 => ?_)
            · refine jr_iconst (v := (0 : Int32)) hE dX11_manyHold_123 (by decide) ?_
              refine jr_istore_n (lv' := [(3, .int (0 : Int32)), (2, .int (nI (1 + (2 * s.2.1.length)))), (1, .int (1 : Int32)), (0, .ref (c 0))]) hE dX11_manyHold_124 (by decide) rfl ?_
              refine jr_aload_n hE dX11_manyHold_125 3 rfl ?_
              refine jr_iconst (v := (0 : Int32)) hE dX11_manyHold_126 (by decide) ?_
              refine jr_put (ty := .int) hE dX11_manyHold_127 f56 W10.o0 rfl (by decide +kernel) rfl rfl (Nat.le_of_ble_eq_true rfl) (fun F11 h11 u11 => ?_)
              obtain ⟨W11, P11⟩ := W10.setV0 (v1 := (uz v4 0 (0 : Int32))) h11 (fun z hz => uz_n _ _ (jne hz 0 rfl)) u11
              have O11 := O10.tr P11
              obtain ⟨v11, ev11, hv11, yv11⟩ := uz_ab v4 0 (0 : Int32)
              rw [ev11] at W11
              have nv11 : ∀ z, z ≠ 0 → v11 z = v4 z := fun z hz => hv11 z (fun e => hz (List.mem_singleton.mp e))
              refine jr_iload_n hE dX11_manyHold_130 0 rfl ?_
              refine jr_if_eq (tgt := 138) hE dX11_manyHold_131 (by decide) (fun c_131 => ?_) (fun c_131 => absurd (rfl) c_131)
              refine jr_iconst (v := (0 : Int32)) hE dX11_manyHold_138 (by decide) ?_
              have hv12 : v11 1 = (nI (s.2.2.1 + (1 + (2 * s.2.1.length)))) := (nv11 1 (by decide)).trans yv4
              have e : stMany s = (0, clrE (setK s (s.2.2.1 + (1 + 2 * s.2.1.length)))) := by
                unfold stMany
                rw [if_neg hne, if_pos hall, if_neg hw48, b2i_f (b2i_0 c116)]
              exact hR F11 _ _ _ dX11_manyHold_139 rfl ⟨_, _, _, _, _, _, by rw [e]; exact hI.clr (k := s.2.2.1 + (1 + 2 * s.2.1.length)) W11 (fun z hz => (hB10 z (by (try simp only [List.mem_cons, List.not_mem_nil, or_false, not_or] at hz ⊢); omega))) (fun z hz => ((hS10 z (by (try simp only [List.mem_cons, List.not_mem_nil, or_false, not_or] at hz ⊢); omega)).trans (hSf z (by (try simp only [List.mem_cons, List.not_mem_nil, or_false, not_or] at hz ⊢); omega)))) (fun z hz => ((hPf10 z (by (try simp only [List.mem_cons, List.not_mem_nil, or_false, not_or] at hz ⊢); omega)).trans (hPf z (by (try simp only [List.mem_cons, List.not_mem_nil, or_false, not_or] at hz ⊢); omega)))) (fun z hz => ((nv11 z (by (try simp only [List.mem_cons, List.not_mem_nil, or_false, not_or] at hz); omega)).trans (nv4 z (by (try simp only [List.mem_cons, List.not_mem_nil, or_false, not_or] at hz); omega)))) hv12 (by omega) yv11, by rw [e], O11⟩
            · refine jr_iconst (v := (1 : Int32)) hE dX11_manyHold_119 (by decide) ?_
              refine jr_goto (tgt := 124) hE dX11_manyHold_120 (by decide) ?_
              refine jr_istore_n (lv' := [(3, .int (1 : Int32)), (2, .int (nI (1 + (2 * s.2.1.length)))), (1, .int (1 : Int32)), (0, .ref (c 0))]) hE dX11_manyHold_124 (by decide) rfl ?_
              refine jr_aload_n hE dX11_manyHold_125 3 rfl ?_
              refine jr_iconst (v := (0 : Int32)) hE dX11_manyHold_126 (by decide) ?_
              refine jr_put (ty := .int) hE dX11_manyHold_127 f56 W10.o0 rfl (by decide +kernel) rfl rfl (Nat.le_of_ble_eq_true rfl) (fun F13 h13 u13 => ?_)
              obtain ⟨W13, P13⟩ := W10.setV0 (v1 := (uz v4 0 (0 : Int32))) h13 (fun z hz => uz_n _ _ (jne hz 0 rfl)) u13
              have O13 := O10.tr P13
              obtain ⟨v13, ev13, hv13, yv13⟩ := uz_ab v4 0 (0 : Int32)
              rw [ev13] at W13
              have nv13 : ∀ z, z ≠ 0 → v13 z = v4 z := fun z hz => hv13 z (fun e => hz (List.mem_singleton.mp e))
              refine jr_iload_n hE dX11_manyHold_130 0 rfl ?_
              refine jr_if_eq (tgt := 138) hE dX11_manyHold_131 (by decide) (fun c_131 => absurd c_131 (by decide)) (fun c_131 => ?_)
              refine jr_iconst (v := (1 : Int32)) hE dX11_manyHold_134 (by decide) ?_
              refine jr_goto (tgt := 139) hE dX11_manyHold_135 (by decide) ?_
              have hv14 : v13 1 = (nI (s.2.2.1 + (1 + (2 * s.2.1.length)))) := (nv13 1 (by decide)).trans yv4
              have e : stMany s = (1, clrE (setK s (s.2.2.1 + (1 + 2 * s.2.1.length)))) := by
                unfold stMany
                rw [if_neg hne, if_pos hall, if_neg hw48, b2i_t (b2i_1 c116)]
              exact hR F13 _ _ _ dX11_manyHold_139 rfl ⟨_, _, _, _, _, _, by rw [e]; exact hI.clr (k := s.2.2.1 + (1 + 2 * s.2.1.length)) W13 (fun z hz => (hB10 z (by (try simp only [List.mem_cons, List.not_mem_nil, or_false, not_or] at hz ⊢); omega))) (fun z hz => ((hS10 z (by (try simp only [List.mem_cons, List.not_mem_nil, or_false, not_or] at hz ⊢); omega)).trans (hSf z (by (try simp only [List.mem_cons, List.not_mem_nil, or_false, not_or] at hz ⊢); omega)))) (fun z hz => ((hPf10 z (by (try simp only [List.mem_cons, List.not_mem_nil, or_false, not_or] at hz ⊢); omega)).trans (hPf z (by (try simp only [List.mem_cons, List.not_mem_nil, or_false, not_or] at hz ⊢); omega)))) (fun z hz => ((nv13 z (by (try simp only [List.mem_cons, List.not_mem_nil, or_false, not_or] at hz); omega)).trans (nv4 z (by (try simp only [List.mem_cons, List.not_mem_nil, or_false, not_or] at hz); omega)))) hv14 (by omega) yv13, by rw [e], O13⟩
          · refine jr_bipush (v := (-5 : Int32)) hE dX11_manyHold_84 (by decide) ?_
            have e : stMany s = (-5, s) := by
              unfold stMany
              rw [if_neg hne, if_pos hall, if_pos (b2i_1 (p := 48 < s.2.2.1 + (1 + 2 * s.2.1.length)) c81)]
            exact hR F4 _ _ _ dX11_manyHold_86 rfl ⟨_, _, _, _, _, _, by rw [e]; exact hI.upd (k := s.2.2.1) W4 (fun z hz => rfl) (fun z hz => (hSf z (by simp only [List.mem_cons, List.not_mem_nil, or_false, not_or] at hz ⊢; omega))) (fun z hz => (hPf z (by simp only [List.mem_cons, List.not_mem_nil, or_false, not_or] at hz ⊢; omega))) (fun z hz => rfl) hwk.1 (hwk.2), by rw [e], O4⟩
        · subst hy1
          refine jr_iload_n hE dX11_manyHold_59 1 rfl ?_
          refine jr_if_eq (tgt := 74) hE dX11_manyHold_60 (by decide) (fun c_60 => ?_) (fun c_60 => absurd (rfl) c_60)
          refine jr_iconst (v := (0 : Int32)) hE dX11_manyHold_74 (by decide) ?_
          refine jr_istore_n (lv' := [(2, .int (0 : Int32)), (1, .int (0 : Int32)), (0, .ref (c 0))]) hE dX11_manyHold_75 (by decide) rfl ?_
          refine jr_aload_n hE dX11_manyHold_76 2 rfl ?_
          refine jr_iload_n hE dX11_manyHold_77 0 rfl ?_
          refine jr_kVi (ci := 11) (n := 1) (As := [.int (0 : Int32)]) (rest := []) hE dX11_manyHold_78 (fun l => c_c_wouldPass l G c B Sz Pz q X v s.2.2.1 0) gX11_manyHold_X11_wouldPass rfl W4.o0 rfl (by decide +kernel) ⟨rfl, rfl, by decide, by decide⟩ (by decide) rfl rfl (Nat.le_of_ble_eq_true rfl) (⟨W4, hwk.1, by omega, by omega⟩) (fun r17 F15 q16 => ?_)
          obtain ⟨eq16, rq16⟩ := q16
          subst eq16 rq16
          refine jr_if_eq (tgt := 87) hE dX11_manyHold_81 (by decide) (fun c_81 => ?_) (fun c_81 => absurd (b2i_f (by omega)) c_81)
          refine jr_aload_n hE dX11_manyHold_87 2 rfl ?_
          refine jr_dup hE dX11_manyHold_88 rfl ?_
          refine jr_get hE dX11_manyHold_89 f60 W4.o0 rfl ?_
          rw [show v 1 = (nI s.2.2.1) from hwk.1]
          refine jr_iload_n hE dX11_manyHold_92 0 rfl ?_
          refine jr_iadd (z := nI (s.2.2.1 + 0)) hE dX11_manyHold_93 (nI_add _ 0) ?_
          refine jr_put (ty := .int) hE dX11_manyHold_94 f60 W4.o0 rfl (by decide +kernel) rfl rfl (Nat.le_of_ble_eq_true rfl) (fun F18 h18 u18 => ?_)
          obtain ⟨W18, P18⟩ := W4.setV0 (v1 := (uz v 1 (nI (s.2.2.1 + 0)))) h18 (fun z hz => uz_n _ _ (jne hz 1 rfl)) u18
          have O18 := O4.tr P18
          obtain ⟨v18, ev18, hv18, yv18⟩ := uz_ab v 1 (nI (s.2.2.1 + 0))
          rw [ev18] at W18
          have nv18 : ∀ z, z ≠ 1 → v18 z = v z := fun z hz => hv18 z (fun e => hz (List.mem_singleton.mp e))
          refine jr_iload_n hE dX11_manyHold_97 1 rfl ?_
          refine jr_if_eq (tgt := 123) hE dX11_manyHold_98 (by decide) (fun c_98 => ?_) (fun c_98 => absurd (rfl) c_98)
          refine jr_iconst (v := (0 : Int32)) hE dX11_manyHold_123 (by decide) ?_
          refine jr_istore_n (lv' := [(3, .int (0 : Int32)), (2, .int (0 : Int32)), (1, .int (0 : Int32)), (0, .ref (c 0))]) hE dX11_manyHold_124 (by decide) rfl ?_
          refine jr_aload_n hE dX11_manyHold_125 3 rfl ?_
          refine jr_iconst (v := (0 : Int32)) hE dX11_manyHold_126 (by decide) ?_
          refine jr_put (ty := .int) hE dX11_manyHold_127 f56 W18.o0 rfl (by decide +kernel) rfl rfl (Nat.le_of_ble_eq_true rfl) (fun F19 h19 u19 => ?_)
          obtain ⟨W19, P19⟩ := W18.setV0 (v1 := (uz v18 0 (0 : Int32))) h19 (fun z hz => uz_n _ _ (jne hz 0 rfl)) u19
          have O19 := O18.tr P19
          obtain ⟨v19, ev19, hv19, yv19⟩ := uz_ab v18 0 (0 : Int32)
          rw [ev19] at W19
          have nv19 : ∀ z, z ≠ 0 → v19 z = v18 z := fun z hz => hv19 z (fun e => hz (List.mem_singleton.mp e))
          refine jr_iload_n hE dX11_manyHold_130 0 rfl ?_
          refine jr_if_eq (tgt := 138) hE dX11_manyHold_131 (by decide) (fun c_131 => ?_) (fun c_131 => absurd (rfl) c_131)
          refine jr_iconst (v := (0 : Int32)) hE dX11_manyHold_138 (by decide) ?_
          have hv20 : v19 1 = (nI (s.2.2.1 + 0)) := (nv19 1 (by decide)).trans yv18
          have e : stMany s = (0, clrE s) := by
            unfold stMany
            rw [if_neg hne, if_neg hRd]
          exact hR F19 _ _ _ dX11_manyHold_139 rfl ⟨_, _, _, _, _, _, by rw [e]; exact hI.clr (k := s.2.2.1) W19 (fun z hz => rfl) (fun z hz => (hSf z (by (try simp only [List.mem_cons, List.not_mem_nil, or_false, not_or] at hz ⊢); omega))) (fun z hz => (hPf z (by (try simp only [List.mem_cons, List.not_mem_nil, or_false, not_or] at hz ⊢); omega))) (fun z hz => ((nv19 z (by (try simp only [List.mem_cons, List.not_mem_nil, or_false, not_or] at hz); omega)).trans (nv18 z (by (try simp only [List.mem_cons, List.not_mem_nil, or_false, not_or] at hz); omega)))) hv20 (hwk.2) yv19, by rw [e], O19⟩
      | succ r0 ih =>
        intro i F4 y4 Sz Pz hi W4 hSf hPf hy O4
        obtain ⟨d1, d2, d3, d4, d5, d6, d7, d8⟩ := hen.2 i (by omega)
        refine jr_iload_n hE dX11_manyHold_14 0 rfl ?_
        refine jr_aload_n hE dX11_manyHold_15 2 rfl ?_
        refine jr_get hE dX11_manyHold_16 f56 W4.o0 rfl ?_
        rw [show v 0 = (nI s.2.1.length) from h0]
        refine jr_icmp_ge (tgt := 59) hE dX11_manyHold_19 (by decide) (fun c_19 => absurd c_19 (nI_ge (by omega) (by omega))) (fun c_19 => ?_)
        refine jr_iload_n hE dX11_manyHold_22 0 rfl ?_
        refine jr_iconst (v := (4 : Int32)) hE dX11_manyHold_23 (by decide) ?_
        refine jr_icmp_ge (tgt := 59) hE dX11_manyHold_24 (by decide) (fun c_24 => absurd c_24 (nI_ge (b := 4) (by omega) (by omega))) (fun c_24 => ?_)
        refine jr_iload_n hE dX11_manyHold_27 1 rfl ?_
        refine jr_if_eq (tgt := 51) hE dX11_manyHold_28 (by decide) (fun c28 => ?_) (fun c28 => ?_)
        · refine jr_iconst (v := (0 : Int32)) hE dX11_manyHold_51 (by decide) ?_
          refine jr_istore_n (lv' := [(1, .int (0 : Int32)), (2, .int (nI i)), (0, .ref (c 0))]) hE dX11_manyHold_52 (by decide) rfl ?_
          refine jr_iinc (v := nI (i + 1)) (lv' := [(2, .int (nI (i + 1))), (1, .int (0 : Int32)), (0, .ref (c 0))]) hE dX11_manyHold_53 1 rfl (nI_1 _) (by decide) rfl ?_
          refine jr_goto (tgt := 14) hE dX11_manyHold_56 (by decide) ?_
          refine jr_lv (lv' := [(2, .int (nI (i + 1))), (1, .int (0 : Int32)), (0, .ref (c 0))]) [0, 1, 2] rfl ?_
          exact ih (i + 1) F4 (0 : Int32) Sz Pz (by omega) W4 (fun z hz => (hSf z (by (try simp only [List.mem_cons, List.not_mem_nil, or_false, not_or] at hz ⊢); omega))) (fun z hz => (hPf z (by (try simp only [List.mem_cons, List.not_mem_nil, or_false, not_or] at hz ⊢); omega))) (.inr ⟨rfl, fun h => by
            rcases hy with ⟨e1, _⟩ | ⟨_, e2⟩
            · rw [c28] at e1; exact absurd e1 (by decide)
            · exact e2 (fun t ht => h t (by omega))⟩) O4
        · refine jr_aload_n hE dX11_manyHold_31 2 rfl ?_
          refine jr_get hE dX11_manyHold_32 f37 W4.o0 rfl ?_
          refine jr_aload_n hE dX11_manyHold_35 2 rfl ?_
          refine jr_get hE dX11_manyHold_36 f52 W4.o0 rfl ?_
          refine jr_iload_n hE dX11_manyHold_39 0 rfl ?_
          obtain ⟨fa21, ja21, ga21⟩ := W4.aE
          refine jr_aald (v := c (25 + i)) hE dX11_manyHold_40 ja21 rfl (vp_in_nI (n := i) (by omega) (by decide)) (by rw [nI_clamp (by omega)]; exact ga21 i (by omega)) ?_
          refine jr_kVi (ci := 10) (n := 1) (As := [.ref (c (25 + i))]) (rest := []) hE dX11_manyHold_41 (fun l => c_s_canJoin l G c B Sz Pz q X v i) gX11_manyHold_X10_canJoin rfl W4.o6 rfl (by decide +kernel) ⟨rfl, rfl, by decide, by decide⟩ (by decide) rfl rfl (Nat.le_of_ble_eq_true rfl) (⟨W4, by omega, (by rw [d1]; exact d4), (by rw [d3]; exact d6)⟩) (fun r24 F22 q23 => ?_)
          obtain ⟨S25, Pf25, W25, hS25, hPf25, f25_0, r24e, P25⟩ := q23
          subst r24e
          have O25 := O4.tr P25
          refine jr_if_eq (tgt := 51) hE dX11_manyHold_44 (by decide) (fun c44 => ?_) (fun c44 => ?_)
          · refine jr_iconst (v := (0 : Int32)) hE dX11_manyHold_51 (by decide) ?_
            refine jr_istore_n (lv' := [(1, .int (0 : Int32)), (2, .int (nI i)), (0, .ref (c 0))]) hE dX11_manyHold_52 (by decide) rfl ?_
            refine jr_iinc (v := nI (i + 1)) (lv' := [(2, .int (nI (i + 1))), (1, .int (0 : Int32)), (0, .ref (c 0))]) hE dX11_manyHold_53 1 rfl (nI_1 _) (by decide) rfl ?_
            refine jr_goto (tgt := 14) hE dX11_manyHold_56 (by decide) ?_
            refine jr_lv (lv' := [(2, .int (nI (i + 1))), (1, .int (0 : Int32)), (0, .ref (c 0))]) [0, 1, 2] rfl ?_
            exact ih (i + 1) F22 (0 : Int32) S25 Pf25 (by omega) W25 (fun z hz => ((hS25 z (by (try simp only [List.mem_cons, List.not_mem_nil, or_false, not_or] at hz ⊢); omega)).trans (hSf z (by (try simp only [List.mem_cons, List.not_mem_nil, or_false, not_or] at hz ⊢); omega)))) (fun z hz => ((hPf25 z (by (try simp only [List.mem_cons, List.not_mem_nil, or_false, not_or] at hz ⊢); omega)).trans (hPf z (by (try simp only [List.mem_cons, List.not_mem_nil, or_false, not_or] at hz ⊢); omega)))) (.inr ⟨rfl, fun h => absurd (b2i_t (p := isX (bnum (B (26 + 3 * i))) ∧ isX (bnum ((B (28 + 3 * i)).take 32)) ∧ (bnum ((B (28 + 3 * i)).drop 32)) < NN) (by have q := h i (by omega); rw [d1, d3]; exact q)) (by rw [c44]; decide)⟩) O25
          · refine jr_iconst (v := (1 : Int32)) hE dX11_manyHold_47 (by decide) ?_
            refine jr_goto (tgt := 52) hE dX11_manyHold_48 (by decide) ?_
            refine jr_istore_n (lv' := [(1, .int (1 : Int32)), (2, .int (nI i)), (0, .ref (c 0))]) hE dX11_manyHold_52 (by decide) rfl ?_
            refine jr_iinc (v := nI (i + 1)) (lv' := [(2, .int (nI (i + 1))), (1, .int (1 : Int32)), (0, .ref (c 0))]) hE dX11_manyHold_53 1 rfl (nI_1 _) (by decide) rfl ?_
            refine jr_goto (tgt := 14) hE dX11_manyHold_56 (by decide) ?_
            have hok := b2i_1 (p := isX (bnum (B (26 + 3 * i))) ∧ isX (bnum ((B (28 + 3 * i)).take 32)) ∧ (bnum ((B (28 + 3 * i)).drop 32)) < NN) c44
            obtain ⟨r1, r2, r3⟩ := f25_0 hok
            rw [d1] at r1 hok
            rw [d3] at r2 r3 hok
            have hRd : (∀ t, t < i → wlE (enG s.2.1 t) ∧ Sz (11 + 2 * t) = bnum ((enG s.2.1 t).2.2.1.drop 32) ∧ rep (Pz (21 + 2 * t)) (lfE (bnum (enG s.2.1 t).1)) ∧ rep (Pz (22 + 2 * t)) (lfE (bnum ((enG s.2.1 t).2.2.1.take 32)))) := by
              rcases hy with ⟨_, e1⟩ | ⟨e1, _⟩
              · exact e1
              · exact absurd e1 c28
            refine jr_lv (lv' := [(2, .int (nI (i + 1))), (1, .int (1 : Int32)), (0, .ref (c 0))]) [0, 1, 2] rfl ?_
            exact ih (i + 1) F22 (1 : Int32) S25 Pf25 (by omega) W25 (fun z hz => ((hS25 z (by (try simp only [List.mem_cons, List.not_mem_nil, or_false, not_or] at hz ⊢); omega)).trans (hSf z (by (try simp only [List.mem_cons, List.not_mem_nil, or_false, not_or] at hz ⊢); omega)))) (fun z hz => ((hPf25 z (by (try simp only [List.mem_cons, List.not_mem_nil, or_false, not_or] at hz ⊢); omega)).trans (hPf z (by (try simp only [List.mem_cons, List.not_mem_nil, or_false, not_or] at hz ⊢); omega)))) (.inl ⟨rfl, fun t ht => by
              by_cases e : t = i
              · rw [e]; exact ⟨hok, r3, r1, r2⟩
              · obtain ⟨y1, y2, y3, y5⟩ := hRd t (by omega)
                rw [hS25 (11 + 2 * t) (by simp only [List.mem_cons, List.not_mem_nil, or_false, not_or]; omega), hPf25 (21 + 2 * t) (by simp only [List.mem_cons, List.not_mem_nil, or_false, not_or]; omega), hPf25 (22 + 2 * t) (by simp only [List.mem_cons, List.not_mem_nil, or_false, not_or]; omega)]
                exact ⟨y1, y2, y3, y5⟩⟩) O25
    exact loop s.2.1.length 0 F (1 : Int32) S P (by omega) W0 (fun z hz => rfl) (fun z hz => rfl) (.inl ⟨rfl, fun t ht => absurd ht (Nat.not_lt_zero t)⟩) (cO.rf c F)
  · refine jr_bipush (v := (-2 : Int32)) hE dX11_manyHold_7 (by decide) ?_
    have e : stMany s = (-2, s) := by
      unfold stMany
      rw [if_pos ((nI_eq (b := 0) (by omega) (by decide)).mp c4)]
    exact hR F _ _ _ dX11_manyHold_9 rfl ⟨B, S, P, q, X, v, by rw [e]; exact hI, by rw [e], cO.rf c F⟩

