/-! THE REFERENCE'S key; what a change of WORK alone leaves -/
def setK (s : ST) (c : Nat) : ST := (s.1, (s.2.1, c, s.2.2.2))
theorem pI.frk {v v' : Nat → Int32} {n n' : Nat → Option Nat} {g : Nat → Nat → Int64} {w w' : Nat → Nat → Int32} {t : S2} {c : Nat} (h : pI v n g w t) (h31 : v' 31 = nI c) (hc : c ≤ 48) (hv : ∀ k, k ∈ [10, 16, 24, 29, 30] → v' k = v k) (hn : ∀ k, k ∈ [26, 27, 28] → n' k = n k) (hw : ∀ k, k ∈ pLw → w' k = w k) : pI v' n' g w' (t.1, c, t.2.2) := by
  have q : pI (uz v' 31 (v 31)) n' g w' t := h.fr (fun k hk => by
    by_cases e : k = 31
    · rw [e, uz_s]
    · rw [uz_n _ _ e]
      refine hv k ?_
      simp only [List.mem_cons, List.not_mem_nil, or_false] at hk ⊢
      omega) hn hw
  obtain ⟨q1, _, q3, q4, q5, q6⟩ := q
  exact ⟨q1, ⟨h31, hc⟩, q3, q4, q5, q6⟩
theorem mI.keep {G : Nat → ClassId} {L : List Nat} {F F1 : Nat → va_E} {o : Nat} {a : Nat → Nat} {v v' : Nat → Int32} {n n' : Nat → Option Nat} {g : Nat → Nat → Int64} {w w' : Nat → Nat → Int32} {s : ST} {c : Nat} (h : mI G L F o a v n g w s) (M : MW G L F1 o a v' n' g w') (h31 : v' 31 = nI c) (hc : c ≤ 48) (hv : ∀ k, k ∈ [10, 16, 24, 29, 30] → v' k = v k) (hn : ∀ k, k ∈ [0, 1, 4, 5, 6, 7, 26, 27, 28, 32, 33, 48] → n' k = n k) (hw : ∀ k, k ∈ [8, 9, 50, 51, 52] ++ pLw → w' k = w k) : mI G L F1 o a v' n' g w' (setK s c) := by
  obtain ⟨_, a2, a3, a4, a5, a6, a7⟩ := h
  refine ⟨M, a2.fr (hn 0 (by decide)) (hn 1 (by decide)) (hn 32 (by decide)) (hn 33 (by decide)), a3.fr (hn 4 (by decide)) (hn 5 (by decide)) (hn 6 (by decide)) (hn 7 (by decide)) (hn 48 (by decide)), ?_, ?_, ?_, a7.frk h31 hc hv (fun k hk => hn k ?_) (fun k hk => hw k (List.mem_append_right _ hk))⟩
  · exact ⟨fun i hi => by rw [hw 50 (by decide)]; exact a4.1 i hi, fun i hi => by rw [hw 51 (by decide)]; exact a4.2 i hi⟩
  · exact fun i hi => by rw [hw 52 (by decide)]; exact a5 i hi
  · intro r hr
    rw [hw 8 (by decide), hw 9 (by decide)]
    exact a6 r hr
  · simp only [List.mem_cons, List.not_mem_nil, or_false] at hk ⊢
    omega
theorem mI.rowk {G : Nat → ClassId} {L : List Nat} {F F1 : Nat → va_E} {o : Nat} {a : Nat → Nat} {v v' : Nat → Int32} {n n' : Nat → Option Nat} {g : Nat → Nat → Int64} {w w' : Nat → Nat → Int32} {s : ST} {k c : Nat} {l : List Nat} (h : mI G L F o a v n g w s) (M : MW G L F1 o a v' n' g w') (h31 : v' 31 = nI c) (hc : c ≤ 48) (hv : ∀ k, k ∈ [10, 16, 24, 29, 30] → v' k = v k) (hn : ∀ k, k ∈ [0, 1, 4, 5, 6, 7, 26, 27, 28, 32, 33, 48] → n' k = n k) (hw : ∀ k, k ∈ [50, 51, 52] ++ pLw → w' k = w k) (h8 : w' 8 = upd (w 8) k (nI l.length)) (h9 : w' 9 = wrt (w 9) (100 * k) l) (hln : l.length ≤ 100) (hb : ∀ b, b ∈ l → b < 256) : mI G L F1 o a v' n' g w' (setK (setR s k l) c) := by
  obtain ⟨_, a2, a3, a4, a5, a6, a7⟩ := h
  refine ⟨M, a2.fr (hn 0 (by decide)) (hn 1 (by decide)) (hn 32 (by decide)) (hn 33 (by decide)), a3.fr (hn 4 (by decide)) (hn 5 (by decide)) (hn 6 (by decide)) (hn 7 (by decide)) (hn 48 (by decide)), ?_, ?_, a6.set h8 (fun j hj => by rw [h9]; exact wrt_out _ _ _ (by omega)) (by rw [h9]; exact bl_wrt _ _ _ (fun b hb' => Nat.lt_trans (hb b hb') (by decide))) hln hb, a7.frk h31 hc hv (fun k hk => hn k ?_) (fun k hk => hw k (List.mem_append_right _ hk))⟩
  · exact ⟨fun i hi => by rw [hw 50 (by decide)]; exact a4.1 i hi, fun i hi => by rw [hw 51 (by decide)]; exact a4.2 i hi⟩
  · exact fun i hi => by rw [hw 52 (by decide)]; exact a5 i hi
  · simp only [List.mem_cons, List.not_mem_nil, or_false] at hk ⊢
    omega
theorem setK_id (s : ST) : setK s s.2.2.1 = s := rfl
abbrev secOK (l : List Nat) : Prop := l.length = 32 ∧ bnum l ≠ 0 ∧ bnum l < NN
theorem secI {f : Nat → Int32} {t : Nat} {l : List Nat} (h : bl f t l.length = l) : b2i (l.length = 32 ∧ bnum (bl f t 32) ≠ 0 ∧ bnum (bl f t 32) < NN) = b2i (secOK l) := by
  by_cases e : l.length = 32
  · rw [e] at h
    rw [h]
  · rw [b2i_f (fun q => e q.1), b2i_f (fun q => e q.1)]
noncomputable def stKey (s : ST) (r q f : Int32) : Int32 × ST := if rowP r ∧ rowP q ∧ (0 ≤ f.toInt ∧ f.toInt ≤ 1) then (if secOK (s.1 (rn q)) then (if 48 < s.2.2.1 + 1 then (-5, s) else (if f = 0 then (32, setK (setR s (rn r) ((pbE (emul PP (bnum (s.1 (rn q))) GE)).drop 1)) (s.2.2.1 + 1)) else (33, setK (setR s (rn r) (pbE (emul PP (bnum (s.1 (rn q))) GE))) (s.2.2.1 + 1)))) else (-2, s)) else (-1, s)

set_option maxHeartbeats 4000000 in
set_option maxRecDepth 100000 in
theorem c_m_key (l : Launch) (G : Nat → ClassId) (o : Nat) (a : Nat → Nat) (v : Nat → Int32) (n : Nat → Option Nat) (g : Nat → Nat → Int64) (w : Nat → Nat → Int32) (s : ST) (r c m : Int32) : jKi l yX12_key wsX12_key ({ frames := 7, cells := 0, slots := 0, locals := 172 }) G [.ref o, .int r, .int c, .int m] (fun L F => mI G L F o a v n g w s) (fun L F q F1 => ∃ v' n' g' w', mI G L F1 o a v' n' g' w' (stKey s r c m).2 ∧ q = (stKey s r c m).1 ∧ mO o a F F1) := by
  refine jm_ki (cc := cX12_key) (maxL := 5) (rt := .int) (by decide) rfl (Nat.le_of_ble_eq_true rfl) ?_
  intro E L F hE hR hpre
  have hE : jOk E G _ cX12_key 5 RX12 wsX12_key := hE

  have f478 : jFl RX12 wsX12_key 478 12 31 := ⟨rfl, by decide, by decide +kernel, by decide +kernel⟩
  have f305 : jFl RX12 wsX12_key 305 12 62 := ⟨rfl, by decide, by decide +kernel, by decide +kernel⟩
  have f302 : jFl RX12 wsX12_key 302 12 61 := ⟨rfl, by decide, by decide +kernel, by decide +kernel⟩
  have hI := hpre
  obtain ⟨M0, hK, hC, htg, hrd, hRW, hpI⟩ := id hpre
  have main : ∀ (k p : Nat), k < 16 → p < 16 → rn (nI k) = k → rn (nI p) = p → w 8 p = nI (s.1 p).length → bl (w 9) (100 * p) (s.1 p).length = s.1 p → (s.1 p).length ≤ 100 → (∀ b, b ∈ s.1 p → b < 256) → ∀ (m : Int32), (0 ≤ m.toInt ∧ m.toInt ≤ 1) → (∀ (F1 : Nat → va_E) (v_1 : Int32) (pc : Nat) (lv : List (Nat × Value)), decode cX12_key pc = .ok (.ireturn, 1) → narrow .int (.int v_1) = .int v_1 → (∃ v' n' g' w', mI G L F1 o a v' n' g' w' (stKey s (nI k) (nI p) m).2 ∧ v_1 = (stKey s (nI k) (nI p) m).1 ∧ mO o a F F1) → J E L F1 0 0 pc lv [.int v_1]) → J E L F 0 0 26 [(0, .ref o), (1, .int (nI k)), (2, .int (nI p)), (3, .int m)] [] := by
    intro k p hk hp hrnk hrnp z1p z2p z3p z4p m hm hR
    have hBp : bB (w 9) (100 * p) (s.1 p).length := fun i hi => by
      have e := bl_get (w 9) (100 * p) (s.1 p).length i hi
      rw [z2p] at e
      rw [← e]
      exact gd_lt z4p i
    have one : secOK (s.1 p) → ¬ 48 < s.2.2.1 + 1 → ∀ (n2 : Nat → Option Nat), (∀ z, z ∉ [34, 35, 36, 37, 38, 39, 40, 41, 42, 43, 44, 45, 46, 47, 62] → n2 z = n z) → bl (wrt (w 61) 0 (pbE (emul PP (bnum (s.1 p)) GE))) 0 33 = (pbE (emul PP (bnum (s.1 p)) GE)) → (∀ (F1 : Nat → va_E) (v_1 : Int32) (pc : Nat) (lv : List (Nat × Value)), decode cX12_key pc = .ok (.ireturn, 1) → narrow .int (.int v_1) = .int v_1 → (∃ v' n' g' w', mI G L F1 o a v' n' g' w' (stKey s (nI k) (nI p) 1).2 ∧ v_1 = (stKey s (nI k) (nI p) 1).1 ∧ mO o a F F1) → J E L F1 0 0 pc lv [.int v_1]) → ∀ (F4 : Nat → va_E), MW G L F4 o a (uz v 31 (nI (s.2.2.1 + 1))) n2 g (uz w 61 (wrt (w 61) 0 (pbE (emul PP (bnum (s.1 p)) GE)))) → mO o a F F4 → J E L F4 0 0 82 [(4, .int (0 : Int32)), (0, .ref o), (1, .int (nI k)), (2, .int (nI p)), (3, .int (1 : Int32))] [] := by
      intro hs hw48 n2 hn2 h61 hR F4 H4 O4
      refine jr_iload hE dX12_key_82 0 rfl ?_
      refine jr_bipush (v := (32 : Int32)) hE dX12_key_84 (by decide) ?_
      refine jr_icmp_ge (tgt := 115) hE dX12_key_86 (by decide) (fun c_86 => absurd c_86 (by decide)) (fun c_86 => ?_)
      refine jr_iload_n hE dX12_key_89 4 rfl ?_
      refine jr_if_ne (tgt := 115) hE dX12_key_90 (by decide) (fun c90 => ?_) (fun c90 => ?_)
      · refine jr_aload_n hE dX12_key_115 1 rfl ?_
        refine jr_iload_n hE dX12_key_116 2 rfl ?_
        refine jr_iload_n hE dX12_key_117 4 rfl ?_
        refine jr_if_ne (tgt := 126) hE dX12_key_118 (by decide) (fun c118 => ?_) (fun c118 => ?_)
        · refine jr_bipush (v := (33 : Int32)) hE dX12_key_126 (by decide) ?_
          refine jr_kVi (ci := 12) (n := 2) (As := [.int (nI k), .int (33 : Int32)]) (rest := []) hE dX12_key_128 (fun l => c_m_gives l G o a (uz v 31 (nI (s.2.2.1 + 1))) n2 g (uz w 61 (wrt (w 61) 0 (pbE (emul PP (bnum (s.1 p)) GE)))) k 33) gX12_key_X12_gives rfl H4.ob rfl (by decide +kernel) ⟨rfl, rfl, by decide, by decide⟩ (by decide) rfl rfl (Nat.le_of_ble_eq_true rfl) (⟨H4, hk, by decide⟩) (fun r3 F1 q2 => ?_)
          obtain ⟨w5, M5, h59, h58, hw5, rfl, O5'⟩ := q2
          have O5 := O4.tr O5'
          have hfl := h61
          have e : stKey s (nI k) (nI p) 1 = (33, setK (setR s k (pbE (emul PP (bnum (s.1 p)) GE))) (s.2.2.1 + 1)) := by
            unfold stKey
            rw [if_pos ⟨nI_rowP hk, nI_rowP hp, by decide⟩, hrnp, hrnk, if_pos hs, if_neg hw48, if_neg (by decide)]
          exact hR F1 _ _ _ dX12_key_131 rfl ⟨_, n2, g, w5, by
            rw [e]
            exact hI.rowk (l := (pbE (emul PP (bnum (s.1 p)) GE))) M5 (uz_s _ _ _) (by omega) (fun z hz => uz_n _ _ (fun q => by subst q; exact absurd hz (by decide))) (fun z hz => hn2 z (fun q => by
              simp only [List.mem_cons, List.not_mem_nil, or_false] at q hz
              omega)) (fun z hz => by
              have a8 : z ≠ 8 := fun q => by subst q; exact absurd hz (by decide)
              have a9 : z ≠ 9 := fun q => by subst q; exact absurd hz (by decide)
              have a61 : z ≠ 61 := fun q => by subst q; exact absurd hz (by decide)
              rw [hw5 z a8 a9, uz_n _ _ a61]) (by rw [h58, pbE_len]; rfl) (by
              rw [h59, uz_s, hfl]
              rfl) (by rw [pbE_len]; decide) (fun b hb => pbE_lt _ b (hb)), by rw [e]; rfl, O5⟩
        · exact absurd c118 (by decide)
      · exact absurd c90 (by decide)
    have loop : secOK (s.1 p) → ¬ 48 < s.2.2.1 + 1 → ∀ (n2 : Nat → Option Nat), (∀ z, z ∉ [34, 35, 36, 37, 38, 39, 40, 41, 42, 43, 44, 45, 46, 47, 62] → n2 z = n z) → bl (wrt (w 61) 0 (pbE (emul PP (bnum (s.1 p)) GE))) 0 33 = (pbE (emul PP (bnum (s.1 p)) GE)) → (∀ (F1 : Nat → va_E) (v_1 : Int32) (pc : Nat) (lv : List (Nat × Value)), decode cX12_key pc = .ok (.ireturn, 1) → narrow .int (.int v_1) = .int v_1 → (∃ v' n' g' w', mI G L F1 o a v' n' g' w' (stKey s (nI k) (nI p) 0).2 ∧ v_1 = (stKey s (nI k) (nI p) 0).1 ∧ mO o a F F1) → J E L F1 0 0 pc lv [.int v_1]) → ∀ (r0 i : Nat) (F4 : Nat → va_E) (f : Nat → Int32), i + r0 = 32 → MW G L F4 o a (uz v 31 (nI (s.2.2.1 + 1))) n2 g (uz w 61 f) → (∀ j, j < i → f j = wrt (w 61) 0 (pbE (emul PP (bnum (s.1 p)) GE)) (j + 1)) → (∀ j, i ≤ j → f j = wrt (w 61) 0 (pbE (emul PP (bnum (s.1 p)) GE)) j) → mO o a F F4 → J E L F4 0 0 82 [(4, .int (nI i)), (0, .ref o), (1, .int (nI k)), (2, .int (nI p)), (3, .int (0 : Int32))] [] := by
      intro hs hw48 n2 hn2 h61 hR r0
      induction r0 with
      | zero =>
        intro i F4 f hi H4 hf hg O4
        refine jr_iload hE dX12_key_82 0 rfl ?_
        refine jr_bipush (v := (32 : Int32)) hE dX12_key_84 (by decide) ?_
        refine jr_icmp_ge (tgt := 115) hE dX12_key_86 (by decide) (fun c_86 => ?_) (fun c_86 => absurd (nI_le (a := 32) (by omega) (by omega)) c_86)
        refine jr_aload_n hE dX12_key_115 1 rfl ?_
        refine jr_iload_n hE dX12_key_116 2 rfl ?_
        refine jr_iload_n hE dX12_key_117 4 rfl ?_
        refine jr_if_ne (tgt := 126) hE dX12_key_118 (by decide) (fun c_118 => absurd c_118 (by decide)) (fun c_118 => ?_)
        refine jr_bipush (v := (32 : Int32)) hE dX12_key_121 (by decide) ?_
        refine jr_goto (tgt := 128) hE dX12_key_123 (by decide) ?_
        refine jr_kVi (ci := 12) (n := 2) (As := [.int (nI k), .int (32 : Int32)]) (rest := []) hE dX12_key_128 (fun l => c_m_gives l G o a (uz v 31 (nI (s.2.2.1 + 1))) n2 g (uz w 61 f) k 32) gX12_key_X12_gives rfl H4.ob rfl (by decide +kernel) ⟨rfl, rfl, by decide, by decide⟩ (by decide) rfl rfl (Nat.le_of_ble_eq_true rfl) (⟨H4, hk, by decide⟩) (fun r3 F1 q2 => ?_)
        obtain ⟨w5, M5, h59, h58, hw5, rfl, O5'⟩ := q2
        have O5 := O4.tr O5'
        have hfl : bl f 0 32 = ((pbE (emul PP (bnum (s.1 p)) GE)).drop 1) := by
          have q := bl_sub (wrt (w 61) 0 (pbE (emul PP (bnum (s.1 p)) GE))) 0 33 1 32 (by decide)
          rw [h61, List.take_of_length_le (by rw [List.length_drop, pbE_len]; decide)] at q
          rw [q]
          exact bl_eq2.mp (fun i hi => by rw [Nat.zero_add, hf i (by omega), Nat.zero_add, Nat.add_comm])
        have e : stKey s (nI k) (nI p) 0 = (32, setK (setR s k ((pbE (emul PP (bnum (s.1 p)) GE)).drop 1)) (s.2.2.1 + 1)) := by
          unfold stKey
          rw [if_pos ⟨nI_rowP hk, nI_rowP hp, by decide⟩, hrnp, hrnk, if_pos hs, if_neg hw48, if_pos rfl]
        exact hR F1 _ _ _ dX12_key_131 rfl ⟨_, n2, g, w5, by
          rw [e]
          exact hI.rowk (l := ((pbE (emul PP (bnum (s.1 p)) GE)).drop 1)) M5 (uz_s _ _ _) (by omega) (fun z hz => uz_n _ _ (fun q => by subst q; exact absurd hz (by decide))) (fun z hz => hn2 z (fun q => by
            simp only [List.mem_cons, List.not_mem_nil, or_false] at q hz
            omega)) (fun z hz => by
            have a8 : z ≠ 8 := fun q => by subst q; exact absurd hz (by decide)
            have a9 : z ≠ 9 := fun q => by subst q; exact absurd hz (by decide)
            have a61 : z ≠ 61 := fun q => by subst q; exact absurd hz (by decide)
            rw [hw5 z a8 a9, uz_n _ _ a61]) (by rw [h58, List.length_drop, pbE_len]; rfl) (by
            rw [h59, uz_s, hfl]
            rfl) (by rw [List.length_drop, pbE_len]; decide) (fun b hb => pbE_lt _ b (List.mem_of_mem_drop hb)), by rw [e]; rfl, O5⟩
      | succ r0 ih =>
        intro i F4 f hi H4 hf hg O4
        refine jr_iload hE dX12_key_82 0 rfl ?_
        refine jr_bipush (v := (32 : Int32)) hE dX12_key_84 (by decide) ?_
        refine jr_icmp_ge (tgt := 115) hE dX12_key_86 (by decide) (fun c_86 => absurd c_86 (nI_ge (b := 32) (by omega) (by omega))) (fun c_86 => ?_)
        refine jr_iload_n hE dX12_key_89 4 rfl ?_
        refine jr_if_ne (tgt := 115) hE dX12_key_90 (by decide) (fun c_90 => absurd c_90 (by decide)) (fun c_90 => ?_)
        refine jr_aload_n hE dX12_key_93 1 rfl ?_
        refine jr_get hE dX12_key_94 f302 H4.ob rfl ?_
        refine jr_iload hE dX12_key_97 0 rfl ?_
        refine jr_aload_n hE dX12_key_99 1 rfl ?_
        refine jr_get hE dX12_key_100 f302 H4.ob rfl ?_
        refine jr_iload hE dX12_key_103 0 rfl ?_
        refine jr_iconst (v := (1 : Int32)) hE dX12_key_105 (by decide) ?_
        refine jr_iadd (z := nI (i + 1)) hE dX12_key_106 (nI_1 _) ?_
        refine jr_iald (v := f (i + 1)) hE dX12_key_107 (H4.I (k := 61) (N := 66) (by decide)) (vp_in_nI (by omega) (by decide)) (by rw [nI_clamp (by omega), uz_s]) ?_
        refine jr_iast hE dX12_key_108 (H4.I (k := 61) (N := 66) (by decide)) (vp_in_nI (by omega) (by decide)) (fun F1 g2 u3 => ?_)
        have H4 := H4.setI (k := 61) (N := 66) (by decide) g2 u3
        have O5 := O4.st (k := 61) (by decide) (by decide) u3
        rw [uz_uz, uz_s] at H4
        refine jr_iinc (v := nI (i + 1)) (lv' := [(4, .int (nI (i + 1))), (0, .ref o), (1, .int (nI k)), (2, .int (nI p)), (3, .int (0 : Int32))]) hE dX12_key_109 0 rfl (nI_1 _) (by decide) rfl ?_
        refine jr_goto (tgt := 82) hE dX12_key_112 (by decide) ?_
        refine jr_lv (lv' := [(4, .int (nI (i + 1))), (0, .ref o), (1, .int (nI k)), (2, .int (nI p)), (3, .int (0 : Int32))]) [0, 1, 2, 3, 4] rfl ?_
        exact ih (i + 1) F1 _ (by omega) H4 (fun t ht => by
          rw [nI_clamp (by omega)]
          show (if t = i then _ else f t) = _
          by_cases e : t = i
          · rw [if_pos e, e]; exact hg (i + 1) (by omega)
          · rw [if_neg e]; exact hf t (by omega)) (fun t ht => by
          rw [nI_clamp (by omega)]
          show (if t = i then _ else f t) = _
          rw [if_neg (by omega)]
          exact hg t (by omega)) O5
    refine jr_aload_n hE dX12_key_26 0 rfl ?_
    refine jr_iload_n hE dX12_key_27 2 rfl ?_
    refine jr_kVi (ci := 12) (n := 1) (As := [.int (nI p)]) (rest := []) hE dX12_key_28 (fun l => c_m_isSecret l G o a v n g w p (s.1 p).length) gX12_key_X12_isSecret rfl M0.ob rfl (by decide +kernel) ⟨rfl, rfl, by decide, by decide⟩ (by decide) rfl rfl (Nat.le_of_ble_eq_true rfl) (⟨M0, hK, hp, z1p, z3p, fun h => by rw [← h]; exact hBp⟩) (fun r3 F1 q2 => ?_)
    obtain ⟨n0, M1, hf0, hd0, rq2, O1⟩ := q2
    rw [secI z2p] at rq2
    subst rq2
    refine jr_if_ne (tgt := 37) hE dX12_key_31 (by decide) (fun c31 => ?_) (fun c31 => ?_)
    · have hs := b2i_1 c31
      have hd : n0 62 = some (bnum (s.1 p)) := by
        have := hd0 hs.1
        have z := z2p
        rw [hs.1] at z
        rwa [z] at this
      have hK0 : mK n0 g := hK.fr (hf0 0 (by decide)) (hf0 1 (by decide)) (hf0 32 (by decide)) (hf0 33 (by decide))
      have hC0 : mC n0 := hC.fr (hf0 4 (by decide)) (hf0 5 (by decide)) (hf0 6 (by decide)) (hf0 7 (by decide)) (hf0 48 (by decide))
      refine jr_aload_n hE dX12_key_37 0 rfl ?_
      refine jr_iconst (v := (1 : Int32)) hE dX12_key_38 (by decide) ?_
      refine jr_kVi (ci := 12) (n := 1) (As := [.int (1 : Int32)]) (rest := []) hE dX12_key_39 (fun l => c_m_isSpent l G o a v n0 g w s.2.2.1 1) gX12_key_X12_isSpent rfl M1.ob rfl (by decide +kernel) ⟨rfl, rfl, by decide, by decide⟩ (by decide) rfl rfl (Nat.le_of_ble_eq_true rfl) (⟨M1, hpI.2.1.1, by have := hpI.2.1.2; omega, by decide⟩) (fun r6 F4 q5 => ?_)
      obtain ⟨eq5, rq5⟩ := q5
      subst eq5 rq5
      refine jr_if_eq (tgt := 48) hE dX12_key_42 (by decide) (fun c42 => ?_) (fun c42 => ?_)
      · have hw48 : ¬ 48 < s.2.2.1 + 1 := fun h => absurd (b2i_t h) (by rw [c42]; decide)
        refine jr_aload_n hE dX12_key_48 0 rfl ?_
        refine jr_dup hE dX12_key_49 rfl ?_
        refine jr_get hE dX12_key_50 f478 M1.ob rfl ?_
        rw [hpI.2.1.1]
        refine jr_iconst (v := (1 : Int32)) hE dX12_key_53 (by decide) ?_
        refine jr_iadd (z := nI (s.2.2.1 + 1)) hE dX12_key_54 (nI_1 _) ?_
        refine jr_put (ty := .int) hE dX12_key_55 f478 M1.ob rfl (by decide +kernel) rfl rfl (Nat.le_of_ble_eq_true rfl) (fun F7 g8 u9 => ?_)
        have H10 := M1.setV (v' := uz v 31 (nI (s.2.2.1 + 1))) g8 u9
        have O11 := O1.so u9
        refine jr_aload_n hE dX12_key_58 0 rfl ?_
        refine jr_kVv (ci := 12) (n := 0) (As := []) (rest := []) hE dX12_key_59 (fun l => c_m_generator l G o a (uz v 31 (nI (s.2.2.1 + 1))) n0 g w) gX12_key_X12_generator rfl H10.ob rfl (by decide +kernel) ⟨rfl, rfl, by decide, by decide⟩ (by decide) rfl rfl (Nat.le_of_ble_eq_true rfl) (⟨H10, hC0⟩) (fun F12 q13 => ?_)
        obtain ⟨n1, M2, hf1, hq1, O2'⟩ := q13
        have O2 := O11.tr O2'
        refine jr_aload_n hE dX12_key_62 0 rfl ?_
        refine jr_aload_n hE dX12_key_63 0 rfl ?_
        refine jr_get hE dX12_key_64 f305 M2.ob rfl ?_
        refine jr_kVv (ci := 12) (n := 1) (As := [.ref (a 62)]) (rest := []) hE dX12_key_67 (fun l => c_m_multiply l G o a (uz v 31 (nI (s.2.2.1 + 1))) n1 g w 62 (bnum (s.1 p)) GE) gX12_key_X12_multiply rfl M2.ob rfl (by decide +kernel) ⟨rfl, rfl, by decide, by decide⟩ (by decide) rfl rfl (Nat.le_of_ble_eq_true rfl) (⟨M2, hK0.fr (hf1 0 (by decide)) (hf1 1 (by decide)) (hf1 32 (by decide)) (hf1 33 (by decide)), (hf1 4 (by decide)).trans hC0.1, by decide, by decide, (hf1 62 (by decide)).trans hd, hq1⟩) (fun F14 q15 => ?_)
        obtain ⟨n2, M3, hf2, p3, O3'⟩ := q15
        have O3 := O2.tr O3'
        refine jr_aload_n hE dX12_key_70 0 rfl ?_
        refine jr_aload_n hE dX12_key_71 0 rfl ?_
        refine jr_get hE dX12_key_72 f302 M3.ob rfl ?_
        refine jr_iconst (v := (0 : Int32)) hE dX12_key_75 (by decide) ?_
        refine jr_kVv (ci := 12) (n := 2) (As := [.ref (a 61), .int (0 : Int32)]) (rest := []) hE dX12_key_76 (fun l => c_m_tells l G o a (uz v 31 (nI (s.2.2.1 + 1))) n2 g w 61 0 66 _) gX12_key_X12_tells rfl M3.ob rfl (by decide +kernel) ⟨rfl, rfl, by decide, by decide⟩ (by decide) rfl rfl (Nat.le_of_ble_eq_true rfl) (⟨M3, p3, by decide, by decide, by decide⟩) (fun F16 q17 => ?_)
        obtain ⟨M4, O4'⟩ := q17
        have O4 := O3.tr O4'
        have h61 : bl (wrt (w 61) 0 (pbE (emul PP (bnum (s.1 p)) GE))) 0 33 = (pbE (emul PP (bnum (s.1 p)) GE)) := by
          have := bl_wrt (w 61) 0 (pbE (emul PP (bnum (s.1 p)) GE)) (fun b hb => Nat.lt_trans (pbE_lt _ b hb) (by decide))
          rwa [pbE_len] at this
        refine jr_iconst (v := (0 : Int32)) hE dX12_key_79 (by decide) ?_
        refine jr_istore (lv' := [(4, .int (0 : Int32)), (0, .ref o), (1, .int (nI k)), (2, .int (nI p)), (3, .int m)]) hE dX12_key_80 (by decide) rfl ?_
        refine jr_lv (lv' := [(4, .int (0 : Int32)), (0, .ref o), (1, .int (nI k)), (2, .int (nI p)), (3, .int m)]) [0, 1, 2, 3, 4] rfl ?_
        have hn2 : ∀ z, z ∉ [34, 35, 36, 37, 38, 39, 40, 41, 42, 43, 44, 45, 46, 47, 62] → n2 z = n z := fun z hz => (hf2 z (jnsub (V := [37, 38, 39, 42, 43, 44, 45, 46, 47, 34, 35, 36]) hz [3, 4, 5, 8, 9, 10, 11, 12, 13, 0, 1, 2] rfl)).trans ((hf1 z (jnsub (V := [40, 41]) hz [6, 7] rfl)).trans (hf0 z (jnsub (V := [62]) hz [14] rfl)))
        have hm01 : m = 0 ∨ m = 1 := by
          rcases Int.lt_or_le m.toInt 1 with q | q
          · exact .inl (Int32.toInt_inj.mp (by rw [show (0 : Int32).toInt = 0 by decide]; omega))
          · exact .inr (Int32.toInt_inj.mp (by rw [show (1 : Int32).toInt = 1 by decide]; omega))
        rcases hm01 with rfl | rfl
        · exact loop hs hw48 n2 hn2 h61 hR 32 0 F16 (wrt (w 61) 0 (pbE (emul PP (bnum (s.1 p)) GE))) rfl M4 (fun j hj => absurd hj (Nat.not_lt_zero j)) (fun j _ => rfl) O4
        · exact one hs hw48 n2 hn2 h61 hR F16 M4 O4
      · refine jr_bipush (v := (-5 : Int32)) hE dX12_key_45 (by decide) ?_
        have e : stKey s (nI k) (nI p) m = (-5, s) := by
          unfold stKey
          rw [if_pos ⟨nI_rowP hk, nI_rowP hp, hm⟩, hrnp, if_pos hs, if_pos (b2i_1 (p := 48 < s.2.2.1 + 1) c42)]
        exact hR F1 _ _ _ dX12_key_47 rfl ⟨v, n0, g, w, by rw [e]; exact (hI.keep (c := s.2.2.1) M1 hpI.2.1.1 hpI.2.1.2 (fun _ _ => rfl) (fun z hz => hf0 z (fun q => by
          simp only [List.mem_cons, List.not_mem_nil, or_false] at q
          subst q
          exact absurd hz (by decide))) (fun _ _ => rfl)), by rw [e], O1⟩
    · refine jr_bipush (v := (-2 : Int32)) hE dX12_key_34 (by decide) ?_
      have e : stKey s (nI k) (nI p) m = (-2, s) := by
        unfold stKey
        rw [if_pos ⟨nI_rowP hk, nI_rowP hp, hm⟩, hrnp, if_neg (fun h => absurd (b2i_t h) (by rw [c31]; decide))]
      exact hR F1 _ _ _ dX12_key_36 rfl ⟨v, n0, g, w, by rw [e]; exact (hI.keep (c := s.2.2.1) M1 hpI.2.1.1 hpI.2.1.2 (fun _ _ => rfl) (fun z hz => hf0 z (fun q => by
        simp only [List.mem_cons, List.not_mem_nil, or_false] at q
        subst q
        exact absurd hz (by decide))) (fun _ _ => rfl)), by rw [e], O1⟩
  refine jr_iload_n hE dX12_key_0 1 rfl ?_
  refine jr_kSi (n := 1) (As := [.int r]) (rest := []) hE dX12_key_1 (fun l => c_m_isRow l G r) gX12_key_X12_isRow rfl (by decide +kernel) ⟨rfl, rfl, by decide, by decide⟩ (by decide) rfl rfl (Nat.le_of_ble_eq_true rfl) (trivial) (fun r3 F1 q2 => ?_)
  obtain ⟨eq2, rq2⟩ := q2
  subst eq2 rq2
  refine jr_if_eq (tgt := 24) hE dX12_key_4 (by decide) (fun c4 => ?_) (fun c4 => ?_)
  · refine jr_iconst (v := (-1 : Int32)) hE dX12_key_24 (by decide) ?_
    have e : stKey s r c m = (-1, s) := by
      unfold stKey
      rw [if_neg (fun h => absurd (b2i_t h.1) (by rw [c4]; decide))]
    exact hR F _ _ _ dX12_key_25 rfl ⟨v, n, g, w, by rw [e]; exact hI, by rw [e], mO.rf o a F⟩
  · have hrk : rowP r := b2i_1 c4
    obtain ⟨k, hk, rfl⟩ := rowP_nI hrk
    obtain ⟨z1k, z2k, z3k, z4k⟩ := hRW k hk
    have hrnk := nI_rn hk
    refine jr_iload_n hE dX12_key_7 2 rfl ?_
    refine jr_kSi (n := 1) (As := [.int c]) (rest := []) hE dX12_key_8 (fun l => c_m_isRow l G c) gX12_key_X12_isRow rfl (by decide +kernel) ⟨rfl, rfl, by decide, by decide⟩ (by decide) rfl rfl (Nat.le_of_ble_eq_true rfl) (trivial) (fun r6 F4 q5 => ?_)
    obtain ⟨eq5, rq5⟩ := q5
    subst eq5 rq5
    refine jr_if_eq (tgt := 24) hE dX12_key_11 (by decide) (fun c11 => ?_) (fun c11 => ?_)
    · refine jr_iconst (v := (-1 : Int32)) hE dX12_key_24 (by decide) ?_
      have e : stKey s (nI k) c m = (-1, s) := by
        unfold stKey
        rw [if_neg (fun h => absurd (b2i_t h.2.1) (by rw [c11]; decide))]
      exact hR F _ _ _ dX12_key_25 rfl ⟨v, n, g, w, by rw [e]; exact hI, by rw [e], mO.rf o a F⟩
    · have hrp : rowP c := b2i_1 c11
      obtain ⟨p, hp, rfl⟩ := rowP_nI hrp
      obtain ⟨z1p, z2p, z3p, z4p⟩ := hRW p hp
      have hrnp := nI_rn hp
      refine jr_iload_n hE dX12_key_14 3 rfl ?_
      refine jr_i2l hE dX12_key_15 rfl ?_
      refine jr_lconst (v := (0 : Int64)) hE dX12_key_16 (by decide) ?_
      refine jr_lconst (v := (1 : Int64)) hE dX12_key_17 (by decide) ?_
      refine jr_kSi (n := 3) (As := [.long m.toInt64, .long (0 : Int64), .long (1 : Int64)]) (rest := []) hE dX12_key_18 (fun l => c_m_in l G m.toInt64 0 1) gX12_key_X12_in rfl (by decide +kernel) ⟨rfl, rfl, by decide, by decide⟩ (by decide) rfl rfl (Nat.le_of_ble_eq_true rfl) (trivial) (fun r9 F7 q8 => ?_)
      obtain ⟨eq8, rq8⟩ := q8
      subst eq8 rq8
      rw [show b2i ((0 : Int64).toInt ≤ m.toInt64.toInt ∧ m.toInt64.toInt ≤ (1 : Int64).toInt) = b2i (0 ≤ m.toInt ∧ m.toInt ≤ 1) by rw [i2l_T]; rfl]
      refine jr_if_ne (tgt := 26) hE dX12_key_21 (by decide) (fun c21 => ?_) (fun c21 => ?_)
      · refine jr_lv (lv' := [(0, .ref o), (1, .int (nI k)), (2, .int (nI p)), (3, .int m)]) [0, 1, 2, 3] rfl ?_
        exact main k p hk hp hrnk hrnp z1p z2p z3p z4p m (b2i_1 c21) hR
      · refine jr_iconst (v := (-1 : Int32)) hE dX12_key_24 (by decide) ?_
        have e : stKey s (nI k) (nI p) m = (-1, s) := by
          unfold stKey
          rw [if_neg (fun h => absurd (b2i_t h.2.2) (by rw [c21]; decide))]
        exact hR F _ _ _ dX12_key_25 rfl ⟨v, n, g, w, by rw [e]; exact hI, by rw [e], mO.rf o a F⟩

