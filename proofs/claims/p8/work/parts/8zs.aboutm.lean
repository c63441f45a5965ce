/-! THE REFERENCE'S about -/
noncomputable def stAbout (s : ST) (r x : Int32) : Int32 × ST := if rowP r ∧ (0 ≤ x.toInt ∧ x.toInt ≤ 3) then (match s.2.2.2.2.2.2 with
  | none => (-2, s)
  | some t => if x = 0 then (66, setR s (rn r) t.1) else (32, setR s (rn r) (bex (if x = 1 then t.2.2.2.1 else if x = 2 then t.2.2.1 else t.2.1) 32))) else (-1, s)
theorem stAbout_n {s : ST} {r x : Int32} (h : rowP r ∧ (0 ≤ x.toInt ∧ x.toInt ≤ 3)) (q : s.2.2.2.2.2.2 = none) : stAbout s r x = (-2, s) := by
  unfold stAbout
  rw [if_pos h, q]
theorem stAbout_s {s : ST} {r x : Int32} {t : SSe} (h : rowP r ∧ (0 ≤ x.toInt ∧ x.toInt ≤ 3)) (q : s.2.2.2.2.2.2 = some t) : stAbout s r x = if x = 0 then (66, setR s (rn r) t.1) else (32, setR s (rn r) (bex (if x = 1 then t.2.2.2.1 else if x = 2 then t.2.2.1 else t.2.1) 32)) := by
  unfold stAbout
  rw [if_pos h, q]

set_option maxHeartbeats 4000000 in
set_option maxRecDepth 100000 in
theorem c_m_about (l : Launch) (G : Nat → ClassId) (o : Nat) (a : Nat → Nat) (v : Nat → Int32) (n : Nat → Option Nat) (g : Nat → Nat → Int64) (w : Nat → Nat → Int32) (s : ST) (r x : Int32) : jKi l yX12_about wsX12_about ({ frames := 2, cells := 0, slots := 0, locals := 45 }) G [.ref o, .int r, .int x] (fun L F => mI G L F o a v n g w s) (fun L F q F1 => ∃ v' n' g' w', mI G L F1 o a v' n' g' w' (stAbout s r x).2 ∧ q = (stAbout s r x).1 ∧ mO o a F F1) := by
  refine jm_ki (cc := cX12_about) (maxL := 4) (rt := .int) (by decide) rfl (Nat.le_of_ble_eq_true rfl) ?_
  intro E L F hE hR hpre
  have hE : jOk E G _ cX12_about 4 RX12 wsX12_about := hE

  have f529 : jFl RX12 wsX12_about 529 12 24 := ⟨rfl, by decide, by decide +kernel, by decide +kernel⟩
  have f302 : jFl RX12 wsX12_about 302 12 61 := ⟨rfl, by decide, by decide +kernel, by decide +kernel⟩
  have f143 : jFl RX12 wsX12_about 143 12 26 := ⟨rfl, by decide, by decide +kernel, by decide +kernel⟩
  have f146 : jFl RX12 wsX12_about 146 12 27 := ⟨rfl, by decide, by decide +kernel, by decide +kernel⟩
  have f149 : jFl RX12 wsX12_about 149 12 28 := ⟨rfl, by decide, by decide +kernel, by decide +kernel⟩
  have f140 : jFl RX12 wsX12_about 140 12 25 := ⟨rfl, by decide, by decide +kernel, by decide +kernel⟩
  have hI := hpre
  obtain ⟨M0, hK, hC, htg, hrd, hRW, hpI⟩ := id hpre
  have hse := hpI.2.2.2.2.2
  have main : ∀ (k : Nat), k < 16 → rn (nI k) = k → (0 ≤ x.toInt ∧ x.toInt ≤ 3) → (∀ (F1 : Nat → va_E) (v_1 : Int32) (pc : Nat) (lv : List (Nat × Value)), decode cX12_about pc = .ok (.ireturn, 1) → narrow .int (.int v_1) = .int v_1 → (∃ v' n' g' w', mI G L F1 o a v' n' g' w' (stAbout s (nI k) x).2 ∧ v_1 = (stAbout s (nI k) x).1 ∧ mO o a F F1) → J E L F1 0 0 pc lv [.int v_1]) → J E L F 0 0 21 [(0, .ref o), (1, .int (nI k)), (2, .int x)] [] := by
    intro k hk hrnk hx hR
    have loop : ∀ (t : SSe), bl (w 25) 0 66 = t.1 → (∀ b, b ∈ t.1 → b < 256) → stAbout s (nI k) x = (66, setR s k t.1) → ∀ (r0 i : Nat) (F4 : Nat → va_E) (f : Nat → Int32), i + r0 = 66 → MW G L F4 o a v n g (uz w 61 f) → (∀ j, j < i → f j = w 25 j) → mO o a F F4 → J E L F4 0 0 37 [(3, .int (nI i)), (0, .ref o), (1, .int (nI k)), (2, .int x)] [] := by
      intro t h25 hb25 e r0
      induction r0 with
      | zero =>
        intro i F4 f hi H4 hf O4
        refine jr_iload_n hE dX12_about_37 0 rfl ?_
        refine jr_bipush (v := (66 : Int32)) hE dX12_about_38 (by decide) ?_
        refine jr_icmp_ge (tgt := 61) hE dX12_about_40 (by decide) (fun c_40 => ?_) (fun c_40 => absurd (nI_le (a := 66) (by omega) (by omega)) c_40)
        refine jr_aload_n hE dX12_about_61 1 rfl ?_
        refine jr_iload_n hE dX12_about_62 2 rfl ?_
        refine jr_bipush (v := (66 : Int32)) hE dX12_about_63 (by decide) ?_
        refine jr_kVi (ci := 12) (n := 2) (As := [.int (nI k), .int (66 : Int32)]) (rest := []) hE dX12_about_65 (fun l => c_m_gives l G o a v n g (uz w 61 f) k 66) gX12_about_X12_gives rfl H4.ob rfl (by decide +kernel) ⟨rfl, rfl, by decide, by decide⟩ (by decide) rfl rfl (Nat.le_of_ble_eq_true rfl) (⟨H4, hk, by decide⟩) (fun r3 F1 q2 => ?_)
        obtain ⟨w5, M5, h59, h58, hw5, rfl, O5'⟩ := q2
        have O5 := O4.tr O5'
        have hfl : bl ((uz w 61 f) 61) 0 66 = t.1 := by
          rw [uz_s, ← h25]
          exact bl_cg (fun i hi => by rw [Nat.zero_add]; exact hf i (by omega))
        have hl : (t.1).length = 66 := by rw [← h25]; exact bl_len _ _ _
        have hbb : ∀ b, b ∈ t.1 → b < 256 := hb25
        exact hR F1 _ _ _ dX12_about_68 rfl ⟨v, n, g, w5, by
          rw [e]
          exact hI.row (l := t.1) M5 (fun _ _ => rfl) (fun _ _ => rfl) (fun z hz => by
            have a8 : z ≠ 8 := fun q => by subst q; exact absurd hz (by decide)
            have a9 : z ≠ 9 := fun q => by subst q; exact absurd hz (by decide)
            have a61 : z ≠ 61 := fun q => by subst q; exact absurd hz (by decide)
            rw [hw5 z a8 a9, uz_n _ _ a61]) (by rw [h58, hl]; rfl) (fun j hj => by
            rw [h59]
            exact wrt_out _ _ _ (by rw [hfl, hl]; omega)) (by
            rw [h59, hfl]
            exact bl_wrt _ _ _ (fun b hb => Nat.lt_trans (hbb b hb) (by decide))) (by rw [hl]; decide) hbb, by rw [e]; rfl, O5⟩
      | succ r0 ih =>
        intro i F4 f hi H4 hf O4
        refine jr_iload_n hE dX12_about_37 0 rfl ?_
        refine jr_bipush (v := (66 : Int32)) hE dX12_about_38 (by decide) ?_
        refine jr_icmp_ge (tgt := 61) hE dX12_about_40 (by decide) (fun c_40 => absurd c_40 (nI_ge (b := 66) (by omega) (by omega))) (fun c_40 => ?_)
        refine jr_aload_n hE dX12_about_43 1 rfl ?_
        refine jr_get hE dX12_about_44 f302 H4.ob rfl ?_
        refine jr_iload_n hE dX12_about_47 0 rfl ?_
        refine jr_aload_n hE dX12_about_48 1 rfl ?_
        refine jr_get hE dX12_about_49 f140 H4.ob rfl ?_
        refine jr_iload_n hE dX12_about_52 0 rfl ?_
        refine jr_iald (v := w 25 i) hE dX12_about_53 (H4.I (k := 25) (N := 66) (by decide)) (vp_in_nI (by omega) (by decide)) (by rw [nI_clamp (by omega)]; rfl) ?_
        refine jr_iast hE dX12_about_54 (H4.I (k := 61) (N := 66) (by decide)) (vp_in_nI (by omega) (by decide)) (fun F1 g2 u3 => ?_)
        have H4 := H4.setI (k := 61) (N := 66) (by decide) g2 u3
        have O5 := O4.st (k := 61) (by decide) (by decide) u3
        rw [uz_uz, uz_s] at H4
        refine jr_iinc (v := nI (i + 1)) (lv' := [(3, .int (nI (i + 1))), (0, .ref o), (1, .int (nI k)), (2, .int x)]) hE dX12_about_55 0 rfl (nI_1 _) (by decide) rfl ?_
        refine jr_goto (tgt := 37) hE dX12_about_58 (by decide) ?_
        refine jr_lv (lv' := [(3, .int (nI (i + 1))), (0, .ref o), (1, .int (nI k)), (2, .int x)]) [0, 1, 2, 3] rfl ?_
        exact ih (i + 1) F1 _ (by omega) H4 (fun t ht => by
          rw [nI_clamp (by omega)]
          show (if t = i then _ else f t) = _
          by_cases e : t = i
          · rw [if_pos e, e]
          · rw [if_neg e]; exact hf t (by omega)) O5
    refine jr_aload_n hE dX12_about_21 0 rfl ?_
    refine jr_get hE dX12_about_22 f529 M0.ob rfl ?_
    refine jr_if_ne (tgt := 31) hE dX12_about_25 (by decide) (fun c25 => ?_) (fun c25 => ?_)
    · obtain ⟨t, ht⟩ : ∃ t, s.2.2.2.2.2.2 = some t := by
        have q := hse
        unfold seI at q
        revert q
        cases s.2.2.2.2.2.2 with
        | none => exact fun q => absurd q c25
        | some t => exact fun _ => ⟨t, rfl⟩
      have hst := stAbout_s ⟨nI_rowP hk, hx⟩ ht
      rw [hrnk] at hst
      have hse2 := hse
      unfold seI at hse2
      rw [ht] at hse2
      obtain ⟨_, _, h25, hb25, h26, h27, h28, _⟩ := hse2
      refine jr_iload_n hE dX12_about_31 2 rfl ?_
      refine jr_if_ne (tgt := 69) hE dX12_about_32 (by decide) (fun c32 => ?_) (fun c32 => ?_)
      · refine jr_aload_n hE dX12_about_69 0 rfl ?_
        refine jr_get hE dX12_about_70 f302 M0.ob rfl ?_
        refine jr_iconst (v := (0 : Int32)) hE dX12_about_73 (by decide) ?_
        refine jr_iload_n hE dX12_about_74 2 rfl ?_
        refine jr_iconst (v := (1 : Int32)) hE dX12_about_75 (by decide) ?_
        refine jr_icmp_ne (tgt := 86) hE dX12_about_76 (by decide) (fun c76 => ?_) (fun c76 => ?_)
        · refine jr_iload_n hE dX12_about_86 2 rfl ?_
          refine jr_iconst (v := (2 : Int32)) hE dX12_about_87 (by decide) ?_
          refine jr_icmp_ne (tgt := 98) hE dX12_about_88 (by decide) (fun c88 => ?_) (fun c88 => ?_)
          · refine jr_aload_n hE dX12_about_98 0 rfl ?_
            refine jr_get hE dX12_about_99 f143 M0.ob rfl ?_
            refine jr_kSv (n := 3) (As := [.ref (a 61), .int (0 : Int32), .ref (a 26)]) (rest := []) hE dX12_about_102 (fun l => c_m_bytesOf l G o a v n g w 61 0 26 66 t.2.1) gX12_about_X12_bytesOf rfl (by decide +kernel) ⟨rfl, rfl, by decide, by decide⟩ (by decide) rfl rfl (Nat.le_of_ble_eq_true rfl) (⟨M0, by decide, by decide, by decide, by decide, h26⟩) (fun F1 q2 => ?_)
            obtain ⟨H4, O4⟩ := q2
            have e : stAbout s (nI k) x = (32, setR s k (bex t.2.1 32)) := by
              rw [hst, if_neg c32, if_neg c76, if_neg c88]
            have hfl : bl ((uz w 61 (wrt (w 61) 0 (bex t.2.1 32))) 61) 0 32 = bex t.2.1 32 := by
              have q := bl_wrt (w 61) 0 (bex t.2.1 32) (fun b hb => Nat.lt_trans (bex_lt _ _ b hb) (by decide))
              rw [bex_len] at q
              exact q
            refine jr_aload_n hE dX12_about_105 0 rfl ?_
            refine jr_iload_n hE dX12_about_106 1 rfl ?_
            refine jr_bipush (v := (32 : Int32)) hE dX12_about_107 (by decide) ?_
            refine jr_kVi (ci := 12) (n := 2) (As := [.int (nI k), .int (32 : Int32)]) (rest := []) hE dX12_about_109 (fun l => c_m_gives l G o a v n g (uz w 61 (wrt (w 61) 0 (bex t.2.1 32))) k 32) gX12_about_X12_gives rfl H4.ob rfl (by decide +kernel) ⟨rfl, rfl, by decide, by decide⟩ (by decide) rfl rfl (Nat.le_of_ble_eq_true rfl) (⟨H4, hk, by decide⟩) (fun r5 F3 q4 => ?_)
            obtain ⟨w5, M5, h59, h58, hw5, rfl, O5'⟩ := q4
            have O5 := O4.tr O5'
            have hl : (bex t.2.1 32).length = 32 := bex_len _ _
            have hbb : ∀ b, b ∈ bex t.2.1 32 → b < 256 := bex_lt _ _
            exact hR F3 _ _ _ dX12_about_112 rfl ⟨v, n, g, w5, by
              rw [e]
              exact hI.row (l := bex t.2.1 32) M5 (fun _ _ => rfl) (fun _ _ => rfl) (fun z hz => by
                have a8 : z ≠ 8 := fun q => by subst q; exact absurd hz (by decide)
                have a9 : z ≠ 9 := fun q => by subst q; exact absurd hz (by decide)
                have a61 : z ≠ 61 := fun q => by subst q; exact absurd hz (by decide)
                rw [hw5 z a8 a9, uz_n _ _ a61]) (by rw [h58, hl]; rfl) (fun j hj => by
                rw [h59]
                exact wrt_out _ _ _ (by rw [hfl, hl]; omega)) (by
                rw [h59, hfl]
                exact bl_wrt _ _ _ (fun b hb => Nat.lt_trans (hbb b hb) (by decide))) (by rw [hl]; decide) hbb, by rw [e]; rfl, O5⟩
          · refine jr_aload_n hE dX12_about_91 0 rfl ?_
            refine jr_get hE dX12_about_92 f146 M0.ob rfl ?_
            refine jr_goto (tgt := 102) hE dX12_about_95 (by decide) ?_
            refine jr_kSv (n := 3) (As := [.ref (a 61), .int (0 : Int32), .ref (a 27)]) (rest := []) hE dX12_about_102 (fun l => c_m_bytesOf l G o a v n g w 61 0 27 66 t.2.2.1) gX12_about_X12_bytesOf rfl (by decide +kernel) ⟨rfl, rfl, by decide, by decide⟩ (by decide) rfl rfl (Nat.le_of_ble_eq_true rfl) (⟨M0, by decide, by decide, by decide, by decide, h27⟩) (fun F6 q7 => ?_)
            obtain ⟨H4, O4⟩ := q7
            have e : stAbout s (nI k) x = (32, setR s k (bex t.2.2.1 32)) := by
              rw [hst, if_neg c32, if_neg c76, if_pos c88]
            have hfl : bl ((uz w 61 (wrt (w 61) 0 (bex t.2.2.1 32))) 61) 0 32 = bex t.2.2.1 32 := by
              have q := bl_wrt (w 61) 0 (bex t.2.2.1 32) (fun b hb => Nat.lt_trans (bex_lt _ _ b hb) (by decide))
              rw [bex_len] at q
              exact q
            refine jr_aload_n hE dX12_about_105 0 rfl ?_
            refine jr_iload_n hE dX12_about_106 1 rfl ?_
            refine jr_bipush (v := (32 : Int32)) hE dX12_about_107 (by decide) ?_
            refine jr_kVi (ci := 12) (n := 2) (As := [.int (nI k), .int (32 : Int32)]) (rest := []) hE dX12_about_109 (fun l => c_m_gives l G o a v n g (uz w 61 (wrt (w 61) 0 (bex t.2.2.1 32))) k 32) gX12_about_X12_gives rfl H4.ob rfl (by decide +kernel) ⟨rfl, rfl, by decide, by decide⟩ (by decide) rfl rfl (Nat.le_of_ble_eq_true rfl) (⟨H4, hk, by decide⟩) (fun r10 F8 q9 => ?_)
            obtain ⟨w5, M5, h59, h58, hw5, rfl, O5'⟩ := q9
            have O5 := O4.tr O5'
            have hl : (bex t.2.2.1 32).length = 32 := bex_len _ _
            have hbb : ∀ b, b ∈ bex t.2.2.1 32 → b < 256 := bex_lt _ _
            exact hR F8 _ _ _ dX12_about_112 rfl ⟨v, n, g, w5, by
              rw [e]
              exact hI.row (l := bex t.2.2.1 32) M5 (fun _ _ => rfl) (fun _ _ => rfl) (fun z hz => by
                have a8 : z ≠ 8 := fun q => by subst q; exact absurd hz (by decide)
                have a9 : z ≠ 9 := fun q => by subst q; exact absurd hz (by decide)
                have a61 : z ≠ 61 := fun q => by subst q; exact absurd hz (by decide)
                rw [hw5 z a8 a9, uz_n _ _ a61]) (by rw [h58, hl]; rfl) (fun j hj => by
                rw [h59]
                exact wrt_out _ _ _ (by rw [hfl, hl]; omega)) (by
                rw [h59, hfl]
                exact bl_wrt _ _ _ (fun b hb => Nat.lt_trans (hbb b hb) (by decide))) (by rw [hl]; decide) hbb, by rw [e]; rfl, O5⟩
        · refine jr_aload_n hE dX12_about_79 0 rfl ?_
          refine jr_get hE dX12_about_80 f149 M0.ob rfl ?_
          refine jr_goto (tgt := 102) hE dX12_about_83 (by decide) ?_
          refine jr_kSv (n := 3) (As := [.ref (a 61), .int (0 : Int32), .ref (a 28)]) (rest := []) hE dX12_about_102 (fun l => c_m_bytesOf l G o a v n g w 61 0 28 66 t.2.2.2.1) gX12_about_X12_bytesOf rfl (by decide +kernel) ⟨rfl, rfl, by decide, by decide⟩ (by decide) rfl rfl (Nat.le_of_ble_eq_true rfl) (⟨M0, by decide, by decide, by decide, by decide, h28⟩) (fun F11 q12 => ?_)
          obtain ⟨H4, O4⟩ := q12
          have e : stAbout s (nI k) x = (32, setR s k (bex t.2.2.2.1 32)) := by
            rw [hst, if_neg c32, if_pos c76]
          have hfl : bl ((uz w 61 (wrt (w 61) 0 (bex t.2.2.2.1 32))) 61) 0 32 = bex t.2.2.2.1 32 := by
            have q := bl_wrt (w 61) 0 (bex t.2.2.2.1 32) (fun b hb => Nat.lt_trans (bex_lt _ _ b hb) (by decide))
            rw [bex_len] at q
            exact q
          refine jr_aload_n hE dX12_about_105 0 rfl ?_
          refine jr_iload_n hE dX12_about_106 1 rfl ?_
          refine jr_bipush (v := (32 : Int32)) hE dX12_about_107 (by decide) ?_
          refine jr_kVi (ci := 12) (n := 2) (As := [.int (nI k), .int (32 : Int32)]) (rest := []) hE dX12_about_109 (fun l => c_m_gives l G o a v n g (uz w 61 (wrt (w 61) 0 (bex t.2.2.2.1 32))) k 32) gX12_about_X12_gives rfl H4.ob rfl (by decide +kernel) ⟨rfl, rfl, by decide, by decide⟩ (by decide) rfl rfl (Nat.le_of_ble_eq_true rfl) (⟨H4, hk, by decide⟩) (fun r15 F13 q14 => ?_)
          obtain ⟨w5, M5, h59, h58, hw5, rfl, O5'⟩ := q14
          have O5 := O4.tr O5'
          have hl : (bex t.2.2.2.1 32).length = 32 := bex_len _ _
          have hbb : ∀ b, b ∈ bex t.2.2.2.1 32 → b < 256 := bex_lt _ _
          exact hR F13 _ _ _ dX12_about_112 rfl ⟨v, n, g, w5, by
            rw [e]
            exact hI.row (l := bex t.2.2.2.1 32) M5 (fun _ _ => rfl) (fun _ _ => rfl) (fun z hz => by
              have a8 : z ≠ 8 := fun q => by subst q; exact absurd hz (by decide)
              have a9 : z ≠ 9 := fun q => by subst q; exact absurd hz (by decide)
              have a61 : z ≠ 61 := fun q => by subst q; exact absurd hz (by decide)
              rw [hw5 z a8 a9, uz_n _ _ a61]) (by rw [h58, hl]; rfl) (fun j hj => by
              rw [h59]
              exact wrt_out _ _ _ (by rw [hfl, hl]; omega)) (by
              rw [h59, hfl]
              exact bl_wrt _ _ _ (fun b hb => Nat.lt_trans (hbb b hb) (by decide))) (by rw [hl]; decide) hbb, by rw [e]; rfl, O5⟩
      · refine jr_iconst (v := (0 : Int32)) hE dX12_about_35 (by decide) ?_
        refine jr_istore_n (lv' := [(3, .int (0 : Int32)), (0, .ref o), (1, .int (nI k)), (2, .int x)]) hE dX12_about_36 (by decide) rfl ?_
        refine jr_lv (lv' := [(3, .int (0 : Int32)), (0, .ref o), (1, .int (nI k)), (2, .int x)]) [0, 1, 2, 3] rfl ?_
        exact loop t h25 hb25 (by rw [hst, if_pos c32]) 66 0 F (w 61) rfl (by rw [uz_id]; exact M0) (fun j hj => absurd hj (Nat.not_lt_zero j)) (mO.rf o a F)
    · refine jr_bipush (v := (-2 : Int32)) hE dX12_about_28 (by decide) ?_
      have hn : s.2.2.2.2.2.2 = none := by
        have q := hse
        unfold seI at q
        revert q
        cases s.2.2.2.2.2.2 with
        | none => exact fun _ => rfl
        | some t => exact fun q => absurd (q.1.symm.trans c25) (by decide)
      have e := stAbout_n ⟨nI_rowP hk, hx⟩ hn
      exact hR F _ _ _ dX12_about_30 rfl ⟨v, n, g, w, by rw [e]; exact hI, by rw [e], mO.rf o a F⟩
  refine jr_iload_n hE dX12_about_0 1 rfl ?_
  refine jr_kSi (n := 1) (As := [.int r]) (rest := []) hE dX12_about_1 (fun l => c_m_isRow l G r) gX12_about_X12_isRow rfl (by decide +kernel) ⟨rfl, rfl, by decide, by decide⟩ (by decide) rfl rfl (Nat.le_of_ble_eq_true rfl) (trivial) (fun r3 F1 q2 => ?_)
  obtain ⟨eq2, rq2⟩ := q2
  subst eq2 rq2
  refine jr_if_eq (tgt := 19) hE dX12_about_4 (by decide) (fun c4 => ?_) (fun c4 => ?_)
  · refine jr_iconst (v := (-1 : Int32)) hE dX12_about_19 (by decide) ?_
    have e : stAbout s r x = (-1, s) := by
      unfold stAbout
      rw [if_neg (fun h => absurd (b2i_t h.1) (by rw [c4]; decide))]
    exact hR F _ _ _ dX12_about_20 rfl ⟨v, n, g, w, by rw [e]; exact hI, by rw [e], mO.rf o a F⟩
  · have hrk : rowP r := b2i_1 c4
    obtain ⟨k, hk, rfl⟩ := rowP_nI hrk
    obtain ⟨z1k, z2k, z3k, z4k⟩ := hRW k hk
    have hrnk := nI_rn hk
    refine jr_iload_n hE dX12_about_7 2 rfl ?_
    refine jr_i2l hE dX12_about_8 rfl ?_
    refine jr_lconst (v := (0 : Int64)) hE dX12_about_9 (by decide) ?_
    refine jr_ldc2 (v := (3 : Int64)) hE dX12_about_10 (by decide +kernel) ?_
    refine jr_kSi (n := 3) (As := [.long x.toInt64, .long (0 : Int64), .long (3 : Int64)]) (rest := []) hE dX12_about_13 (fun l => c_m_in l G x.toInt64 0 3) gX12_about_X12_in rfl (by decide +kernel) ⟨rfl, rfl, by decide, by decide⟩ (by decide) rfl rfl (Nat.le_of_ble_eq_true rfl) (trivial) (fun r6 F4 q5 => ?_)
    obtain ⟨eq5, rq5⟩ := q5
    subst eq5 rq5
    rw [show b2i ((0 : Int64).toInt ≤ x.toInt64.toInt ∧ x.toInt64.toInt ≤ (3 : Int64).toInt) = b2i (0 ≤ x.toInt ∧ x.toInt ≤ 3) by rw [i2l_T]; rfl]
    refine jr_if_ne (tgt := 21) hE dX12_about_16 (by decide) (fun c16 => ?_) (fun c16 => ?_)
    · refine jr_lv (lv' := [(0, .ref o), (1, .int (nI k)), (2, .int x)]) [0, 1, 2] rfl ?_
      exact main k hk hrnk (b2i_1 c16) hR
    · refine jr_iconst (v := (-1 : Int32)) hE dX12_about_19 (by decide) ?_
      have e : stAbout s (nI k) x = (-1, s) := by
        unfold stAbout
        rw [if_neg (fun h => absurd (b2i_t h.2) (by rw [c16]; decide))]
      exact hR F _ _ _ dX12_about_20 rfl ⟨v, n, g, w, by rw [e]; exact hI, by rw [e], mO.rf o a F⟩

