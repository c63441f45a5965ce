/-! JointSigns: rows' numbers, WORK, answers -/
theorem i32_le {x : Int32} {m : Nat} (hm : m < 2 ^ 31) : x ≤ nI m ↔ x.toInt ≤ (m : Int) := by
  rw [Int32.le_iff_toInt_le, nI_toInt hm]

set_option maxHeartbeats 4000000 in
set_option maxRecDepth 100000 in
theorem c_c_isRow (l : Launch) (G : Nat → ClassId) (r : Int32) : jKi l yX11_isRow wsX11_isRow ({ frames := 0, cells := 0, slots := 0, locals := 0 }) G [.int r] (fun L F => True) (fun L F q F1 => F = F1 ∧ q = b2i (rowP r)) := by
  refine jm_ki (cc := cX11_isRow) (maxL := 1) (rt := .boolean) (by decide) rfl (Nat.le_of_ble_eq_true rfl) ?_
  intro E L F hE hR hpre
  have hE : jOk E G _ cX11_isRow 1 RX11 wsX11_isRow := hE

  refine jr_iload_n hE dX11_isRow_0 0 rfl ?_
  refine jr_if_lt (tgt := 14) hE dX11_isRow_1 (by decide) (fun c1 => ?_) (fun c1 => ?_)
  · refine jr_iconst (v := (0 : Int32)) hE dX11_isRow_14 (by decide) ?_
    exact hR F _ _ _ dX11_isRow_15 rfl ⟨rfl, (b2i_f (fun h => absurd (i32_0.mp c1) (by omega))).symm⟩
  · refine jr_iload_n hE dX11_isRow_4 0 rfl ?_
    refine jr_bipush (v := (16 : Int32)) hE dX11_isRow_5 (by decide) ?_
    refine jr_icmp_ge (tgt := 14) hE dX11_isRow_7 (by decide) (fun c7 => ?_) (fun c7 => ?_)
    · refine jr_iconst (v := (0 : Int32)) hE dX11_isRow_14 (by decide) ?_
      exact hR F _ _ _ dX11_isRow_15 rfl ⟨rfl, (b2i_f (fun h => absurd ((i32_g (m := 16) (by decide)).mp c7) (by omega))).symm⟩
    · refine jr_iconst (v := (1 : Int32)) hE dX11_isRow_10 (by decide) ?_
      refine jr_goto (tgt := 15) hE dX11_isRow_11 (by decide) ?_
      exact hR F _ _ _ dX11_isRow_15 rfl ⟨rfl, (b2i_t ⟨Int.not_lt.mp (fun h => c1 (i32_0.mpr h)), by have q := Int.not_le.mp (fun h => c7 ((i32_g (m := 16) (by decide)).mpr h)); omega⟩).symm⟩

set_option maxHeartbeats 4000000 in
set_option maxRecDepth 100000 in
theorem c_c_areRows (l : Launch) (G : Nat → ClassId) (r p : Int32) : jKi l yX11_areRows wsX11_areRows ({ frames := 1, cells := 0, slots := 0, locals := 20 }) G [.int r, .int p] (fun L F => True) (fun L F q F1 => F = F1 ∧ q = b2i (rowP r ∧ rowP p)) := by
  refine jm_ki (cc := cX11_areRows) (maxL := 2) (rt := .boolean) (by decide) rfl (Nat.le_of_ble_eq_true rfl) ?_
  intro E L F hE hR hpre
  have hE : jOk E G _ cX11_areRows 2 RX11 wsX11_areRows := hE

  refine jr_iload_n hE dX11_areRows_0 0 rfl ?_
  refine jr_kSi (n := 1) (As := [.int r]) (rest := []) hE dX11_areRows_1 (fun l => c_c_isRow l G r) gX11_areRows_X11_isRow rfl (by decide +kernel) ⟨rfl, rfl, by decide, by decide⟩ (by decide) rfl rfl (Nat.le_of_ble_eq_true rfl) (trivial) (fun r3 F1 q2 => ?_)
  obtain ⟨eq2, rq2⟩ := q2
  subst eq2 rq2
  refine jr_if_eq (tgt := 18) hE dX11_areRows_4 (by decide) (fun c4 => ?_) (fun c4 => ?_)
  · refine jr_iconst (v := (0 : Int32)) hE dX11_areRows_18 (by decide) ?_
    exact hR F _ _ _ dX11_areRows_19 rfl ⟨rfl, (b2i_f (fun h => b2i_0 c4 h.1)).symm⟩
  · refine jr_iload_n hE dX11_areRows_7 1 rfl ?_
    refine jr_kSi (n := 1) (As := [.int p]) (rest := []) hE dX11_areRows_8 (fun l => c_c_isRow l G p) gX11_areRows_X11_isRow rfl (by decide +kernel) ⟨rfl, rfl, by decide, by decide⟩ (by decide) rfl rfl (Nat.le_of_ble_eq_true rfl) (trivial) (fun r6 F4 q5 => ?_)
    obtain ⟨eq5, rq5⟩ := q5
    subst eq5 rq5
    refine jr_if_eq (tgt := 18) hE dX11_areRows_11 (by decide) (fun c11 => ?_) (fun c11 => ?_)
    · refine jr_iconst (v := (0 : Int32)) hE dX11_areRows_18 (by decide) ?_
      exact hR F _ _ _ dX11_areRows_19 rfl ⟨rfl, (b2i_f (fun h => b2i_0 c11 h.2)).symm⟩
    · refine jr_iconst (v := (1 : Int32)) hE dX11_areRows_14 (by decide) ?_
      refine jr_goto (tgt := 19) hE dX11_areRows_15 (by decide) ?_
      exact hR F _ _ _ dX11_areRows_19 rfl ⟨rfl, (b2i_t ⟨b2i_1 c4, b2i_1 c11⟩).symm⟩

set_option maxHeartbeats 4000000 in
set_option maxRecDepth 100000 in
theorem c_c_wouldPass (l : Launch) (G : Nat → ClassId) (c : Nat → Nat) (B : Nat → List Nat) (S : Nat → Nat) (P : Nat → JP) (q : SS) (X : Nat) (v : Nat → Int32) (wk k : Nat) : jKi l yX11_wouldPass wsX11_wouldPass ({ frames := 0, cells := 0, slots := 0, locals := 0 }) G [.ref (c 0), .int (nI k)] (fun L F => CW G L F c B S P q X v ∧ v 1 = nI wk ∧ wk ≤ 1000 ∧ k ≤ 1000) (fun L F r F1 => F = F1 ∧ r = b2i (48 < wk + k)) := by
  refine jm_ki (cc := cX11_wouldPass) (maxL := 2) (rt := .boolean) (by decide) rfl (Nat.le_of_ble_eq_true rfl) ?_
  intro E L F hE hR hpre
  have hE : jOk E G _ cX11_wouldPass 2 RX11 wsX11_wouldPass := hE
  obtain ⟨W0, hw, hwk, hk⟩ := hpre
  have f60 : jFl RX11 wsX11_wouldPass 60 11 7 := ⟨rfl, by decide, by decide +kernel, by decide +kernel⟩
  refine jr_aload_n hE dX11_wouldPass_0 0 rfl ?_
  refine jr_get hE dX11_wouldPass_1 f60 W0.o0 rfl ?_
  rw [show v 1 = (nI wk) from hw]
  refine jr_iload_n hE dX11_wouldPass_4 1 rfl ?_
  refine jr_iadd (z := nI (wk + k)) hE dX11_wouldPass_5 (nI_add _ _) ?_
  refine jr_bipush (v := (48 : Int32)) hE dX11_wouldPass_6 (by decide) ?_
  refine jr_icmp_le (tgt := 15) hE dX11_wouldPass_8 (by decide) (fun c8 => ?_) (fun c8 => ?_)
  · refine jr_iconst (v := (0 : Int32)) hE dX11_wouldPass_15 (by decide) ?_
    exact hR F _ _ _ dX11_wouldPass_16 rfl ⟨rfl, (b2i_f (fun h => absurd (nI_leC (m := 48) (by omega) (by decide) c8) (by omega))).symm⟩
  · refine jr_iconst (v := (1 : Int32)) hE dX11_wouldPass_11 (by decide) ?_
    refine jr_goto (tgt := 16) hE dX11_wouldPass_12 (by decide) ?_
    exact hR F _ _ _ dX11_wouldPass_16 rfl ⟨rfl, (b2i_t (Nat.lt_of_not_le (fun h => c8 (nI_le (b := 48) h (by decide))))).symm⟩

set_option maxHeartbeats 4000000 in
set_option maxRecDepth 100000 in
theorem c_c_answerIn (l : Launch) (G : Nat → ClassId) (c : Nat → Nat) (B : Nat → List Nat) (S : Nat → Nat) (P : Nat → JP) (q : SS) (X : Nat) (v : Nat → Int32) (k : Nat) : jKi l yX11_answerIn wsX11_answerIn ({ frames := 4, cells := 0, slots := 0, locals := 87 }) G [.ref (c 0), .int (nI k)] (fun L F => CW G L F c B S P q X v ∧ k < 16) (fun L F r F1 => ∃ B', CW G L F1 c B' S P q X v ∧ (∀ i, i ∉ [k] → B' i = B i) ∧ B' k = B 16 ∧ r = nI (B 16).length ∧ cO c F F1) := by
  refine jm_ki (cc := cX11_answerIn) (maxL := 2) (rt := .int) (by decide) rfl (Nat.le_of_ble_eq_true rfl) ?_
  intro E L F hE hR hpre
  have hE : jOk E G _ cX11_answerIn 2 RX11 wsX11_answerIn := hE
  obtain ⟨W0, hk⟩ := hpre
  have f11 : jFl RX11 wsX11_answerIn 11 11 0 := ⟨rfl, by decide, by decide +kernel, by decide +kernel⟩
  have f18 : jFl RX11 wsX11_answerIn 18 11 1 := ⟨rfl, by decide, by decide +kernel, by decide +kernel⟩
  have f68 : jFl RX11 wsX11_answerIn 68 0 1 := ⟨rfl, by decide, by decide +kernel, by decide +kernel⟩
  refine jr_iload_n hE dX11_answerIn_0 1 rfl ?_
  refine jr_kSi (n := 1) (As := [.int (nI k)]) (rest := []) hE dX11_answerIn_1 (fun l => c_c_isRow l G (nI k)) gX11_answerIn_X11_isRow rfl (by decide +kernel) ⟨rfl, rfl, by decide, by decide⟩ (by decide) rfl rfl (Nat.le_of_ble_eq_true rfl) (trivial) (fun r3 F1 q2 => ?_)
  obtain ⟨eq2, rq2⟩ := q2
  subst eq2 rq2
  refine jr_if_eq (tgt := 20) hE dX11_answerIn_4 (by decide) (fun c_4 => absurd c_4 (b2i_nz (nI_rowP hk))) (fun c_4 => ?_)
  refine jr_aload_n hE dX11_answerIn_7 0 rfl ?_
  refine jr_get hE dX11_answerIn_8 f11 W0.o0 rfl ?_
  refine jr_iload_n hE dX11_answerIn_11 1 rfl ?_
  obtain ⟨f4, ja4, ga4⟩ := W0.aR
  refine jr_aald (v := c (270 + 2 * k)) hE dX11_answerIn_12 ja4 rfl (vp_in_nI (n := k) (by omega) (by decide)) (by rw [nI_clamp (by omega)]; exact ga4 k (by omega)) ?_
  refine jr_aload_n hE dX11_answerIn_13 0 rfl ?_
  refine jr_get hE dX11_answerIn_14 f18 W0.o0 rfl ?_
  refine jr_kVv (ci := 0) (n := 1) (As := [.ref (c (270 + 2 * 16))]) (rest := []) hE dX11_answerIn_17 (fun l => c_X0_become l G (c (270 + 2 * k)) (c (271 + 2 * k)) (bcap k) (c (270 + 2 * 16)) (c (271 + 2 * 16)) (bcap 16) (B k) (B 16)) gX11_answerIn_X0_become rfl ((W0.by k (by omega)).ob) rfl (by decide +kernel) ⟨rfl, rfl, by decide, by decide⟩ (by decide) rfl rfl (Nat.le_of_ble_eq_true rfl) (⟨W0.by k (by omega), (by have q := W0.by 16 (by decide); rw [show B 16 = (B 16) from rfl] at q; exact q), cnd W0.1 [270 + 2 * k, 271 + 2 * k, 270 + 2 * 16, 271 + 2 * 16] (by simp only [List.mem_cons, List.not_mem_nil, or_false]; omega) (by simp only [List.nodup_cons, List.mem_cons, List.not_mem_nil, or_false, not_or, List.nodup_nil, not_false_eq_true, and_true]; omega), by have q := W0.cp 16 (by decide); rw [bcr (by omega)] at q; rw [bcr (by omega)]; exact q⟩) (fun F5 q6 => ?_)
  obtain ⟨h7, u7⟩ := q6
  obtain ⟨W7, P7⟩ := W0.setB (i := k) (bs := (B 16)) (by omega) h7 u7
  have O7 := (cO.rf c F).tr P7
  obtain ⟨B7, eB7, hB7, yB7⟩ := uz_ab B k (B 16)
  rw [eB7] at W7
  have nB7 : ∀ z, z ≠ k → B7 z = B z := fun z hz => hB7 z (fun e => hz (List.mem_singleton.mp e))
  refine jr_aload_n hE dX11_answerIn_20 0 rfl ?_
  refine jr_get hE dX11_answerIn_21 f18 W7.o0 rfl ?_
  refine jr_get hE dX11_answerIn_24 f68 (W7.by 16 (by decide)).ob rfl ?_
  have hB8 : B7 16 = (B 16) := (nB7 16 (by omega)).trans rfl
  rw [show B7 16 = (B 16) from hB8]
  exact hR F5 _ _ _ dX11_answerIn_27 rfl ⟨_, W7, (fun z hz => (nB7 z (by simp only [List.mem_cons, List.not_mem_nil, or_false, not_or] at hz; omega))), yB7, rfl, O7⟩

