/-! Single: canJudge, judge, canJoin, judgeMany -/
theorem dt1 {l : List Nat} {a n : Nat} (h : l.length = a + n) : (l.drop a).take n = l.drop a := by
  rw [List.take_of_length_le (by rw [List.length_drop]; omega)]
theorem emul_ng {A : EP} (hA : onE PP A) {e : Nat} (he : e < NN) : emul PP (ngN true e) A = emul PP e (eneg PP A) := by
  rw [emul_neg gdP hA]
  by_cases h : e = 0
  · rw [ngN_z h, h]
    rfl
  · rw [ngN_1 rfl h, emul_negN hA (by omega)]
theorem eadd_c {A B : EP} (hA : onE PP A) (hB : onE PP B) : eadd PP A B = eadd PP B A := eadd_comm gdP hA hB

set_option maxHeartbeats 4000000 in
set_option maxRecDepth 100000 in
theorem c_s_canJudge (l : Launch) (G : Nat → ClassId) (c : Nat → Nat) (B : Nat → List Nat) (S : Nat → Nat) (P : Nat → JP) (q : SS) (X : Nat) (v : Nat → Int32) (k j : Nat) : jKi l yX10_canJudge wsX10_canJudge ({ frames := 4, cells := 0, slots := 0, locals := 149 }) G [.ref (c 6), .ref (c (270 + 2 * k)), .ref (c (270 + 2 * j))] (fun L F => CW G L F c B S P q X v ∧ k < 16 ∧ j < 16) (fun L F r F1 => ∃ S' P' X', CW G L F1 c B S' P' q X' v ∧ (∀ i, i ∉ [3] → S' i = S i) ∧ (∀ i, i ∉ [18] → P' i = P i) ∧ (hoOK (B k) (B j) → rep (P' 18) (lfE (bnum (B k))) ∧ X' = bnum ((B j).take 32) ∧ S' 3 = bnum ((B j).drop 32)) ∧ r = b2i (hoOK (B k) (B j)) ∧ cO c F F1) := by
  refine jm_ki (cc := cX10_canJudge) (maxL := 3) (rt := .boolean) (by decide) rfl (Nat.le_of_ble_eq_true rfl) ?_
  intro E L F hE hR hpre
  have hE : jOk E G _ cX10_canJudge 3 RX10 wsX10_canJudge := hE
  obtain ⟨W0, hk, hj⟩ := hpre
  have hck := W0.cp k (by omega)
  have hbk : bcap k ≤ 100 := (W0.by k (by omega)).cap.2
  have hcj := W0.cp j (by omega)
  have hbj : bcap j ≤ 100 := (W0.by j (by omega)).cap.2
  have f68 : jFl RX10 wsX10_canJudge 68 0 1 := ⟨rfl, by decide, by decide +kernel, by decide +kernel⟩
  have f64 : jFl RX10 wsX10_canJudge 64 10 0 := ⟨rfl, by decide, by decide +kernel, by decide +kernel⟩
  have f47 : jFl RX10 wsX10_canJudge 47 10 10 := ⟨rfl, by decide, by decide +kernel, by decide +kernel⟩
  have f53 : jFl RX10 wsX10_canJudge 53 10 11 := ⟨rfl, by decide, by decide +kernel, by decide +kernel⟩
  have f34 : jFl RX10 wsX10_canJudge 34 10 7 := ⟨rfl, by decide, by decide +kernel, by decide +kernel⟩
  refine jr_aload_n hE dX10_canJudge_0 1 rfl ?_
  refine jr_get hE dX10_canJudge_1 f68 (W0.by k (by omega)).ob rfl ?_
  rw [show B k = (B k) from rfl]
  refine jr_bipush (v := (32 : Int32)) hE dX10_canJudge_4 (by decide) ?_
  refine jr_icmp_ne (tgt := 63) hE dX10_canJudge_6 (by decide) (fun c6 => ?_) (fun c6 => ?_)
  · refine jr_iconst (v := (0 : Int32)) hE dX10_canJudge_63 (by decide) ?_
    exact hR F _ _ _ dX10_canJudge_64 rfl ⟨_, _, _, W0, (fun z hz => rfl), (fun z hz => rfl), (fun h => absurd h (fun h => c6 ((nI_eq (by omega) (by decide)).mpr h.1))), (b2i_f (fun h => c6 ((nI_eq (by omega) (by decide)).mpr h.1))).symm, (cO.rf c F)⟩
  · have hl : (B k).length = 32 := (nI_eq (by omega) (by decide)).mp c6
    refine jr_aload_n hE dX10_canJudge_9 2 rfl ?_
    refine jr_get hE dX10_canJudge_10 f68 (W0.by j (by omega)).ob rfl ?_
    rw [show B j = (B j) from rfl]
    refine jr_bipush (v := (64 : Int32)) hE dX10_canJudge_13 (by decide) ?_
    refine jr_icmp_ne (tgt := 63) hE dX10_canJudge_15 (by decide) (fun c15 => ?_) (fun c15 => ?_)
    · refine jr_iconst (v := (0 : Int32)) hE dX10_canJudge_63 (by decide) ?_
      exact hR F _ _ _ dX10_canJudge_64 rfl ⟨_, _, _, W0, (fun z hz => rfl), (fun z hz => rfl), (fun h => absurd h (fun h => c15 ((nI_eq (by omega) (by decide)).mpr h.2.1))), (b2i_f (fun h => c15 ((nI_eq (by omega) (by decide)).mpr h.2.1))).symm, (cO.rf c F)⟩
    · have hl2 : (B j).length = 64 := (nI_eq (by omega) (by decide)).mp c15
      refine jr_aload_n hE dX10_canJudge_18 0 rfl ?_
      refine jr_get hE dX10_canJudge_19 f64 W0.o6 rfl ?_
      refine jr_aload_n hE dX10_canJudge_22 0 rfl ?_
      refine jr_get hE dX10_canJudge_23 f47 W0.o6 rfl ?_
      refine jr_aload_n hE dX10_canJudge_26 1 rfl ?_
      refine jr_iconst (v := (0 : Int32)) hE dX10_canJudge_27 (by decide) ?_
      refine jr_kVi (ci := 2) (n := 3) (As := [.ref (c (40 + 4 * 18)), .ref (c (270 + 2 * k)), .int (0 : Int32)]) (rest := []) hE dX10_canJudge_28 (fun l => c_X2_lift l G (c 9) (c (40 + 4 * 16)) (c 11) (c 10) (c 12) (c 13) (c 14) (c 15) (c 16) (c 17) (c 18) (c 19) (c 20) (c 21) (c 22) (c 23) (c (40 + 4 * 18)) (c (41 + 4 * 18)) (c (42 + 4 * 18)) (c (43 + 4 * 18)) (c (270 + 2 * k)) (c (271 + 2 * k)) (bcap k) 0 (bnum (B k)) (P 18) (B k)) gX10_canJudge_X2_lift rfl W0.cv rfl (by decide +kernel) ⟨rfl, rfl, by decide, by decide⟩ (by decide) rfl rfl (Nat.le_of_ble_eq_true rfl) (⟨(W0.settlePre 18 (by decide) (by decide)).1, (W0.settlePre 18 (by decide) (by decide)).2.1, (W0.settlePre 18 (by decide) (by decide)).2.2.1, (W0.settlePre 18 (by decide) (by decide)).2.2.2.1, (W0.settlePre 18 (by decide) (by decide)).2.2.2.2, (by have q := W0.by k (by omega); rw [show B k = (B k) from rfl] at q; exact q), by omega, by rw [dt0 hl]⟩) (fun r3 F1 q2 => ?_)
      obtain ⟨g4, gp4, go4, ⟨Q4, h4, hq4⟩, u4, r3e⟩ := q2
      subst r3e
      obtain ⟨W4, P4⟩ := W0.lift (i := 18) (by decide) (by decide) g4 gp4 go4 h4 u4
      have O4 := (cO.rf c F).tr P4
      obtain ⟨P4, eP4, hP4, yP4⟩ := uz_ab P 18 Q4
      rw [eP4] at W4
      have nP4 : ∀ z, z ≠ 18 → P4 z = P z := fun z hz => hP4 z (fun e => hz (List.mem_singleton.mp e))
      have hr4 : (isX (bnum (B k))) → rep (P4 18) (lfE (bnum (B k))) := fun h => by rw [yP4, hq4 h]; exact rep_ev h
      refine jr_if_eq (tgt := 63) hE dX10_canJudge_31 (by decide) (fun c31 => ?_) (fun c31 => ?_)
      · refine jr_iconst (v := (0 : Int32)) hE dX10_canJudge_63 (by decide) ?_
        exact hR F1 _ _ _ dX10_canJudge_64 rfl ⟨_, _, _, W4, (fun z hz => rfl), (fun z hz => (nP4 z (jne hz 0 rfl))), (fun h => absurd h (fun h => absurd (b2i_t h.2.2.1) (by rw [c31]; decide))), (b2i_f (fun h => absurd (b2i_t h.2.2.1) (by rw [c31]; decide))).symm, O4⟩
      · refine jr_aload_n hE dX10_canJudge_34 0 rfl ?_
        refine jr_get hE dX10_canJudge_35 f53 W4.o6 rfl ?_
        refine jr_aload_n hE dX10_canJudge_38 2 rfl ?_
        refine jr_iconst (v := (0 : Int32)) hE dX10_canJudge_39 (by decide) ?_
        obtain ⟨lo5, hlo5⟩ := W4.xx.cell
        refine jr_kVi (ci := 1) (n := 2) (As := [.ref (c (270 + 2 * j)), .int (0 : Int32)]) (rest := []) hE dX10_canJudge_40 (fun l => c_X1_take l G (c 24) (c (270 + 2 * j)) (c (271 + 2 * j)) (bcap j) 0 lo5 (B j)) gX10_canJudge_X1_take rfl hlo5 rfl (by decide +kernel) ⟨rfl, rfl, by decide, by decide⟩ (by decide) rfl rfl (Nat.le_of_ble_eq_true rfl) (⟨hlo5, (by have q := W4.by j (by omega); rw [show B j = (B j) from rfl] at q; exact q), by omega⟩) (fun r8 F6 q7 => ?_)
        obtain ⟨h9, u9, r8e⟩ := q7
        rw [show bnum (((B j).drop 0).take 32) = (bnum ((B j).take 32)) from by rw [List.drop_zero]] at h9 r8e
        subst r8e
        obtain ⟨W9, P9⟩ := W4.setX (x := (bnum ((B j).take 32)) % PP) h9.co u9
        have O9 := O4.tr P9
        refine jr_if_eq (tgt := 63) hE dX10_canJudge_43 (by decide) (fun c43 => ?_) (fun c43 => ?_)
        · refine jr_iconst (v := (0 : Int32)) hE dX10_canJudge_63 (by decide) ?_
          exact hR F6 _ _ _ dX10_canJudge_64 rfl ⟨_, _, _, W9, (fun z hz => rfl), (fun z hz => (nP4 z (jne hz 0 rfl))), (fun h => absurd h (fun h => absurd (b2i_t h.2.2.2.1) (by rw [c43]; decide))), (b2i_f (fun h => absurd (b2i_t h.2.2.2.1) (by rw [c43]; decide))).symm, O9⟩
        · refine jr_aload_n hE dX10_canJudge_46 0 rfl ?_
          refine jr_get hE dX10_canJudge_47 f34 W9.o6 rfl ?_
          refine jr_aload_n hE dX10_canJudge_50 2 rfl ?_
          refine jr_bipush (v := (32 : Int32)) hE dX10_canJudge_51 (by decide) ?_
          refine jr_kVi (ci := 8) (n := 2) (As := [.ref (c (270 + 2 * j)), .int (32 : Int32)]) (rest := []) hE dX10_canJudge_53 (fun l => c_X8_take l G (c (210 + 2 * 3)) (c (211 + 2 * 3)) (c (270 + 2 * j)) (c (271 + 2 * j)) (bcap j) 32 (S 3) (B j)) gX10_canJudge_X8_take rfl ((W9.sc 3 (by decide)).ob) rfl (by decide +kernel) ⟨rfl, rfl, by decide, by decide⟩ (by decide) rfl rfl (Nat.le_of_ble_eq_true rfl) (⟨(W9.sc 3 (by decide)), (by have q := W9.by j (by omega); rw [show B j = (B j) from rfl] at q; exact q), by omega, cnd W9.1 [210 + 2 * 3, 211 + 2 * 3, 270 + 2 * j, 271 + 2 * j] (by simp only [List.mem_cons, List.not_mem_nil, or_false]; omega) (by simp only [List.nodup_cons, List.mem_cons, List.not_mem_nil, or_false, not_or, List.nodup_nil, not_false_eq_true, and_true]; omega)⟩) (fun r12 F10 q11 => ?_)
          obtain ⟨h13, u13, r12e⟩ := q11
          rw [show bnum (((B j).drop 32).take 32) = (bnum ((B j).drop 32)) from by rw [dt1 (by omega)]] at h13 r12e
          subst r12e
          have hu13 := And.intro h13 u13
          obtain ⟨h14, u14⟩ := hu13
          obtain ⟨W14, P14⟩ := W9.setS (i := 3) (x := (bnum ((B j).drop 32))) (by decide) h14 u14
          have O14 := O9.tr P14
          obtain ⟨S14, eS14, hS14, yS14⟩ := uz_ab S 3 (bnum ((B j).drop 32))
          rw [eS14] at W14
          have nS14 : ∀ z, z ≠ 3 → S14 z = S z := fun z hz => hS14 z (fun e => hz (List.mem_singleton.mp e))
          refine jr_if_eq (tgt := 63) hE dX10_canJudge_56 (by decide) (fun c56 => ?_) (fun c56 => ?_)
          · refine jr_iconst (v := (0 : Int32)) hE dX10_canJudge_63 (by decide) ?_
            exact hR F10 _ _ _ dX10_canJudge_64 rfl ⟨_, _, _, W14, (fun z hz => (nS14 z (jne hz 0 rfl))), (fun z hz => (nP4 z (jne hz 0 rfl))), (fun h => absurd h (fun h => absurd (b2i_t h.2.2.2.2) (by rw [c56]; decide))), (b2i_f (fun h => absurd (b2i_t h.2.2.2.2) (by rw [c56]; decide))).symm, O14⟩
          · refine jr_iconst (v := (1 : Int32)) hE dX10_canJudge_59 (by decide) ?_
            refine jr_goto (tgt := 64) hE dX10_canJudge_60 (by decide) ?_
            exact hR F10 _ _ _ dX10_canJudge_64 rfl ⟨_, _, _, W14, (fun z hz => (nS14 z (jne hz 0 rfl))), (fun z hz => (nP4 z (jne hz 0 rfl))), (fun h => ⟨hr4 h.2.2.1, Nat.mod_eq_of_lt h.2.2.2.1, yS14⟩), (b2i_t ⟨hl, hl2, b2i_1 c31, b2i_1 c43, b2i_1 c56⟩).symm, O14⟩

theorem bex_num {l : List Nat} (h : (∀ b, b ∈ l → b < 256) ∧ l.length = 32) : bex (bnum l) 32 = l := by
  have main : ∀ (m : Nat) (l : List Nat), l.length = m → (∀ b, b ∈ l → b < 256) → bex (bnum l) m = l := by
    intro m
    induction m with
    | zero => intro l hl _; rw [List.eq_nil_of_length_eq_zero hl]; rfl
    | succ m ih =>
      intro l hl hb
      obtain ⟨d, t, rfl⟩ : ∃ d t, l = d :: t := by
        cases l with
        | nil => exact absurd hl (by simp)
        | cons d t => exact ⟨d, t, rfl⟩
      have ht : t.length = m := by simpa using hl
      have e : bnum (d :: t) = d * 256 ^ m + bnum t := by
        have q := bnum_app [d] t
        rw [ht] at q
        have q1 : bnum [d] = d := by simp [bnum]
        rw [q1] at q
        exact q
      have hlt := bnum_lt m t ht (fun b hb' => hb b (List.mem_cons_of_mem _ hb'))
      have hd := hb d List.mem_cons_self
      have e1 : bnum (d :: t) / 256 ^ m % 256 = d := by
        rw [e, Nat.add_comm, Nat.add_mul_div_right _ _ (Nat.pow_pos (by decide)), Nat.div_eq_of_lt hlt, Nat.zero_add, Nat.mod_eq_of_lt hd]
      have e2 : bex (bnum (d :: t)) m = bex (bnum t) m := by
        have q1 := ih t ht (fun b hb' => hb b (List.mem_cons_of_mem _ hb'))
        have q2 : bnum (bex (bnum (d :: t)) m) = bnum t := by
          rw [bnum_bex, e, Nat.mul_comm, Nat.mul_add_mod, Nat.mod_eq_of_lt hlt]
        have q3 := ih (bex (bnum (d :: t)) m) (bex_len _ _) (bex_lt _ _)
        rw [q2] at q3
        exact q3.symm
      show bnum (d :: t) / 256 ^ m % 256 :: bex (bnum (d :: t)) m = d :: t
      rw [e1, e2, ih t ht (fun b hb' => hb b (List.mem_cons_of_mem _ hb'))]
  exact main 32 l h.2 h.1

set_option maxHeartbeats 4000000 in
set_option maxRecDepth 100000 in
theorem c_s_judge (l : Launch) (G : Nat → ClassId) (c : Nat → Nat) (B : Nat → List Nat) (S : Nat → Nat) (P : Nat → JP) (q : SS) (v : Nat → Int32) (k i j : Nat) : jKi l yX10_judge wsX10_judge ({ frames := 6, cells := 0, slots := 0, locals := 148 }) G [.ref (c 6), .ref (c (270 + 2 * k)), .ref (c (270 + 2 * i)), .ref (c (270 + 2 * j))] (fun L F => CW G L F c B S P q (bnum ((B j).take 32)) v ∧ k < 16 ∧ i < 16 ∧ j < 16 ∧ (B k).length = 32 ∧ (B j).length = 64 ∧ (B i).length ≤ 100 ∧ isX (bnum (B k)) ∧ rep (P 18) (lfE (bnum (B k))) ∧ bnum ((B j).take 32) < PP ∧ S 3 = bnum ((B j).drop 32) ∧ bnum ((B j).drop 32) < NN ∧ rep (P 16) GE) (fun L F r F1 => ∃ B' S' P' q', CW G L F1 c B' S' P' q' (bnum ((B j).take 32)) v ∧ (∀ i, i ∉ [17, 19] → B' i = B i) ∧ (∀ i, i ∉ [2] → S' i = S i) ∧ (∀ i, i ∉ [17, 18] → P' i = P i) ∧ r = b2i (hoP (bnum (B k)) (bnum ((B j).take 32)) (bnum ((B j).drop 32)) (B i)) ∧ cO c F F1) := by
  refine jm_ki (cc := cX10_judge) (maxL := 4) (rt := .boolean) (by decide) rfl (Nat.le_of_ble_eq_true rfl) ?_
  intro E L F hE hR hpre
  have hE : jOk E G _ cX10_judge 4 RX10 wsX10_judge := hE
  obtain ⟨W0, hk, hi, hj, hlk, hlj, hli, hKx, hKr, hr1, h3, ht3, hG⟩ := hpre
  have hKon := (rep_ev hKx).onE
  have hb1 : (∀ b, b ∈ (B j).take 32 → b < 256) ∧ ((B j).take 32).length = 32 := ⟨take_lt (W0.bB j (by omega)) 32, by rw [List.length_take]; omega⟩
  have hb2 : (∀ b, b ∈ B k → b < 256) ∧ (B k).length = 32 := ⟨W0.bB k (by omega), hlk⟩
  have chlt : (chS (bnum ((B j).take 32)) (bnum (B k)) (B i)) < NN := Nat.mod_lt _ NN0
  have f31 : jFl RX10 wsX10_judge 31 10 6 := ⟨rfl, by decide, by decide +kernel, by decide +kernel⟩
  have f64 : jFl RX10 wsX10_judge 64 10 0 := ⟨rfl, by decide, by decide +kernel, by decide +kernel⟩
  have f43 : jFl RX10 wsX10_judge 43 10 9 := ⟨rfl, by decide, by decide +kernel, by decide +kernel⟩
  have f80 : jFl RX10 wsX10_judge 80 2 0 := ⟨rfl, by decide, by decide +kernel, by decide +kernel⟩
  have f34 : jFl RX10 wsX10_judge 34 10 7 := ⟨rfl, by decide, by decide +kernel, by decide +kernel⟩
  have f47 : jFl RX10 wsX10_judge 47 10 10 := ⟨rfl, by decide, by decide +kernel, by decide +kernel⟩
  have f161 : jFl RX10 wsX10_judge 161 6 3 := ⟨rfl, by decide, by decide +kernel, by decide +kernel⟩
  have f134 : jFl RX10 wsX10_judge 134 6 1 := ⟨rfl, by decide, by decide +kernel, by decide +kernel⟩
  have f140 : jFl RX10 wsX10_judge 140 6 0 := ⟨rfl, by decide, by decide +kernel, by decide +kernel⟩
  have f53 : jFl RX10 wsX10_judge 53 10 11 := ⟨rfl, by decide, by decide +kernel, by decide +kernel⟩
  refine jr_aload_n hE dX10_judge_0 0 rfl ?_
  refine jr_aload_n hE dX10_judge_1 0 rfl ?_
  refine jr_get hE dX10_judge_2 f31 W0.o6 rfl ?_
  refine jr_aload_n hE dX10_judge_5 3 rfl ?_
  refine jr_aload_n hE dX10_judge_6 1 rfl ?_
  refine jr_iconst (v := (0 : Int32)) hE dX10_judge_7 (by decide) ?_
  refine jr_aload_n hE dX10_judge_8 2 rfl ?_
  refine jr_kVv (ci := 10) (n := 5) (As := [.ref (c (210 + 2 * 2)), .ref (c (270 + 2 * j)), .ref (c (270 + 2 * k)), .int (0 : Int32), .ref (c (270 + 2 * i))]) (rest := []) hE dX10_judge_9 (fun l => c_s_challenge l G c B S P q (bnum ((B j).take 32)) v 2 j k 0 i) gX10_judge_X10_challenge rfl W0.o6 rfl (by decide +kernel) ⟨rfl, rfl, by decide, by decide⟩ (by decide) rfl rfl (Nat.le_of_ble_eq_true rfl) (⟨W0, by decide, by omega, by omega, by omega, by omega, by omega, by omega, by omega, by omega, by omega, (by rw [show B j = B j from rfl]; omega), (by rw [show B k = B k from rfl]; omega), (by rw [show B i = B i from rfl]; exact hli)⟩) (fun F1 q2 => ?_)
  obtain ⟨B3, S3, q3, W3, hB3, hS3, f3_0, P3⟩ := q2
  have O3 := (cO.rf c F).tr P3
  refine jr_aload_n hE dX10_judge_12 0 rfl ?_
  refine jr_get hE dX10_judge_13 f31 W3.o6 rfl ?_
  refine jr_kVv (ci := 8) (n := 0) (As := []) (rest := []) hE dX10_judge_16 (fun l => c_X8_negate l G (c (210 + 2 * 2)) (c (211 + 2 * 2)) (chS (bnum ((B j).take 32)) (bnum (B k)) (B i))) gX10_judge_X8_negate rfl ((W3.sc 2 (by decide)).ob) rfl (by decide +kernel) ⟨rfl, rfl, by decide, by decide⟩ (by decide) rfl rfl (Nat.le_of_ble_eq_true rfl) (⟨(by have q := W3.sc 2 (by decide); rw [show S3 2 = (chS (bnum ((B j).take 32)) (bnum (B k)) (B i)) from (by have q := f3_0; rw [show B j = B j from rfl, show B k = B k from rfl, show B i = B i from rfl, List.drop_zero, List.drop_zero, List.take_of_length_le (l := B k) (by omega), ← bex_num hb1, ← bex_num hb2] at q; exact q.trans rfl)] at q; exact q), chlt⟩) (fun F4 q5 => ?_)
  rw [ngN_if] at q5
  obtain ⟨h6, u6⟩ := q5
  obtain ⟨W6, P6⟩ := W3.setS (i := 2) (x := (ngN true (chS (bnum ((B j).take 32)) (bnum (B k)) (B i)))) (by decide) h6 u6
  have O6 := O3.tr P6
  obtain ⟨S6, eS6, hS6, yS6⟩ := uz_ab S3 2 (ngN true (chS (bnum ((B j).take 32)) (bnum (B k)) (B i)))
  rw [eS6] at W6
  have nS6 : ∀ z, z ≠ 2 → S6 z = S3 z := fun z hz => hS6 z (fun e => hz (List.mem_singleton.mp e))
  refine jr_aload_n hE dX10_judge_19 0 rfl ?_
  refine jr_get hE dX10_judge_20 f64 W6.o6 rfl ?_
  refine jr_aload_n hE dX10_judge_23 0 rfl ?_
  refine jr_get hE dX10_judge_24 f43 W6.o6 rfl ?_
  refine jr_aload_n hE dX10_judge_27 0 rfl ?_
  refine jr_get hE dX10_judge_28 f64 W6.o6 rfl ?_
  refine jr_get hE dX10_judge_31 f80 W6.cv rfl ?_
  refine jr_aload_n hE dX10_judge_34 0 rfl ?_
  refine jr_get hE dX10_judge_35 f34 W6.o6 rfl ?_
  have hS7 : S6 3 = (bnum ((B j).drop 32)) := ((nS6 3 (by decide)).trans (hS3 3 (by decide))).trans h3
  obtain ⟨f8, jm8, gm8⟩ := W6.cu.2.2.2.1
  have hk8 : S6 3 < 2 ^ 256 := by rw [show S6 3 = (bnum ((B j).drop 32)) from hS7]; exact Nat.lt_trans ht3 NN_256
  refine jr_kVv (ci := 2) (n := 3) (As := [.ref (c (40 + 4 * 17)), .ref (c (40 + 4 * 16)), .ref (c (210 + 2 * 3))]) (rest := []) hE dX10_judge_38 (fun l => c_X2_times l G (c 9) (c (40 + 4 * 16)) (c 11) (c 10) (c 12) (c 13) (c 14) (c 15) (c 16) (c 17) (c (40 + 4 * 17)) (c (41 + 4 * 17)) (c (42 + 4 * 17)) (c (43 + 4 * 17)) (c (40 + 4 * 16)) (c (41 + 4 * 16)) (c (42 + 4 * 16)) (c (43 + 4 * 16)) (c (210 + 2 * 3)) (c (211 + 2 * 3)) (S6 3) f8 (fun i k => c (ck i k)) (P 17) (P 16)) gX10_judge_X2_times rfl W6.cv rfl (by decide +kernel) ⟨rfl, rfl, by decide, by decide⟩ (by decide) rfl rfl (Nat.le_of_ble_eq_true rfl) (W6.timesPre jm8 gm8 17 16 3 (by decide) (by decide) (by decide) (by decide) (by decide) hk8) (fun F9 q10 => ?_)
  obtain ⟨W11, P11⟩ := W6.timesP gm8 (i := 17) (by decide) (by decide) q10
  have O11 := O6.tr P11
  obtain ⟨P11, eP11, hP11, yP11⟩ := uz_ab P 17 (tmJ (P 17) (P 16) (S6 3))
  rw [eP11] at W11
  have nP11 : ∀ z, z ≠ 17 → P11 z = P z := fun z hz => hP11 z (fun e => hz (List.mem_singleton.mp e))
  have hr11 : rep (P11 17) (emul PP (bnum ((B j).drop 32)) GE) := by rw [yP11]; exact (by have q := rep_tm (O := P 17) hG hk8; rw [show S6 3 = (bnum ((B j).drop 32)) from hS7] at q ⊢; exact q)
  refine jr_aload_n hE dX10_judge_41 0 rfl ?_
  refine jr_get hE dX10_judge_42 f64 W11.o6 rfl ?_
  refine jr_aload_n hE dX10_judge_45 0 rfl ?_
  refine jr_get hE dX10_judge_46 f47 W11.o6 rfl ?_
  refine jr_aload_n hE dX10_judge_49 0 rfl ?_
  refine jr_get hE dX10_judge_50 f47 W11.o6 rfl ?_
  refine jr_aload_n hE dX10_judge_53 0 rfl ?_
  refine jr_get hE dX10_judge_54 f31 W11.o6 rfl ?_
  have hp12 : rep (P11 18) (lfE (bnum (B k))) := by rw [show P11 18 = P 18 from (nP11 18 (by decide))]; exact hKr
  obtain ⟨f13, jm13, gm13⟩ := W11.cu.2.2.2.1
  have hk13 : S6 2 < 2 ^ 256 := by rw [show S6 2 = (ngN true (chS (bnum ((B j).take 32)) (bnum (B k)) (B i))) from yS6]; exact Nat.lt_trans (ngN_lt chlt) NN_256
  refine jr_kVv (ci := 2) (n := 3) (As := [.ref (c (40 + 4 * 18)), .ref (c (40 + 4 * 18)), .ref (c (210 + 2 * 2))]) (rest := []) hE dX10_judge_57 (fun l => c_X2_times l G (c 9) (c (40 + 4 * 16)) (c 11) (c 10) (c 12) (c 13) (c 14) (c 15) (c 16) (c 17) (c (40 + 4 * 18)) (c (41 + 4 * 18)) (c (42 + 4 * 18)) (c (43 + 4 * 18)) (c (40 + 4 * 18)) (c (41 + 4 * 18)) (c (42 + 4 * 18)) (c (43 + 4 * 18)) (c (210 + 2 * 2)) (c (211 + 2 * 2)) (S6 2) f13 (fun i k => c (ck i k)) (P11 18) (P11 18)) gX10_judge_X2_times rfl W11.cv rfl (by decide +kernel) ⟨rfl, rfl, by decide, by decide⟩ (by decide) rfl rfl (Nat.le_of_ble_eq_true rfl) (W11.timesPre jm13 gm13 18 18 2 (by decide) (by decide) (by decide) (by decide) (by decide) hk13) (fun F14 q15 => ?_)
  obtain ⟨W16, P16⟩ := W11.timesP gm13 (i := 18) (by decide) (by decide) q15
  have O16 := O11.tr P16
  obtain ⟨P16, eP16, hP16, yP16⟩ := uz_ab P11 18 (tmJ (P11 18) (P11 18) (S6 2))
  rw [eP16] at W16
  have nP16 : ∀ z, z ≠ 18 → P16 z = P11 z := fun z hz => hP16 z (fun e => hz (List.mem_singleton.mp e))
  have hr16 : rep (P16 18) (emul PP (ngN true (chS (bnum ((B j).take 32)) (bnum (B k)) (B i))) (lfE (bnum (B k)))) := by rw [yP16]; exact (by have q := rep_tm (O := P11 18) hp12 hk13; rw [show S6 2 = (ngN true (chS (bnum ((B j).take 32)) (bnum (B k)) (B i))) from yS6] at q ⊢; exact q)
  refine jr_aload_n hE dX10_judge_60 0 rfl ?_
  refine jr_get hE dX10_judge_61 f64 W16.o6 rfl ?_
  refine jr_aload_n hE dX10_judge_64 0 rfl ?_
  refine jr_get hE dX10_judge_65 f43 W16.o6 rfl ?_
  refine jr_aload_n hE dX10_judge_68 0 rfl ?_
  refine jr_get hE dX10_judge_69 f47 W16.o6 rfl ?_
  have hp17 : rep (P16 17) (emul PP (bnum ((B j).drop 32)) GE) := by rw [show P16 17 = P11 17 from (nP16 17 (by decide))]; exact hr11
  refine jr_kVv (ci := 2) (n := 2) (As := [.ref (c (40 + 4 * 17)), .ref (c (40 + 4 * 18))]) (rest := []) hE dX10_judge_72 (fun l => c_X2_plus l G (c 9) (c (40 + 4 * 16)) (c 11) (c 10) (c 12) (c 13) (c 14) (c 15) (c 16) (c 17) (c (40 + 4 * 17)) (c (41 + 4 * 17)) (c (42 + 4 * 17)) (c (43 + 4 * 17)) (c (40 + 4 * 18)) (c (41 + 4 * 18)) (c (42 + 4 * 18)) (c (43 + 4 * 18)) (P16 17) (P16 18)) gX10_judge_X2_plus rfl W16.cv rfl (by decide +kernel) ⟨rfl, rfl, by decide, by decide⟩ (by decide) rfl rfl (Nat.le_of_ble_eq_true rfl) (W16.plusPre 17 18 (by decide) (by decide) (by decide) (by decide) (by decide)) (fun F18 q19 => ?_)
  obtain ⟨g20, h20, u20⟩ := q19
  obtain ⟨W20, P20⟩ := W16.plus (i := 17) (by decide) (by decide) g20 h20 u20
  have O20 := O16.tr P20
  obtain ⟨P20, eP20, hP20, yP20⟩ := uz_ab P16 17 (plJ (P16 17) (P16 18))
  rw [eP20] at W20
  have nP20 : ∀ z, z ≠ 17 → P20 z = P16 z := fun z hz => hP20 z (fun e => hz (List.mem_singleton.mp e))
  have hr20 : rep (P20 17) (eadd PP (emul PP (bnum ((B j).drop 32)) GE) (emul PP (ngN true (chS (bnum ((B j).take 32)) (bnum (B k)) (B i))) (lfE (bnum (B k))))) := by rw [yP20]; exact rep_pl hp17 hr16
  refine jr_aload_n hE dX10_judge_75 0 rfl ?_
  refine jr_get hE dX10_judge_76 f64 W20.o6 rfl ?_
  refine jr_aload_n hE dX10_judge_79 0 rfl ?_
  refine jr_get hE dX10_judge_80 f43 W20.o6 rfl ?_
  refine jr_kVv (ci := 2) (n := 1) (As := [.ref (c (40 + 4 * 17))]) (rest := []) hE dX10_judge_83 (fun l => c_X2_settle l G (c 9) (c (40 + 4 * 16)) (c 11) (c 10) (c 12) (c 13) (c 14) (c 15) (c 16) (c 17) (c 18) (c 19) (c 20) (c 21) (c 22) (c 23) (c (40 + 4 * 17)) (c (41 + 4 * 17)) (c (42 + 4 * 17)) (c (43 + 4 * 17)) (P20 17)) gX10_judge_X2_settle rfl W20.cv rfl (by decide +kernel) ⟨rfl, rfl, by decide, by decide⟩ (by decide) rfl rfl (Nat.le_of_ble_eq_true rfl) (W20.settlePre 17 (by decide) (by decide)) (fun F21 q22 => ?_)
  obtain ⟨g23, gp23, go23, h23, u23⟩ := q22
  obtain ⟨W23, P23⟩ := W20.settle (i := 17) (by decide) (by decide) g23 gp23 go23 h23 u23
  have O23 := O20.tr P23
  obtain ⟨P23, eP23, hP23, yP23⟩ := uz_ab P20 17 (stJ (P20 17))
  rw [eP23] at W23
  have nP23 : ∀ z, z ≠ 17 → P23 z = P20 z := fun z hz => hP23 z (fun e => hz (List.mem_singleton.mp e))
  have hr23 : stl (P23 17) (eadd PP (emul PP (bnum ((B j).drop 32)) GE) (emul PP (ngN true (chS (bnum ((B j).take 32)) (bnum (B k)) (B i))) (lfE (bnum (B k))))) := by rw [yP23]; exact rep_stl hr20
  obtain ⟨RR, eRR⟩ : ∃ Y : EP, Y = (eadd PP (emul PP (bnum ((B j).drop 32)) GE) (emul PP (ngN true (chS (bnum ((B j).take 32)) (bnum (B k)) (B i))) (lfE (bnum (B k))))) := ⟨_, rfl⟩
  have hR24 : stl (P23 17) RR := by rw [eRR]; exact hr23
  have hRR : hoR (bnum (B k)) (bnum ((B j).take 32)) (bnum ((B j).drop 32)) (B i) = RR := by rw [eRR]; unfold hoR; rw [emul_ng hKon chlt, eadd_c (onE_mul gdP (onE_neg gdP hKon) _) (onE_mul gdP onG _)]
  refine jr_aload_n hE dX10_judge_86 0 rfl ?_
  refine jr_get hE dX10_judge_87 f43 W23.o6 rfl ?_
  refine jr_get hE dX10_judge_90 f161 (W23.pt 17 (by decide) (by decide)).1 rfl ?_
  rw [hR24.rep.no]
  refine jr_if_ne (tgt := 130) hE dX10_judge_93 (by decide) (fun c93 => ?_) (fun c93 => ?_)
  · refine jr_iconst (v := (0 : Int32)) hE dX10_judge_130 (by decide) ?_
    exact hR F21 _ _ _ dX10_judge_131 rfl ⟨_, _, _, _, W23, (fun z hz => (hB3 z (jnsub (V := [17, 19]) hz [0, 1] rfl))), (fun z hz => ((nS6 z (jne hz 0 rfl)).trans (hS3 z (jnsub (V := [2]) hz [0] rfl)))), (fun z hz => ((nP23 z (jne hz 0 rfl)).trans ((nP20 z (jne hz 0 rfl)).trans ((nP16 z (jne hz 1 rfl)).trans (nP11 z (jne hz 0 rfl)))))), (b2i_f (fun h => h.1 (hRR.trans (b2i_1 c93)))).symm, O23⟩
  · have hR0 : RR ≠ none := b2i_0 c93
    refine jr_aload_n hE dX10_judge_96 0 rfl ?_
    refine jr_get hE dX10_judge_97 f43 W23.o6 rfl ?_
    refine jr_get hE dX10_judge_100 f134 (W23.pt 17 (by decide) (by decide)).1 rfl ?_
    obtain ⟨hx25, hy25, hz25⟩ := hR24.xy hR0
    have hX25 : (P23 17).2.1 = exE RR := by rw [hx25]
    have hY25 : (P23 17).2.2.1 = eyN RR := by rw [hx25]
    refine jr_kVi (ci := 1) (n := 0) (As := []) (rest := []) hE dX10_judge_103 (fun l => c_X1_isOdd l G (c (42 + 4 * 17)) (P23 17).2.2.1) gX10_judge_X1_isOdd rfl ((W23.pt 17 (by decide) (by decide)).2.2.1.cell.choose_spec) rfl (by decide +kernel) ⟨rfl, rfl, by decide, by decide⟩ (by decide) rfl rfl (Nat.le_of_ble_eq_true rfl) ((W23.pt 17 (by decide) (by decide)).2.2.1) (fun r28 F26 q27 => ?_)
    obtain ⟨h29, u29, r28e⟩ := q27
    rw [hY25] at r28e
    subst r28e
    obtain ⟨W29, P29⟩ := W23.oddP (i := 17) (by decide) (by decide) (by rw [hY25]; exact hz25) h29 u29
    have O29 := O23.tr P29
    refine jr_if_ne (tgt := 130) hE dX10_judge_106 (by decide) (fun c106 => ?_) (fun c106 => ?_)
    · refine jr_iconst (v := (0 : Int32)) hE dX10_judge_130 (by decide) ?_
      exact hR F26 _ _ _ dX10_judge_131 rfl ⟨_, _, _, _, W29, (fun z hz => (hB3 z (jnsub (V := [17, 19]) hz [0, 1] rfl))), (fun z hz => ((nS6 z (jne hz 0 rfl)).trans (hS3 z (jnsub (V := [2]) hz [0] rfl)))), (fun z hz => ((nP23 z (jne hz 0 rfl)).trans ((nP20 z (jne hz 0 rfl)).trans ((nP16 z (jne hz 1 rfl)).trans (nP11 z (jne hz 0 rfl)))))), (b2i_f (fun h => absurd (odd_t (b2i_1 c106)) (by have q := h.2.1; rw [hRR] at q; rw [q]; decide))).symm, O29⟩
    · refine jr_aload_n hE dX10_judge_109 0 rfl ?_
      refine jr_get hE dX10_judge_110 f43 W29.o6 rfl ?_
      refine jr_get hE dX10_judge_113 f140 (W29.pt 17 (by decide) (by decide)).1 rfl ?_
      refine jr_aload_n hE dX10_judge_116 0 rfl ?_
      refine jr_get hE dX10_judge_117 f53 W29.o6 rfl ?_
      obtain ⟨hx30, hy30, hz30⟩ := hR24.xy hR0
      have hX30 : (P23 17).2.1 = exE RR := by rw [hx30]
      have hY30 : (P23 17).2.2.1 = eyN RR := by rw [hx30]
      refine jr_kVi (ci := 1) (n := 1) (As := [.ref (c 24)]) (rest := []) hE dX10_judge_120 (fun l => c_X1_isLike l G (c (41 + 4 * 17)) (c 24) (P23 17).2.1 (bnum ((B j).take 32))) gX10_judge_X1_isLike rfl ((W29.pt 17 (by decide) (by decide)).2.1.cell.choose_spec) rfl (by decide +kernel) ⟨rfl, rfl, by decide, by decide⟩ (by decide) rfl rfl (Nat.le_of_ble_eq_true rfl) (⟨(W29.pt 17 (by decide) (by decide)).2.1, W29.xx, cnd W29.1 [41 + 4 * 17, 24] (by decide) (by decide)⟩) (fun r33 F31 q32 => ?_)
      obtain ⟨h34, g34, u34, r33e⟩ := q32
      rw [hX30] at r33e
      subst r33e
      obtain ⟨W34, P34⟩ := W29.xlikeP (i := 17) (by decide) (by decide) (by rw [hX30]; exact hy30) hr1 h34 g34 u34
      have O34 := O29.tr P34
      refine jr_if_eq (tgt := 130) hE dX10_judge_123 (by decide) (fun c123 => ?_) (fun c123 => ?_)
      · refine jr_iconst (v := (0 : Int32)) hE dX10_judge_130 (by decide) ?_
        exact hR F31 _ _ _ dX10_judge_131 rfl ⟨_, _, _, _, W34, (fun z hz => (hB3 z (jnsub (V := [17, 19]) hz [0, 1] rfl))), (fun z hz => ((nS6 z (jne hz 0 rfl)).trans (hS3 z (jnsub (V := [2]) hz [0] rfl)))), (fun z hz => ((nP23 z (jne hz 0 rfl)).trans ((nP20 z (jne hz 0 rfl)).trans ((nP16 z (jne hz 1 rfl)).trans (nP11 z (jne hz 0 rfl)))))), (b2i_f (fun h => b2i_0 c123 (by have q := h.2.2; rw [hRR] at q; exact q))).symm, O34⟩
      · refine jr_iconst (v := (1 : Int32)) hE dX10_judge_126 (by decide) ?_
        refine jr_goto (tgt := 131) hE dX10_judge_127 (by decide) ?_
        exact hR F31 _ _ _ dX10_judge_131 rfl ⟨_, _, _, _, W34, (fun z hz => (hB3 z (jnsub (V := [17, 19]) hz [0, 1] rfl))), (fun z hz => ((nS6 z (jne hz 0 rfl)).trans (hS3 z (jnsub (V := [2]) hz [0] rfl)))), (fun z hz => ((nP23 z (jne hz 0 rfl)).trans ((nP20 z (jne hz 0 rfl)).trans ((nP16 z (jne hz 1 rfl)).trans (nP11 z (jne hz 0 rfl)))))), (b2i_t ⟨by rw [hRR]; exact hR0, by rw [hRR]; exact odd_f (b2i_0 c106), by rw [hRR]; exact b2i_1 c123⟩).symm, O34⟩

