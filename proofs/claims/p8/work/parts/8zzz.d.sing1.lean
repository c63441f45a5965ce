/-! Single: takeSecret, findOwn, challenge -/
theorem ngN_if (x : Nat) : (if x = 0 then 0 else NN - x) = ngN true x := by
  unfold ngN
  by_cases h : x = 0
  · rw [if_pos h, if_neg (fun e => e.2 h), h]
  · rw [if_neg h, if_pos ⟨rfl, h⟩]
theorem dt0 {l : List Nat} {n : Nat} (h : l.length = n) : (l.drop 0).take n = l := by
  rw [List.drop_zero, List.take_of_length_le (by omega)]

set_option maxHeartbeats 4000000 in
set_option maxRecDepth 100000 in
theorem c_s_takeSecret (l : Launch) (G : Nat → ClassId) (c : Nat → Nat) (B : Nat → List Nat) (S : Nat → Nat) (P : Nat → JP) (q : SS) (X : Nat) (v : Nat → Int32) (k : Nat) : jKi l yX10_takeSecret wsX10_takeSecret ({ frames := 3, cells := 0, slots := 0, locals := 69 }) G [.ref (c 6), .ref (c (270 + 2 * k))] (fun L F => CW G L F c B S P q X v ∧ k < 17) (fun L F r F1 => ∃ S', CW G L F1 c B S' P q X v ∧ (∀ i, i ∉ [0] → S' i = S i) ∧ ((B k).length = 32 → S' 0 = bnum (B k)) ∧ r = b2i (secOK (B k)) ∧ cO c F F1) := by
  refine jm_ki (cc := cX10_takeSecret) (maxL := 2) (rt := .boolean) (by decide) rfl (Nat.le_of_ble_eq_true rfl) ?_
  intro E L F hE hR hpre
  have hE : jOk E G _ cX10_takeSecret 2 RX10 wsX10_takeSecret := hE
  obtain ⟨W0, hk⟩ := hpre
  have hcp := W0.cp k (by omega)
  have hbc : bcap k ≤ 100 := (W0.by k (by omega)).cap.2
  have f68 : jFl RX10 wsX10_takeSecret 68 0 1 := ⟨rfl, by decide, by decide +kernel, by decide +kernel⟩
  have f10 : jFl RX10 wsX10_takeSecret 10 10 1 := ⟨rfl, by decide, by decide +kernel, by decide +kernel⟩
  refine jr_aload_n hE dX10_takeSecret_0 1 rfl ?_
  refine jr_get hE dX10_takeSecret_1 f68 (W0.by k (by omega)).ob rfl ?_
  rw [show B k = (B k) from rfl]
  refine jr_bipush (v := (32 : Int32)) hE dX10_takeSecret_4 (by decide) ?_
  refine jr_icmp_ne (tgt := 35) hE dX10_takeSecret_6 (by decide) (fun c6 => ?_) (fun c6 => ?_)
  · refine jr_iconst (v := (0 : Int32)) hE dX10_takeSecret_35 (by decide) ?_
    exact hR F _ _ _ dX10_takeSecret_36 rfl ⟨_, W0, (fun z hz => rfl), (fun h => absurd ((nI_eq (by omega) (by decide)).mpr h) c6), (b2i_f (fun h => c6 ((nI_eq (by omega) (by decide)).mpr h.1))).symm, (cO.rf c F)⟩
  · have hl : (B k).length = 32 := (nI_eq (by omega) (by decide)).mp c6
    refine jr_aload_n hE dX10_takeSecret_9 0 rfl ?_
    refine jr_get hE dX10_takeSecret_10 f10 W0.o6 rfl ?_
    refine jr_aload_n hE dX10_takeSecret_13 1 rfl ?_
    refine jr_iconst (v := (0 : Int32)) hE dX10_takeSecret_14 (by decide) ?_
    refine jr_kVi (ci := 8) (n := 2) (As := [.ref (c (270 + 2 * k)), .int (0 : Int32)]) (rest := []) hE dX10_takeSecret_15 (fun l => c_X8_take l G (c (210 + 2 * 0)) (c (211 + 2 * 0)) (c (270 + 2 * k)) (c (271 + 2 * k)) (bcap k) 0 (S 0) (B k)) gX10_takeSecret_X8_take rfl ((W0.sc 0 (by decide)).ob) rfl (by decide +kernel) ⟨rfl, rfl, by decide, by decide⟩ (by decide) rfl rfl (Nat.le_of_ble_eq_true rfl) (⟨(W0.sc 0 (by decide)), (by have q := W0.by k (by omega); rw [show B k = (B k) from rfl] at q; exact q), by omega, cnd W0.1 [210 + 2 * 0, 211 + 2 * 0, 270 + 2 * k, 271 + 2 * k] (by simp only [List.mem_cons, List.not_mem_nil, or_false]; omega) (by simp only [List.nodup_cons, List.mem_cons, List.not_mem_nil, or_false, not_or, List.nodup_nil, not_false_eq_true, and_true]; omega)⟩) (fun r3 F1 q2 => ?_)
    obtain ⟨h4, u4, r3e⟩ := q2
    rw [show bnum (((B k).drop 0).take 32) = (bnum (B k)) from by rw [dt0 hl]] at h4 r3e
    subst r3e
    have hu4 := And.intro h4 u4
    obtain ⟨h5, u5⟩ := hu4
    obtain ⟨W5, P5⟩ := W0.setS (i := 0) (x := (bnum (B k))) (by decide) h5 u5
    have O5 := (cO.rf c F).tr P5
    obtain ⟨S5, eS5, hS5, yS5⟩ := uz_ab S 0 (bnum (B k))
    rw [eS5] at W5
    have nS5 : ∀ z, z ≠ 0 → S5 z = S z := fun z hz => hS5 z (fun e => hz (List.mem_singleton.mp e))
    refine jr_if_eq (tgt := 35) hE dX10_takeSecret_18 (by decide) (fun c18 => ?_) (fun c18 => ?_)
    · refine jr_iconst (v := (0 : Int32)) hE dX10_takeSecret_35 (by decide) ?_
      exact hR F1 _ _ _ dX10_takeSecret_36 rfl ⟨_, W5, (fun z hz => (nS5 z (jne hz 0 rfl))), (fun _ => yS5), (b2i_f (fun h => absurd (b2i_t h.2.2) (by rw [c18]; decide))).symm, O5⟩
    · refine jr_aload_n hE dX10_takeSecret_21 0 rfl ?_
      refine jr_get hE dX10_takeSecret_22 f10 W5.o6 rfl ?_
      refine jr_kVi (ci := 8) (n := 0) (As := []) (rest := []) hE dX10_takeSecret_25 (fun l => c_X8_isZero l G (c (210 + 2 * 0)) (c (211 + 2 * 0)) (bnum (B k))) gX10_takeSecret_X8_isZero rfl ((W5.sc 0 (by decide)).ob) rfl (by decide +kernel) ⟨rfl, rfl, by decide, by decide⟩ (by decide) rfl rfl (Nat.le_of_ble_eq_true rfl) ((by have q := W5.sc 0 (by decide); rw [show S5 0 = (bnum (B k)) from yS5] at q; exact q)) (fun r8 F6 q7 => ?_)
      obtain ⟨eq7, rq7⟩ := q7
      subst eq7 rq7
      refine jr_if_ne (tgt := 35) hE dX10_takeSecret_28 (by decide) (fun c28 => ?_) (fun c28 => ?_)
      · refine jr_iconst (v := (0 : Int32)) hE dX10_takeSecret_35 (by decide) ?_
        exact hR F1 _ _ _ dX10_takeSecret_36 rfl ⟨_, W5, (fun z hz => (nS5 z (jne hz 0 rfl))), (fun _ => yS5), (b2i_f (fun h => h.2.1 (b2i_1 c28))).symm, O5⟩
      · refine jr_iconst (v := (1 : Int32)) hE dX10_takeSecret_31 (by decide) ?_
        refine jr_goto (tgt := 36) hE dX10_takeSecret_32 (by decide) ?_
        exact hR F1 _ _ _ dX10_takeSecret_36 rfl ⟨_, W5, (fun z hz => (nS5 z (jne hz 0 rfl))), (fun _ => yS5), (b2i_t ⟨hl, b2i_0 c28, b2i_1 c18⟩).symm, O5⟩

set_option maxHeartbeats 4000000 in
set_option maxRecDepth 100000 in
theorem c_s_findOwn (l : Launch) (G : Nat → ClassId) (c : Nat → Nat) (B : Nat → List Nat) (S : Nat → Nat) (P : Nat → JP) (q : SS) (X : Nat) (v : Nat → Int32) : jKv l yX10_findOwn wsX10_findOwn ({ frames := 5, cells := 0, slots := 0, locals := 148 }) G [.ref (c 6)] (fun L F => CW G L F c B S P q X v ∧ rep (P 16) GE ∧ S 0 < NN) (fun L F F1 => ∃ B' P', CW G L F1 c B' S P' q X v ∧ (∀ i, i ∉ [18] → B' i = B i) ∧ (∀ i, i ∉ [17] → P' i = P i) ∧ B' 18 = pbE (emul PP (S 0) GE) ∧ cO c F F1) := by
  refine jm_kv (cc := cX10_findOwn) (maxL := 1) (by decide) rfl (Nat.le_of_ble_eq_true rfl) ?_
  intro E L F hE hR hpre
  have hE : jOk E G _ cX10_findOwn 1 RX10 wsX10_findOwn := hE
  obtain ⟨W0, hG, hd⟩ := hpre
  have f64 : jFl RX10 wsX10_findOwn 64 10 0 := ⟨rfl, by decide, by decide +kernel, by decide +kernel⟩
  have f43 : jFl RX10 wsX10_findOwn 43 10 9 := ⟨rfl, by decide, by decide +kernel, by decide +kernel⟩
  have f80 : jFl RX10 wsX10_findOwn 80 2 0 := ⟨rfl, by decide, by decide +kernel, by decide +kernel⟩
  have f10 : jFl RX10 wsX10_findOwn 10 10 1 := ⟨rfl, by decide, by decide +kernel, by decide +kernel⟩
  have f21 : jFl RX10 wsX10_findOwn 21 10 2 := ⟨rfl, by decide, by decide +kernel, by decide +kernel⟩
  refine jr_aload_n hE dX10_findOwn_0 0 rfl ?_
  refine jr_get hE dX10_findOwn_1 f64 W0.o6 rfl ?_
  refine jr_aload_n hE dX10_findOwn_4 0 rfl ?_
  refine jr_get hE dX10_findOwn_5 f43 W0.o6 rfl ?_
  refine jr_aload_n hE dX10_findOwn_8 0 rfl ?_
  refine jr_get hE dX10_findOwn_9 f64 W0.o6 rfl ?_
  refine jr_get hE dX10_findOwn_12 f80 W0.cv rfl ?_
  refine jr_aload_n hE dX10_findOwn_15 0 rfl ?_
  refine jr_get hE dX10_findOwn_16 f10 W0.o6 rfl ?_
  obtain ⟨f1, jm1, gm1⟩ := W0.cu.2.2.2.1
  have hk1 : S 0 < 2 ^ 256 := by rw [show S 0 = (S 0) from rfl]; exact Nat.lt_trans hd NN_256
  refine jr_kVv (ci := 2) (n := 3) (As := [.ref (c (40 + 4 * 17)), .ref (c (40 + 4 * 16)), .ref (c (210 + 2 * 0))]) (rest := []) hE dX10_findOwn_19 (fun l => c_X2_times l G (c 9) (c (40 + 4 * 16)) (c 11) (c 10) (c 12) (c 13) (c 14) (c 15) (c 16) (c 17) (c (40 + 4 * 17)) (c (41 + 4 * 17)) (c (42 + 4 * 17)) (c (43 + 4 * 17)) (c (40 + 4 * 16)) (c (41 + 4 * 16)) (c (42 + 4 * 16)) (c (43 + 4 * 16)) (c (210 + 2 * 0)) (c (211 + 2 * 0)) (S 0) f1 (fun i k => c (ck i k)) (P 17) (P 16)) gX10_findOwn_X2_times rfl W0.cv rfl (by decide +kernel) ⟨rfl, rfl, by decide, by decide⟩ (by decide) rfl rfl (Nat.le_of_ble_eq_true rfl) (W0.timesPre jm1 gm1 17 16 0 (by decide) (by decide) (by decide) (by decide) (by decide) hk1) (fun F2 q3 => ?_)
  obtain ⟨W4, P4⟩ := W0.timesP gm1 (i := 17) (by decide) (by decide) q3
  have O4 := (cO.rf c F).tr P4
  obtain ⟨P4, eP4, hP4, yP4⟩ := uz_ab P 17 (tmJ (P 17) (P 16) (S 0))
  rw [eP4] at W4
  have nP4 : ∀ z, z ≠ 17 → P4 z = P z := fun z hz => hP4 z (fun e => hz (List.mem_singleton.mp e))
  have hr4 : rep (P4 17) (emul PP (S 0) GE) := by rw [yP4]; exact (by have q := rep_tm (O := P 17) hG hk1; rw [show S 0 = (S 0) from rfl] at q ⊢; exact q)
  refine jr_aload_n hE dX10_findOwn_22 0 rfl ?_
  refine jr_get hE dX10_findOwn_23 f64 W4.o6 rfl ?_
  refine jr_aload_n hE dX10_findOwn_26 0 rfl ?_
  refine jr_get hE dX10_findOwn_27 f43 W4.o6 rfl ?_
  refine jr_kVv (ci := 2) (n := 1) (As := [.ref (c (40 + 4 * 17))]) (rest := []) hE dX10_findOwn_30 (fun l => c_X2_settle l G (c 9) (c (40 + 4 * 16)) (c 11) (c 10) (c 12) (c 13) (c 14) (c 15) (c 16) (c 17) (c 18) (c 19) (c 20) (c 21) (c 22) (c 23) (c (40 + 4 * 17)) (c (41 + 4 * 17)) (c (42 + 4 * 17)) (c (43 + 4 * 17)) (P4 17)) gX10_findOwn_X2_settle rfl W4.cv rfl (by decide +kernel) ⟨rfl, rfl, by decide, by decide⟩ (by decide) rfl rfl (Nat.le_of_ble_eq_true rfl) (W4.settlePre 17 (by decide) (by decide)) (fun F5 q6 => ?_)
  obtain ⟨g7, gp7, go7, h7, u7⟩ := q6
  obtain ⟨W7, P7⟩ := W4.settle (i := 17) (by decide) (by decide) g7 gp7 go7 h7 u7
  have O7 := O4.tr P7
  obtain ⟨P7, eP7, hP7, yP7⟩ := uz_ab P4 17 (stJ (P4 17))
  rw [eP7] at W7
  have nP7 : ∀ z, z ≠ 17 → P7 z = P4 z := fun z hz => hP7 z (fun e => hz (List.mem_singleton.mp e))
  have hr7 : stl (P7 17) (emul PP (S 0) GE) := by rw [yP7]; exact rep_stl hr4
  refine jr_aload_n hE dX10_findOwn_33 0 rfl ?_
  refine jr_get hE dX10_findOwn_34 f21 W7.o6 rfl ?_
  refine jr_kVv (ci := 0) (n := 0) (As := []) (rest := []) hE dX10_findOwn_37 (fun l => c_X0_empty l G (c (270 + 2 * 18)) (c (271 + 2 * 18)) (bcap 18) (B 18)) gX10_findOwn_X0_empty rfl ((W7.by 18 (by decide)).ob) rfl (by decide +kernel) ⟨rfl, rfl, by decide, by decide⟩ (by decide) rfl rfl (Nat.le_of_ble_eq_true rfl) (W7.by 18 (by decide)) (fun F8 q9 => ?_)
  obtain ⟨h10, u10⟩ := q9
  obtain ⟨W10, P10⟩ := W7.setBo (i := 18) (bs := []) (by decide) h10 u10
  have O10 := O7.tr P10
  obtain ⟨B10, eB10, hB10, yB10⟩ := uz_ab B 18 ([])
  rw [eB10] at W10
  have nB10 : ∀ z, z ≠ 18 → B10 z = B z := fun z hz => hB10 z (fun e => hz (List.mem_singleton.mp e))
  refine jr_aload_n hE dX10_findOwn_40 0 rfl ?_
  refine jr_get hE dX10_findOwn_41 f43 W10.o6 rfl ?_
  refine jr_aload_n hE dX10_findOwn_44 0 rfl ?_
  refine jr_get hE dX10_findOwn_45 f21 W10.o6 rfl ?_
  refine jr_kVv (ci := 6) (n := 1) (As := [.ref (c (270 + 2 * 18))]) (rest := []) hE dX10_findOwn_48 (fun l => c_X6_addTo l G (c (40 + 4 * 17)) (c (41 + 4 * 17)) (c (42 + 4 * 17)) (c (43 + 4 * 17)) (c (270 + 2 * 18)) (c (271 + 2 * 18)) (bcap 18) (P7 17) ([])) gX10_findOwn_X6_addTo rfl ((W10.pt 17 (by decide) (by decide)).1) rfl (by decide +kernel) ⟨rfl, rfl, by decide, by decide⟩ (by decide) rfl rfl (Nat.le_of_ble_eq_true rfl) (⟨W10.pt 17 (by decide) (by decide), (by have q := W10.by 18 (by decide); rw [show B10 18 = [] from yB10] at q; exact q), by decide, cnd W10.1 [40 + 4 * 17, 41 + 4 * 17, 42 + 4 * 17, 43 + 4 * 17, 270 + 2 * 18, 271 + 2 * 18] (by decide) (by decide)⟩) (fun F11 q12 => ?_)
  rw [hr7.ptb] at q12
  rw [List.nil_append] at q12
  obtain ⟨W13, P13⟩ := W10.paddP (i := 17) (k := 18) (by decide) (by decide) (by decide) q12
  have O13 := O10.tr P13
  obtain ⟨B13, eB13, hB13, yB13⟩ := uz_ab B10 18 (pbE (emul PP (S 0) GE))
  rw [eB13] at W13
  have nB13 : ∀ z, z ≠ 18 → B13 z = B10 z := fun z hz => hB13 z (fun e => hz (List.mem_singleton.mp e))
  exact hR F11 _ _ dX10_findOwn_51 ⟨_, _, W13, (fun z hz => ((nB13 z (jne hz 0 rfl)).trans (nB10 z (jne hz 0 rfl)))), (fun z hz => ((nP7 z (jne hz 0 rfl)).trans (nP4 z (jne hz 0 rfl)))), yB13, O13⟩

set_option maxHeartbeats 4000000 in
set_option maxRecDepth 100000 in
theorem c_s_challenge (l : Launch) (G : Nat → ClassId) (c : Nat → Nat) (B : Nat → List Nat) (S : Nat → Nat) (P : Nat → JP) (q : SS) (X : Nat) (v : Nat → Int32) (t i j a k : Nat) : jKv l yX10_challenge wsX10_challenge ({ frames := 5, cells := 0, slots := 0, locals := 108 }) G [.ref (c 6), .ref (c (210 + 2 * t)), .ref (c (270 + 2 * i)), .ref (c (270 + 2 * j)), .int (nI a), .ref (c (270 + 2 * k))] (fun L F => CW G L F c B S P q X v ∧ t < 30 ∧ i < 50 ∧ j < 50 ∧ k < 50 ∧ i ≠ 17 ∧ j ≠ 17 ∧ k ≠ 17 ∧ i ≠ 19 ∧ j ≠ 19 ∧ k ≠ 19 ∧ 32 ≤ (B i).length ∧ a + 32 ≤ (B j).length ∧ (B k).length ≤ 100) (fun L F F1 => ∃ B' S' q', CW G L F1 c B' S' P q' X v ∧ (∀ i, i ∉ [17, 19] → B' i = B i) ∧ (∀ i, i ∉ [t] → S' i = S i) ∧ S' t = bnum (sha (sha (tgb 2) ++ sha (tgb 2) ++ ((B i).drop 0).take 32 ++ ((B j).drop a).take 32 ++ B k)) % NN ∧ cO c F F1) := by
  refine jm_kv (cc := cX10_challenge) (maxL := 6) (by decide) rfl (Nat.le_of_ble_eq_true rfl) ?_
  intro E L F hE hR hpre
  have hE : jOk E G _ cX10_challenge 6 RX10 wsX10_challenge := hE
  obtain ⟨W0, ht, hi, hj, hk, hi1, hj1, hk1, hi2, hj2, hk2, hli, hlj, hlk⟩ := hpre
  have f60 : jFl RX10 wsX10_challenge 60 10 4 := ⟨rfl, by decide, by decide +kernel, by decide +kernel⟩
  have f25 : jFl RX10 wsX10_challenge 25 10 3 := ⟨rfl, by decide, by decide +kernel, by decide +kernel⟩
  refine jr_aload_n hE dX10_challenge_0 0 rfl ?_
  refine jr_get hE dX10_challenge_1 f60 W0.o6 rfl ?_
  refine jr_iconst (v := (2 : Int32)) hE dX10_challenge_4 (by decide) ?_
  refine jr_kVv (ci := 9) (n := 1) (As := [.int (2 : Int32)]) (rest := []) hE dX10_challenge_5 (fun l => c_X9_beginT l G (c 3) (c 4) (c 5) (c (270 + 2 * 17)) (c (271 + 2 * 17)) (bcap 17) 2 q (B 17)) gX10_challenge_X9_beginBy rfl W0.sh.1 rfl (by decide +kernel) ⟨rfl, rfl, by decide, by decide⟩ (by decide) rfl rfl (Nat.le_of_ble_eq_true rfl) (W0.beginTpre (i := 2) (by decide)) (fun F1 q2 => ?_)
  obtain ⟨q3, W3, D3, P3⟩ := W0.beginT (i := 2) (by decide) q2
  have O3 := (cO.rf c F).tr P3
  obtain ⟨B3, eB3, hB3, yB3⟩ := uz_ab B 17 (sha (tgb 2))
  rw [eB3] at W3
  have nB3 : ∀ z, z ≠ 17 → B3 z = B z := fun z hz => hB3 z (fun e => hz (List.mem_singleton.mp e))
  have T3 : ∀ b, b ∈ (sha (tgb 2) ++ sha (tgb 2)) → b < 256 := app_lt (sha_lt _) (sha_lt _)
  refine jr_aload_n hE dX10_challenge_8 0 rfl ?_
  refine jr_get hE dX10_challenge_9 f60 W3.o6 rfl ?_
  refine jr_aload_n hE dX10_challenge_12 2 rfl ?_
  refine jr_iconst (v := (0 : Int32)) hE dX10_challenge_13 (by decide) ?_
  refine jr_bipush (v := (32 : Int32)) hE dX10_challenge_14 (by decide) ?_
  have hB4 : B3 i = (B i) := (nB3 i (by omega)).trans rfl
  refine jr_kVv (ci := 9) (n := 3) (As := [.ref (c (270 + 2 * i)), .int (0 : Int32), .int (32 : Int32)]) (rest := []) hE dX10_challenge_16 (fun l => c_X9_takePart l G (c 3) (c 4) (c 5) (c (270 + 2 * 17)) (c (270 + 2 * i)) (c (271 + 2 * i)) (bcap i) 0 32 q3 (B i)) gX10_challenge_X9_takePart rfl W3.sh.1 rfl (by decide +kernel) ⟨rfl, rfl, by decide, by decide⟩ (by decide) rfl rfl (Nat.le_of_ble_eq_true rfl) (⟨W3.sh, (by have q := W3.by i (by omega); rw [show B3 i = (B i) from hB4] at q; exact q), (W3.shB i (by omega) trivial D3 (by simp only [List.length_append, List.length_cons, List.length_nil, List.length_take, List.length_drop, sha_len, bex_len, pbE_len, xorL_len, List.length_replicate]; omega)).2.2.1, by omega, (W3.shB i (by omega) trivial D3 (by simp only [List.length_append, List.length_cons, List.length_nil, List.length_take, List.length_drop, sha_len, bex_len, pbE_len, xorL_len, List.length_replicate]; omega)).2.2.2⟩) (fun F5 q6 => ?_)
  obtain ⟨q7, W7, D7, P7⟩ := W3.takeA D3 q6
  have O7 := O3.tr P7
  have T7 : ∀ b, b ∈ (sha (tgb 2) ++ sha (tgb 2) ++ ((B i).drop 0).take 32) → b < 256 := app_lt T3 (take_lt (drop_lt (by have q := W3.bB i (by omega); rw [show B3 i = (B i) from hB4] at q; exact q) _) _)
  refine jr_aload_n hE dX10_challenge_19 0 rfl ?_
  refine jr_get hE dX10_challenge_20 f60 W7.o6 rfl ?_
  refine jr_aload_n hE dX10_challenge_23 3 rfl ?_
  refine jr_iload hE dX10_challenge_24 4 rfl ?_
  refine jr_bipush (v := (32 : Int32)) hE dX10_challenge_26 (by decide) ?_
  have hB8 : B3 j = (B j) := (nB3 j (by omega)).trans rfl
  refine jr_kVv (ci := 9) (n := 3) (As := [.ref (c (270 + 2 * j)), .int (nI a), .int (32 : Int32)]) (rest := []) hE dX10_challenge_28 (fun l => c_X9_takePart l G (c 3) (c 4) (c 5) (c (270 + 2 * 17)) (c (270 + 2 * j)) (c (271 + 2 * j)) (bcap j) a 32 q7 (B j)) gX10_challenge_X9_takePart rfl W7.sh.1 rfl (by decide +kernel) ⟨rfl, rfl, by decide, by decide⟩ (by decide) rfl rfl (Nat.le_of_ble_eq_true rfl) (⟨W7.sh, (by have q := W7.by j (by omega); rw [show B3 j = (B j) from hB8] at q; exact q), (W7.shB j (by omega) trivial D7 (by simp only [List.length_append, List.length_cons, List.length_nil, List.length_take, List.length_drop, sha_len, bex_len, pbE_len, xorL_len, List.length_replicate]; omega)).2.2.1, by omega, (W7.shB j (by omega) trivial D7 (by simp only [List.length_append, List.length_cons, List.length_nil, List.length_take, List.length_drop, sha_len, bex_len, pbE_len, xorL_len, List.length_replicate]; omega)).2.2.2⟩) (fun F9 q10 => ?_)
  obtain ⟨q11, W11, D11, P11⟩ := W7.takeA D7 q10
  have O11 := O7.tr P11
  have T11 : ∀ b, b ∈ (sha (tgb 2) ++ sha (tgb 2) ++ ((B i).drop 0).take 32 ++ ((B j).drop a).take 32) → b < 256 := app_lt T7 (take_lt (drop_lt (by have q := W7.bB j (by omega); rw [show B3 j = (B j) from hB8] at q; exact q) _) _)
  refine jr_aload_n hE dX10_challenge_31 0 rfl ?_
  refine jr_get hE dX10_challenge_32 f60 W11.o6 rfl ?_
  refine jr_aload hE dX10_challenge_35 5 rfl ?_
  have hB12 : B3 k = (B k) := (nB3 k (by omega)).trans rfl
  refine jr_kVv (ci := 9) (n := 1) (As := [.ref (c (270 + 2 * k))]) (rest := []) hE dX10_challenge_37 (fun l => c_X9_takeAll l G (c 3) (c 4) (c 5) (c (270 + 2 * 17)) (c (270 + 2 * k)) (c (271 + 2 * k)) (bcap k) q11 (B k)) gX10_challenge_X9_takeAll rfl W11.sh.1 rfl (by decide +kernel) ⟨rfl, rfl, by decide, by decide⟩ (by decide) rfl rfl (Nat.le_of_ble_eq_true rfl) (⟨W11.sh, (by have q := W11.by k (by omega); rw [show B3 k = (B k) from hB12] at q; exact q), (W11.shB k (by omega) trivial D11 (by simp only [List.length_append, List.length_cons, List.length_nil, List.length_take, List.length_drop, sha_len, bex_len, pbE_len, xorL_len, List.length_replicate]; omega)).2.2.1, (W11.shB k (by omega) trivial D11 (by simp only [List.length_append, List.length_cons, List.length_nil, List.length_take, List.length_drop, sha_len, bex_len, pbE_len, xorL_len, List.length_replicate]; omega)).2.2.2⟩) (fun F13 q14 => ?_)
  have Dq14 := W11.takeA D11 q14
  obtain ⟨q15, W15, D15, P15⟩ := Dq14
  have O15 := O11.tr P15
  have T15 : ∀ b, b ∈ (sha (tgb 2) ++ sha (tgb 2) ++ ((B i).drop 0).take 32 ++ ((B j).drop a).take 32 ++ (B k)) → b < 256 := app_lt T11 (by have q := W11.bB k (by omega); rw [show B3 k = (B k) from hB12] at q; exact q)
  refine jr_aload_n hE dX10_challenge_40 0 rfl ?_
  refine jr_get hE dX10_challenge_41 f60 W15.o6 rfl ?_
  refine jr_aload_n hE dX10_challenge_44 0 rfl ?_
  refine jr_get hE dX10_challenge_45 f25 W15.o6 rfl ?_
  refine jr_kVv (ci := 9) (n := 1) (As := [.ref (c (270 + 2 * 19))]) (rest := []) hE dX10_challenge_48 (fun l => c_X9_finish l G (c 3) (c 4) (c 5) (c (270 + 2 * 17)) (c (270 + 2 * 19)) (c (271 + 2 * 19)) (bcap 19) q15 (B3 19)) gX10_challenge_X9_finish rfl W15.sh.1 rfl (by decide +kernel) ⟨rfl, rfl, by decide, by decide⟩ (by decide) rfl rfl (Nat.le_of_ble_eq_true rfl) (⟨W15.sh, W15.by 19 (by decide), (W15.shB 19 (by decide) trivial D15 (by simp only [List.length_append, List.length_cons, List.length_nil, List.length_take, List.length_drop, sha_len, bex_len, pbE_len, xorL_len, List.length_replicate]; omega)).2.2.1, by decide, (W15.shB 19 (by decide) trivial D15 (by simp only [List.length_append, List.length_cons, List.length_nil, List.length_take, List.length_drop, sha_len, bex_len, pbE_len, xorL_len, List.length_replicate]; omega)).2.2.2⟩) (fun F16 q17 => ?_)
  obtain ⟨q18, W18, P18⟩ := W15.finP (i := 19) (by decide) D15 T15 (by simp only [List.length_append, List.length_cons, List.length_nil, List.length_take, List.length_drop, sha_len, bex_len, pbE_len, xorL_len, List.length_replicate]; omega) q17
  have O18 := O15.tr P18
  obtain ⟨B18, eB18, hB18, yB18⟩ := uz_ab B3 19 (sha (sha (tgb 2) ++ sha (tgb 2) ++ ((B i).drop 0).take 32 ++ ((B j).drop a).take 32 ++ (B k)))
  rw [eB18] at W18
  have nB18 : ∀ z, z ≠ 19 → B18 z = B3 z := fun z hz => hB18 z (fun e => hz (List.mem_singleton.mp e))
  refine jr_aload_n hE dX10_challenge_51 1 rfl ?_
  refine jr_aload_n hE dX10_challenge_52 0 rfl ?_
  refine jr_get hE dX10_challenge_53 f25 W18.o6 rfl ?_
  refine jr_kVv (ci := 8) (n := 1) (As := [.ref (c (270 + 2 * 19))]) (rest := []) hE dX10_challenge_56 (fun l => c_X8_takeDigest l G (c (210 + 2 * t)) (c (211 + 2 * t)) (c (270 + 2 * 19)) (c (271 + 2 * 19)) (bcap 19) (S t) (sha (sha (tgb 2) ++ sha (tgb 2) ++ ((B i).drop 0).take 32 ++ ((B j).drop a).take 32 ++ (B k)))) gX10_challenge_X8_takeDigest rfl ((W18.sc t (by omega)).ob) rfl (by decide +kernel) ⟨rfl, rfl, by decide, by decide⟩ (by decide) rfl rfl (Nat.le_of_ble_eq_true rfl) (⟨(W18.sc t (by omega)), (by have q := W18.by 19 (by decide); rw [show B18 19 = (sha (sha (tgb 2) ++ sha (tgb 2) ++ ((B i).drop 0).take 32 ++ ((B j).drop a).take 32 ++ (B k))) from yB18] at q; exact q), sha_len _, cnd W18.1 [210 + 2 * t, 211 + 2 * t, 270 + 2 * 19, 271 + 2 * 19] (by simp only [List.mem_cons, List.not_mem_nil, or_false]; omega) (by simp only [List.nodup_cons, List.mem_cons, List.not_mem_nil, or_false, not_or, List.nodup_nil, not_false_eq_true, and_true]; omega)⟩) (fun F19 q20 => ?_)
  obtain ⟨h21, u21⟩ := q20
  obtain ⟨W21, P21⟩ := W18.setS (i := t) (x := (bnum (sha (sha (tgb 2) ++ sha (tgb 2) ++ ((B i).drop 0).take 32 ++ ((B j).drop a).take 32 ++ (B k))) % NN)) (by omega) h21 u21
  have O21 := O18.tr P21
  obtain ⟨S21, eS21, hS21, yS21⟩ := uz_ab S t (bnum (sha (sha (tgb 2) ++ sha (tgb 2) ++ ((B i).drop 0).take 32 ++ ((B j).drop a).take 32 ++ (B k))) % NN)
  rw [eS21] at W21
  have nS21 : ∀ z, z ≠ t → S21 z = S z := fun z hz => hS21 z (fun e => hz (List.mem_singleton.mp e))
  exact hR F19 _ _ dX10_challenge_59 ⟨_, _, _, W21, (fun z hz => ((nB18 z (jne hz 1 rfl)).trans (nB3 z (jne hz 0 rfl)))), (fun z hz => (nS21 z (jne hz 0 rfl))), yS21, O21⟩

