/-! Single: canJoin, judgeMany -/
theorem eadd_ng {A B : EP} (hA : onE PP A) (hB : onE PP B) : eadd PP A (eneg PP B) = none ↔ B = A := by
  constructor
  · intro h
    have q := eadd_z gdP hA (onE_neg gdP hB) h
    rw [eneg_eneg gdP hB] at q
    exact q.symm
  · rintro rfl
    exact eadd_neg gdP hA
theorem mhA_lt (En : List SE) : ∀ k, mhA En k < NN
  | 0 => NN0
  | k + 1 => Nat.mod_lt _ NN0

set_option maxHeartbeats 4000000 in
set_option maxRecDepth 100000 in
theorem c_s_canJoin (l : Launch) (G : Nat → ClassId) (c : Nat → Nat) (B : Nat → List Nat) (S : Nat → Nat) (P : Nat → JP) (q : SS) (X : Nat) (v : Nat → Int32) (e : Nat) : jKi l yX10_canJoin wsX10_canJoin ({ frames := 4, cells := 0, slots := 0, locals := 149 }) G [.ref (c 6), .ref (c (25 + e))] (fun L F => CW G L F c B S P q X v ∧ e < 4 ∧ (B (26 + 3 * e)).length = 32 ∧ (B (28 + 3 * e)).length = 64) (fun L F r F1 => ∃ S' P', CW G L F1 c B S' P' q X v ∧ (∀ i, i ∉ [(11 + 2 * e)] → S' i = S i) ∧ (∀ i, i ∉ [(21 + 2 * e), (22 + 2 * e)] → P' i = P i) ∧ ((isX (bnum (B (26 + 3 * e))) ∧ isX (bnum ((B (28 + 3 * e)).take 32)) ∧ (bnum ((B (28 + 3 * e)).drop 32)) < NN) → rep (P' (21 + 2 * e)) (lfE (bnum (B (26 + 3 * e)))) ∧ rep (P' (22 + 2 * e)) (lfE (bnum ((B (28 + 3 * e)).take 32))) ∧ S' (11 + 2 * e) = (bnum ((B (28 + 3 * e)).drop 32))) ∧ r = b2i (isX (bnum (B (26 + 3 * e))) ∧ isX (bnum ((B (28 + 3 * e)).take 32)) ∧ (bnum ((B (28 + 3 * e)).drop 32)) < NN) ∧ cO c F F1) := by
  refine jm_ki (cc := cX10_canJoin) (maxL := 2) (rt := .boolean) (by decide) rfl (Nat.le_of_ble_eq_true rfl) ?_
  intro E L F hE hR hpre
  have hE : jOk E G _ cX10_canJoin 2 RX10 wsX10_canJoin := hE
  obtain ⟨W0, he, hl, hl2⟩ := hpre
  have f64 : jFl RX10 wsX10_canJoin 64 10 0 := ⟨rfl, by decide, by decide +kernel, by decide +kernel⟩
  have f169 : jFl RX10 wsX10_canJoin 169 3 5 := ⟨rfl, by decide, by decide +kernel, by decide +kernel⟩
  have f174 : jFl RX10 wsX10_canJoin 174 3 0 := ⟨rfl, by decide, by decide +kernel, by decide +kernel⟩
  have f177 : jFl RX10 wsX10_canJoin 177 3 6 := ⟨rfl, by decide, by decide +kernel, by decide +kernel⟩
  have f180 : jFl RX10 wsX10_canJoin 180 3 2 := ⟨rfl, by decide, by decide +kernel, by decide +kernel⟩
  have f183 : jFl RX10 wsX10_canJoin 183 3 4 := ⟨rfl, by decide, by decide +kernel, by decide +kernel⟩
  refine jr_aload_n hE dX10_canJoin_0 0 rfl ?_
  refine jr_get hE dX10_canJoin_1 f64 W0.o6 rfl ?_
  refine jr_aload_n hE dX10_canJoin_4 1 rfl ?_
  refine jr_get hE dX10_canJoin_5 f169 (W0.oE e (by omega)) rfl ?_
  refine jr_aload_n hE dX10_canJoin_8 1 rfl ?_
  refine jr_get hE dX10_canJoin_9 f174 (W0.oE e (by omega)) rfl ?_
  refine jr_iconst (v := (0 : Int32)) hE dX10_canJoin_12 (by decide) ?_
  refine jr_kVi (ci := 2) (n := 3) (As := [.ref (c (40 + 4 * (21 + 2 * e))), .ref (c (270 + 2 * (26 + 3 * e))), .int (0 : Int32)]) (rest := []) hE dX10_canJoin_13 (fun l => c_X2_lift l G (c 9) (c (40 + 4 * 16)) (c 11) (c 10) (c 12) (c 13) (c 14) (c 15) (c 16) (c 17) (c 18) (c 19) (c 20) (c 21) (c 22) (c 23) (c (40 + 4 * (21 + 2 * e))) (c (41 + 4 * (21 + 2 * e))) (c (42 + 4 * (21 + 2 * e))) (c (43 + 4 * (21 + 2 * e))) (c (270 + 2 * (26 + 3 * e))) (c (271 + 2 * (26 + 3 * e))) (bcap (26 + 3 * e)) 0 (bnum (B (26 + 3 * e))) (P (21 + 2 * e)) (B (26 + 3 * e))) gX10_canJoin_X2_lift rfl W0.cv rfl (by decide +kernel) ⟨rfl, rfl, by decide, by decide⟩ (by decide) rfl rfl (Nat.le_of_ble_eq_true rfl) (⟨(W0.settlePre (21 + 2 * e) (by omega) (by omega)).1, (W0.settlePre (21 + 2 * e) (by omega) (by omega)).2.1, (W0.settlePre (21 + 2 * e) (by omega) (by omega)).2.2.1, (W0.settlePre (21 + 2 * e) (by omega) (by omega)).2.2.2.1, (W0.settlePre (21 + 2 * e) (by omega) (by omega)).2.2.2.2, (by have q := W0.by (26 + 3 * e) (by omega); rw [show B (26 + 3 * e) = (B (26 + 3 * e)) from rfl] at q; exact q), by omega, by rw [dt0 hl]⟩) (fun r3 F1 q2 => ?_)
  obtain ⟨g4, gp4, go4, ⟨Q4, h4, hq4⟩, u4, r3e⟩ := q2
  subst r3e
  obtain ⟨W4, P4⟩ := W0.lift (i := (21 + 2 * e)) (by omega) (by omega) g4 gp4 go4 h4 u4
  have O4 := (cO.rf c F).tr P4
  obtain ⟨P4, eP4, hP4, yP4⟩ := uz_ab P (21 + 2 * e) Q4
  rw [eP4] at W4
  have nP4 : ∀ z, z ≠ (21 + 2 * e) → P4 z = P z := fun z hz => hP4 z (fun e => hz (List.mem_singleton.mp e))
  have hr4 : (isX (bnum (B (26 + 3 * e)))) → rep (P4 (21 + 2 * e)) (lfE (bnum (B (26 + 3 * e)))) := fun h => by rw [yP4, hq4 h]; exact rep_ev h
  refine jr_if_eq (tgt := 58) hE dX10_canJoin_16 (by decide) (fun c16 => ?_) (fun c16 => ?_)
  · refine jr_iconst (v := (0 : Int32)) hE dX10_canJoin_58 (by decide) ?_
    exact hR F1 _ _ _ dX10_canJoin_59 rfl ⟨_, _, W4, (fun z hz => rfl), (fun z hz => (nP4 z (jne hz 0 rfl))), (fun h => absurd h (fun h => absurd (b2i_t h.1) (by rw [c16]; decide))), (b2i_f (fun h => absurd (b2i_t h.1) (by rw [c16]; decide))).symm, O4⟩
  · refine jr_aload_n hE dX10_canJoin_19 0 rfl ?_
    refine jr_get hE dX10_canJoin_20 f64 W4.o6 rfl ?_
    refine jr_aload_n hE dX10_canJoin_23 1 rfl ?_
    refine jr_get hE dX10_canJoin_24 f177 (W4.oE e (by omega)) rfl ?_
    refine jr_aload_n hE dX10_canJoin_27 1 rfl ?_
    refine jr_get hE dX10_canJoin_28 f180 (W4.oE e (by omega)) rfl ?_
    refine jr_iconst (v := (0 : Int32)) hE dX10_canJoin_31 (by decide) ?_
    refine jr_kVi (ci := 2) (n := 3) (As := [.ref (c (40 + 4 * (22 + 2 * e))), .ref (c (270 + 2 * (28 + 3 * e))), .int (0 : Int32)]) (rest := []) hE dX10_canJoin_32 (fun l => c_X2_lift l G (c 9) (c (40 + 4 * 16)) (c 11) (c 10) (c 12) (c 13) (c 14) (c 15) (c 16) (c 17) (c 18) (c 19) (c 20) (c 21) (c 22) (c 23) (c (40 + 4 * (22 + 2 * e))) (c (41 + 4 * (22 + 2 * e))) (c (42 + 4 * (22 + 2 * e))) (c (43 + 4 * (22 + 2 * e))) (c (270 + 2 * (28 + 3 * e))) (c (271 + 2 * (28 + 3 * e))) (bcap (28 + 3 * e)) 0 (bnum ((B (28 + 3 * e)).take 32)) (P4 (22 + 2 * e)) (B (28 + 3 * e))) gX10_canJoin_X2_lift rfl W4.cv rfl (by decide +kernel) ⟨rfl, rfl, by decide, by decide⟩ (by decide) rfl rfl (Nat.le_of_ble_eq_true rfl) (⟨(W4.settlePre (22 + 2 * e) (by omega) (by omega)).1, (W4.settlePre (22 + 2 * e) (by omega) (by omega)).2.1, (W4.settlePre (22 + 2 * e) (by omega) (by omega)).2.2.1, (W4.settlePre (22 + 2 * e) (by omega) (by omega)).2.2.2.1, (W4.settlePre (22 + 2 * e) (by omega) (by omega)).2.2.2.2, (by have q := W4.by (28 + 3 * e) (by omega); rw [show B (28 + 3 * e) = (B (28 + 3 * e)) from rfl] at q; exact q), by omega, by rw [List.drop_zero]⟩) (fun r7 F5 q6 => ?_)
    obtain ⟨g8, gp8, go8, ⟨Q8, h8, hq8⟩, u8, r7e⟩ := q6
    subst r7e
    obtain ⟨W8, P8⟩ := W4.lift (i := (22 + 2 * e)) (by omega) (by omega) g8 gp8 go8 h8 u8
    have O8 := O4.tr P8
    obtain ⟨P8, eP8, hP8, yP8⟩ := uz_ab P4 (22 + 2 * e) Q8
    rw [eP8] at W8
    have nP8 : ∀ z, z ≠ (22 + 2 * e) → P8 z = P4 z := fun z hz => hP8 z (fun e => hz (List.mem_singleton.mp e))
    have hr8 : (isX (bnum ((B (28 + 3 * e)).take 32))) → rep (P8 (22 + 2 * e)) (lfE (bnum ((B (28 + 3 * e)).take 32))) := fun h => by rw [yP8, hq8 h]; exact rep_ev h
    refine jr_if_eq (tgt := 58) hE dX10_canJoin_35 (by decide) (fun c35 => ?_) (fun c35 => ?_)
    · refine jr_iconst (v := (0 : Int32)) hE dX10_canJoin_58 (by decide) ?_
      exact hR F5 _ _ _ dX10_canJoin_59 rfl ⟨_, _, W8, (fun z hz => rfl), (fun z hz => ((nP8 z (jne hz 1 rfl)).trans (nP4 z (jne hz 0 rfl)))), (fun h => absurd h (fun h => absurd (b2i_t h.2.1) (by rw [c35]; decide))), (b2i_f (fun h => absurd (b2i_t h.2.1) (by rw [c35]; decide))).symm, O8⟩
    · refine jr_aload_n hE dX10_canJoin_38 1 rfl ?_
      refine jr_get hE dX10_canJoin_39 f183 (W8.oE e (by omega)) rfl ?_
      refine jr_aload_n hE dX10_canJoin_42 1 rfl ?_
      refine jr_get hE dX10_canJoin_43 f180 (W8.oE e (by omega)) rfl ?_
      refine jr_bipush (v := (32 : Int32)) hE dX10_canJoin_46 (by decide) ?_
      refine jr_kVi (ci := 8) (n := 2) (As := [.ref (c (270 + 2 * (28 + 3 * e))), .int (32 : Int32)]) (rest := []) hE dX10_canJoin_48 (fun l => c_X8_take l G (c (210 + 2 * (11 + 2 * e))) (c (211 + 2 * (11 + 2 * e))) (c (270 + 2 * (28 + 3 * e))) (c (271 + 2 * (28 + 3 * e))) (bcap (28 + 3 * e)) 32 (S (11 + 2 * e)) (B (28 + 3 * e))) gX10_canJoin_X8_take rfl ((W8.sc (11 + 2 * e) (by omega)).ob) rfl (by decide +kernel) ⟨rfl, rfl, by decide, by decide⟩ (by decide) rfl rfl (Nat.le_of_ble_eq_true rfl) (⟨(W8.sc (11 + 2 * e) (by omega)), (by have q := W8.by (28 + 3 * e) (by omega); rw [show B (28 + 3 * e) = (B (28 + 3 * e)) from rfl] at q; exact q), by omega, cnd W8.1 [210 + 2 * (11 + 2 * e), 211 + 2 * (11 + 2 * e), 270 + 2 * (28 + 3 * e), 271 + 2 * (28 + 3 * e)] (by simp only [List.mem_cons, List.not_mem_nil, or_false]; omega) (by simp only [List.nodup_cons, List.mem_cons, List.not_mem_nil, or_false, not_or, List.nodup_nil, not_false_eq_true, and_true]; omega)⟩) (fun r11 F9 q10 => ?_)
      obtain ⟨h12, u12, r11e⟩ := q10
      rw [show bnum (((B (28 + 3 * e)).drop 32).take 32) = (bnum ((B (28 + 3 * e)).drop 32)) from by rw [dt1 (by omega)]] at h12 r11e
      subst r11e
      have hu12 := And.intro h12 u12
      obtain ⟨h13, u13⟩ := hu12
      obtain ⟨W13, P13⟩ := W8.setS (i := (11 + 2 * e)) (x := (bnum ((B (28 + 3 * e)).drop 32))) (by omega) h13 u13
      have O13 := O8.tr P13
      obtain ⟨S13, eS13, hS13, yS13⟩ := uz_ab S (11 + 2 * e) (bnum ((B (28 + 3 * e)).drop 32))
      rw [eS13] at W13
      have nS13 : ∀ z, z ≠ (11 + 2 * e) → S13 z = S z := fun z hz => hS13 z (fun e => hz (List.mem_singleton.mp e))
      refine jr_if_eq (tgt := 58) hE dX10_canJoin_51 (by decide) (fun c51 => ?_) (fun c51 => ?_)
      · refine jr_iconst (v := (0 : Int32)) hE dX10_canJoin_58 (by decide) ?_
        exact hR F9 _ _ _ dX10_canJoin_59 rfl ⟨_, _, W13, (fun z hz => (nS13 z (jne hz 0 rfl))), (fun z hz => ((nP8 z (jne hz 1 rfl)).trans (nP4 z (jne hz 0 rfl)))), (fun h => absurd h (fun h => absurd (b2i_t h.2.2) (by rw [c51]; decide))), (b2i_f (fun h => absurd (b2i_t h.2.2) (by rw [c51]; decide))).symm, O13⟩
      · refine jr_iconst (v := (1 : Int32)) hE dX10_canJoin_54 (by decide) ?_
        refine jr_goto (tgt := 59) hE dX10_canJoin_55 (by decide) ?_
        have hp14 : rep (P8 (21 + 2 * e)) (lfE (bnum (B (26 + 3 * e)))) := by rw [show P8 (21 + 2 * e) = P4 (21 + 2 * e) from (nP8 (21 + 2 * e) (by omega))]; exact (hr4 (b2i_1 c16))
        exact hR F9 _ _ _ dX10_canJoin_59 rfl ⟨_, _, W13, (fun z hz => (nS13 z (jne hz 0 rfl))), (fun z hz => ((nP8 z (jne hz 1 rfl)).trans (nP4 z (jne hz 0 rfl)))), (fun h => ⟨hp14, (hr8 (b2i_1 c35)), yS13⟩), (b2i_t ⟨b2i_1 c16, b2i_1 c35, b2i_1 c51⟩).symm, O13⟩

