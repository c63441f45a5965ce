/-! Group: parts of a signature -/
theorem hm_u {u sz : Nat} (h : u < sz) (h4 : sz ≤ 4) : 0 ≤ (nI u).toInt ∧ (nI u).toInt < sz := by
  rw [nI_toInt (by omega)]
  omega
theorem b2i_nz {p : Prop} [Decidable p] (h : p) : ¬ b2i p = 0 := fun e => by
  rw [b2i_t h] at e
  exact absurd e (by decide)

set_option maxHeartbeats 4000000 in
set_option maxRecDepth 100000 in
theorem c_g_isOwn (l : Launch) (G : Nat → ClassId) (c : Nat → Nat) (B : Nat → List Nat) (S : Nat → Nat) (P : Nat → JP) (q : SS) (X : Nat) (v : Nat → Int32) (u sz : Nat) : jKi l yX4_isOwn wsX4_isOwn ({ frames := 2, cells := 0, slots := 0, locals := 44 }) G [.ref (c 7), .int (nI u)] (fun L F => CW G L F c B S P q X v ∧ v 2 = nI sz ∧ u < sz ∧ sz ≤ 4) (fun L F r F1 => F = F1 ∧ r = b2i (B (38 + 3 * u) = B 18)) := by
  refine jm_ki (cc := cX4_isOwn) (maxL := 2) (rt := .boolean) (by decide) rfl (Nat.le_of_ble_eq_true rfl) ?_
  intro E L F hE hR hpre
  have hE : jOk E G _ cX4_isOwn 2 RX4 wsX4_isOwn := hE
  obtain ⟨W0, hsz, hu, h4⟩ := hpre
  have f28 : jFl RX4 wsX4_isOwn 28 4 6 := ⟨rfl, by decide, by decide +kernel, by decide +kernel⟩
  have f108 : jFl RX4 wsX4_isOwn 108 5 0 := ⟨rfl, by decide, by decide +kernel, by decide +kernel⟩
  have f83 : jFl RX4 wsX4_isOwn 83 4 4 := ⟨rfl, by decide, by decide +kernel, by decide +kernel⟩
  have f200 : jFl RX4 wsX4_isOwn 200 10 2 := ⟨rfl, by decide, by decide +kernel, by decide +kernel⟩
  refine jr_aload_n hE dX4_isOwn_0 0 rfl ?_
  refine jr_iload_n hE dX4_isOwn_1 1 rfl ?_
  refine jr_kVi (ci := 4) (n := 1) (As := [.int (nI u)]) (rest := []) hE dX4_isOwn_2 (fun l => c_g_hasMember l G c B S P q X v (nI u) sz) gX4_isOwn_X4_hasMember rfl W0.o7 rfl (by decide +kernel) ⟨rfl, rfl, by decide, by decide⟩ (by decide) rfl rfl (Nat.le_of_ble_eq_true rfl) (⟨W0, hsz, h4⟩) (fun r3 F1 q2 => ?_)
  obtain ⟨eq2, rq2⟩ := q2
  subst eq2 rq2
  refine jr_if_eq (tgt := 34) hE dX4_isOwn_5 (by decide) (fun c_5 => absurd c_5 (b2i_nz (hm_u hu h4))) (fun c_5 => ?_)
  refine jr_aload_n hE dX4_isOwn_8 0 rfl ?_
  refine jr_get hE dX4_isOwn_9 f28 W0.o7 rfl ?_
  refine jr_iload_n hE dX4_isOwn_12 1 rfl ?_
  obtain ⟨f4, ja4, ga4⟩ := W0.aM
  refine jr_aald (v := c (29 + u)) hE dX4_isOwn_13 ja4 rfl (vp_in_nI (n := u) (by omega) (by decide)) (by rw [nI_clamp (by omega)]; exact ga4 u (by omega)) ?_
  refine jr_get hE dX4_isOwn_14 f108 (W0.oM u (by omega)) rfl ?_
  refine jr_aload_n hE dX4_isOwn_17 0 rfl ?_
  refine jr_get hE dX4_isOwn_18 f83 W0.o7 rfl ?_
  refine jr_get hE dX4_isOwn_21 f200 W0.o6 rfl ?_
  refine jr_kVi (ci := 0) (n := 1) (As := [.ref (c (270 + 2 * 18))]) (rest := []) hE dX4_isOwn_24 (fun l => c_X0_isLike l G (c (270 + 2 * (38 + 3 * u))) (c (271 + 2 * (38 + 3 * u))) (bcap (38 + 3 * u)) (c (270 + 2 * 18)) (c (271 + 2 * 18)) (bcap 18) (B (38 + 3 * u)) (B 18)) gX4_isOwn_X0_isLike rfl ((W0.by (38 + 3 * u) (by omega)).ob) rfl (by decide +kernel) ⟨rfl, rfl, by decide, by decide⟩ (by decide) rfl rfl (Nat.le_of_ble_eq_true rfl) (⟨(by have q := W0.by (38 + 3 * u) (by omega); rw [show B (38 + 3 * u) = (B (38 + 3 * u)) from rfl] at q; exact q), (by have q := W0.by 18 (by decide); rw [show B 18 = (B 18) from rfl] at q; exact q)⟩) (fun r7 F5 q6 => ?_)
  obtain ⟨eq6, rq6⟩ := q6
  subst eq6 rq6
  refine jr_if_eq (tgt := 34) hE dX4_isOwn_27 (by decide) (fun c27 => ?_) (fun c27 => ?_)
  · refine jr_iconst (v := (0 : Int32)) hE dX4_isOwn_34 (by decide) ?_
    exact hR F _ _ _ dX4_isOwn_35 rfl ⟨rfl, (b2i_f (b2i_0 c27)).symm⟩
  · refine jr_iconst (v := (1 : Int32)) hE dX4_isOwn_30 (by decide) ?_
    refine jr_goto (tgt := 35) hE dX4_isOwn_31 (by decide) ?_
    exact hR F _ _ _ dX4_isOwn_35 rfl ⟨rfl, (b2i_t (b2i_1 c27)).symm⟩

set_option maxHeartbeats 4000000 in
set_option maxRecDepth 100000 in
theorem c_g_hasToldNonce (l : Launch) (G : Nat → ClassId) (c : Nat → Nat) (B : Nat → List Nat) (S : Nat → Nat) (P : Nat → JP) (q : SS) (X : Nat) (v : Nat → Int32) (u sz : Nat) (hn : Bool) : jKi l yX4_hasToldNonce wsX4_hasToldNonce ({ frames := 2, cells := 0, slots := 0, locals := 44 }) G [.ref (c 7), .int (nI u)] (fun L F => CW G L F c B S P q X v ∧ v 2 = nI sz ∧ u < sz ∧ sz ≤ 4 ∧ v (6 + 2 * u) = bi hn) (fun L F r F1 => F = F1 ∧ r = b2i (hn = true ∧ B (39 + 3 * u) = B (40 + 3 * u))) := by
  refine jm_ki (cc := cX4_hasToldNonce) (maxL := 2) (rt := .boolean) (by decide) rfl (Nat.le_of_ble_eq_true rfl) ?_
  intro E L F hE hR hpre
  have hE : jOk E G _ cX4_hasToldNonce 2 RX4 wsX4_hasToldNonce := hE
  obtain ⟨W0, hsz, hu, h4, hhn⟩ := hpre
  have f28 : jFl RX4 wsX4_hasToldNonce 28 4 6 := ⟨rfl, by decide, by decide +kernel, by decide +kernel⟩
  have f122 : jFl RX4 wsX4_hasToldNonce 122 5 3 := ⟨rfl, by decide, by decide +kernel, by decide +kernel⟩
  have f230 : jFl RX4 wsX4_hasToldNonce 230 5 6 := ⟨rfl, by decide, by decide +kernel, by decide +kernel⟩
  have f243 : jFl RX4 wsX4_hasToldNonce 243 5 8 := ⟨rfl, by decide, by decide +kernel, by decide +kernel⟩
  refine jr_aload_n hE dX4_hasToldNonce_0 0 rfl ?_
  refine jr_iload_n hE dX4_hasToldNonce_1 1 rfl ?_
  refine jr_kVi (ci := 4) (n := 1) (As := [.int (nI u)]) (rest := []) hE dX4_hasToldNonce_2 (fun l => c_g_hasMember l G c B S P q X v (nI u) sz) gX4_hasToldNonce_X4_hasMember rfl W0.o7 rfl (by decide +kernel) ⟨rfl, rfl, by decide, by decide⟩ (by decide) rfl rfl (Nat.le_of_ble_eq_true rfl) (⟨W0, hsz, h4⟩) (fun r3 F1 q2 => ?_)
  obtain ⟨eq2, rq2⟩ := q2
  subst eq2 rq2
  refine jr_if_eq (tgt := 48) hE dX4_hasToldNonce_5 (by decide) (fun c_5 => absurd c_5 (b2i_nz (hm_u hu h4))) (fun c_5 => ?_)
  refine jr_aload_n hE dX4_hasToldNonce_8 0 rfl ?_
  refine jr_get hE dX4_hasToldNonce_9 f28 W0.o7 rfl ?_
  refine jr_iload_n hE dX4_hasToldNonce_12 1 rfl ?_
  obtain ⟨f4, ja4, ga4⟩ := W0.aM
  refine jr_aald (v := c (29 + u)) hE dX4_hasToldNonce_13 ja4 rfl (vp_in_nI (n := u) (by omega) (by decide)) (by rw [nI_clamp (by omega)]; exact ga4 u (by omega)) ?_
  refine jr_get hE dX4_hasToldNonce_14 f122 (W0.oM u (by omega)) rfl ?_
  rw [show v (6 + 2 * u) = (bi hn) from hhn]
  refine jr_if_eq (tgt := 48) hE dX4_hasToldNonce_17 (by decide) (fun c17 => ?_) (fun c17 => ?_)
  · refine jr_iconst (v := (0 : Int32)) hE dX4_hasToldNonce_48 (by decide) ?_
    exact hR F _ _ _ dX4_hasToldNonce_49 rfl ⟨rfl, (b2i_f (fun h => absurd h.1 (by rw [bi_0 c17]; decide))).symm⟩
  · refine jr_aload_n hE dX4_hasToldNonce_20 0 rfl ?_
    refine jr_get hE dX4_hasToldNonce_21 f28 W0.o7 rfl ?_
    refine jr_iload_n hE dX4_hasToldNonce_24 1 rfl ?_
    obtain ⟨f5, ja5, ga5⟩ := W0.aM
    refine jr_aald (v := c (29 + u)) hE dX4_hasToldNonce_25 ja5 rfl (vp_in_nI (n := u) (by omega) (by decide)) (by rw [nI_clamp (by omega)]; exact ga5 u (by omega)) ?_
    refine jr_get hE dX4_hasToldNonce_26 f230 (W0.oM u (by omega)) rfl ?_
    refine jr_aload_n hE dX4_hasToldNonce_29 0 rfl ?_
    refine jr_get hE dX4_hasToldNonce_30 f28 W0.o7 rfl ?_
    refine jr_iload_n hE dX4_hasToldNonce_33 1 rfl ?_
    obtain ⟨f6, ja6, ga6⟩ := W0.aM
    refine jr_aald (v := c (29 + u)) hE dX4_hasToldNonce_34 ja6 rfl (vp_in_nI (n := u) (by omega) (by decide)) (by rw [nI_clamp (by omega)]; exact ga6 u (by omega)) ?_
    refine jr_get hE dX4_hasToldNonce_35 f243 (W0.oM u (by omega)) rfl ?_
    refine jr_kVi (ci := 0) (n := 1) (As := [.ref (c (270 + 2 * (40 + 3 * u)))]) (rest := []) hE dX4_hasToldNonce_38 (fun l => c_X0_isLike l G (c (270 + 2 * (39 + 3 * u))) (c (271 + 2 * (39 + 3 * u))) (bcap (39 + 3 * u)) (c (270 + 2 * (40 + 3 * u))) (c (271 + 2 * (40 + 3 * u))) (bcap (40 + 3 * u)) (B (39 + 3 * u)) (B (40 + 3 * u))) gX4_hasToldNonce_X0_isLike rfl ((W0.by (39 + 3 * u) (by omega)).ob) rfl (by decide +kernel) ⟨rfl, rfl, by decide, by decide⟩ (by decide) rfl rfl (Nat.le_of_ble_eq_true rfl) (⟨(by have q := W0.by (39 + 3 * u) (by omega); rw [show B (39 + 3 * u) = (B (39 + 3 * u)) from rfl] at q; exact q), (by have q := W0.by (40 + 3 * u) (by omega); rw [show B (40 + 3 * u) = (B (40 + 3 * u)) from rfl] at q; exact q)⟩) (fun r9 F7 q8 => ?_)
    obtain ⟨eq8, rq8⟩ := q8
    subst eq8 rq8
    refine jr_if_eq (tgt := 48) hE dX4_hasToldNonce_41 (by decide) (fun c41 => ?_) (fun c41 => ?_)
    · refine jr_iconst (v := (0 : Int32)) hE dX4_hasToldNonce_48 (by decide) ?_
      exact hR F _ _ _ dX4_hasToldNonce_49 rfl ⟨rfl, (b2i_f (fun h => b2i_0 c41 h.2)).symm⟩
    · refine jr_iconst (v := (1 : Int32)) hE dX4_hasToldNonce_44 (by decide) ?_
      refine jr_goto (tgt := 49) hE dX4_hasToldNonce_45 (by decide) ?_
      exact hR F _ _ _ dX4_hasToldNonce_49 rfl ⟨rfl, (b2i_t ⟨bi_1 c17, b2i_1 c41⟩).symm⟩

set_option maxHeartbeats 4000000 in
set_option maxRecDepth 100000 in
theorem c_g_weighChallenge (l : Launch) (G : Nat → ClassId) (c : Nat → Nat) (B : Nat → List Nat) (S : Nat → Nat) (P : Nat → JP) (q : SS) (X : Nat) (v : Nat → Int32) (u : Nat) (jo : Bool) : jKv l yX4_weighChallenge wsX4_weighChallenge ({ frames := 3, cells := 0, slots := 0, locals := 73 }) G [.ref (c 7), .ref (c (29 + u))] (fun L F => CW G L F c B S P q X v ∧ u < 4 ∧ v 4 = bi jo ∧ S 6 < NN ∧ S (18 + 3 * u) < NN) (fun L F F1 => ∃ S', CW G L F1 c B S' P q X v ∧ (∀ i, i ∉ [8] → S' i = S i) ∧ S' 8 = ngN jo (S 6 * S (18 + 3 * u) % NN) ∧ cO c F F1) := by
  refine jm_kv (cc := cX4_weighChallenge) (maxL := 2) (by decide) rfl (Nat.le_of_ble_eq_true rfl) ?_
  intro E L F hE hR hpre
  have hE : jOk E G _ cX4_weighChallenge 2 RX4 wsX4_weighChallenge := hE
  obtain ⟨W0, hu, hjo, h6, hw⟩ := hpre
  have f57 : jFl RX4 wsX4_weighChallenge 57 4 14 := ⟨rfl, by decide, by decide +kernel, by decide +kernel⟩
  have f51 : jFl RX4 wsX4_weighChallenge 51 4 12 := ⟨rfl, by decide, by decide +kernel, by decide +kernel⟩
  have f142 : jFl RX4 wsX4_weighChallenge 142 5 2 := ⟨rfl, by decide, by decide +kernel, by decide +kernel⟩
  have f73 : jFl RX4 wsX4_weighChallenge 73 4 18 := ⟨rfl, by decide, by decide +kernel, by decide +kernel⟩
  refine jr_aload_n hE dX4_weighChallenge_0 0 rfl ?_
  refine jr_get hE dX4_weighChallenge_1 f57 W0.o7 rfl ?_
  refine jr_aload_n hE dX4_weighChallenge_4 0 rfl ?_
  refine jr_get hE dX4_weighChallenge_5 f51 W0.o7 rfl ?_
  refine jr_aload_n hE dX4_weighChallenge_8 1 rfl ?_
  refine jr_get hE dX4_weighChallenge_9 f142 (W0.oM u (by omega)) rfl ?_
  refine jr_kVv (ci := 8) (n := 2) (As := [.ref (c (210 + 2 * 6)), .ref (c (210 + 2 * (18 + 3 * u)))]) (rest := []) hE dX4_weighChallenge_12 (fun l => c_X8_product l G (c (210 + 2 * 8)) (c (211 + 2 * 8)) (c (210 + 2 * 6)) (c (211 + 2 * 6)) (c (210 + 2 * (18 + 3 * u))) (c (211 + 2 * (18 + 3 * u))) (S 8) (S 6) (S (18 + 3 * u))) gX4_weighChallenge_X8_product rfl ((W0.sc 8 (by decide)).ob) rfl (by decide +kernel) ⟨rfl, rfl, by decide, by decide⟩ (by decide) rfl rfl (Nat.le_of_ble_eq_true rfl) (⟨(W0.sc 8 (by decide)), (by have q := W0.sc 6 (by decide); rw [show S 6 = (S 6) from rfl] at q; exact q), (by have q := W0.sc (18 + 3 * u) (by omega); rw [show S (18 + 3 * u) = (S (18 + 3 * u)) from rfl] at q; exact q), h6, hw, cnd W0.1 [210 + 2 * 8, 211 + 2 * 8, 210 + 2 * 6, 211 + 2 * 6, 210 + 2 * (18 + 3 * u), 211 + 2 * (18 + 3 * u)] (by simp only [List.mem_cons, List.not_mem_nil, or_false]; omega) (by simp only [List.nodup_cons, List.mem_cons, List.not_mem_nil, or_false, not_or, List.nodup_nil, not_false_eq_true, and_true]; omega)⟩) (fun F1 q2 => ?_)
  obtain ⟨h3, u3⟩ := q2
  obtain ⟨W3, P3⟩ := W0.setS (i := 8) (x := ((S 6) * (S (18 + 3 * u)) % NN)) (by decide) h3 u3
  have O3 := (cO.rf c F).tr P3
  obtain ⟨S3, eS3, hS3, yS3⟩ := uz_ab S 8 ((S 6) * (S (18 + 3 * u)) % NN)
  rw [eS3] at W3
  have nS3 : ∀ z, z ≠ 8 → S3 z = S z := fun z hz => hS3 z (fun e => hz (List.mem_singleton.mp e))
  refine jr_aload_n hE dX4_weighChallenge_15 0 rfl ?_
  refine jr_get hE dX4_weighChallenge_16 f73 W3.o7 rfl ?_
  rw [show v 4 = (bi jo) from hjo]
  refine jr_if_eq (tgt := 29) hE dX4_weighChallenge_19 (by decide) (fun c19 => ?_) (fun c19 => ?_)
  · exact hR F1 _ _ dX4_weighChallenge_29 ⟨_, W3, (fun z hz => (nS3 z (jne hz 0 rfl))), yS3.trans (by rw [ngN_0 (bi_0 c19)]), O3⟩
  · refine jr_aload_n hE dX4_weighChallenge_22 0 rfl ?_
    refine jr_get hE dX4_weighChallenge_23 f57 W3.o7 rfl ?_
    refine jr_kVv (ci := 8) (n := 0) (As := []) (rest := []) hE dX4_weighChallenge_26 (fun l => c_X8_negate l G (c (210 + 2 * 8)) (c (211 + 2 * 8)) ((S 6) * (S (18 + 3 * u)) % NN)) gX4_weighChallenge_X8_negate rfl ((W3.sc 8 (by decide)).ob) rfl (by decide +kernel) ⟨rfl, rfl, by decide, by decide⟩ (by decide) rfl rfl (Nat.le_of_ble_eq_true rfl) (⟨(by have q := W3.sc 8 (by decide); rw [show S3 8 = ((S 6) * (S (18 + 3 * u)) % NN) from yS3] at q; exact q), (Nat.mod_lt _ NN0)⟩) (fun F4 q5 => ?_)
    rw [ngN_if] at q5
    obtain ⟨h6, u6⟩ := q5
    obtain ⟨W6, P6⟩ := W3.setS (i := 8) (x := (ngN true ((S 6) * (S (18 + 3 * u)) % NN))) (by decide) h6 u6
    have O6 := O3.tr P6
    obtain ⟨S6, eS6, hS6, yS6⟩ := uz_ab S3 8 (ngN true ((S 6) * (S (18 + 3 * u)) % NN))
    rw [eS6] at W6
    have nS6 : ∀ z, z ≠ 8 → S6 z = S3 z := fun z hz => hS6 z (fun e => hz (List.mem_singleton.mp e))
    exact hR F4 _ _ dX4_weighChallenge_29 ⟨_, W6, (fun z hz => ((nS6 z (jne hz 0 rfl)).trans (nS3 z (jne hz 0 rfl)))), yS6.trans (by rw [bi_1 c19]), O6⟩

set_option maxHeartbeats 4000000 in
set_option maxRecDepth 100000 in
theorem c_g_takePart (l : Launch) (G : Nat → ClassId) (c : Nat → Nat) (B : Nat → List Nat) (S : Nat → Nat) (P : Nat → JP) (q : SS) (X : Nat) (v : Nat → Int32) (k : Nat) : jKi l yX4_takePart wsX4_takePart ({ frames := 3, cells := 0, slots := 0, locals := 69 }) G [.ref (c 7), .ref (c (270 + 2 * k))] (fun L F => CW G L F c B S P q X v ∧ k < 16 ∧ (B k).length = 32) (fun L F r F1 => ∃ S', CW G L F1 c B S' P q X v ∧ (∀ i, i ∉ [7] → S' i = S i) ∧ S' 7 = bnum (B k) ∧ r = b2i (bnum (B k) < NN) ∧ cO c F F1) := by
  refine jm_ki (cc := cX4_takePart) (maxL := 2) (rt := .boolean) (by decide) rfl (Nat.le_of_ble_eq_true rfl) ?_
  intro E L F hE hR hpre
  have hE : jOk E G _ cX4_takePart 2 RX4 wsX4_takePart := hE
  obtain ⟨W0, hk, hl⟩ := hpre
  have f54 : jFl RX4 wsX4_takePart 54 4 13 := ⟨rfl, by decide, by decide +kernel, by decide +kernel⟩
  refine jr_aload_n hE dX4_takePart_0 0 rfl ?_
  refine jr_get hE dX4_takePart_1 f54 W0.o7 rfl ?_
  refine jr_aload_n hE dX4_takePart_4 1 rfl ?_
  refine jr_iconst (v := (0 : Int32)) hE dX4_takePart_5 (by decide) ?_
  refine jr_kVi (ci := 8) (n := 2) (As := [.ref (c (270 + 2 * k)), .int (0 : Int32)]) (rest := []) hE dX4_takePart_6 (fun l => c_X8_take l G (c (210 + 2 * 7)) (c (211 + 2 * 7)) (c (270 + 2 * k)) (c (271 + 2 * k)) (bcap k) 0 (S 7) (B k)) gX4_takePart_X8_take rfl ((W0.sc 7 (by decide)).ob) rfl (by decide +kernel) ⟨rfl, rfl, by decide, by decide⟩ (by decide) rfl rfl (Nat.le_of_ble_eq_true rfl) (⟨(W0.sc 7 (by decide)), (by have q := W0.by k (by omega); rw [show B k = (B k) from rfl] at q; exact q), by omega, cnd W0.1 [210 + 2 * 7, 211 + 2 * 7, 270 + 2 * k, 271 + 2 * k] (by simp only [List.mem_cons, List.not_mem_nil, or_false]; omega) (by simp only [List.nodup_cons, List.mem_cons, List.not_mem_nil, or_false, not_or, List.nodup_nil, not_false_eq_true, and_true]; omega)⟩) (fun r3 F1 q2 => ?_)
  obtain ⟨h4, u4, r3e⟩ := q2
  rw [show bnum (((B k).drop 0).take 32) = (bnum (B k)) from by rw [dt0 hl]] at h4 r3e
  subst r3e
  have hu4 := And.intro h4 u4
  obtain ⟨h5, u5⟩ := hu4
  obtain ⟨W5, P5⟩ := W0.setS (i := 7) (x := (bnum (B k))) (by decide) h5 u5
  have O5 := (cO.rf c F).tr P5
  obtain ⟨S5, eS5, hS5, yS5⟩ := uz_ab S 7 (bnum (B k))
  rw [eS5] at W5
  have nS5 : ∀ z, z ≠ 7 → S5 z = S z := fun z hz => hS5 z (fun e => hz (List.mem_singleton.mp e))
  exact hR F1 _ _ _ dX4_takePart_9 (b2i_z _) ⟨_, W5, (fun z hz => (nS5 z (jne hz 0 rfl))), yS5, rfl, O5⟩

set_option maxHeartbeats 4000000 in
set_option maxRecDepth 100000 in
theorem c_g_beginSum (l : Launch) (G : Nat → ClassId) (c : Nat → Nat) (B : Nat → List Nat) (S : Nat → Nat) (P : Nat → JP) (q : SS) (X : Nat) (v : Nat → Int32) : jKv l yX4_beginSum wsX4_beginSum ({ frames := 1, cells := 0, slots := 0, locals := 23 }) G [.ref (c 7)] (fun L F => CW G L F c B S P q X v) (fun L F F1 => ∃ S', CW G L F1 c B S' P q X v ∧ (∀ i, i ∉ [9] → S' i = S i) ∧ S' 9 = 0 ∧ cO c F F1) := by
  refine jm_kv (cc := cX4_beginSum) (maxL := 1) (by decide) rfl (Nat.le_of_ble_eq_true rfl) ?_
  intro E L F hE hR hpre
  have hE : jOk E G _ cX4_beginSum 1 RX4 wsX4_beginSum := hE
  have W0 := hpre
  have f60 : jFl RX4 wsX4_beginSum 60 4 15 := ⟨rfl, by decide, by decide +kernel, by decide +kernel⟩
  refine jr_aload_n hE dX4_beginSum_0 0 rfl ?_
  refine jr_get hE dX4_beginSum_1 f60 W0.o7 rfl ?_
  refine jr_lconst (v := (0 : Int64)) hE dX4_beginSum_4 (by decide) ?_
  refine jr_kVv (ci := 8) (n := 1) (As := [.long (0 : Int64)]) (rest := []) hE dX4_beginSum_5 (fun l => c_X8_becomeNumber l G (c (210 + 2 * 9)) (c (211 + 2 * 9)) (S 9) 0) gX4_beginSum_X8_becomeNumber rfl ((W0.sc 9 (by decide)).ob) rfl (by decide +kernel) ⟨rfl, rfl, by decide, by decide⟩ (by decide) rfl rfl (Nat.le_of_ble_eq_true rfl) (⟨(W0.sc 9 (by decide)), by decide⟩) (fun F1 q2 => ?_)
  obtain ⟨h3, u3⟩ := q2
  obtain ⟨W3, P3⟩ := W0.setS (i := 9) (x := 0) (by decide) h3 u3
  have O3 := (cO.rf c F).tr P3
  obtain ⟨S3, eS3, hS3, yS3⟩ := uz_ab S 9 0
  rw [eS3] at W3
  have nS3 : ∀ z, z ≠ 9 → S3 z = S z := fun z hz => hS3 z (fun e => hz (List.mem_singleton.mp e))
  exact hR F1 _ _ dX4_beginSum_8 ⟨_, W3, (fun z hz => (nS3 z (jne hz 0 rfl))), yS3, O3⟩

set_option maxHeartbeats 4000000 in
set_option maxRecDepth 100000 in
theorem c_g_addToSum (l : Launch) (G : Nat → ClassId) (c : Nat → Nat) (B : Nat → List Nat) (S : Nat → Nat) (P : Nat → JP) (q : SS) (X : Nat) (v : Nat → Int32) : jKv l yX4_addToSum wsX4_addToSum ({ frames := 3, cells := 0, slots := 0, locals := 74 }) G [.ref (c 7)] (fun L F => CW G L F c B S P q X v ∧ S 7 < NN ∧ S 9 < NN) (fun L F F1 => ∃ S', CW G L F1 c B S' P q X v ∧ (∀ i, i ∉ [9] → S' i = S i) ∧ S' 9 = (S 9 + S 7) % NN ∧ cO c F F1) := by
  refine jm_kv (cc := cX4_addToSum) (maxL := 1) (by decide) rfl (Nat.le_of_ble_eq_true rfl) ?_
  intro E L F hE hR hpre
  have hE : jOk E G _ cX4_addToSum 1 RX4 wsX4_addToSum := hE
  obtain ⟨W0, h7, h9⟩ := hpre
  have f60 : jFl RX4 wsX4_addToSum 60 4 15 := ⟨rfl, by decide, by decide +kernel, by decide +kernel⟩
  have f54 : jFl RX4 wsX4_addToSum 54 4 13 := ⟨rfl, by decide, by decide +kernel, by decide +kernel⟩
  refine jr_aload_n hE dX4_addToSum_0 0 rfl ?_
  refine jr_get hE dX4_addToSum_1 f60 W0.o7 rfl ?_
  refine jr_aload_n hE dX4_addToSum_4 0 rfl ?_
  refine jr_get hE dX4_addToSum_5 f60 W0.o7 rfl ?_
  refine jr_aload_n hE dX4_addToSum_8 0 rfl ?_
  refine jr_get hE dX4_addToSum_9 f54 W0.o7 rfl ?_
  refine jr_kVv (ci := 8) (n := 2) (As := [.ref (c (210 + 2 * 9)), .ref (c (210 + 2 * 7))]) (rest := []) hE dX4_addToSum_12 (fun l => c_X8_sum l G (c (210 + 2 * 9)) (c (211 + 2 * 9)) (c (210 + 2 * 7)) (c (211 + 2 * 7)) (S 9) (S 7)) gX4_addToSum_X8_sum rfl ((W0.sc 9 (by decide)).ob) rfl (by decide +kernel) ⟨rfl, rfl, by decide, by decide⟩ (by decide) rfl rfl (Nat.le_of_ble_eq_true rfl) (⟨(by have q := W0.sc 9 (by decide); rw [show S 9 = (S 9) from rfl] at q; exact q), (by have q := W0.sc 7 (by decide); rw [show S 7 = (S 7) from rfl] at q; exact q), Nat.lt_trans h9 NN_256, Nat.lt_trans h7 NN_256, cnd W0.1 [210 + 2 * 9, 211 + 2 * 9, 210 + 2 * 7, 211 + 2 * 7] (by decide) (by decide)⟩) (fun F1 q2 => ?_)
  obtain ⟨h3, u3⟩ := q2
  obtain ⟨W3, P3⟩ := W0.setS (i := 9) (x := (((S 9) + (S 7)) % NN)) (by decide) h3 u3
  have O3 := (cO.rf c F).tr P3
  obtain ⟨S3, eS3, hS3, yS3⟩ := uz_ab S 9 (((S 9) + (S 7)) % NN)
  rw [eS3] at W3
  have nS3 : ∀ z, z ≠ 9 → S3 z = S z := fun z hz => hS3 z (fun e => hz (List.mem_singleton.mp e))
  exact hR F1 _ _ dX4_addToSum_15 ⟨_, W3, (fun z hz => (nS3 z (jne hz 0 rfl))), yS3, O3⟩

set_option maxHeartbeats 4000000 in
set_option maxRecDepth 100000 in
theorem c_g_tellSum (l : Launch) (G : Nat → ClassId) (c : Nat → Nat) (B : Nat → List Nat) (S : Nat → Nat) (P : Nat → JP) (q : SS) (X : Nat) (v : Nat → Int32) : jKv l yX4_tellSum wsX4_tellSum ({ frames := 4, cells := 0, slots := 0, locals := 87 }) G [.ref (c 7), .ref (c (270 + 2 * 16))] (fun L F => CW G L F c B S P q X v ∧ (B 25).length = 32) (fun L F F1 => ∃ B', CW G L F1 c B' S P q X v ∧ (∀ i, i ∉ [16] → B' i = B i) ∧ B' 16 = B 25 ++ bex (S 9) 32 ∧ cO c F F1) := by
  refine jm_kv (cc := cX4_tellSum) (maxL := 2) (by decide) rfl (Nat.le_of_ble_eq_true rfl) ?_
  intro E L F hE hR hpre
  have hE : jOk E G _ cX4_tellSum 2 RX4 wsX4_tellSum := hE
  obtain ⟨W0, hl⟩ := hpre
  have f41 : jFl RX4 wsX4_tellSum 41 4 10 := ⟨rfl, by decide, by decide +kernel, by decide +kernel⟩
  have f60 : jFl RX4 wsX4_tellSum 60 4 15 := ⟨rfl, by decide, by decide +kernel, by decide +kernel⟩
  refine jr_aload_n hE dX4_tellSum_0 1 rfl ?_
  refine jr_aload_n hE dX4_tellSum_1 0 rfl ?_
  refine jr_get hE dX4_tellSum_2 f41 W0.o7 rfl ?_
  refine jr_kVv (ci := 0) (n := 1) (As := [.ref (c (270 + 2 * 25))]) (rest := []) hE dX4_tellSum_5 (fun l => c_X0_become l G (c (270 + 2 * 16)) (c (271 + 2 * 16)) (bcap 16) (c (270 + 2 * 25)) (c (271 + 2 * 25)) (bcap 25) (B 16) (B 25)) gX4_tellSum_X0_become rfl ((W0.by 16 (by decide)).ob) rfl (by decide +kernel) ⟨rfl, rfl, by decide, by decide⟩ (by decide) rfl rfl (Nat.le_of_ble_eq_true rfl) (⟨W0.by 16 (by decide), (by have q := W0.by 25 (by decide); rw [show B 25 = (B 25) from rfl] at q; exact q), cnd W0.1 [270 + 2 * 16, 271 + 2 * 16, 270 + 2 * 25, 271 + 2 * 25] (by decide) (by decide), by rw [hl]; decide⟩) (fun F1 q2 => ?_)
  obtain ⟨h3, u3⟩ := q2
  obtain ⟨W3, P3⟩ := W0.setB (i := 16) (bs := (B 25)) (by decide) h3 u3
  have O3 := (cO.rf c F).tr P3
  obtain ⟨B3, eB3, hB3, yB3⟩ := uz_ab B 16 (B 25)
  rw [eB3] at W3
  have nB3 : ∀ z, z ≠ 16 → B3 z = B z := fun z hz => hB3 z (fun e => hz (List.mem_singleton.mp e))
  refine jr_aload_n hE dX4_tellSum_8 0 rfl ?_
  refine jr_get hE dX4_tellSum_9 f60 W3.o7 rfl ?_
  refine jr_aload_n hE dX4_tellSum_12 1 rfl ?_
  refine jr_kVv (ci := 8) (n := 1) (As := [.ref (c (270 + 2 * 16))]) (rest := []) hE dX4_tellSum_13 (fun l => c_X8_addTo l G (c (210 + 2 * 9)) (c (211 + 2 * 9)) (c (270 + 2 * 16)) (c (271 + 2 * 16)) (bcap 16) (S 9) (B 25)) gX4_tellSum_X8_addTo rfl ((W3.sc 9 (by decide)).ob) rfl (by decide +kernel) ⟨rfl, rfl, by decide, by decide⟩ (by decide) rfl rfl (Nat.le_of_ble_eq_true rfl) (⟨(by have q := W3.sc 9 (by decide); rw [show S 9 = (S 9) from rfl] at q; exact q), (by have q := W3.by 16 (by decide); rw [show B3 16 = (B 25) from yB3] at q; exact q), by rw [hl]; decide, cnd W3.1 [210 + 2 * 9, 211 + 2 * 9, 270 + 2 * 16, 271 + 2 * 16] (by decide) (by decide)⟩) (fun F4 q5 => ?_)
  obtain ⟨h6, u6⟩ := q5
  obtain ⟨W6, P6⟩ := W3.setB (i := 16) (bs := ((B 25) ++ bex (S 9) 32)) (by decide) h6 u6
  have O6 := O3.tr P6
  obtain ⟨B6, eB6, hB6, yB6⟩ := uz_ab B3 16 ((B 25) ++ bex (S 9) 32)
  rw [eB6] at W6
  have nB6 : ∀ z, z ≠ 16 → B6 z = B3 z := fun z hz => hB6 z (fun e => hz (List.mem_singleton.mp e))
  exact hR F4 _ _ dX4_tellSum_16 ⟨_, W6, (fun z hz => ((nB6 z (jne hz 0 rfl)).trans (nB3 z (jne hz 0 rfl)))), yB6, O6⟩

set_option maxHeartbeats 4000000 in
set_option maxRecDepth 100000 in
theorem c_g_tellNonce (l : Launch) (G : Nat → ClassId) (c : Nat → Nat) (B : Nat → List Nat) (S : Nat → Nat) (P : Nat → JP) (q : SS) (X : Nat) (v : Nat → Int32) (u sz : Nat) : jKv l yX4_tellNonce wsX4_tellNonce ({ frames := 5, cells := 0, slots := 0, locals := 148 }) G [.ref (c 7), .int (nI u), .ref (c (270 + 2 * 16))] (fun L F => CW G L F c B S P q X v ∧ v 2 = nI sz ∧ u < sz ∧ sz ≤ 4 ∧ S (19 + 3 * u) < NN ∧ S (20 + 3 * u) < NN ∧ rep (P 16) GE) (fun L F F1 => ∃ B' P', CW G L F1 c B' S P' q X v ∧ (∀ i, i ∉ [16, (39 + 3 * u)] → B' i = B i) ∧ (∀ i, i ∉ [19] → P' i = P i) ∧ B' (39 + 3 * u) = pbE (emul PP (S (19 + 3 * u)) GE) ++ pbE (emul PP (S (20 + 3 * u)) GE) ∧ B' 16 = pbE (emul PP (S (19 + 3 * u)) GE) ++ pbE (emul PP (S (20 + 3 * u)) GE) ∧ cO c F F1) := by
  refine jm_kv (cc := cX4_tellNonce) (maxL := 4) (by decide) rfl (Nat.le_of_ble_eq_true rfl) ?_
  intro E L F hE hR hpre
  have hE : jOk E G _ cX4_tellNonce 4 RX4 wsX4_tellNonce := hE
  obtain ⟨W0, hsz, hu, h4, k1, k2, hG⟩ := hpre
  have f28 : jFl RX4 wsX4_tellNonce 28 4 6 := ⟨rfl, by decide, by decide +kernel, by decide +kernel⟩
  have f230 : jFl RX4 wsX4_tellNonce 230 5 6 := ⟨rfl, by decide, by decide +kernel, by decide +kernel⟩
  have f93 : jFl RX4 wsX4_tellNonce 93 4 5 := ⟨rfl, by decide, by decide +kernel, by decide +kernel⟩
  have f66 : jFl RX4 wsX4_tellNonce 66 4 16 := ⟨rfl, by decide, by decide +kernel, by decide +kernel⟩
  have f233 : jFl RX4 wsX4_tellNonce 233 2 0 := ⟨rfl, by decide, by decide +kernel, by decide +kernel⟩
  have f214 : jFl RX4 wsX4_tellNonce 214 5 4 := ⟨rfl, by decide, by decide +kernel, by decide +kernel⟩
  have f220 : jFl RX4 wsX4_tellNonce 220 5 5 := ⟨rfl, by decide, by decide +kernel, by decide +kernel⟩
  refine jr_aload_n hE dX4_tellNonce_0 0 rfl ?_
  refine jr_iload_n hE dX4_tellNonce_1 1 rfl ?_
  refine jr_kVi (ci := 4) (n := 1) (As := [.int (nI u)]) (rest := []) hE dX4_tellNonce_2 (fun l => c_g_hasMember l G c B S P q X v (nI u) sz) gX4_tellNonce_X4_hasMember rfl W0.o7 rfl (by decide +kernel) ⟨rfl, rfl, by decide, by decide⟩ (by decide) rfl rfl (Nat.le_of_ble_eq_true rfl) (⟨W0, hsz, h4⟩) (fun r3 F1 q2 => ?_)
  obtain ⟨eq2, rq2⟩ := q2
  subst eq2 rq2
  refine jr_if_ne (tgt := 9) hE dX4_tellNonce_5 (by decide) (fun c5 => ?_) (fun c5 => ?_)
  · refine jr_aload_n hE dX4_tellNonce_9 0 rfl ?_
    refine jr_get hE dX4_tellNonce_10 f28 W0.o7 rfl ?_
    refine jr_iload_n hE dX4_tellNonce_13 1 rfl ?_
    obtain ⟨f4, ja4, ga4⟩ := W0.aM
    refine jr_aald (v := c (29 + u)) hE dX4_tellNonce_14 ja4 rfl (vp_in_nI (n := u) (by omega) (by decide)) (by rw [nI_clamp (by omega)]; exact ga4 u (by omega)) ?_
    refine jr_astore_n (lv' := [(3, .ref (c (29 + u))), (0, .ref (c 7)), (1, .int (nI u)), (2, .ref (c (270 + 2 * 16)))]) hE dX4_tellNonce_15 (by decide) rfl ?_
    refine jr_aload_n hE dX4_tellNonce_16 0 rfl ?_
    refine jr_get hE dX4_tellNonce_17 f230 (W0.oM u (by omega)) rfl ?_
    refine jr_kVv (ci := 0) (n := 0) (As := []) (rest := []) hE dX4_tellNonce_20 (fun l => c_X0_empty l G (c (270 + 2 * (39 + 3 * u))) (c (271 + 2 * (39 + 3 * u))) (bcap (39 + 3 * u)) (B (39 + 3 * u))) gX4_tellNonce_X0_empty rfl ((W0.by (39 + 3 * u) (by omega)).ob) rfl (by decide +kernel) ⟨rfl, rfl, by decide, by decide⟩ (by decide) rfl rfl (Nat.le_of_ble_eq_true rfl) (W0.by (39 + 3 * u) (by omega)) (fun F5 q6 => ?_)
    obtain ⟨h7, u7⟩ := q6
    obtain ⟨W7, P7⟩ := W0.setBo (i := (39 + 3 * u)) (bs := []) (by omega) h7 u7
    have O7 := (cO.rf c F).tr P7
    obtain ⟨B7, eB7, hB7, yB7⟩ := uz_ab B (39 + 3 * u) ([])
    rw [eB7] at W7
    have nB7 : ∀ z, z ≠ (39 + 3 * u) → B7 z = B z := fun z hz => hB7 z (fun e => hz (List.mem_singleton.mp e))
    refine jr_aload_n hE dX4_tellNonce_23 1 rfl ?_
    refine jr_get hE dX4_tellNonce_24 f93 W7.o7 rfl ?_
    refine jr_aload_n hE dX4_tellNonce_27 1 rfl ?_
    refine jr_get hE dX4_tellNonce_28 f66 W7.o7 rfl ?_
    refine jr_aload_n hE dX4_tellNonce_31 1 rfl ?_
    refine jr_get hE dX4_tellNonce_32 f93 W7.o7 rfl ?_
    refine jr_get hE dX4_tellNonce_35 f233 W7.cv rfl ?_
    refine jr_aload_n hE dX4_tellNonce_38 0 rfl ?_
    refine jr_get hE dX4_tellNonce_39 f214 (W7.oM u (by omega)) rfl ?_
    obtain ⟨f8, jm8, gm8⟩ := W7.cu.2.2.2.1
    have hk8 : S (19 + 3 * u) < 2 ^ 256 := by rw [show S (19 + 3 * u) = (S (19 + 3 * u)) from rfl]; exact Nat.lt_trans k1 NN_256
    refine jr_kVv (ci := 2) (n := 3) (As := [.ref (c (40 + 4 * 19)), .ref (c (40 + 4 * 16)), .ref (c (210 + 2 * (19 + 3 * u)))]) (rest := []) hE dX4_tellNonce_42 (fun l => c_X2_times l G (c 9) (c (40 + 4 * 16)) (c 11) (c 10) (c 12) (c 13) (c 14) (c 15) (c 16) (c 17) (c (40 + 4 * 19)) (c (41 + 4 * 19)) (c (42 + 4 * 19)) (c (43 + 4 * 19)) (c (40 + 4 * 16)) (c (41 + 4 * 16)) (c (42 + 4 * 16)) (c (43 + 4 * 16)) (c (210 + 2 * (19 + 3 * u))) (c (211 + 2 * (19 + 3 * u))) (S (19 + 3 * u)) f8 (fun i k => c (ck i k)) (P 19) (P 16)) gX4_tellNonce_X2_times rfl W7.cv rfl (by decide +kernel) ⟨rfl, rfl, by decide, by decide⟩ (by decide) rfl rfl (Nat.le_of_ble_eq_true rfl) (W7.timesPre jm8 gm8 19 16 (19 + 3 * u) (by decide) (by decide) (by decide) (by decide) (by omega) hk8) (fun F9 q10 => ?_)
    obtain ⟨W11, P11⟩ := W7.timesP gm8 (i := 19) (by decide) (by decide) q10
    have O11 := O7.tr P11
    obtain ⟨P11, eP11, hP11, yP11⟩ := uz_ab P 19 (tmJ (P 19) (P 16) (S (19 + 3 * u)))
    rw [eP11] at W11
    have nP11 : ∀ z, z ≠ 19 → P11 z = P z := fun z hz => hP11 z (fun e => hz (List.mem_singleton.mp e))
    have hr11 : rep (P11 19) (emul PP (S (19 + 3 * u)) GE) := by rw [yP11]; exact (by have q := rep_tm (O := P 19) hG hk8; rw [show S (19 + 3 * u) = (S (19 + 3 * u)) from rfl] at q ⊢; exact q)
    refine jr_aload_n hE dX4_tellNonce_45 1 rfl ?_
    refine jr_get hE dX4_tellNonce_46 f93 W11.o7 rfl ?_
    refine jr_aload_n hE dX4_tellNonce_49 1 rfl ?_
    refine jr_get hE dX4_tellNonce_50 f66 W11.o7 rfl ?_
    refine jr_kVv (ci := 2) (n := 1) (As := [.ref (c (40 + 4 * 19))]) (rest := []) hE dX4_tellNonce_53 (fun l => c_X2_settle l G (c 9) (c (40 + 4 * 16)) (c 11) (c 10) (c 12) (c 13) (c 14) (c 15) (c 16) (c 17) (c 18) (c 19) (c 20) (c 21) (c 22) (c 23) (c (40 + 4 * 19)) (c (41 + 4 * 19)) (c (42 + 4 * 19)) (c (43 + 4 * 19)) (P11 19)) gX4_tellNonce_X2_settle rfl W11.cv rfl (by decide +kernel) ⟨rfl, rfl, by decide, by decide⟩ (by decide) rfl rfl (Nat.le_of_ble_eq_true rfl) (W11.settlePre 19 (by decide) (by decide)) (fun F12 q13 => ?_)
    obtain ⟨g14, gp14, go14, h14, u14⟩ := q13
    obtain ⟨W14, P14⟩ := W11.settle (i := 19) (by decide) (by decide) g14 gp14 go14 h14 u14
    have O14 := O11.tr P14
    obtain ⟨P14, eP14, hP14, yP14⟩ := uz_ab P11 19 (stJ (P11 19))
    rw [eP14] at W14
    have nP14 : ∀ z, z ≠ 19 → P14 z = P11 z := fun z hz => hP14 z (fun e => hz (List.mem_singleton.mp e))
    have hr14 : stl (P14 19) (emul PP (S (19 + 3 * u)) GE) := by rw [yP14]; exact rep_stl hr11
    refine jr_aload_n hE dX4_tellNonce_56 1 rfl ?_
    refine jr_get hE dX4_tellNonce_57 f66 W14.o7 rfl ?_
    refine jr_aload_n hE dX4_tellNonce_60 0 rfl ?_
    refine jr_get hE dX4_tellNonce_61 f230 (W14.oM u (by omega)) rfl ?_
    refine jr_kVv (ci := 6) (n := 1) (As := [.ref (c (270 + 2 * (39 + 3 * u)))]) (rest := []) hE dX4_tellNonce_64 (fun l => c_X6_addTo l G (c (40 + 4 * 19)) (c (41 + 4 * 19)) (c (42 + 4 * 19)) (c (43 + 4 * 19)) (c (270 + 2 * (39 + 3 * u))) (c (271 + 2 * (39 + 3 * u))) (bcap (39 + 3 * u)) (P14 19) ([])) gX4_tellNonce_X6_addTo rfl ((W14.pt 19 (by decide) (by decide)).1) rfl (by decide +kernel) ⟨rfl, rfl, by decide, by decide⟩ (by decide) rfl rfl (Nat.le_of_ble_eq_true rfl) (⟨W14.pt 19 (by decide) (by decide), (by have q := W14.by (39 + 3 * u) (by omega); rw [show B7 (39 + 3 * u) = [] from yB7] at q; exact q), by rw [(bc_nb (by omega)).1]; decide, cnd W14.1 [40 + 4 * 19, 41 + 4 * 19, 42 + 4 * 19, 43 + 4 * 19, 270 + 2 * (39 + 3 * u), 271 + 2 * (39 + 3 * u)] (by simp only [List.mem_cons, List.not_mem_nil, or_false]; omega) (by simp only [List.nodup_cons, List.mem_cons, List.not_mem_nil, or_false, not_or, List.nodup_nil, not_false_eq_true, and_true]; omega)⟩) (fun F15 q16 => ?_)
    rw [hr14.ptb] at q16
    rw [List.nil_append] at q16
    obtain ⟨W17, P17⟩ := W14.paddP (i := 19) (k := (39 + 3 * u)) (by decide) (by decide) (by omega) q16
    have O17 := O14.tr P17
    obtain ⟨B17, eB17, hB17, yB17⟩ := uz_ab B7 (39 + 3 * u) (pbE (emul PP (S (19 + 3 * u)) GE))
    rw [eB17] at W17
    have nB17 : ∀ z, z ≠ (39 + 3 * u) → B17 z = B7 z := fun z hz => hB17 z (fun e => hz (List.mem_singleton.mp e))
    refine jr_aload_n hE dX4_tellNonce_67 1 rfl ?_
    refine jr_get hE dX4_tellNonce_68 f93 W17.o7 rfl ?_
    refine jr_aload_n hE dX4_tellNonce_71 1 rfl ?_
    refine jr_get hE dX4_tellNonce_72 f66 W17.o7 rfl ?_
    refine jr_aload_n hE dX4_tellNonce_75 1 rfl ?_
    refine jr_get hE dX4_tellNonce_76 f93 W17.o7 rfl ?_
    refine jr_get hE dX4_tellNonce_79 f233 W17.cv rfl ?_
    refine jr_aload_n hE dX4_tellNonce_82 0 rfl ?_
    refine jr_get hE dX4_tellNonce_83 f220 (W17.oM u (by omega)) rfl ?_
    have hp18 : rep (P14 16) GE := by rw [show P14 16 = P 16 from ((nP14 16 (by decide)).trans (nP11 16 (by decide)))]; exact hG
    obtain ⟨f19, jm19, gm19⟩ := W17.cu.2.2.2.1
    have hk19 : S (20 + 3 * u) < 2 ^ 256 := by rw [show S (20 + 3 * u) = (S (20 + 3 * u)) from rfl]; exact Nat.lt_trans k2 NN_256
    refine jr_kVv (ci := 2) (n := 3) (As := [.ref (c (40 + 4 * 19)), .ref (c (40 + 4 * 16)), .ref (c (210 + 2 * (20 + 3 * u)))]) (rest := []) hE dX4_tellNonce_86 (fun l => c_X2_times l G (c 9) (c (40 + 4 * 16)) (c 11) (c 10) (c 12) (c 13) (c 14) (c 15) (c 16) (c 17) (c (40 + 4 * 19)) (c (41 + 4 * 19)) (c (42 + 4 * 19)) (c (43 + 4 * 19)) (c (40 + 4 * 16)) (c (41 + 4 * 16)) (c (42 + 4 * 16)) (c (43 + 4 * 16)) (c (210 + 2 * (20 + 3 * u))) (c (211 + 2 * (20 + 3 * u))) (S (20 + 3 * u)) f19 (fun i k => c (ck i k)) (P14 19) (P14 16)) gX4_tellNonce_X2_times rfl W17.cv rfl (by decide +kernel) ⟨rfl, rfl, by decide, by decide⟩ (by decide) rfl rfl (Nat.le_of_ble_eq_true rfl) (W17.timesPre jm19 gm19 19 16 (20 + 3 * u) (by decide) (by decide) (by decide) (by decide) (by omega) hk19) (fun F20 q21 => ?_)
    obtain ⟨W22, P22⟩ := W17.timesP gm19 (i := 19) (by decide) (by decide) q21
    have O22 := O17.tr P22
    obtain ⟨P22, eP22, hP22, yP22⟩ := uz_ab P14 19 (tmJ (P14 19) (P14 16) (S (20 + 3 * u)))
    rw [eP22] at W22
    have nP22 : ∀ z, z ≠ 19 → P22 z = P14 z := fun z hz => hP22 z (fun e => hz (List.mem_singleton.mp e))
    have hr22 : rep (P22 19) (emul PP (S (20 + 3 * u)) GE) := by rw [yP22]; exact (by have q := rep_tm (O := P14 19) hp18 hk19; rw [show S (20 + 3 * u) = (S (20 + 3 * u)) from rfl] at q ⊢; exact q)
    refine jr_aload_n hE dX4_tellNonce_89 1 rfl ?_
    refine jr_get hE dX4_tellNonce_90 f93 W22.o7 rfl ?_
    refine jr_aload_n hE dX4_tellNonce_93 1 rfl ?_
    refine jr_get hE dX4_tellNonce_94 f66 W22.o7 rfl ?_
    refine jr_kVv (ci := 2) (n := 1) (As := [.ref (c (40 + 4 * 19))]) (rest := []) hE dX4_tellNonce_97 (fun l => c_X2_settle l G (c 9) (c (40 + 4 * 16)) (c 11) (c 10) (c 12) (c 13) (c 14) (c 15) (c 16) (c 17) (c 18) (c 19) (c 20) (c 21) (c 22) (c 23) (c (40 + 4 * 19)) (c (41 + 4 * 19)) (c (42 + 4 * 19)) (c (43 + 4 * 19)) (P22 19)) gX4_tellNonce_X2_settle rfl W22.cv rfl (by decide +kernel) ⟨rfl, rfl, by decide, by decide⟩ (by decide) rfl rfl (Nat.le_of_ble_eq_true rfl) (W22.settlePre 19 (by decide) (by decide)) (fun F23 q24 => ?_)
    obtain ⟨g25, gp25, go25, h25, u25⟩ := q24
    obtain ⟨W25, P25⟩ := W22.settle (i := 19) (by decide) (by decide) g25 gp25 go25 h25 u25
    have O25 := O22.tr P25
    obtain ⟨P25, eP25, hP25, yP25⟩ := uz_ab P22 19 (stJ (P22 19))
    rw [eP25] at W25
    have nP25 : ∀ z, z ≠ 19 → P25 z = P22 z := fun z hz => hP25 z (fun e => hz (List.mem_singleton.mp e))
    have hr25 : stl (P25 19) (emul PP (S (20 + 3 * u)) GE) := by rw [yP25]; exact rep_stl hr22
    refine jr_aload_n hE dX4_tellNonce_100 1 rfl ?_
    refine jr_get hE dX4_tellNonce_101 f66 W25.o7 rfl ?_
    refine jr_aload_n hE dX4_tellNonce_104 0 rfl ?_
    refine jr_get hE dX4_tellNonce_105 f230 (W25.oM u (by omega)) rfl ?_
    refine jr_kVv (ci := 6) (n := 1) (As := [.ref (c (270 + 2 * (39 + 3 * u)))]) (rest := []) hE dX4_tellNonce_108 (fun l => c_X6_addTo l G (c (40 + 4 * 19)) (c (41 + 4 * 19)) (c (42 + 4 * 19)) (c (43 + 4 * 19)) (c (270 + 2 * (39 + 3 * u))) (c (271 + 2 * (39 + 3 * u))) (bcap (39 + 3 * u)) (P25 19) (pbE (emul PP (S (19 + 3 * u)) GE))) gX4_tellNonce_X6_addTo rfl ((W25.pt 19 (by decide) (by decide)).1) rfl (by decide +kernel) ⟨rfl, rfl, by decide, by decide⟩ (by decide) rfl rfl (Nat.le_of_ble_eq_true rfl) (⟨W25.pt 19 (by decide) (by decide), (by have q := W25.by (39 + 3 * u) (by omega); rw [show B17 (39 + 3 * u) = (pbE (emul PP (S (19 + 3 * u)) GE)) from yB17] at q; exact q), by rw [(bc_nb (by omega)).1, pbE_len]; decide, cnd W25.1 [40 + 4 * 19, 41 + 4 * 19, 42 + 4 * 19, 43 + 4 * 19, 270 + 2 * (39 + 3 * u), 271 + 2 * (39 + 3 * u)] (by simp only [List.mem_cons, List.not_mem_nil, or_false]; omega) (by simp only [List.nodup_cons, List.mem_cons, List.not_mem_nil, or_false, not_or, List.nodup_nil, not_false_eq_true, and_true]; omega)⟩) (fun F26 q27 => ?_)
    rw [hr25.ptb] at q27
    obtain ⟨W28, P28⟩ := W25.paddP (i := 19) (k := (39 + 3 * u)) (by decide) (by decide) (by omega) q27
    have O28 := O25.tr P28
    obtain ⟨B28, eB28, hB28, yB28⟩ := uz_ab B17 (39 + 3 * u) ((pbE (emul PP (S (19 + 3 * u)) GE)) ++ pbE (emul PP (S (20 + 3 * u)) GE))
    rw [eB28] at W28
    have nB28 : ∀ z, z ≠ (39 + 3 * u) → B28 z = B17 z := fun z hz => hB28 z (fun e => hz (List.mem_singleton.mp e))
    refine jr_aload_n hE dX4_tellNonce_111 3 rfl ?_
    refine jr_aload_n hE dX4_tellNonce_112 0 rfl ?_
    refine jr_get hE dX4_tellNonce_113 f230 (W28.oM u (by omega)) rfl ?_
    refine jr_kVv (ci := 0) (n := 1) (As := [.ref (c (270 + 2 * (39 + 3 * u)))]) (rest := []) hE dX4_tellNonce_116 (fun l => c_X0_become l G (c (270 + 2 * 16)) (c (271 + 2 * 16)) (bcap 16) (c (270 + 2 * (39 + 3 * u))) (c (271 + 2 * (39 + 3 * u))) (bcap (39 + 3 * u)) (B28 16) ((pbE (emul PP (S (19 + 3 * u)) GE)) ++ pbE (emul PP (S (20 + 3 * u)) GE))) gX4_tellNonce_X0_become rfl ((W28.by 16 (by decide)).ob) rfl (by decide +kernel) ⟨rfl, rfl, by decide, by decide⟩ (by decide) rfl rfl (Nat.le_of_ble_eq_true rfl) (⟨W28.by 16 (by decide), (by have q := W28.by (39 + 3 * u) (by omega); rw [show B28 (39 + 3 * u) = ((pbE (emul PP (S (19 + 3 * u)) GE)) ++ pbE (emul PP (S (20 + 3 * u)) GE)) from yB28] at q; exact q), cnd W28.1 [270 + 2 * 16, 271 + 2 * 16, 270 + 2 * (39 + 3 * u), 271 + 2 * (39 + 3 * u)] (by simp only [List.mem_cons, List.not_mem_nil, or_false]; omega) (by simp only [List.nodup_cons, List.mem_cons, List.not_mem_nil, or_false, not_or, List.nodup_nil, not_false_eq_true, and_true]; omega), by rw [List.length_append, pbE_len, pbE_len]; decide⟩) (fun F29 q30 => ?_)
    obtain ⟨h31, u31⟩ := q30
    obtain ⟨W31, P31⟩ := W28.setB (i := 16) (bs := ((pbE (emul PP (S (19 + 3 * u)) GE)) ++ pbE (emul PP (S (20 + 3 * u)) GE))) (by decide) h31 u31
    have O31 := O28.tr P31
    obtain ⟨B31, eB31, hB31, yB31⟩ := uz_ab B28 16 ((pbE (emul PP (S (19 + 3 * u)) GE)) ++ pbE (emul PP (S (20 + 3 * u)) GE))
    rw [eB31] at W31
    have nB31 : ∀ z, z ≠ 16 → B31 z = B28 z := fun z hz => hB31 z (fun e => hz (List.mem_singleton.mp e))
    have hB32 : B31 (39 + 3 * u) = ((pbE (emul PP (S (19 + 3 * u)) GE)) ++ pbE (emul PP (S (20 + 3 * u)) GE)) := (nB31 (39 + 3 * u) (by omega)).trans yB28
    exact hR F29 _ _ dX4_tellNonce_119 ⟨_, _, W31, (fun z hz => ((nB31 z (by simp only [List.mem_cons, List.not_mem_nil, or_false, not_or] at hz; omega)).trans ((nB28 z (by simp only [List.mem_cons, List.not_mem_nil, or_false, not_or] at hz; omega)).trans ((nB17 z (by simp only [List.mem_cons, List.not_mem_nil, or_false, not_or] at hz; omega)).trans (nB7 z (by simp only [List.mem_cons, List.not_mem_nil, or_false, not_or] at hz; omega)))))), (fun z hz => ((nP25 z (by simp only [List.mem_cons, List.not_mem_nil, or_false, not_or] at hz; omega)).trans ((nP22 z (by simp only [List.mem_cons, List.not_mem_nil, or_false, not_or] at hz; omega)).trans ((nP14 z (by simp only [List.mem_cons, List.not_mem_nil, or_false, not_or] at hz; omega)).trans (nP11 z (by simp only [List.mem_cons, List.not_mem_nil, or_false, not_or] at hz; omega)))))), hB32, yB31, O31⟩
  · exact absurd (hm_u hu h4) (b2i_0 c5)

set_option maxHeartbeats 4000000 in
set_option maxRecDepth 100000 in
theorem c_g_makePart (l : Launch) (G : Nat → ClassId) (c : Nat → Nat) (B : Nat → List Nat) (S : Nat → Nat) (P : Nat → JP) (q : SS) (X : Nat) (v : Nat → Int32) (u sz : Nat) (jo ro : Bool) : jKv l yX4_makePart wsX4_makePart ({ frames := 4, cells := 0, slots := 0, locals := 94 }) G [.ref (c 7), .int (nI u), .ref (c (270 + 2 * 16))] (fun L F => CW G L F c B S P q X v ∧ v 2 = nI sz ∧ u < sz ∧ sz ≤ 4 ∧ v 4 = bi jo ∧ v 5 = bi ro ∧ S 0 < NN ∧ S 5 < NN ∧ S 6 < NN ∧ S (18 + 3 * u) < NN ∧ S (19 + 3 * u) < NN ∧ S (20 + 3 * u) < NN) (fun L F F1 => ∃ B' S' v', CW G L F1 c B' S' P q X v' ∧ (∀ i, i ∉ [16] → B' i = B i) ∧ (∀ i, i ∉ [7, 8, 9] → S' i = S i) ∧ (∀ i, i ∉ [(6 + 2 * u)] → v' i = v i) ∧ B' 16 = bex ((ngN ro ((S 5 * S (20 + 3 * u) % NN + S (19 + 3 * u)) % NN) + ngN jo (S 6 * S (18 + 3 * u) % NN) * S 0 % NN) % NN) 32 ∧ v' (6 + 2 * u) = 0 ∧ cO c F F1) := by
  refine jm_kv (cc := cX4_makePart) (maxL := 4) (by decide) rfl (Nat.le_of_ble_eq_true rfl) ?_
  intro E L F hE hR hpre
  have hE : jOk E G _ cX4_makePart 4 RX4 wsX4_makePart := hE
  obtain ⟨W0, hsz, hu, h4, hjo, hro, h0, h5, h6, hw, k1, k2⟩ := hpre
  have f28 : jFl RX4 wsX4_makePart 28 4 6 := ⟨rfl, by decide, by decide +kernel, by decide +kernel⟩
  have f54 : jFl RX4 wsX4_makePart 54 4 13 := ⟨rfl, by decide, by decide +kernel, by decide +kernel⟩
  have f47 : jFl RX4 wsX4_makePart 47 4 11 := ⟨rfl, by decide, by decide +kernel, by decide +kernel⟩
  have f220 : jFl RX4 wsX4_makePart 220 5 5 := ⟨rfl, by decide, by decide +kernel, by decide +kernel⟩
  have f214 : jFl RX4 wsX4_makePart 214 5 4 := ⟨rfl, by decide, by decide +kernel, by decide +kernel⟩
  have f76 : jFl RX4 wsX4_makePart 76 4 19 := ⟨rfl, by decide, by decide +kernel, by decide +kernel⟩
  have f60 : jFl RX4 wsX4_makePart 60 4 15 := ⟨rfl, by decide, by decide +kernel, by decide +kernel⟩
  have f57 : jFl RX4 wsX4_makePart 57 4 14 := ⟨rfl, by decide, by decide +kernel, by decide +kernel⟩
  have f83 : jFl RX4 wsX4_makePart 83 4 4 := ⟨rfl, by decide, by decide +kernel, by decide +kernel⟩
  have f271 : jFl RX4 wsX4_makePart 271 10 1 := ⟨rfl, by decide, by decide +kernel, by decide +kernel⟩
  have f122 : jFl RX4 wsX4_makePart 122 5 3 := ⟨rfl, by decide, by decide +kernel, by decide +kernel⟩
  refine jr_aload_n hE dX4_makePart_0 0 rfl ?_
  refine jr_iload_n hE dX4_makePart_1 1 rfl ?_
  refine jr_kVi (ci := 4) (n := 1) (As := [.int (nI u)]) (rest := []) hE dX4_makePart_2 (fun l => c_g_hasMember l G c B S P q X v (nI u) sz) gX4_makePart_X4_hasMember rfl W0.o7 rfl (by decide +kernel) ⟨rfl, rfl, by decide, by decide⟩ (by decide) rfl rfl (Nat.le_of_ble_eq_true rfl) (⟨W0, hsz, h4⟩) (fun r3 F1 q2 => ?_)
  obtain ⟨eq2, rq2⟩ := q2
  subst eq2 rq2
  refine jr_if_ne (tgt := 9) hE dX4_makePart_5 (by decide) (fun c5 => ?_) (fun c5 => ?_)
  · refine jr_aload_n hE dX4_makePart_9 0 rfl ?_
    refine jr_get hE dX4_makePart_10 f28 W0.o7 rfl ?_
    refine jr_iload_n hE dX4_makePart_13 1 rfl ?_
    obtain ⟨f4, ja4, ga4⟩ := W0.aM
    refine jr_aald (v := c (29 + u)) hE dX4_makePart_14 ja4 rfl (vp_in_nI (n := u) (by omega) (by decide)) (by rw [nI_clamp (by omega)]; exact ga4 u (by omega)) ?_
    refine jr_astore_n (lv' := [(3, .ref (c (29 + u))), (0, .ref (c 7)), (1, .int (nI u)), (2, .ref (c (270 + 2 * 16)))]) hE dX4_makePart_15 (by decide) rfl ?_
    refine jr_aload_n hE dX4_makePart_16 1 rfl ?_
    refine jr_get hE dX4_makePart_17 f54 W0.o7 rfl ?_
    refine jr_aload_n hE dX4_makePart_20 1 rfl ?_
    refine jr_get hE dX4_makePart_21 f47 W0.o7 rfl ?_
    refine jr_aload_n hE dX4_makePart_24 0 rfl ?_
    refine jr_get hE dX4_makePart_25 f220 (W0.oM u (by omega)) rfl ?_
    refine jr_kVv (ci := 8) (n := 2) (As := [.ref (c (210 + 2 * 5)), .ref (c (210 + 2 * (20 + 3 * u)))]) (rest := []) hE dX4_makePart_28 (fun l => c_X8_product l G (c (210 + 2 * 7)) (c (211 + 2 * 7)) (c (210 + 2 * 5)) (c (211 + 2 * 5)) (c (210 + 2 * (20 + 3 * u))) (c (211 + 2 * (20 + 3 * u))) (S 7) (S 5) (S (20 + 3 * u))) gX4_makePart_X8_product rfl ((W0.sc 7 (by decide)).ob) rfl (by decide +kernel) ⟨rfl, rfl, by decide, by decide⟩ (by decide) rfl rfl (Nat.le_of_ble_eq_true rfl) (⟨(W0.sc 7 (by decide)), (by have q := W0.sc 5 (by decide); rw [show S 5 = (S 5) from rfl] at q; exact q), (by have q := W0.sc (20 + 3 * u) (by omega); rw [show S (20 + 3 * u) = (S (20 + 3 * u)) from rfl] at q; exact q), h5, k2, cnd W0.1 [210 + 2 * 7, 211 + 2 * 7, 210 + 2 * 5, 211 + 2 * 5, 210 + 2 * (20 + 3 * u), 211 + 2 * (20 + 3 * u)] (by simp only [List.mem_cons, List.not_mem_nil, or_false]; omega) (by simp only [List.nodup_cons, List.mem_cons, List.not_mem_nil, or_false, not_or, List.nodup_nil, not_false_eq_true, and_true]; omega)⟩) (fun F5 q6 => ?_)
    obtain ⟨h7, u7⟩ := q6
    obtain ⟨W7, P7⟩ := W0.setS (i := 7) (x := ((S 5) * (S (20 + 3 * u)) % NN)) (by decide) h7 u7
    have O7 := (cO.rf c F).tr P7
    obtain ⟨S7, eS7, hS7, yS7⟩ := uz_ab S 7 ((S 5) * (S (20 + 3 * u)) % NN)
    rw [eS7] at W7
    have nS7 : ∀ z, z ≠ 7 → S7 z = S z := fun z hz => hS7 z (fun e => hz (List.mem_singleton.mp e))
    refine jr_aload_n hE dX4_makePart_31 1 rfl ?_
    refine jr_get hE dX4_makePart_32 f54 W7.o7 rfl ?_
    refine jr_aload_n hE dX4_makePart_35 1 rfl ?_
    refine jr_get hE dX4_makePart_36 f54 W7.o7 rfl ?_
    refine jr_aload_n hE dX4_makePart_39 0 rfl ?_
    refine jr_get hE dX4_makePart_40 f214 (W7.oM u (by omega)) rfl ?_
    have hS8 : S7 (19 + 3 * u) = (S (19 + 3 * u)) := (nS7 (19 + 3 * u) (by omega)).trans rfl
    refine jr_kVv (ci := 8) (n := 2) (As := [.ref (c (210 + 2 * 7)), .ref (c (210 + 2 * (19 + 3 * u)))]) (rest := []) hE dX4_makePart_43 (fun l => c_X8_sum l G (c (210 + 2 * 7)) (c (211 + 2 * 7)) (c (210 + 2 * (19 + 3 * u))) (c (211 + 2 * (19 + 3 * u))) ((S 5) * (S (20 + 3 * u)) % NN) (S (19 + 3 * u))) gX4_makePart_X8_sum rfl ((W7.sc 7 (by decide)).ob) rfl (by decide +kernel) ⟨rfl, rfl, by decide, by decide⟩ (by decide) rfl rfl (Nat.le_of_ble_eq_true rfl) (⟨(by have q := W7.sc 7 (by decide); rw [show S7 7 = ((S 5) * (S (20 + 3 * u)) % NN) from yS7] at q; exact q), (by have q := W7.sc (19 + 3 * u) (by omega); rw [show S7 (19 + 3 * u) = (S (19 + 3 * u)) from hS8] at q; exact q), Nat.lt_trans (Nat.mod_lt _ NN0) NN_256, Nat.lt_trans k1 NN_256, cnd W7.1 [210 + 2 * 7, 211 + 2 * 7, 210 + 2 * (19 + 3 * u), 211 + 2 * (19 + 3 * u)] (by simp only [List.mem_cons, List.not_mem_nil, or_false]; omega) (by simp only [List.nodup_cons, List.mem_cons, List.not_mem_nil, or_false, not_or, List.nodup_nil, not_false_eq_true, and_true]; omega)⟩) (fun F9 q10 => ?_)
    obtain ⟨h11, u11⟩ := q10
    obtain ⟨W11, P11⟩ := W7.setS (i := 7) (x := ((((S 5) * (S (20 + 3 * u)) % NN) + (S (19 + 3 * u))) % NN)) (by decide) h11 u11
    have O11 := O7.tr P11
    obtain ⟨S11, eS11, hS11, yS11⟩ := uz_ab S7 7 ((((S 5) * (S (20 + 3 * u)) % NN) + (S (19 + 3 * u))) % NN)
    rw [eS11] at W11
    have nS11 : ∀ z, z ≠ 7 → S11 z = S7 z := fun z hz => hS11 z (fun e => hz (List.mem_singleton.mp e))
    refine jr_aload_n hE dX4_makePart_46 1 rfl ?_
    refine jr_get hE dX4_makePart_47 f76 W11.o7 rfl ?_
    rw [show v 5 = (bi ro) from hro]
    refine jr_if_eq (tgt := 60) hE dX4_makePart_50 (by decide) (fun c50 => ?_) (fun c50 => ?_)
    · refine jr_aload_n hE dX4_makePart_60 1 rfl ?_
      refine jr_aload_n hE dX4_makePart_61 0 rfl ?_
      have hS12 : S11 6 = (S 6) := ((nS11 6 (by decide)).trans (nS7 6 (by decide))).trans rfl
      have hS13 : S11 (18 + 3 * u) = (S (18 + 3 * u)) := ((nS11 (18 + 3 * u) (by omega)).trans (nS7 (18 + 3 * u) (by omega))).trans rfl
      refine jr_kVv (ci := 4) (n := 1) (As := [.ref (c (29 + u))]) (rest := []) hE dX4_makePart_62 (fun l => c_g_weighChallenge l G c B S11 P q X v u jo) gX4_makePart_X4_weighChallenge rfl W11.o7 rfl (by decide +kernel) ⟨rfl, rfl, by decide, by decide⟩ (by decide) rfl rfl (Nat.le_of_ble_eq_true rfl) (⟨W11, by omega, hjo, (by rw [show S11 6 = S 6 from hS12]; exact h6), (by rw [show S11 (18 + 3 * u) = S (18 + 3 * u) from hS13]; exact hw)⟩) (fun F14 q15 => ?_)
      obtain ⟨S16, W16, hS16, f16_0, P16⟩ := q15
      have O16 := O11.tr P16
      have g16 := f16_0
      refine jr_aload_n hE dX4_makePart_65 1 rfl ?_
      refine jr_get hE dX4_makePart_66 f60 W16.o7 rfl ?_
      refine jr_aload_n hE dX4_makePart_69 1 rfl ?_
      refine jr_get hE dX4_makePart_70 f57 W16.o7 rfl ?_
      refine jr_aload_n hE dX4_makePart_73 1 rfl ?_
      refine jr_get hE dX4_makePart_74 f83 W16.o7 rfl ?_
      refine jr_get hE dX4_makePart_77 f271 W16.o6 rfl ?_
      have hS17 : S16 0 = (S 0) := ((hS16 0 (by decide)).trans ((nS11 0 (by decide)).trans (nS7 0 (by decide)))).trans rfl
      refine jr_kVv (ci := 8) (n := 2) (As := [.ref (c (210 + 2 * 8)), .ref (c (210 + 2 * 0))]) (rest := []) hE dX4_makePart_80 (fun l => c_X8_product l G (c (210 + 2 * 9)) (c (211 + 2 * 9)) (c (210 + 2 * 8)) (c (211 + 2 * 8)) (c (210 + 2 * 0)) (c (211 + 2 * 0)) (S16 9) (ngN jo (S 6 * S (18 + 3 * u) % NN)) (S 0)) gX4_makePart_X8_product rfl ((W16.sc 9 (by decide)).ob) rfl (by decide +kernel) ⟨rfl, rfl, by decide, by decide⟩ (by decide) rfl rfl (Nat.le_of_ble_eq_true rfl) (⟨(W16.sc 9 (by decide)), (by have q := W16.sc 8 (by decide); rw [show S16 8 = (ngN jo (S 6 * S (18 + 3 * u) % NN)) from (by have q := f16_0; rw [show S11 6 = S 6 from hS12, show S11 (18 + 3 * u) = S (18 + 3 * u) from hS13] at q; exact q)] at q; exact q), (by have q := W16.sc 0 (by decide); rw [show S16 0 = (S 0) from hS17] at q; exact q), (ngN_lt (Nat.mod_lt _ NN0)), h0, cnd W16.1 [210 + 2 * 9, 211 + 2 * 9, 210 + 2 * 8, 211 + 2 * 8, 210 + 2 * 0, 211 + 2 * 0] (by decide) (by decide)⟩) (fun F18 q19 => ?_)
      obtain ⟨h20, u20⟩ := q19
      obtain ⟨W20, P20⟩ := W16.setS (i := 9) (x := ((ngN jo (S 6 * S (18 + 3 * u) % NN)) * (S 0) % NN)) (by decide) h20 u20
      have O20 := O16.tr P20
      obtain ⟨S20, eS20, hS20, yS20⟩ := uz_ab S16 9 ((ngN jo (S 6 * S (18 + 3 * u) % NN)) * (S 0) % NN)
      rw [eS20] at W20
      have nS20 : ∀ z, z ≠ 9 → S20 z = S16 z := fun z hz => hS20 z (fun e => hz (List.mem_singleton.mp e))
      refine jr_aload_n hE dX4_makePart_83 1 rfl ?_
      refine jr_get hE dX4_makePart_84 f54 W20.o7 rfl ?_
      refine jr_aload_n hE dX4_makePart_87 1 rfl ?_
      refine jr_get hE dX4_makePart_88 f54 W20.o7 rfl ?_
      refine jr_aload_n hE dX4_makePart_91 1 rfl ?_
      refine jr_get hE dX4_makePart_92 f60 W20.o7 rfl ?_
      have hS21 : S20 7 = (ngN ro ((S 5 * S (20 + 3 * u) % NN + S (19 + 3 * u)) % NN)) := ((nS20 7 (by decide)).trans (hS16 7 (by decide))).trans (yS11.trans (by rw [ngN_0 (bi_0 c50)]))
      refine jr_kVv (ci := 8) (n := 2) (As := [.ref (c (210 + 2 * 7)), .ref (c (210 + 2 * 9))]) (rest := []) hE dX4_makePart_95 (fun l => c_X8_sum l G (c (210 + 2 * 7)) (c (211 + 2 * 7)) (c (210 + 2 * 9)) (c (211 + 2 * 9)) (ngN ro ((S 5 * S (20 + 3 * u) % NN + S (19 + 3 * u)) % NN)) ((ngN jo (S 6 * S (18 + 3 * u) % NN)) * (S 0) % NN)) gX4_makePart_X8_sum rfl ((W20.sc 7 (by decide)).ob) rfl (by decide +kernel) ⟨rfl, rfl, by decide, by decide⟩ (by decide) rfl rfl (Nat.le_of_ble_eq_true rfl) (⟨(by have q := W20.sc 7 (by decide); rw [show S20 7 = (ngN ro ((S 5 * S (20 + 3 * u) % NN + S (19 + 3 * u)) % NN)) from hS21] at q; exact q), (by have q := W20.sc 9 (by decide); rw [show S20 9 = ((ngN jo (S 6 * S (18 + 3 * u) % NN)) * (S 0) % NN) from yS20] at q; exact q), Nat.lt_trans (ngN_lt (Nat.mod_lt _ NN0)) NN_256, Nat.lt_trans (Nat.mod_lt _ NN0) NN_256, cnd W20.1 [210 + 2 * 7, 211 + 2 * 7, 210 + 2 * 9, 211 + 2 * 9] (by decide) (by decide)⟩) (fun F22 q23 => ?_)
      obtain ⟨h24, u24⟩ := q23
      obtain ⟨W24, P24⟩ := W20.setS (i := 7) (x := (((ngN ro ((S 5 * S (20 + 3 * u) % NN + S (19 + 3 * u)) % NN)) + ((ngN jo (S 6 * S (18 + 3 * u) % NN)) * (S 0) % NN)) % NN)) (by decide) h24 u24
      have O24 := O20.tr P24
      obtain ⟨S24, eS24, hS24, yS24⟩ := uz_ab S20 7 (((ngN ro ((S 5 * S (20 + 3 * u) % NN + S (19 + 3 * u)) % NN)) + ((ngN jo (S 6 * S (18 + 3 * u) % NN)) * (S 0) % NN)) % NN)
      rw [eS24] at W24
      have nS24 : ∀ z, z ≠ 7 → S24 z = S20 z := fun z hz => hS24 z (fun e => hz (List.mem_singleton.mp e))
      refine jr_aload_n hE dX4_makePart_98 3 rfl ?_
      refine jr_kVv (ci := 0) (n := 0) (As := []) (rest := []) hE dX4_makePart_99 (fun l => c_X0_empty l G (c (270 + 2 * 16)) (c (271 + 2 * 16)) (bcap 16) (B 16)) gX4_makePart_X0_empty rfl ((W24.by 16 (by decide)).ob) rfl (by decide +kernel) ⟨rfl, rfl, by decide, by decide⟩ (by decide) rfl rfl (Nat.le_of_ble_eq_true rfl) (W24.by 16 (by decide)) (fun F25 q26 => ?_)
      obtain ⟨h27, u27⟩ := q26
      obtain ⟨W27, P27⟩ := W24.setBo (i := 16) (bs := []) (by decide) h27 u27
      have O27 := O24.tr P27
      obtain ⟨B27, eB27, hB27, yB27⟩ := uz_ab B 16 ([])
      rw [eB27] at W27
      have nB27 : ∀ z, z ≠ 16 → B27 z = B z := fun z hz => hB27 z (fun e => hz (List.mem_singleton.mp e))
      refine jr_aload_n hE dX4_makePart_102 1 rfl ?_
      refine jr_get hE dX4_makePart_103 f54 W27.o7 rfl ?_
      refine jr_aload_n hE dX4_makePart_106 3 rfl ?_
      refine jr_kVv (ci := 8) (n := 1) (As := [.ref (c (270 + 2 * 16))]) (rest := []) hE dX4_makePart_107 (fun l => c_X8_addTo l G (c (210 + 2 * 7)) (c (211 + 2 * 7)) (c (270 + 2 * 16)) (c (271 + 2 * 16)) (bcap 16) (((ngN ro ((S 5 * S (20 + 3 * u) % NN + S (19 + 3 * u)) % NN)) + ((ngN jo (S 6 * S (18 + 3 * u) % NN)) * (S 0) % NN)) % NN) ([])) gX4_makePart_X8_addTo rfl ((W27.sc 7 (by decide)).ob) rfl (by decide +kernel) ⟨rfl, rfl, by decide, by decide⟩ (by decide) rfl rfl (Nat.le_of_ble_eq_true rfl) (⟨(by have q := W27.sc 7 (by decide); rw [show S24 7 = (((ngN ro ((S 5 * S (20 + 3 * u) % NN + S (19 + 3 * u)) % NN)) + ((ngN jo (S 6 * S (18 + 3 * u) % NN)) * (S 0) % NN)) % NN) from yS24] at q; exact q), (by have q := W27.by 16 (by decide); rw [show B27 16 = [] from yB27] at q; exact q), by decide, cnd W27.1 [210 + 2 * 7, 211 + 2 * 7, 270 + 2 * 16, 271 + 2 * 16] (by decide) (by decide)⟩) (fun F28 q29 => ?_)
      rw [List.nil_append] at q29
      obtain ⟨h30, u30⟩ := q29
      obtain ⟨W30, P30⟩ := W27.setB (i := 16) (bs := (bex (((ngN ro ((S 5 * S (20 + 3 * u) % NN + S (19 + 3 * u)) % NN)) + ((ngN jo (S 6 * S (18 + 3 * u) % NN)) * (S 0) % NN)) % NN) 32)) (by decide) h30 u30
      have O30 := O27.tr P30
      obtain ⟨B30, eB30, hB30, yB30⟩ := uz_ab B27 16 (bex (((ngN ro ((S 5 * S (20 + 3 * u) % NN + S (19 + 3 * u)) % NN)) + ((ngN jo (S 6 * S (18 + 3 * u) % NN)) * (S 0) % NN)) % NN) 32)
      rw [eB30] at W30
      have nB30 : ∀ z, z ≠ 16 → B30 z = B27 z := fun z hz => hB30 z (fun e => hz (List.mem_singleton.mp e))
      refine jr_aload_n hE dX4_makePart_110 0 rfl ?_
      refine jr_iconst (v := (0 : Int32)) hE dX4_makePart_111 (by decide) ?_
      refine jr_put (ty := .boolean) hE dX4_makePart_112 f122 (W30.oM u (by omega)) rfl (by decide +kernel) rfl rfl (Nat.le_of_ble_eq_true rfl) (fun F31 h31 u31 => ?_)
      have h31 : jF L F31 (c (29 + u)) (.inr (5, [.ref (c (270 + 2 * (38 + 3 * u))), .ref (c (40 + 4 * (29 + 3 * u))), .ref (c (210 + 2 * (18 + 3 * u))), .int ((uz v (6 + 2 * u) (0 : Int32)) (6 + 2 * u)), .ref (c (210 + 2 * (19 + 3 * u))), .ref (c (210 + 2 * (20 + 3 * u))), .ref (c (270 + 2 * (39 + 3 * u))), .int ((uz v (6 + 2 * u) (0 : Int32)) (7 + 2 * u)), .ref (c (270 + 2 * (40 + 3 * u))), .ref (c (40 + 4 * (30 + 3 * u))), .ref (c (40 + 4 * (31 + 3 * u)))])) := by
        rw [uz_s, show (uz v (6 + 2 * u) (0 : Int32)) (7 + 2 * u) = v (7 + 2 * u) from uz_n _ _ (by omega)]
        exact h31
      obtain ⟨W31, P31⟩ := W30.setVM (m := u) (v1 := (uz v (6 + 2 * u) (0 : Int32))) (by omega) h31 (fun z h1 h2 => uz_n _ _ h1) u31
      have O31 := O30.tr P31
      obtain ⟨v31, ev31, hv31, yv31⟩ := uz_ab v (6 + 2 * u) (0 : Int32)
      rw [ev31] at W31
      have nv31 : ∀ z, z ≠ (6 + 2 * u) → v31 z = v z := fun z hz => hv31 z (fun e => hz (List.mem_singleton.mp e))
      exact hR F31 _ _ dX4_makePart_115 ⟨_, _, _, W31, (fun z hz => ((nB30 z (by simp only [List.mem_cons, List.not_mem_nil, or_false, not_or] at hz; omega)).trans (nB27 z (by simp only [List.mem_cons, List.not_mem_nil, or_false, not_or] at hz; omega)))), (fun z hz => ((nS24 z (by simp only [List.mem_cons, List.not_mem_nil, or_false, not_or] at hz; omega)).trans ((nS20 z (by simp only [List.mem_cons, List.not_mem_nil, or_false, not_or] at hz; omega)).trans ((hS16 z (by simp only [List.mem_cons, List.not_mem_nil, or_false, not_or] at hz ⊢; omega)).trans ((nS11 z (by simp only [List.mem_cons, List.not_mem_nil, or_false, not_or] at hz; omega)).trans (nS7 z (by simp only [List.mem_cons, List.not_mem_nil, or_false, not_or] at hz; omega))))))), (fun z hz => (nv31 z (by simp only [List.mem_cons, List.not_mem_nil, or_false, not_or] at hz; omega))), yB30, yv31, O31⟩
    · refine jr_aload_n hE dX4_makePart_53 1 rfl ?_
      refine jr_get hE dX4_makePart_54 f54 W11.o7 rfl ?_
      refine jr_kVv (ci := 8) (n := 0) (As := []) (rest := []) hE dX4_makePart_57 (fun l => c_X8_negate l G (c (210 + 2 * 7)) (c (211 + 2 * 7)) ((((S 5) * (S (20 + 3 * u)) % NN) + (S (19 + 3 * u))) % NN)) gX4_makePart_X8_negate rfl ((W11.sc 7 (by decide)).ob) rfl (by decide +kernel) ⟨rfl, rfl, by decide, by decide⟩ (by decide) rfl rfl (Nat.le_of_ble_eq_true rfl) (⟨(by have q := W11.sc 7 (by decide); rw [show S11 7 = ((((S 5) * (S (20 + 3 * u)) % NN) + (S (19 + 3 * u))) % NN) from yS11] at q; exact q), (Nat.mod_lt _ NN0)⟩) (fun F32 q33 => ?_)
      rw [ngN_if] at q33
      obtain ⟨h34, u34⟩ := q33
      obtain ⟨W34, P34⟩ := W11.setS (i := 7) (x := (ngN true ((((S 5) * (S (20 + 3 * u)) % NN) + (S (19 + 3 * u))) % NN))) (by decide) h34 u34
      have O34 := O11.tr P34
      obtain ⟨S34, eS34, hS34, yS34⟩ := uz_ab S11 7 (ngN true ((((S 5) * (S (20 + 3 * u)) % NN) + (S (19 + 3 * u))) % NN))
      rw [eS34] at W34
      have nS34 : ∀ z, z ≠ 7 → S34 z = S11 z := fun z hz => hS34 z (fun e => hz (List.mem_singleton.mp e))
      refine jr_aload_n hE dX4_makePart_60 1 rfl ?_
      refine jr_aload_n hE dX4_makePart_61 0 rfl ?_
      have hS35 : S34 6 = (S 6) := ((nS34 6 (by decide)).trans ((nS11 6 (by decide)).trans (nS7 6 (by decide)))).trans rfl
      have hS36 : S34 (18 + 3 * u) = (S (18 + 3 * u)) := ((nS34 (18 + 3 * u) (by omega)).trans ((nS11 (18 + 3 * u) (by omega)).trans (nS7 (18 + 3 * u) (by omega)))).trans rfl
      refine jr_kVv (ci := 4) (n := 1) (As := [.ref (c (29 + u))]) (rest := []) hE dX4_makePart_62 (fun l => c_g_weighChallenge l G c B S34 P q X v u jo) gX4_makePart_X4_weighChallenge rfl W34.o7 rfl (by decide +kernel) ⟨rfl, rfl, by decide, by decide⟩ (by decide) rfl rfl (Nat.le_of_ble_eq_true rfl) (⟨W34, by omega, hjo, (by rw [show S34 6 = S 6 from hS35]; exact h6), (by rw [show S34 (18 + 3 * u) = S (18 + 3 * u) from hS36]; exact hw)⟩) (fun F37 q38 => ?_)
      obtain ⟨S39, W39, hS39, f39_0, P39⟩ := q38
      have O39 := O34.tr P39
      have g39 := f39_0
      refine jr_aload_n hE dX4_makePart_65 1 rfl ?_
      refine jr_get hE dX4_makePart_66 f60 W39.o7 rfl ?_
      refine jr_aload_n hE dX4_makePart_69 1 rfl ?_
      refine jr_get hE dX4_makePart_70 f57 W39.o7 rfl ?_
      refine jr_aload_n hE dX4_makePart_73 1 rfl ?_
      refine jr_get hE dX4_makePart_74 f83 W39.o7 rfl ?_
      refine jr_get hE dX4_makePart_77 f271 W39.o6 rfl ?_
      have hS40 : S39 0 = (S 0) := ((hS39 0 (by decide)).trans ((nS34 0 (by decide)).trans ((nS11 0 (by decide)).trans (nS7 0 (by decide))))).trans rfl
      refine jr_kVv (ci := 8) (n := 2) (As := [.ref (c (210 + 2 * 8)), .ref (c (210 + 2 * 0))]) (rest := []) hE dX4_makePart_80 (fun l => c_X8_product l G (c (210 + 2 * 9)) (c (211 + 2 * 9)) (c (210 + 2 * 8)) (c (211 + 2 * 8)) (c (210 + 2 * 0)) (c (211 + 2 * 0)) (S39 9) (ngN jo (S 6 * S (18 + 3 * u) % NN)) (S 0)) gX4_makePart_X8_product rfl ((W39.sc 9 (by decide)).ob) rfl (by decide +kernel) ⟨rfl, rfl, by decide, by decide⟩ (by decide) rfl rfl (Nat.le_of_ble_eq_true rfl) (⟨(W39.sc 9 (by decide)), (by have q := W39.sc 8 (by decide); rw [show S39 8 = (ngN jo (S 6 * S (18 + 3 * u) % NN)) from (by have q := f39_0; rw [show S34 6 = S 6 from hS35, show S34 (18 + 3 * u) = S (18 + 3 * u) from hS36] at q; exact q)] at q; exact q), (by have q := W39.sc 0 (by decide); rw [show S39 0 = (S 0) from hS40] at q; exact q), (ngN_lt (Nat.mod_lt _ NN0)), h0, cnd W39.1 [210 + 2 * 9, 211 + 2 * 9, 210 + 2 * 8, 211 + 2 * 8, 210 + 2 * 0, 211 + 2 * 0] (by decide) (by decide)⟩) (fun F41 q42 => ?_)
      obtain ⟨h43, u43⟩ := q42
      obtain ⟨W43, P43⟩ := W39.setS (i := 9) (x := ((ngN jo (S 6 * S (18 + 3 * u) % NN)) * (S 0) % NN)) (by decide) h43 u43
      have O43 := O39.tr P43
      obtain ⟨S43, eS43, hS43, yS43⟩ := uz_ab S39 9 ((ngN jo (S 6 * S (18 + 3 * u) % NN)) * (S 0) % NN)
      rw [eS43] at W43
      have nS43 : ∀ z, z ≠ 9 → S43 z = S39 z := fun z hz => hS43 z (fun e => hz (List.mem_singleton.mp e))
      refine jr_aload_n hE dX4_makePart_83 1 rfl ?_
      refine jr_get hE dX4_makePart_84 f54 W43.o7 rfl ?_
      refine jr_aload_n hE dX4_makePart_87 1 rfl ?_
      refine jr_get hE dX4_makePart_88 f54 W43.o7 rfl ?_
      refine jr_aload_n hE dX4_makePart_91 1 rfl ?_
      refine jr_get hE dX4_makePart_92 f60 W43.o7 rfl ?_
      have hS44 : S43 7 = (ngN ro ((S 5 * S (20 + 3 * u) % NN + S (19 + 3 * u)) % NN)) := ((nS43 7 (by decide)).trans (hS39 7 (by decide))).trans (yS34.trans (by rw [bi_1 c50]))
      refine jr_kVv (ci := 8) (n := 2) (As := [.ref (c (210 + 2 * 7)), .ref (c (210 + 2 * 9))]) (rest := []) hE dX4_makePart_95 (fun l => c_X8_sum l G (c (210 + 2 * 7)) (c (211 + 2 * 7)) (c (210 + 2 * 9)) (c (211 + 2 * 9)) (ngN ro ((S 5 * S (20 + 3 * u) % NN + S (19 + 3 * u)) % NN)) ((ngN jo (S 6 * S (18 + 3 * u) % NN)) * (S 0) % NN)) gX4_makePart_X8_sum rfl ((W43.sc 7 (by decide)).ob) rfl (by decide +kernel) ⟨rfl, rfl, by decide, by decide⟩ (by decide) rfl rfl (Nat.le_of_ble_eq_true rfl) (⟨(by have q := W43.sc 7 (by decide); rw [show S43 7 = (ngN ro ((S 5 * S (20 + 3 * u) % NN + S (19 + 3 * u)) % NN)) from hS44] at q; exact q), (by have q := W43.sc 9 (by decide); rw [show S43 9 = ((ngN jo (S 6 * S (18 + 3 * u) % NN)) * (S 0) % NN) from yS43] at q; exact q), Nat.lt_trans (ngN_lt (Nat.mod_lt _ NN0)) NN_256, Nat.lt_trans (Nat.mod_lt _ NN0) NN_256, cnd W43.1 [210 + 2 * 7, 211 + 2 * 7, 210 + 2 * 9, 211 + 2 * 9] (by decide) (by decide)⟩) (fun F45 q46 => ?_)
      obtain ⟨h47, u47⟩ := q46
      obtain ⟨W47, P47⟩ := W43.setS (i := 7) (x := (((ngN ro ((S 5 * S (20 + 3 * u) % NN + S (19 + 3 * u)) % NN)) + ((ngN jo (S 6 * S (18 + 3 * u) % NN)) * (S 0) % NN)) % NN)) (by decide) h47 u47
      have O47 := O43.tr P47
      obtain ⟨S47, eS47, hS47, yS47⟩ := uz_ab S43 7 (((ngN ro ((S 5 * S (20 + 3 * u) % NN + S (19 + 3 * u)) % NN)) + ((ngN jo (S 6 * S (18 + 3 * u) % NN)) * (S 0) % NN)) % NN)
      rw [eS47] at W47
      have nS47 : ∀ z, z ≠ 7 → S47 z = S43 z := fun z hz => hS47 z (fun e => hz (List.mem_singleton.mp e))
      refine jr_aload_n hE dX4_makePart_98 3 rfl ?_
      refine jr_kVv (ci := 0) (n := 0) (As := []) (rest := []) hE dX4_makePart_99 (fun l => c_X0_empty l G (c (270 + 2 * 16)) (c (271 + 2 * 16)) (bcap 16) (B 16)) gX4_makePart_X0_empty rfl ((W47.by 16 (by decide)).ob) rfl (by decide +kernel) ⟨rfl, rfl, by decide, by decide⟩ (by decide) rfl rfl (Nat.le_of_ble_eq_true rfl) (W47.by 16 (by decide)) (fun F48 q49 => ?_)
      obtain ⟨h50, u50⟩ := q49
      obtain ⟨W50, P50⟩ := W47.setBo (i := 16) (bs := []) (by decide) h50 u50
      have O50 := O47.tr P50
      obtain ⟨B50, eB50, hB50, yB50⟩ := uz_ab B 16 ([])
      rw [eB50] at W50
      have nB50 : ∀ z, z ≠ 16 → B50 z = B z := fun z hz => hB50 z (fun e => hz (List.mem_singleton.mp e))
      refine jr_aload_n hE dX4_makePart_102 1 rfl ?_
      refine jr_get hE dX4_makePart_103 f54 W50.o7 rfl ?_
      refine jr_aload_n hE dX4_makePart_106 3 rfl ?_
      refine jr_kVv (ci := 8) (n := 1) (As := [.ref (c (270 + 2 * 16))]) (rest := []) hE dX4_makePart_107 (fun l => c_X8_addTo l G (c (210 + 2 * 7)) (c (211 + 2 * 7)) (c (270 + 2 * 16)) (c (271 + 2 * 16)) (bcap 16) (((ngN ro ((S 5 * S (20 + 3 * u) % NN + S (19 + 3 * u)) % NN)) + ((ngN jo (S 6 * S (18 + 3 * u) % NN)) * (S 0) % NN)) % NN) ([])) gX4_makePart_X8_addTo rfl ((W50.sc 7 (by decide)).ob) rfl (by decide +kernel) ⟨rfl, rfl, by decide, by decide⟩ (by decide) rfl rfl (Nat.le_of_ble_eq_true rfl) (⟨(by have q := W50.sc 7 (by decide); rw [show S47 7 = (((ngN ro ((S 5 * S (20 + 3 * u) % NN + S (19 + 3 * u)) % NN)) + ((ngN jo (S 6 * S (18 + 3 * u) % NN)) * (S 0) % NN)) % NN) from yS47] at q; exact q), (by have q := W50.by 16 (by decide); rw [show B50 16 = [] from yB50] at q; exact q), by decide, cnd W50.1 [210 + 2 * 7, 211 + 2 * 7, 270 + 2 * 16, 271 + 2 * 16] (by decide) (by decide)⟩) (fun F51 q52 => ?_)
      rw [List.nil_append] at q52
      obtain ⟨h53, u53⟩ := q52
      obtain ⟨W53, P53⟩ := W50.setB (i := 16) (bs := (bex (((ngN ro ((S 5 * S (20 + 3 * u) % NN + S (19 + 3 * u)) % NN)) + ((ngN jo (S 6 * S (18 + 3 * u) % NN)) * (S 0) % NN)) % NN) 32)) (by decide) h53 u53
      have O53 := O50.tr P53
      obtain ⟨B53, eB53, hB53, yB53⟩ := uz_ab B50 16 (bex (((ngN ro ((S 5 * S (20 + 3 * u) % NN + S (19 + 3 * u)) % NN)) + ((ngN jo (S 6 * S (18 + 3 * u) % NN)) * (S 0) % NN)) % NN) 32)
      rw [eB53] at W53
      have nB53 : ∀ z, z ≠ 16 → B53 z = B50 z := fun z hz => hB53 z (fun e => hz (List.mem_singleton.mp e))
      refine jr_aload_n hE dX4_makePart_110 0 rfl ?_
      refine jr_iconst (v := (0 : Int32)) hE dX4_makePart_111 (by decide) ?_
      refine jr_put (ty := .boolean) hE dX4_makePart_112 f122 (W53.oM u (by omega)) rfl (by decide +kernel) rfl rfl (Nat.le_of_ble_eq_true rfl) (fun F54 h54 u54 => ?_)
      have h54 : jF L F54 (c (29 + u)) (.inr (5, [.ref (c (270 + 2 * (38 + 3 * u))), .ref (c (40 + 4 * (29 + 3 * u))), .ref (c (210 + 2 * (18 + 3 * u))), .int ((uz v (6 + 2 * u) (0 : Int32)) (6 + 2 * u)), .ref (c (210 + 2 * (19 + 3 * u))), .ref (c (210 + 2 * (20 + 3 * u))), .ref (c (270 + 2 * (39 + 3 * u))), .int ((uz v (6 + 2 * u) (0 : Int32)) (7 + 2 * u)), .ref (c (270 + 2 * (40 + 3 * u))), .ref (c (40 + 4 * (30 + 3 * u))), .ref (c (40 + 4 * (31 + 3 * u)))])) := by
        rw [uz_s, show (uz v (6 + 2 * u) (0 : Int32)) (7 + 2 * u) = v (7 + 2 * u) from uz_n _ _ (by omega)]
        exact h54
      obtain ⟨W54, P54⟩ := W53.setVM (m := u) (v1 := (uz v (6 + 2 * u) (0 : Int32))) (by omega) h54 (fun z h1 h2 => uz_n _ _ h1) u54
      have O54 := O53.tr P54
      obtain ⟨v54, ev54, hv54, yv54⟩ := uz_ab v (6 + 2 * u) (0 : Int32)
      rw [ev54] at W54
      have nv54 : ∀ z, z ≠ (6 + 2 * u) → v54 z = v z := fun z hz => hv54 z (fun e => hz (List.mem_singleton.mp e))
      exact hR F54 _ _ dX4_makePart_115 ⟨_, _, _, W54, (fun z hz => ((nB53 z (by simp only [List.mem_cons, List.not_mem_nil, or_false, not_or] at hz; omega)).trans (nB50 z (by simp only [List.mem_cons, List.not_mem_nil, or_false, not_or] at hz; omega)))), (fun z hz => ((nS47 z (by simp only [List.mem_cons, List.not_mem_nil, or_false, not_or] at hz; omega)).trans ((nS43 z (by simp only [List.mem_cons, List.not_mem_nil, or_false, not_or] at hz; omega)).trans ((hS39 z (by simp only [List.mem_cons, List.not_mem_nil, or_false, not_or] at hz ⊢; omega)).trans ((nS34 z (by simp only [List.mem_cons, List.not_mem_nil, or_false, not_or] at hz; omega)).trans ((nS11 z (by simp only [List.mem_cons, List.not_mem_nil, or_false, not_or] at hz; omega)).trans (nS7 z (by simp only [List.mem_cons, List.not_mem_nil, or_false, not_or] at hz; omega)))))))), (fun z hz => (nv54 z (by simp only [List.mem_cons, List.not_mem_nil, or_false, not_or] at hz; omega))), yB53, yv54, O54⟩
  · exact absurd (hm_u hu h4) (b2i_0 c5)

set_option maxHeartbeats 4000000 in
set_option maxRecDepth 100000 in
theorem c_g_judgePart (l : Launch) (G : Nat → ClassId) (c : Nat → Nat) (B : Nat → List Nat) (S : Nat → Nat) (P : Nat → JP) (q : SS) (X : Nat) (v : Nat → Int32) (u sz : Nat) (jo ro : Bool) (A0 A1 A2 : EP) : jKi l yX4_judgePart wsX4_judgePart ({ frames := 5, cells := 0, slots := 0, locals := 148 }) G [.ref (c 7), .int (nI u)] (fun L F => CW G L F c B S P q X v ∧ v 2 = nI sz ∧ u < sz ∧ sz ≤ 4 ∧ v 4 = bi jo ∧ v 5 = bi ro ∧ S 5 < NN ∧ S 6 < NN ∧ S 7 < NN ∧ S (18 + 3 * u) < NN ∧ rep (P 16) GE ∧ rep (P (29 + 3 * u)) A0 ∧ rep (P (30 + 3 * u)) A1 ∧ rep (P (31 + 3 * u)) A2) (fun L F r F1 => ∃ S' P', CW G L F1 c B S' P' q X v ∧ (∀ i, i ∉ [7, 8] → S' i = S i) ∧ (∀ i, i ∉ [19, 20] → P' i = P i) ∧ r = b2i (emul PP (S 7) GE = (eadd PP (ngE ro (eadd PP (emul PP (S 5) A2) A1)) (emul PP (ngN jo (S 6 * S (18 + 3 * u) % NN)) A0))) ∧ cO c F F1) := by
  refine jm_ki (cc := cX4_judgePart) (maxL := 3) (rt := .boolean) (by decide) rfl (Nat.le_of_ble_eq_true rfl) ?_
  intro E L F hE hR hpre
  have hE : jOk E G _ cX4_judgePart 3 RX4 wsX4_judgePart := hE
  obtain ⟨W0, hsz, hu, h4, hjo, hro, h5, h6, h7, hw, hG, h0, h1, h2⟩ := hpre
  have f28 : jFl RX4 wsX4_judgePart 28 4 6 := ⟨rfl, by decide, by decide +kernel, by decide +kernel⟩
  have f93 : jFl RX4 wsX4_judgePart 93 4 5 := ⟨rfl, by decide, by decide +kernel, by decide +kernel⟩
  have f66 : jFl RX4 wsX4_judgePart 66 4 16 := ⟨rfl, by decide, by decide +kernel, by decide +kernel⟩
  have f240 : jFl RX4 wsX4_judgePart 240 5 10 := ⟨rfl, by decide, by decide +kernel, by decide +kernel⟩
  have f47 : jFl RX4 wsX4_judgePart 47 4 11 := ⟨rfl, by decide, by decide +kernel, by decide +kernel⟩
  have f237 : jFl RX4 wsX4_judgePart 237 5 9 := ⟨rfl, by decide, by decide +kernel, by decide +kernel⟩
  have f76 : jFl RX4 wsX4_judgePart 76 4 19 := ⟨rfl, by decide, by decide +kernel, by decide +kernel⟩
  have f70 : jFl RX4 wsX4_judgePart 70 4 17 := ⟨rfl, by decide, by decide +kernel, by decide +kernel⟩
  have f115 : jFl RX4 wsX4_judgePart 115 5 1 := ⟨rfl, by decide, by decide +kernel, by decide +kernel⟩
  have f57 : jFl RX4 wsX4_judgePart 57 4 14 := ⟨rfl, by decide, by decide +kernel, by decide +kernel⟩
  have f54 : jFl RX4 wsX4_judgePart 54 4 13 := ⟨rfl, by decide, by decide +kernel, by decide +kernel⟩
  have f233 : jFl RX4 wsX4_judgePart 233 2 0 := ⟨rfl, by decide, by decide +kernel, by decide +kernel⟩
  have f135 : jFl RX4 wsX4_judgePart 135 6 3 := ⟨rfl, by decide, by decide +kernel, by decide +kernel⟩
  refine jr_aload_n hE dX4_judgePart_0 0 rfl ?_
  refine jr_iload_n hE dX4_judgePart_1 1 rfl ?_
  refine jr_kVi (ci := 4) (n := 1) (As := [.int (nI u)]) (rest := []) hE dX4_judgePart_2 (fun l => c_g_hasMember l G c B S P q X v (nI u) sz) gX4_judgePart_X4_hasMember rfl W0.o7 rfl (by decide +kernel) ⟨rfl, rfl, by decide, by decide⟩ (by decide) rfl rfl (Nat.le_of_ble_eq_true rfl) (⟨W0, hsz, h4⟩) (fun r3 F1 q2 => ?_)
  obtain ⟨eq2, rq2⟩ := q2
  subst eq2 rq2
  refine jr_if_ne (tgt := 10) hE dX4_judgePart_5 (by decide) (fun c5 => ?_) (fun c5 => ?_)
  · refine jr_aload_n hE dX4_judgePart_10 0 rfl ?_
    refine jr_get hE dX4_judgePart_11 f28 W0.o7 rfl ?_
    refine jr_iload_n hE dX4_judgePart_14 1 rfl ?_
    obtain ⟨f4, ja4, ga4⟩ := W0.aM
    refine jr_aald (v := c (29 + u)) hE dX4_judgePart_15 ja4 rfl (vp_in_nI (n := u) (by omega) (by decide)) (by rw [nI_clamp (by omega)]; exact ga4 u (by omega)) ?_
    refine jr_astore_n (lv' := [(2, .ref (c (29 + u))), (0, .ref (c 7)), (1, .int (nI u))]) hE dX4_judgePart_16 (by decide) rfl ?_
    refine jr_aload_n hE dX4_judgePart_17 1 rfl ?_
    refine jr_get hE dX4_judgePart_18 f93 W0.o7 rfl ?_
    refine jr_aload_n hE dX4_judgePart_21 1 rfl ?_
    refine jr_get hE dX4_judgePart_22 f66 W0.o7 rfl ?_
    refine jr_aload_n hE dX4_judgePart_25 0 rfl ?_
    refine jr_get hE dX4_judgePart_26 f240 (W0.oM u (by omega)) rfl ?_
    refine jr_aload_n hE dX4_judgePart_29 1 rfl ?_
    refine jr_get hE dX4_judgePart_30 f47 W0.o7 rfl ?_
    obtain ⟨f5, jm5, gm5⟩ := W0.cu.2.2.2.1
    have hk5 : S 5 < 2 ^ 256 := by rw [show S 5 = (S 5) from rfl]; exact Nat.lt_trans h5 NN_256
    refine jr_kVv (ci := 2) (n := 3) (As := [.ref (c (40 + 4 * 19)), .ref (c (40 + 4 * (31 + 3 * u))), .ref (c (210 + 2 * 5))]) (rest := []) hE dX4_judgePart_33 (fun l => c_X2_times l G (c 9) (c (40 + 4 * 16)) (c 11) (c 10) (c 12) (c 13) (c 14) (c 15) (c 16) (c 17) (c (40 + 4 * 19)) (c (41 + 4 * 19)) (c (42 + 4 * 19)) (c (43 + 4 * 19)) (c (40 + 4 * (31 + 3 * u))) (c (41 + 4 * (31 + 3 * u))) (c (42 + 4 * (31 + 3 * u))) (c (43 + 4 * (31 + 3 * u))) (c (210 + 2 * 5)) (c (211 + 2 * 5)) (S 5) f5 (fun i k => c (ck i k)) (P 19) (P (31 + 3 * u))) gX4_judgePart_X2_times rfl W0.cv rfl (by decide +kernel) ⟨rfl, rfl, by decide, by decide⟩ (by decide) rfl rfl (Nat.le_of_ble_eq_true rfl) (W0.timesPre jm5 gm5 19 (31 + 3 * u) 5 (by decide) (by decide) (by omega) (by omega) (by decide) hk5) (fun F6 q7 => ?_)
    obtain ⟨W8, P8⟩ := W0.timesP gm5 (i := 19) (by decide) (by decide) q7
    have O8 := (cO.rf c F).tr P8
    obtain ⟨P8, eP8, hP8, yP8⟩ := uz_ab P 19 (tmJ (P 19) (P (31 + 3 * u)) (S 5))
    rw [eP8] at W8
    have nP8 : ∀ z, z ≠ 19 → P8 z = P z := fun z hz => hP8 z (fun e => hz (List.mem_singleton.mp e))
    have hr8 : rep (P8 19) (emul PP (S 5) A2) := by rw [yP8]; exact (by have q := rep_tm (O := P 19) h2 hk5; rw [show S 5 = (S 5) from rfl] at q ⊢; exact q)
    refine jr_aload_n hE dX4_judgePart_36 1 rfl ?_
    refine jr_get hE dX4_judgePart_37 f93 W8.o7 rfl ?_
    refine jr_aload_n hE dX4_judgePart_40 1 rfl ?_
    refine jr_get hE dX4_judgePart_41 f66 W8.o7 rfl ?_
    refine jr_aload_n hE dX4_judgePart_44 0 rfl ?_
    refine jr_get hE dX4_judgePart_45 f237 (W8.oM u (by omega)) rfl ?_
    have hp9 : rep (P8 (30 + 3 * u)) A1 := by rw [show P8 (30 + 3 * u) = P (30 + 3 * u) from (nP8 (30 + 3 * u) (by omega))]; exact h1
    refine jr_kVv (ci := 2) (n := 2) (As := [.ref (c (40 + 4 * 19)), .ref (c (40 + 4 * (30 + 3 * u)))]) (rest := []) hE dX4_judgePart_48 (fun l => c_X2_plus l G (c 9) (c (40 + 4 * 16)) (c 11) (c 10) (c 12) (c 13) (c 14) (c 15) (c 16) (c 17) (c (40 + 4 * 19)) (c (41 + 4 * 19)) (c (42 + 4 * 19)) (c (43 + 4 * 19)) (c (40 + 4 * (30 + 3 * u))) (c (41 + 4 * (30 + 3 * u))) (c (42 + 4 * (30 + 3 * u))) (c (43 + 4 * (30 + 3 * u))) (P8 19) (P8 (30 + 3 * u))) gX4_judgePart_X2_plus rfl W8.cv rfl (by decide +kernel) ⟨rfl, rfl, by decide, by decide⟩ (by decide) rfl rfl (Nat.le_of_ble_eq_true rfl) (W8.plusPre 19 (30 + 3 * u) (by decide) (by decide) (by omega) (by omega) (by omega)) (fun F10 q11 => ?_)
    obtain ⟨g12, h12, u12⟩ := q11
    obtain ⟨W12, P12⟩ := W8.plus (i := 19) (by decide) (by decide) g12 h12 u12
    have O12 := O8.tr P12
    obtain ⟨P12, eP12, hP12, yP12⟩ := uz_ab P8 19 (plJ (P8 19) (P8 (30 + 3 * u)))
    rw [eP12] at W12
    have nP12 : ∀ z, z ≠ 19 → P12 z = P8 z := fun z hz => hP12 z (fun e => hz (List.mem_singleton.mp e))
    have hr12 : rep (P12 19) (eadd PP (emul PP (S 5) A2) A1) := by rw [yP12]; exact rep_pl hr8 hp9
    refine jr_aload_n hE dX4_judgePart_51 1 rfl ?_
    refine jr_get hE dX4_judgePart_52 f76 W12.o7 rfl ?_
    rw [show v 5 = (bi ro) from hro]
    refine jr_if_eq (tgt := 65) hE dX4_judgePart_55 (by decide) (fun c55 => ?_) (fun c55 => ?_)
    · have hn13 : rep (P12 19) (ngE ro (eadd PP (emul PP (S 5) A2) A1)) := by rw [ngE_f (bi_0 c55)]; exact hr12
      refine jr_aload_n hE dX4_judgePart_65 1 rfl ?_
      refine jr_aload_n hE dX4_judgePart_66 0 rfl ?_
      refine jr_kVv (ci := 4) (n := 1) (As := [.ref (c (29 + u))]) (rest := []) hE dX4_judgePart_67 (fun l => c_g_weighChallenge l G c B S P12 q X v u jo) gX4_judgePart_X4_weighChallenge rfl W12.o7 rfl (by decide +kernel) ⟨rfl, rfl, by decide, by decide⟩ (by decide) rfl rfl (Nat.le_of_ble_eq_true rfl) (⟨W12, by omega, hjo, (by rw [show S 6 = S 6 from rfl]; exact h6), (by rw [show S (18 + 3 * u) = S (18 + 3 * u) from rfl]; exact hw)⟩) (fun F14 q15 => ?_)
      obtain ⟨S16, W16, hS16, f16_0, P16⟩ := q15
      have O16 := O12.tr P16
      have g16 := f16_0
      refine jr_aload_n hE dX4_judgePart_70 1 rfl ?_
      refine jr_get hE dX4_judgePart_71 f93 W16.o7 rfl ?_
      refine jr_aload_n hE dX4_judgePart_74 1 rfl ?_
      refine jr_get hE dX4_judgePart_75 f70 W16.o7 rfl ?_
      refine jr_aload_n hE dX4_judgePart_78 0 rfl ?_
      refine jr_get hE dX4_judgePart_79 f115 (W16.oM u (by omega)) rfl ?_
      refine jr_aload_n hE dX4_judgePart_82 1 rfl ?_
      refine jr_get hE dX4_judgePart_83 f57 W16.o7 rfl ?_
      have hp17 : rep (P12 (29 + 3 * u)) A0 := by rw [show P12 (29 + 3 * u) = P (29 + 3 * u) from ((nP12 (29 + 3 * u) (by omega)).trans (nP8 (29 + 3 * u) (by omega)))]; exact h0
      obtain ⟨f18, jm18, gm18⟩ := W16.cu.2.2.2.1
      have hk18 : S16 8 < 2 ^ 256 := by rw [show S16 8 = (ngN jo (S 6 * S (18 + 3 * u) % NN)) from (by have q := f16_0; rw [show S 6 = S 6 from rfl, show S (18 + 3 * u) = S (18 + 3 * u) from rfl] at q; exact q)]; exact Nat.lt_trans (ngN_lt (Nat.mod_lt _ NN0)) NN_256
      refine jr_kVv (ci := 2) (n := 3) (As := [.ref (c (40 + 4 * 20)), .ref (c (40 + 4 * (29 + 3 * u))), .ref (c (210 + 2 * 8))]) (rest := []) hE dX4_judgePart_86 (fun l => c_X2_times l G (c 9) (c (40 + 4 * 16)) (c 11) (c 10) (c 12) (c 13) (c 14) (c 15) (c 16) (c 17) (c (40 + 4 * 20)) (c (41 + 4 * 20)) (c (42 + 4 * 20)) (c (43 + 4 * 20)) (c (40 + 4 * (29 + 3 * u))) (c (41 + 4 * (29 + 3 * u))) (c (42 + 4 * (29 + 3 * u))) (c (43 + 4 * (29 + 3 * u))) (c (210 + 2 * 8)) (c (211 + 2 * 8)) (S16 8) f18 (fun i k => c (ck i k)) (P12 20) (P12 (29 + 3 * u))) gX4_judgePart_X2_times rfl W16.cv rfl (by decide +kernel) ⟨rfl, rfl, by decide, by decide⟩ (by decide) rfl rfl (Nat.le_of_ble_eq_true rfl) (W16.timesPre jm18 gm18 20 (29 + 3 * u) 8 (by decide) (by decide) (by omega) (by omega) (by decide) hk18) (fun F19 q20 => ?_)
      obtain ⟨W21, P21⟩ := W16.timesP gm18 (i := 20) (by decide) (by decide) q20
      have O21 := O16.tr P21
      obtain ⟨P21, eP21, hP21, yP21⟩ := uz_ab P12 20 (tmJ (P12 20) (P12 (29 + 3 * u)) (S16 8))
      rw [eP21] at W21
      have nP21 : ∀ z, z ≠ 20 → P21 z = P12 z := fun z hz => hP21 z (fun e => hz (List.mem_singleton.mp e))
      have hr21 : rep (P21 20) (emul PP (ngN jo (S 6 * S (18 + 3 * u) % NN)) A0) := by rw [yP21]; exact (by have q := rep_tm (O := P12 20) hp17 hk18; rw [show S16 8 = (ngN jo (S 6 * S (18 + 3 * u) % NN)) from (by have q := f16_0; rw [show S 6 = S 6 from rfl, show S (18 + 3 * u) = S (18 + 3 * u) from rfl] at q; exact q)] at q ⊢; exact q)
      refine jr_aload_n hE dX4_judgePart_89 1 rfl ?_
      refine jr_get hE dX4_judgePart_90 f93 W21.o7 rfl ?_
      refine jr_aload_n hE dX4_judgePart_93 1 rfl ?_
      refine jr_get hE dX4_judgePart_94 f66 W21.o7 rfl ?_
      refine jr_aload_n hE dX4_judgePart_97 1 rfl ?_
      refine jr_get hE dX4_judgePart_98 f70 W21.o7 rfl ?_
      have hp22 : rep (P21 19) (ngE ro (eadd PP (emul PP (S 5) A2) A1)) := by rw [show P21 19 = P12 19 from (nP21 19 (by decide))]; exact hn13
      refine jr_kVv (ci := 2) (n := 2) (As := [.ref (c (40 + 4 * 19)), .ref (c (40 + 4 * 20))]) (rest := []) hE dX4_judgePart_101 (fun l => c_X2_plus l G (c 9) (c (40 + 4 * 16)) (c 11) (c 10) (c 12) (c 13) (c 14) (c 15) (c 16) (c 17) (c (40 + 4 * 19)) (c (41 + 4 * 19)) (c (42 + 4 * 19)) (c (43 + 4 * 19)) (c (40 + 4 * 20)) (c (41 + 4 * 20)) (c (42 + 4 * 20)) (c (43 + 4 * 20)) (P21 19) (P21 20)) gX4_judgePart_X2_plus rfl W21.cv rfl (by decide +kernel) ⟨rfl, rfl, by decide, by decide⟩ (by decide) rfl rfl (Nat.le_of_ble_eq_true rfl) (W21.plusPre 19 20 (by decide) (by decide) (by decide) (by decide) (by decide)) (fun F23 q24 => ?_)
      obtain ⟨g25, h25, u25⟩ := q24
      obtain ⟨W25, P25⟩ := W21.plus (i := 19) (by decide) (by decide) g25 h25 u25
      have O25 := O21.tr P25
      obtain ⟨P25, eP25, hP25, yP25⟩ := uz_ab P21 19 (plJ (P21 19) (P21 20))
      rw [eP25] at W25
      have nP25 : ∀ z, z ≠ 19 → P25 z = P21 z := fun z hz => hP25 z (fun e => hz (List.mem_singleton.mp e))
      have hr25 : rep (P25 19) (eadd PP (ngE ro (eadd PP (emul PP (S 5) A2) A1)) (emul PP (ngN jo (S 6 * S (18 + 3 * u) % NN)) A0)) := by rw [yP25]; exact rep_pl hp22 hr21
      refine jr_aload_n hE dX4_judgePart_104 1 rfl ?_
      refine jr_get hE dX4_judgePart_105 f54 W25.o7 rfl ?_
      have hS26 : S16 7 = (S 7) := (hS16 7 (by decide)).trans rfl
      refine jr_kVv (ci := 8) (n := 0) (As := []) (rest := []) hE dX4_judgePart_108 (fun l => c_X8_negate l G (c (210 + 2 * 7)) (c (211 + 2 * 7)) (S 7)) gX4_judgePart_X8_negate rfl ((W25.sc 7 (by decide)).ob) rfl (by decide +kernel) ⟨rfl, rfl, by decide, by decide⟩ (by decide) rfl rfl (Nat.le_of_ble_eq_true rfl) (⟨(by have q := W25.sc 7 (by decide); rw [show S16 7 = (S 7) from hS26] at q; exact q), h7⟩) (fun F27 q28 => ?_)
      rw [ngN_if] at q28
      obtain ⟨h29, u29⟩ := q28
      obtain ⟨W29, P29⟩ := W25.setS (i := 7) (x := (ngN true (S 7))) (by decide) h29 u29
      have O29 := O25.tr P29
      obtain ⟨S29, eS29, hS29, yS29⟩ := uz_ab S16 7 (ngN true (S 7))
      rw [eS29] at W29
      have nS29 : ∀ z, z ≠ 7 → S29 z = S16 z := fun z hz => hS29 z (fun e => hz (List.mem_singleton.mp e))
      refine jr_aload_n hE dX4_judgePart_111 1 rfl ?_
      refine jr_get hE dX4_judgePart_112 f93 W29.o7 rfl ?_
      refine jr_aload_n hE dX4_judgePart_115 1 rfl ?_
      refine jr_get hE dX4_judgePart_116 f70 W29.o7 rfl ?_
      refine jr_aload_n hE dX4_judgePart_119 1 rfl ?_
      refine jr_get hE dX4_judgePart_120 f93 W29.o7 rfl ?_
      refine jr_get hE dX4_judgePart_123 f233 W29.cv rfl ?_
      refine jr_aload_n hE dX4_judgePart_126 1 rfl ?_
      refine jr_get hE dX4_judgePart_127 f54 W29.o7 rfl ?_
      have hp30 : rep (P25 16) GE := by rw [show P25 16 = P 16 from ((nP25 16 (by decide)).trans ((nP21 16 (by decide)).trans ((nP12 16 (by decide)).trans (nP8 16 (by decide)))))]; exact hG
      obtain ⟨f31, jm31, gm31⟩ := W29.cu.2.2.2.1
      have hk31 : S29 7 < 2 ^ 256 := by rw [show S29 7 = (ngN true (S 7)) from yS29]; exact Nat.lt_trans (ngN_lt h7) NN_256
      refine jr_kVv (ci := 2) (n := 3) (As := [.ref (c (40 + 4 * 20)), .ref (c (40 + 4 * 16)), .ref (c (210 + 2 * 7))]) (rest := []) hE dX4_judgePart_130 (fun l => c_X2_times l G (c 9) (c (40 + 4 * 16)) (c 11) (c 10) (c 12) (c 13) (c 14) (c 15) (c 16) (c 17) (c (40 + 4 * 20)) (c (41 + 4 * 20)) (c (42 + 4 * 20)) (c (43 + 4 * 20)) (c (40 + 4 * 16)) (c (41 + 4 * 16)) (c (42 + 4 * 16)) (c (43 + 4 * 16)) (c (210 + 2 * 7)) (c (211 + 2 * 7)) (S29 7) f31 (fun i k => c (ck i k)) (P25 20) (P25 16)) gX4_judgePart_X2_times rfl W29.cv rfl (by decide +kernel) ⟨rfl, rfl, by decide, by decide⟩ (by decide) rfl rfl (Nat.le_of_ble_eq_true rfl) (W29.timesPre jm31 gm31 20 16 7 (by decide) (by decide) (by decide) (by decide) (by decide) hk31) (fun F32 q33 => ?_)
      obtain ⟨W34, P34⟩ := W29.timesP gm31 (i := 20) (by decide) (by decide) q33
      have O34 := O29.tr P34
      obtain ⟨P34, eP34, hP34, yP34⟩ := uz_ab P25 20 (tmJ (P25 20) (P25 16) (S29 7))
      rw [eP34] at W34
      have nP34 : ∀ z, z ≠ 20 → P34 z = P25 z := fun z hz => hP34 z (fun e => hz (List.mem_singleton.mp e))
      have hr34 : rep (P34 20) (emul PP (ngN true (S 7)) GE) := by rw [yP34]; exact (by have q := rep_tm (O := P25 20) hp30 hk31; rw [show S29 7 = (ngN true (S 7)) from yS29] at q ⊢; exact q)
      refine jr_aload_n hE dX4_judgePart_133 1 rfl ?_
      refine jr_get hE dX4_judgePart_134 f93 W34.o7 rfl ?_
      refine jr_aload_n hE dX4_judgePart_137 1 rfl ?_
      refine jr_get hE dX4_judgePart_138 f66 W34.o7 rfl ?_
      refine jr_aload_n hE dX4_judgePart_141 1 rfl ?_
      refine jr_get hE dX4_judgePart_142 f70 W34.o7 rfl ?_
      have hp35 : rep (P34 19) (eadd PP (ngE ro (eadd PP (emul PP (S 5) A2) A1)) (emul PP (ngN jo (S 6 * S (18 + 3 * u) % NN)) A0)) := by rw [show P34 19 = P25 19 from (nP34 19 (by decide))]; exact hr25
      refine jr_kVv (ci := 2) (n := 2) (As := [.ref (c (40 + 4 * 19)), .ref (c (40 + 4 * 20))]) (rest := []) hE dX4_judgePart_145 (fun l => c_X2_plus l G (c 9) (c (40 + 4 * 16)) (c 11) (c 10) (c 12) (c 13) (c 14) (c 15) (c 16) (c 17) (c (40 + 4 * 19)) (c (41 + 4 * 19)) (c (42 + 4 * 19)) (c (43 + 4 * 19)) (c (40 + 4 * 20)) (c (41 + 4 * 20)) (c (42 + 4 * 20)) (c (43 + 4 * 20)) (P34 19) (P34 20)) gX4_judgePart_X2_plus rfl W34.cv rfl (by decide +kernel) ⟨rfl, rfl, by decide, by decide⟩ (by decide) rfl rfl (Nat.le_of_ble_eq_true rfl) (W34.plusPre 19 20 (by decide) (by decide) (by decide) (by decide) (by decide)) (fun F36 q37 => ?_)
      obtain ⟨g38, h38, u38⟩ := q37
      obtain ⟨W38, P38⟩ := W34.plus (i := 19) (by decide) (by decide) g38 h38 u38
      have O38 := O34.tr P38
      obtain ⟨P38, eP38, hP38, yP38⟩ := uz_ab P34 19 (plJ (P34 19) (P34 20))
      rw [eP38] at W38
      have nP38 : ∀ z, z ≠ 19 → P38 z = P34 z := fun z hz => hP38 z (fun e => hz (List.mem_singleton.mp e))
      have hr38 : rep (P38 19) (eadd PP (eadd PP (ngE ro (eadd PP (emul PP (S 5) A2) A1)) (emul PP (ngN jo (S 6 * S (18 + 3 * u) % NN)) A0)) (emul PP (ngN true (S 7)) GE)) := by rw [yP38]; exact rep_pl hp35 hr34
      refine jr_aload_n hE dX4_judgePart_148 1 rfl ?_
      refine jr_get hE dX4_judgePart_149 f66 W38.o7 rfl ?_
      refine jr_get hE dX4_judgePart_152 f135 (W38.pt 19 (by decide) (by decide)).1 rfl ?_
      rw [hr38.no]
      have hS := (onE_add gdP (onE_ng (q := ro) (onE_add gdP (onE_mul gdP h2.onE (S 5)) h1.onE)) (onE_mul gdP h0.onE (ngN jo (S 6 * S (18 + 3 * u) % NN))))
      have hfin : (eadd PP (eadd PP (ngE ro (eadd PP (emul PP (S 5) A2) A1)) (emul PP (ngN jo (S 6 * S (18 + 3 * u) % NN)) A0)) (emul PP (ngN true (S 7)) GE)) = none ↔ emul PP (S 7) GE = (eadd PP (ngE ro (eadd PP (emul PP (S 5) A2) A1)) (emul PP (ngN jo (S 6 * S (18 + 3 * u) % NN)) A0)) := by
        rw [emul_ng onG h7, emul_neg gdP onG]
        exact eadd_ng hS (onE_mul gdP onG _)
      exact hR F36 _ _ _ dX4_judgePart_155 (b2i_z _) ⟨_, _, W38, (fun z hz => ((nS29 z (jne hz 0 rfl)).trans (hS16 z (jnsub (V := [8]) hz [1] rfl)))), (fun z hz => ((nP38 z (jne hz 0 rfl)).trans ((nP34 z (jne hz 1 rfl)).trans ((nP25 z (jne hz 0 rfl)).trans ((nP21 z (jne hz 1 rfl)).trans ((nP12 z (jne hz 0 rfl)).trans (nP8 z (jne hz 0 rfl)))))))), (b2i_c hfin), O38⟩
    · refine jr_aload_n hE dX4_judgePart_58 1 rfl ?_
      refine jr_get hE dX4_judgePart_59 f66 W12.o7 rfl ?_
      refine jr_kVv (ci := 6) (n := 0) (As := []) (rest := []) hE dX4_judgePart_62 (fun l => c_X6_negate l G (c (40 + 4 * 19)) (c (41 + 4 * 19)) (c (42 + 4 * 19)) (c (43 + 4 * 19)) (P12 19)) gX4_judgePart_X6_negate rfl ((W12.pt 19 (by decide) (by decide)).1) rfl (by decide +kernel) ⟨rfl, rfl, by decide, by decide⟩ (by decide) rfl rfl (Nat.le_of_ble_eq_true rfl) (⟨W12.pt 19 (by decide) (by decide), cnd W12.1 [40 + 4 * 19, 41 + 4 * 19, 42 + 4 * 19, 43 + 4 * 19] (by decide) (by decide)⟩) (fun F39 q40 => ?_)
      obtain ⟨h41, u41⟩ := q40
      obtain ⟨W41, P41⟩ := W12.setPy (i := 19) (by decide) (by decide) h41 u41
      have O41 := O12.tr P41
      obtain ⟨P41, eP41, hP41, yP41⟩ := uz_ab P12 19 (ngJ (P12 19))
      rw [eP41] at W41
      have nP41 : ∀ z, z ≠ 19 → P41 z = P12 z := fun z hz => hP41 z (fun e => hz (List.mem_singleton.mp e))
      have hr41 : rep (P41 19) (eneg PP (eadd PP (emul PP (S 5) A2) A1)) := by rw [yP41]; exact rep_ng hr12
      have hn42 : rep (P41 19) (ngE ro (eadd PP (emul PP (S 5) A2) A1)) := by rw [ngE_t (bi_1 c55)]; exact hr41
      refine jr_aload_n hE dX4_judgePart_65 1 rfl ?_
      refine jr_aload_n hE dX4_judgePart_66 0 rfl ?_
      refine jr_kVv (ci := 4) (n := 1) (As := [.ref (c (29 + u))]) (rest := []) hE dX4_judgePart_67 (fun l => c_g_weighChallenge l G c B S P41 q X v u jo) gX4_judgePart_X4_weighChallenge rfl W41.o7 rfl (by decide +kernel) ⟨rfl, rfl, by decide, by decide⟩ (by decide) rfl rfl (Nat.le_of_ble_eq_true rfl) (⟨W41, by omega, hjo, (by rw [show S 6 = S 6 from rfl]; exact h6), (by rw [show S (18 + 3 * u) = S (18 + 3 * u) from rfl]; exact hw)⟩) (fun F43 q44 => ?_)
      obtain ⟨S45, W45, hS45, f45_0, P45⟩ := q44
      have O45 := O41.tr P45
      have g45 := f45_0
      refine jr_aload_n hE dX4_judgePart_70 1 rfl ?_
      refine jr_get hE dX4_judgePart_71 f93 W45.o7 rfl ?_
      refine jr_aload_n hE dX4_judgePart_74 1 rfl ?_
      refine jr_get hE dX4_judgePart_75 f70 W45.o7 rfl ?_
      refine jr_aload_n hE dX4_judgePart_78 0 rfl ?_
      refine jr_get hE dX4_judgePart_79 f115 (W45.oM u (by omega)) rfl ?_
      refine jr_aload_n hE dX4_judgePart_82 1 rfl ?_
      refine jr_get hE dX4_judgePart_83 f57 W45.o7 rfl ?_
      have hp46 : rep (P41 (29 + 3 * u)) A0 := by rw [show P41 (29 + 3 * u) = P (29 + 3 * u) from ((nP41 (29 + 3 * u) (by omega)).trans ((nP12 (29 + 3 * u) (by omega)).trans (nP8 (29 + 3 * u) (by omega))))]; exact h0
      obtain ⟨f47, jm47, gm47⟩ := W45.cu.2.2.2.1
      have hk47 : S45 8 < 2 ^ 256 := by rw [show S45 8 = (ngN jo (S 6 * S (18 + 3 * u) % NN)) from (by have q := f45_0; rw [show S 6 = S 6 from rfl, show S (18 + 3 * u) = S (18 + 3 * u) from rfl] at q; exact q)]; exact Nat.lt_trans (ngN_lt (Nat.mod_lt _ NN0)) NN_256
      refine jr_kVv (ci := 2) (n := 3) (As := [.ref (c (40 + 4 * 20)), .ref (c (40 + 4 * (29 + 3 * u))), .ref (c (210 + 2 * 8))]) (rest := []) hE dX4_judgePart_86 (fun l => c_X2_times l G (c 9) (c (40 + 4 * 16)) (c 11) (c 10) (c 12) (c 13) (c 14) (c 15) (c 16) (c 17) (c (40 + 4 * 20)) (c (41 + 4 * 20)) (c (42 + 4 * 20)) (c (43 + 4 * 20)) (c (40 + 4 * (29 + 3 * u))) (c (41 + 4 * (29 + 3 * u))) (c (42 + 4 * (29 + 3 * u))) (c (43 + 4 * (29 + 3 * u))) (c (210 + 2 * 8)) (c (211 + 2 * 8)) (S45 8) f47 (fun i k => c (ck i k)) (P41 20) (P41 (29 + 3 * u))) gX4_judgePart_X2_times rfl W45.cv rfl (by decide +kernel) ⟨rfl, rfl, by decide, by decide⟩ (by decide) rfl rfl (Nat.le_of_ble_eq_true rfl) (W45.timesPre jm47 gm47 20 (29 + 3 * u) 8 (by decide) (by decide) (by omega) (by omega) (by decide) hk47) (fun F48 q49 => ?_)
      obtain ⟨W50, P50⟩ := W45.timesP gm47 (i := 20) (by decide) (by decide) q49
      have O50 := O45.tr P50
      obtain ⟨P50, eP50, hP50, yP50⟩ := uz_ab P41 20 (tmJ (P41 20) (P41 (29 + 3 * u)) (S45 8))
      rw [eP50] at W50
      have nP50 : ∀ z, z ≠ 20 → P50 z = P41 z := fun z hz => hP50 z (fun e => hz (List.mem_singleton.mp e))
      have hr50 : rep (P50 20) (emul PP (ngN jo (S 6 * S (18 + 3 * u) % NN)) A0) := by rw [yP50]; exact (by have q := rep_tm (O := P41 20) hp46 hk47; rw [show S45 8 = (ngN jo (S 6 * S (18 + 3 * u) % NN)) from (by have q := f45_0; rw [show S 6 = S 6 from rfl, show S (18 + 3 * u) = S (18 + 3 * u) from rfl] at q; exact q)] at q ⊢; exact q)
      refine jr_aload_n hE dX4_judgePart_89 1 rfl ?_
      refine jr_get hE dX4_judgePart_90 f93 W50.o7 rfl ?_
      refine jr_aload_n hE dX4_judgePart_93 1 rfl ?_
      refine jr_get hE dX4_judgePart_94 f66 W50.o7 rfl ?_
      refine jr_aload_n hE dX4_judgePart_97 1 rfl ?_
      refine jr_get hE dX4_judgePart_98 f70 W50.o7 rfl ?_
      have hp51 : rep (P50 19) (ngE ro (eadd PP (emul PP (S 5) A2) A1)) := by rw [show P50 19 = P41 19 from (nP50 19 (by decide))]; exact hn42
      refine jr_kVv (ci := 2) (n := 2) (As := [.ref (c (40 + 4 * 19)), .ref (c (40 + 4 * 20))]) (rest := []) hE dX4_judgePart_101 (fun l => c_X2_plus l G (c 9) (c (40 + 4 * 16)) (c 11) (c 10) (c 12) (c 13) (c 14) (c 15) (c 16) (c 17) (c (40 + 4 * 19)) (c (41 + 4 * 19)) (c (42 + 4 * 19)) (c (43 + 4 * 19)) (c (40 + 4 * 20)) (c (41 + 4 * 20)) (c (42 + 4 * 20)) (c (43 + 4 * 20)) (P50 19) (P50 20)) gX4_judgePart_X2_plus rfl W50.cv rfl (by decide +kernel) ⟨rfl, rfl, by decide, by decide⟩ (by decide) rfl rfl (Nat.le_of_ble_eq_true rfl) (W50.plusPre 19 20 (by decide) (by decide) (by decide) (by decide) (by decide)) (fun F52 q53 => ?_)
      obtain ⟨g54, h54, u54⟩ := q53
      obtain ⟨W54, P54⟩ := W50.plus (i := 19) (by decide) (by decide) g54 h54 u54
      have O54 := O50.tr P54
      obtain ⟨P54, eP54, hP54, yP54⟩ := uz_ab P50 19 (plJ (P50 19) (P50 20))
      rw [eP54] at W54
      have nP54 : ∀ z, z ≠ 19 → P54 z = P50 z := fun z hz => hP54 z (fun e => hz (List.mem_singleton.mp e))
      have hr54 : rep (P54 19) (eadd PP (ngE ro (eadd PP (emul PP (S 5) A2) A1)) (emul PP (ngN jo (S 6 * S (18 + 3 * u) % NN)) A0)) := by rw [yP54]; exact rep_pl hp51 hr50
      refine jr_aload_n hE dX4_judgePart_104 1 rfl ?_
      refine jr_get hE dX4_judgePart_105 f54 W54.o7 rfl ?_
      have hS55 : S45 7 = (S 7) := (hS45 7 (by decide)).trans rfl
      refine jr_kVv (ci := 8) (n := 0) (As := []) (rest := []) hE dX4_judgePart_108 (fun l => c_X8_negate l G (c (210 + 2 * 7)) (c (211 + 2 * 7)) (S 7)) gX4_judgePart_X8_negate rfl ((W54.sc 7 (by decide)).ob) rfl (by decide +kernel) ⟨rfl, rfl, by decide, by decide⟩ (by decide) rfl rfl (Nat.le_of_ble_eq_true rfl) (⟨(by have q := W54.sc 7 (by decide); rw [show S45 7 = (S 7) from hS55] at q; exact q), h7⟩) (fun F56 q57 => ?_)
      rw [ngN_if] at q57
      obtain ⟨h58, u58⟩ := q57
      obtain ⟨W58, P58⟩ := W54.setS (i := 7) (x := (ngN true (S 7))) (by decide) h58 u58
      have O58 := O54.tr P58
      obtain ⟨S58, eS58, hS58, yS58⟩ := uz_ab S45 7 (ngN true (S 7))
      rw [eS58] at W58
      have nS58 : ∀ z, z ≠ 7 → S58 z = S45 z := fun z hz => hS58 z (fun e => hz (List.mem_singleton.mp e))
      refine jr_aload_n hE dX4_judgePart_111 1 rfl ?_
      refine jr_get hE dX4_judgePart_112 f93 W58.o7 rfl ?_
      refine jr_aload_n hE dX4_judgePart_115 1 rfl ?_
      refine jr_get hE dX4_judgePart_116 f70 W58.o7 rfl ?_
      refine jr_aload_n hE dX4_judgePart_119 1 rfl ?_
      refine jr_get hE dX4_judgePart_120 f93 W58.o7 rfl ?_
      refine jr_get hE dX4_judgePart_123 f233 W58.cv rfl ?_
      refine jr_aload_n hE dX4_judgePart_126 1 rfl ?_
      refine jr_get hE dX4_judgePart_127 f54 W58.o7 rfl ?_
      have hp59 : rep (P54 16) GE := by rw [show P54 16 = P 16 from ((nP54 16 (by decide)).trans ((nP50 16 (by decide)).trans ((nP41 16 (by decide)).trans ((nP12 16 (by decide)).trans (nP8 16 (by decide))))))]; exact hG
      obtain ⟨f60, jm60, gm60⟩ := W58.cu.2.2.2.1
      have hk60 : S58 7 < 2 ^ 256 := by rw [show S58 7 = (ngN true (S 7)) from yS58]; exact Nat.lt_trans (ngN_lt h7) NN_256
      refine jr_kVv (ci := 2) (n := 3) (As := [.ref (c (40 + 4 * 20)), .ref (c (40 + 4 * 16)), .ref (c (210 + 2 * 7))]) (rest := []) hE dX4_judgePart_130 (fun l => c_X2_times l G (c 9) (c (40 + 4 * 16)) (c 11) (c 10) (c 12) (c 13) (c 14) (c 15) (c 16) (c 17) (c (40 + 4 * 20)) (c (41 + 4 * 20)) (c (42 + 4 * 20)) (c (43 + 4 * 20)) (c (40 + 4 * 16)) (c (41 + 4 * 16)) (c (42 + 4 * 16)) (c (43 + 4 * 16)) (c (210 + 2 * 7)) (c (211 + 2 * 7)) (S58 7) f60 (fun i k => c (ck i k)) (P54 20) (P54 16)) gX4_judgePart_X2_times rfl W58.cv rfl (by decide +kernel) ⟨rfl, rfl, by decide, by decide⟩ (by decide) rfl rfl (Nat.le_of_ble_eq_true rfl) (W58.timesPre jm60 gm60 20 16 7 (by decide) (by decide) (by decide) (by decide) (by decide) hk60) (fun F61 q62 => ?_)
      obtain ⟨W63, P63⟩ := W58.timesP gm60 (i := 20) (by decide) (by decide) q62
      have O63 := O58.tr P63
      obtain ⟨P63, eP63, hP63, yP63⟩ := uz_ab P54 20 (tmJ (P54 20) (P54 16) (S58 7))
      rw [eP63] at W63
      have nP63 : ∀ z, z ≠ 20 → P63 z = P54 z := fun z hz => hP63 z (fun e => hz (List.mem_singleton.mp e))
      have hr63 : rep (P63 20) (emul PP (ngN true (S 7)) GE) := by rw [yP63]; exact (by have q := rep_tm (O := P54 20) hp59 hk60; rw [show S58 7 = (ngN true (S 7)) from yS58] at q ⊢; exact q)
      refine jr_aload_n hE dX4_judgePart_133 1 rfl ?_
      refine jr_get hE dX4_judgePart_134 f93 W63.o7 rfl ?_
      refine jr_aload_n hE dX4_judgePart_137 1 rfl ?_
      refine jr_get hE dX4_judgePart_138 f66 W63.o7 rfl ?_
      refine jr_aload_n hE dX4_judgePart_141 1 rfl ?_
      refine jr_get hE dX4_judgePart_142 f70 W63.o7 rfl ?_
      have hp64 : rep (P63 19) (eadd PP (ngE ro (eadd PP (emul PP (S 5) A2) A1)) (emul PP (ngN jo (S 6 * S (18 + 3 * u) % NN)) A0)) := by rw [show P63 19 = P54 19 from (nP63 19 (by decide))]; exact hr54
      refine jr_kVv (ci := 2) (n := 2) (As := [.ref (c (40 + 4 * 19)), .ref (c (40 + 4 * 20))]) (rest := []) hE dX4_judgePart_145 (fun l => c_X2_plus l G (c 9) (c (40 + 4 * 16)) (c 11) (c 10) (c 12) (c 13) (c 14) (c 15) (c 16) (c 17) (c (40 + 4 * 19)) (c (41 + 4 * 19)) (c (42 + 4 * 19)) (c (43 + 4 * 19)) (c (40 + 4 * 20)) (c (41 + 4 * 20)) (c (42 + 4 * 20)) (c (43 + 4 * 20)) (P63 19) (P63 20)) gX4_judgePart_X2_plus rfl W63.cv rfl (by decide +kernel) ⟨rfl, rfl, by decide, by decide⟩ (by decide) rfl rfl (Nat.le_of_ble_eq_true rfl) (W63.plusPre 19 20 (by decide) (by decide) (by decide) (by decide) (by decide)) (fun F65 q66 => ?_)
      obtain ⟨g67, h67, u67⟩ := q66
      obtain ⟨W67, P67⟩ := W63.plus (i := 19) (by decide) (by decide) g67 h67 u67
      have O67 := O63.tr P67
      obtain ⟨P67, eP67, hP67, yP67⟩ := uz_ab P63 19 (plJ (P63 19) (P63 20))
      rw [eP67] at W67
      have nP67 : ∀ z, z ≠ 19 → P67 z = P63 z := fun z hz => hP67 z (fun e => hz (List.mem_singleton.mp e))
      have hr67 : rep (P67 19) (eadd PP (eadd PP (ngE ro (eadd PP (emul PP (S 5) A2) A1)) (emul PP (ngN jo (S 6 * S (18 + 3 * u) % NN)) A0)) (emul PP (ngN true (S 7)) GE)) := by rw [yP67]; exact rep_pl hp64 hr63
      refine jr_aload_n hE dX4_judgePart_148 1 rfl ?_
      refine jr_get hE dX4_judgePart_149 f66 W67.o7 rfl ?_
      refine jr_get hE dX4_judgePart_152 f135 (W67.pt 19 (by decide) (by decide)).1 rfl ?_
      rw [hr67.no]
      have hS := (onE_add gdP (onE_ng (q := ro) (onE_add gdP (onE_mul gdP h2.onE (S 5)) h1.onE)) (onE_mul gdP h0.onE (ngN jo (S 6 * S (18 + 3 * u) % NN))))
      have hfin : (eadd PP (eadd PP (ngE ro (eadd PP (emul PP (S 5) A2) A1)) (emul PP (ngN jo (S 6 * S (18 + 3 * u) % NN)) A0)) (emul PP (ngN true (S 7)) GE)) = none ↔ emul PP (S 7) GE = (eadd PP (ngE ro (eadd PP (emul PP (S 5) A2) A1)) (emul PP (ngN jo (S 6 * S (18 + 3 * u) % NN)) A0)) := by
        rw [emul_ng onG h7, emul_neg gdP onG]
        exact eadd_ng hS (onE_mul gdP onG _)
      exact hR F65 _ _ _ dX4_judgePart_155 (b2i_z _) ⟨_, _, W67, (fun z hz => ((nS58 z (jne hz 0 rfl)).trans (hS45 z (jnsub (V := [8]) hz [1] rfl)))), (fun z hz => ((nP67 z (jne hz 0 rfl)).trans ((nP63 z (jne hz 1 rfl)).trans ((nP54 z (jne hz 0 rfl)).trans ((nP50 z (jne hz 1 rfl)).trans ((nP41 z (jne hz 0 rfl)).trans ((nP12 z (jne hz 0 rfl)).trans (nP8 z (jne hz 0 rfl))))))))), (b2i_c hfin), O67⟩
  · exact absurd (hm_u hu h4) (b2i_0 c5)

