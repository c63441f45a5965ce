/-! Group: who is there -/
theorem i32_0 {x : Int32} : x < 0 ↔ x.toInt < 0 := by
  rw [Int32.lt_iff_toInt_lt, show (0 : Int32).toInt = 0 by decide]
theorem i32_g {x : Int32} {m : Nat} (hm : m < 2 ^ 31) : nI m ≤ x ↔ (m : Int) ≤ x.toInt := by
  rw [Int32.le_iff_toInt_le, nI_toInt hm]
theorem cnu_1 {f : Nat → Bool} {k : Nat} (h : f k = true) : cnt f (k + 1) = cnt f k + 1 := by
  show cnt f k + (if f k then 1 else 0) = _
  rw [h]
  rfl
theorem cnu_0 {f : Nat → Bool} {k : Nat} (h : f k = false) : cnt f (k + 1) = cnt f k + 0 := by
  show cnt f k + (if f k then 1 else 0) = _
  rw [h]
  rfl

theorem bc_pk {i : Nat} (h : i < 4) : bcap (38 + 3 * i) = 33 := by
  match i, h with
  | 0, _ => rfl
  | 1, _ => rfl
  | 2, _ => rfl
  | 3, _ => rfl
theorem bc_nb {i : Nat} (h : i < 4) : bcap (39 + 3 * i) = 66 ∧ bcap (40 + 3 * i) = 66 := by
  match i, h with
  | 0, _ => exact ⟨rfl, rfl⟩
  | 1, _ => exact ⟨rfl, rfl⟩
  | 2, _ => exact ⟨rfl, rfl⟩
  | 3, _ => exact ⟨rfl, rfl⟩
theorem bc_en {i : Nat} (h : i < 4) : bcap (26 + 3 * i) = 32 ∧ bcap (27 + 3 * i) = 40 ∧ bcap (28 + 3 * i) = 64 := by
  match i, h with
  | 0, _ => exact ⟨rfl, rfl, rfl⟩
  | 1, _ => exact ⟨rfl, rfl, rfl⟩
  | 2, _ => exact ⟨rfl, rfl, rfl⟩
  | 3, _ => exact ⟨rfl, rfl, rfl⟩

set_option maxHeartbeats 4000000 in
set_option maxRecDepth 100000 in
theorem c_g_isFull (l : Launch) (G : Nat → ClassId) (c : Nat → Nat) (B : Nat → List Nat) (S : Nat → Nat) (P : Nat → JP) (q : SS) (X : Nat) (v : Nat → Int32) (sz : Nat) : jKi l yX4_isFull wsX4_isFull ({ frames := 0, cells := 0, slots := 0, locals := 0 }) G [.ref (c 7)] (fun L F => CW G L F c B S P q X v ∧ v 2 = nI sz ∧ sz ≤ 4) (fun L F r F1 => F = F1 ∧ r = b2i (4 ≤ sz)) := by
  refine jm_ki (cc := cX4_isFull) (maxL := 1) (rt := .boolean) (by decide) rfl (Nat.le_of_ble_eq_true rfl) ?_
  intro E L F hE hR hpre
  have hE : jOk E G _ cX4_isFull 1 RX4 wsX4_isFull := hE
  obtain ⟨W0, hsz, h4⟩ := hpre
  have f7 : jFl RX4 wsX4_isFull 7 4 0 := ⟨rfl, by decide, by decide +kernel, by decide +kernel⟩
  refine jr_aload_n hE dX4_isFull_0 0 rfl ?_
  refine jr_get hE dX4_isFull_1 f7 W0.o7 rfl ?_
  rw [show v 2 = (nI sz) from hsz]
  refine jr_iconst (v := (4 : Int32)) hE dX4_isFull_4 (by decide) ?_
  refine jr_icmp_lt (tgt := 12) hE dX4_isFull_5 (by decide) (fun c5 => ?_) (fun c5 => ?_)
  · refine jr_iconst (v := (0 : Int32)) hE dX4_isFull_12 (by decide) ?_
    exact hR F _ _ _ dX4_isFull_13 rfl ⟨rfl, (b2i_f (fun h => absurd c5 (Int32.not_lt.mpr ((i32_g (m := 4) (by decide)).mpr (by rw [nI_toInt (by omega)]; omega))))).symm⟩
  · refine jr_iconst (v := (1 : Int32)) hE dX4_isFull_8 (by decide) ?_
    refine jr_goto (tgt := 13) hE dX4_isFull_9 (by decide) ?_
    exact hR F _ _ _ dX4_isFull_13 rfl ⟨rfl, (b2i_t (by have q := (i32_g (m := 4) (by decide)).mp (Int32.not_lt.mp c5); rw [nI_toInt (by omega)] at q; omega)).symm⟩

set_option maxHeartbeats 4000000 in
set_option maxRecDepth 100000 in
theorem c_g_hasMember (l : Launch) (G : Nat → ClassId) (c : Nat → Nat) (B : Nat → List Nat) (S : Nat → Nat) (P : Nat → JP) (q : SS) (X : Nat) (v : Nat → Int32) (x : Int32) (sz : Nat) : jKi l yX4_hasMember wsX4_hasMember ({ frames := 0, cells := 0, slots := 0, locals := 0 }) G [.ref (c 7), .int x] (fun L F => CW G L F c B S P q X v ∧ v 2 = nI sz ∧ sz ≤ 4) (fun L F r F1 => F = F1 ∧ r = b2i (0 ≤ x.toInt ∧ x.toInt < sz)) := by
  refine jm_ki (cc := cX4_hasMember) (maxL := 2) (rt := .boolean) (by decide) rfl (Nat.le_of_ble_eq_true rfl) ?_
  intro E L F hE hR hpre
  have hE : jOk E G _ cX4_hasMember 2 RX4 wsX4_hasMember := hE
  obtain ⟨W0, hsz, h4⟩ := hpre
  have f7 : jFl RX4 wsX4_hasMember 7 4 0 := ⟨rfl, by decide, by decide +kernel, by decide +kernel⟩
  refine jr_iload_n hE dX4_hasMember_0 1 rfl ?_
  refine jr_if_lt (tgt := 21) hE dX4_hasMember_1 (by decide) (fun c1 => ?_) (fun c1 => ?_)
  · refine jr_iconst (v := (0 : Int32)) hE dX4_hasMember_21 (by decide) ?_
    exact hR F _ _ _ dX4_hasMember_22 rfl ⟨rfl, (b2i_f (fun h => absurd (i32_0.mp c1) (by omega))).symm⟩
  · refine jr_iload_n hE dX4_hasMember_4 1 rfl ?_
    refine jr_aload_n hE dX4_hasMember_5 0 rfl ?_
    refine jr_get hE dX4_hasMember_6 f7 W0.o7 rfl ?_
    rw [show v 2 = (nI sz) from hsz]
    refine jr_icmp_ge (tgt := 21) hE dX4_hasMember_9 (by decide) (fun c9 => ?_) (fun c9 => ?_)
    · refine jr_iconst (v := (0 : Int32)) hE dX4_hasMember_21 (by decide) ?_
      exact hR F _ _ _ dX4_hasMember_22 rfl ⟨rfl, (b2i_f (fun h => absurd ((i32_g (by omega)).mp c9) (by omega))).symm⟩
    · refine jr_iload_n hE dX4_hasMember_12 1 rfl ?_
      refine jr_iconst (v := (4 : Int32)) hE dX4_hasMember_13 (by decide) ?_
      refine jr_icmp_ge (tgt := 21) hE dX4_hasMember_14 (by decide) (fun c14 => ?_) (fun c14 => ?_)
      · refine jr_iconst (v := (0 : Int32)) hE dX4_hasMember_21 (by decide) ?_
        exact hR F _ _ _ dX4_hasMember_22 rfl ⟨rfl, (b2i_f (fun h => absurd ((i32_g (m := 4) (by decide)).mp c14) (by omega))).symm⟩
      · refine jr_iconst (v := (1 : Int32)) hE dX4_hasMember_17 (by decide) ?_
        refine jr_goto (tgt := 22) hE dX4_hasMember_18 (by decide) ?_
        exact hR F _ _ _ dX4_hasMember_22 rfl ⟨rfl, (b2i_t ⟨Int.not_lt.mp (fun h => c1 (i32_0.mpr h)), Int.not_le.mp (fun h => c9 ((i32_g (by omega)).mpr h))⟩).symm⟩

set_option maxHeartbeats 4000000 in
set_option maxRecDepth 100000 in
theorem c_g_canRead (l : Launch) (G : Nat → ClassId) (c : Nat → Nat) (B : Nat → List Nat) (S : Nat → Nat) (P : Nat → JP) (q : SS) (X : Nat) (v : Nat → Int32) (k : Nat) : jKi l yX4_canRead wsX4_canRead ({ frames := 5, cells := 0, slots := 0, locals := 173 }) G [.ref (c 7), .ref (c (270 + 2 * k))] (fun L F => CW G L F c B S P q X v ∧ k < 16) (fun L F r F1 => ∃ P', CW G L F1 c B S P' q X v ∧ (∀ i, i ∉ [19] → P' i = P i) ∧ (sgOK (B k) → rep (P' 19) (pKs (B k))) ∧ r = b2i (sgOK (B k)) ∧ cO c F F1) := by
  refine jm_ki (cc := cX4_canRead) (maxL := 2) (rt := .boolean) (by decide) rfl (Nat.le_of_ble_eq_true rfl) ?_
  intro E L F hE hR hpre
  have hE : jOk E G _ cX4_canRead 2 RX4 wsX4_canRead := hE
  obtain ⟨W0, hk⟩ := hpre
  have hck := W0.cp k (by omega)
  have hbk : bcap k ≤ 100 := (W0.by k (by omega)).cap.2
  have f95 : jFl RX4 wsX4_canRead 95 0 1 := ⟨rfl, by decide, by decide +kernel, by decide +kernel⟩
  have f93 : jFl RX4 wsX4_canRead 93 4 5 := ⟨rfl, by decide, by decide +kernel, by decide +kernel⟩
  have f66 : jFl RX4 wsX4_canRead 66 4 16 := ⟨rfl, by decide, by decide +kernel, by decide +kernel⟩
  refine jr_aload_n hE dX4_canRead_0 1 rfl ?_
  refine jr_get hE dX4_canRead_1 f95 (W0.by k (by omega)).ob rfl ?_
  rw [show B k = (B k) from rfl]
  refine jr_bipush (v := (33 : Int32)) hE dX4_canRead_4 (by decide) ?_
  refine jr_icmp_ne (tgt := 29) hE dX4_canRead_6 (by decide) (fun c6 => ?_) (fun c6 => ?_)
  · refine jr_iconst (v := (0 : Int32)) hE dX4_canRead_29 (by decide) ?_
    exact hR F _ _ _ dX4_canRead_30 rfl ⟨_, W0, (fun z hz => rfl), (fun h => absurd h (fun h => c6 ((nI_eq (by omega) (by decide)).mpr h.1))), (b2i_f (fun h => c6 ((nI_eq (by omega) (by decide)).mpr h.1))).symm, (cO.rf c F)⟩
  · have hl : (B k).length = 33 := (nI_eq (by omega) (by decide)).mp c6
    refine jr_aload_n hE dX4_canRead_9 0 rfl ?_
    refine jr_get hE dX4_canRead_10 f93 W0.o7 rfl ?_
    refine jr_aload_n hE dX4_canRead_13 0 rfl ?_
    refine jr_get hE dX4_canRead_14 f66 W0.o7 rfl ?_
    refine jr_aload_n hE dX4_canRead_17 1 rfl ?_
    refine jr_iconst (v := (0 : Int32)) hE dX4_canRead_18 (by decide) ?_
    refine jr_kVi (ci := 2) (n := 3) (As := [.ref (c (40 + 4 * 19)), .ref (c (270 + 2 * k)), .int (0 : Int32)]) (rest := []) hE dX4_canRead_19 (fun l => c_X2_read l G (c 9) (c (40 + 4 * 16)) (c 11) (c 10) (c 12) (c 13) (c 14) (c 15) (c 16) (c 17) (c 18) (c 19) (c 20) (c 21) (c 22) (c 23) (c (40 + 4 * 19)) (c (41 + 4 * 19)) (c (42 + 4 * 19)) (c (43 + 4 * 19)) (c (270 + 2 * k)) (c (271 + 2 * k)) (bcap k) 0 (bnum ((B k).drop 1)) ((B k).getD 0 0) (P 19) (B k)) gX4_canRead_X2_read rfl W0.cv rfl (by decide +kernel) ⟨rfl, rfl, by decide, by decide⟩ (by decide) rfl rfl (Nat.le_of_ble_eq_true rfl) (⟨(W0.settlePre 19 (by decide) (by decide)).1, (W0.settlePre 19 (by decide) (by decide)).2.1, (W0.settlePre 19 (by decide) (by decide)).2.2.1, (W0.settlePre 19 (by decide) (by decide)).2.2.2.1, (W0.settlePre 19 (by decide) (by decide)).2.2.2.2, (by have q := W0.by k (by omega); rw [show B k = (B k) from rfl] at q; exact q), by omega, by rw [show 0 + 1 = 1 from rfl, dt1 (by omega)], rfl⟩) (fun r3 F1 q2 => ?_)
    obtain ⟨g4, gp4, go4, ⟨Q4, h4, hq4⟩, u4, r3e⟩ := q2
    subst r3e
    obtain ⟨W4, P4⟩ := W0.lift (i := 19) (by decide) (by decide) g4 gp4 go4 h4 u4
    have O4 := (cO.rf c F).tr P4
    obtain ⟨P4, eP4, hP4, yP4⟩ := uz_ab P 19 Q4
    rw [eP4] at W4
    have nP4 : ∀ z, z ≠ 19 → P4 z = P z := fun z hz => hP4 z (fun e => hz (List.mem_singleton.mp e))
    have hr4 : (rdX ((B k).getD 0 0) (bnum ((B k).drop 1))) → rep (P4 19) (rdE ((B k).getD 0 0) (bnum ((B k).drop 1))) := fun h => by rw [yP4, hq4 h]; exact rep_rd h
    refine jr_if_eq (tgt := 29) hE dX4_canRead_22 (by decide) (fun c22 => ?_) (fun c22 => ?_)
    · refine jr_iconst (v := (0 : Int32)) hE dX4_canRead_29 (by decide) ?_
      exact hR F1 _ _ _ dX4_canRead_30 rfl ⟨_, W4, (fun z hz => (nP4 z (jne hz 0 rfl))), (fun h => absurd h (fun h => absurd (b2i_t h.2) (by rw [c22]; decide))), (b2i_f (fun h => absurd (b2i_t h.2) (by rw [c22]; decide))).symm, O4⟩
    · refine jr_iconst (v := (1 : Int32)) hE dX4_canRead_25 (by decide) ?_
      refine jr_goto (tgt := 30) hE dX4_canRead_26 (by decide) ?_
      exact hR F1 _ _ _ dX4_canRead_30 rfl ⟨_, W4, (fun z hz => (nP4 z (jne hz 0 rfl))), (fun _ => (hr4 (b2i_1 c22))), (b2i_t ⟨hl, b2i_1 c22⟩).symm, O4⟩

set_option maxHeartbeats 4000000 in
set_option maxRecDepth 100000 in
theorem c_g_forgetNonces (l : Launch) (G : Nat → ClassId) (c : Nat → Nat) (B : Nat → List Nat) (S : Nat → Nat) (P : Nat → JP) (q : SS) (X : Nat) (v : Nat → Int32) : jKv l yX4_forgetNonces wsX4_forgetNonces ({ frames := 0, cells := 0, slots := 0, locals := 0 }) G [.ref (c 7)] (fun L F => CW G L F c B S P q X v) (fun L F F1 => ∃ v', CW G L F1 c B S P q X v' ∧ (∀ i, i ∉ [3, 6, 7, 8, 9, 10, 11, 12, 13] → v' i = v i) ∧ v' 3 = 0 ∧ (∀ t, t < 4 → v' (6 + 2 * t) = 0 ∧ v' (7 + 2 * t) = 0) ∧ cO c F F1) := by
  refine jm_kv (cc := cX4_forgetNonces) (maxL := 2) (by decide) rfl (Nat.le_of_ble_eq_true rfl) ?_
  intro E L F hE hR hpre
  have hE : jOk E G _ cX4_forgetNonces 2 RX4 wsX4_forgetNonces := hE
  have W0 := hpre
  have f13 : jFl RX4 wsX4_forgetNonces 13 4 1 := ⟨rfl, by decide, by decide +kernel, by decide +kernel⟩
  have f28 : jFl RX4 wsX4_forgetNonces 28 4 6 := ⟨rfl, by decide, by decide +kernel, by decide +kernel⟩
  have f122 : jFl RX4 wsX4_forgetNonces 122 5 3 := ⟨rfl, by decide, by decide +kernel, by decide +kernel⟩
  have f125 : jFl RX4 wsX4_forgetNonces 125 5 7 := ⟨rfl, by decide, by decide +kernel, by decide +kernel⟩
  refine jr_aload_n hE dX4_forgetNonces_0 0 rfl ?_
  refine jr_iconst (v := (0 : Int32)) hE dX4_forgetNonces_1 (by decide) ?_
  refine jr_put (ty := .boolean) hE dX4_forgetNonces_2 f13 W0.o7 rfl (by decide +kernel) rfl rfl (Nat.le_of_ble_eq_true rfl) (fun F1 h1 u1 => ?_)
  obtain ⟨W1, P1⟩ := W0.setV7 (v1 := (uz v 3 (0 : Int32))) h1 (fun z hz => uz_n _ _ (jne hz 1 rfl)) u1
  have O1 := (cO.rf c F).tr P1
  obtain ⟨v1, ev1, hv1, yv1⟩ := uz_ab v 3 (0 : Int32)
  rw [ev1] at W1
  have nv1 : ∀ z, z ≠ 3 → v1 z = v z := fun z hz => hv1 z (fun e => hz (List.mem_singleton.mp e))
  refine jr_iconst (v := (0 : Int32)) hE dX4_forgetNonces_5 (by decide) ?_
  refine jr_istore_n (lv' := [(1, .int (0 : Int32)), (0, .ref (c 7))]) hE dX4_forgetNonces_6 (by decide) rfl ?_
  have loop : ∀ (r0 i : Nat) (F4 : Nat → va_E) (vL : Nat → Int32), i + r0 = 4 → CW G L F4 c B S P q X vL → (∀ z, z ∉ [6, 7, 8, 9, 10, 11, 12, 13] → vL z = v1 z) → (∀ t, t < i → vL (6 + 2 * t) = 0 ∧ vL (7 + 2 * t) = 0) → cO c F F4 → J E L F4 0 0 7 [(1, .int (nI i)), (0, .ref (c 7))] [] := by
    intro r0
    induction r0 with
    | zero =>
      intro i F4 vL hi W4 hvf hz O4
      have hiN : 4 = i := by omega
      subst hiN
      refine jr_iload_n hE dX4_forgetNonces_7 0 rfl ?_
      refine jr_iconst (v := (4 : Int32)) hE dX4_forgetNonces_8 (by decide) ?_
      refine jr_icmp_ge (tgt := 38) hE dX4_forgetNonces_9 (by decide) (fun c_9 => ?_) (fun c_9 => absurd (nI_le (a := 4) (by omega) (by omega)) c_9)
      have hv2 : vL 3 = (0 : Int32) := (hvf 3 (by decide)).trans yv1
      exact hR F4 _ _ dX4_forgetNonces_38 ⟨_, W4, (fun z hz => ((hvf z (jnsub (V := [6, 7, 8, 9, 10, 11, 12, 13]) hz [1, 2, 3, 4, 5, 6, 7, 8] rfl)).trans (nv1 z (jne hz 0 rfl)))), hv2, hz, O4⟩
    | succ r0 ih =>
      intro i F4 vL hi W4 hvf hz O4
      refine jr_iload_n hE dX4_forgetNonces_7 0 rfl ?_
      refine jr_iconst (v := (4 : Int32)) hE dX4_forgetNonces_8 (by decide) ?_
      refine jr_icmp_ge (tgt := 38) hE dX4_forgetNonces_9 (by decide) (fun c_9 => absurd c_9 (nI_ge (b := 4) (by omega) (by omega))) (fun c_9 => ?_)
      refine jr_aload_n hE dX4_forgetNonces_12 1 rfl ?_
      refine jr_get hE dX4_forgetNonces_13 f28 W4.o7 rfl ?_
      refine jr_iload_n hE dX4_forgetNonces_16 0 rfl ?_
      obtain ⟨f3, ja3, ga3⟩ := W4.aM
      refine jr_aald (v := c (29 + i)) hE dX4_forgetNonces_17 ja3 rfl (vp_in_nI (n := i) (by omega) (by decide)) (by rw [nI_clamp (by omega)]; exact ga3 i (by omega)) ?_
      refine jr_iconst (v := (0 : Int32)) hE dX4_forgetNonces_18 (by decide) ?_
      refine jr_put (ty := .boolean) hE dX4_forgetNonces_19 f122 (W4.oM i (by omega)) rfl (by decide +kernel) rfl rfl (Nat.le_of_ble_eq_true rfl) (fun F4 h4 u4 => ?_)
      have h4 : jF L F4 (c (29 + i)) (.inr (5, [.ref (c (270 + 2 * (38 + 3 * i))), .ref (c (40 + 4 * (29 + 3 * i))), .ref (c (210 + 2 * (18 + 3 * i))), .int ((uz vL (6 + 2 * i) (0 : Int32)) (6 + 2 * i)), .ref (c (210 + 2 * (19 + 3 * i))), .ref (c (210 + 2 * (20 + 3 * i))), .ref (c (270 + 2 * (39 + 3 * i))), .int ((uz vL (6 + 2 * i) (0 : Int32)) (7 + 2 * i)), .ref (c (270 + 2 * (40 + 3 * i))), .ref (c (40 + 4 * (30 + 3 * i))), .ref (c (40 + 4 * (31 + 3 * i)))])) := by
        rw [uz_s, show (uz vL (6 + 2 * i) (0 : Int32)) (7 + 2 * i) = vL (7 + 2 * i) from uz_n _ _ (by omega)]
        exact h4
      obtain ⟨W4, P4⟩ := W4.setVM (m := i) (v1 := (uz vL (6 + 2 * i) (0 : Int32))) (by omega) h4 (fun z h1 h2 => uz_n _ _ h1) u4
      have O4 := O4.tr P4
      obtain ⟨v4, ev4, hv4, yv4⟩ := uz_ab vL (6 + 2 * i) (0 : Int32)
      rw [ev4] at W4
      have nv4 : ∀ z, z ≠ (6 + 2 * i) → v4 z = vL z := fun z hz => hv4 z (fun e => hz (List.mem_singleton.mp e))
      refine jr_aload_n hE dX4_forgetNonces_22 1 rfl ?_
      refine jr_get hE dX4_forgetNonces_23 f28 W4.o7 rfl ?_
      refine jr_iload_n hE dX4_forgetNonces_26 0 rfl ?_
      obtain ⟨f5, ja5, ga5⟩ := W4.aM
      refine jr_aald (v := c (29 + i)) hE dX4_forgetNonces_27 ja5 rfl (vp_in_nI (n := i) (by omega) (by decide)) (by rw [nI_clamp (by omega)]; exact ga5 i (by omega)) ?_
      refine jr_iconst (v := (0 : Int32)) hE dX4_forgetNonces_28 (by decide) ?_
      refine jr_put (ty := .boolean) hE dX4_forgetNonces_29 f125 (W4.oM i (by omega)) rfl (by decide +kernel) rfl rfl (Nat.le_of_ble_eq_true rfl) (fun F6 h6 u6 => ?_)
      have h6 : jF L F6 (c (29 + i)) (.inr (5, [.ref (c (270 + 2 * (38 + 3 * i))), .ref (c (40 + 4 * (29 + 3 * i))), .ref (c (210 + 2 * (18 + 3 * i))), .int ((uz v4 (7 + 2 * i) (0 : Int32)) (6 + 2 * i)), .ref (c (210 + 2 * (19 + 3 * i))), .ref (c (210 + 2 * (20 + 3 * i))), .ref (c (270 + 2 * (39 + 3 * i))), .int ((uz v4 (7 + 2 * i) (0 : Int32)) (7 + 2 * i)), .ref (c (270 + 2 * (40 + 3 * i))), .ref (c (40 + 4 * (30 + 3 * i))), .ref (c (40 + 4 * (31 + 3 * i)))])) := by
        rw [uz_s, show (uz v4 (7 + 2 * i) (0 : Int32)) (6 + 2 * i) = v4 (6 + 2 * i) from uz_n _ _ (by omega)]
        exact h6
      obtain ⟨W6, P6⟩ := W4.setVM (m := i) (v1 := (uz v4 (7 + 2 * i) (0 : Int32))) (by omega) h6 (fun z h1 h2 => uz_n _ _ h2) u6
      have O6 := O4.tr P6
      obtain ⟨v6, ev6, hv6, yv6⟩ := uz_ab v4 (7 + 2 * i) (0 : Int32)
      rw [ev6] at W6
      have nv6 : ∀ z, z ≠ (7 + 2 * i) → v6 z = v4 z := fun z hz => hv6 z (fun e => hz (List.mem_singleton.mp e))
      refine jr_iinc (v := nI (i + 1)) (lv' := [(1, .int (nI (i + 1))), (0, .ref (c 7))]) hE dX4_forgetNonces_32 0 rfl (nI_1 _) (by decide) rfl ?_
      refine jr_goto (tgt := 7) hE dX4_forgetNonces_35 (by decide) ?_
      have hv7 : v6 (6 + 2 * i) = (0 : Int32) := (nv6 (6 + 2 * i) (by omega)).trans yv4
      have y6 := hv7
      have y7 := yv6
      refine jr_lv (lv' := [(1, .int (nI (i + 1))), (0, .ref (c 7))]) [0, 1] rfl ?_
      exact ih (i + 1) F6 v6 (by omega) W6 (fun z hz => ((nv6 z (by simp only [List.mem_cons, List.not_mem_nil, or_false, not_or] at hz; omega)).trans ((nv4 z (by simp only [List.mem_cons, List.not_mem_nil, or_false, not_or] at hz; omega)).trans (hvf z (by simp only [List.mem_cons, List.not_mem_nil, or_false, not_or] at hz ⊢; omega))))) (fun t ht => by
        by_cases e : t = i
        · rw [e]; exact ⟨y6, y7⟩
        · have q := hz t (by omega)
          rw [nv6 (6 + 2 * t) (by omega), nv6 (7 + 2 * t) (by omega), nv4 (6 + 2 * t) (by omega), nv4 (7 + 2 * t) (by omega)]
          exact q) O6
  exact loop 4 0 F1 v1 (by omega) W1 (fun z hz => rfl) (fun t ht => absurd ht (Nat.not_lt_zero t)) O1

set_option maxHeartbeats 4000000 in
set_option maxRecDepth 100000 in
theorem c_g_dissolve (l : Launch) (G : Nat → ClassId) (c : Nat → Nat) (B : Nat → List Nat) (S : Nat → Nat) (P : Nat → JP) (q : SS) (X : Nat) (v : Nat → Int32) : jKv l yX4_dissolve wsX4_dissolve ({ frames := 1, cells := 0, slots := 0, locals := 21 }) G [.ref (c 7)] (fun L F => CW G L F c B S P q X v) (fun L F F1 => ∃ v', CW G L F1 c B S P q X v' ∧ (∀ i, i ∉ [2, 3, 6, 7, 8, 9, 10, 11, 12, 13] → v' i = v i) ∧ v' 2 = 0 ∧ v' 3 = 0 ∧ (∀ t, t < 4 → v' (6 + 2 * t) = 0 ∧ v' (7 + 2 * t) = 0) ∧ cO c F F1) := by
  refine jm_kv (cc := cX4_dissolve) (maxL := 1) (by decide) rfl (Nat.le_of_ble_eq_true rfl) ?_
  intro E L F hE hR hpre
  have hE : jOk E G _ cX4_dissolve 1 RX4 wsX4_dissolve := hE
  have W0 := hpre
  have f7 : jFl RX4 wsX4_dissolve 7 4 0 := ⟨rfl, by decide, by decide +kernel, by decide +kernel⟩
  refine jr_aload_n hE dX4_dissolve_0 0 rfl ?_
  refine jr_iconst (v := (0 : Int32)) hE dX4_dissolve_1 (by decide) ?_
  refine jr_put (ty := .int) hE dX4_dissolve_2 f7 W0.o7 rfl (by decide +kernel) rfl rfl (Nat.le_of_ble_eq_true rfl) (fun F1 h1 u1 => ?_)
  obtain ⟨W1, P1⟩ := W0.setV7 (v1 := (uz v 2 (0 : Int32))) h1 (fun z hz => uz_n _ _ (jne hz 0 rfl)) u1
  have O1 := (cO.rf c F).tr P1
  obtain ⟨v1, ev1, hv1, yv1⟩ := uz_ab v 2 (0 : Int32)
  rw [ev1] at W1
  have nv1 : ∀ z, z ≠ 2 → v1 z = v z := fun z hz => hv1 z (fun e => hz (List.mem_singleton.mp e))
  refine jr_aload_n hE dX4_dissolve_5 0 rfl ?_
  refine jr_kVv (ci := 4) (n := 0) (As := []) (rest := []) hE dX4_dissolve_6 (fun l => c_g_forgetNonces l G c B S P q X v1 ) gX4_dissolve_X4_forgetNonces rfl W1.o7 rfl (by decide +kernel) ⟨rfl, rfl, by decide, by decide⟩ (by decide) rfl rfl (Nat.le_of_ble_eq_true rfl) (W1) (fun F2 q3 => ?_)
  obtain ⟨v4, W4, hv4, f4_0, f4_1, P4⟩ := q3
  have O4 := O1.tr P4
  have hv5 : v4 2 = (0 : Int32) := (hv4 2 (by decide)).trans yv1
  exact hR F2 _ _ dX4_dissolve_9 ⟨_, W4, (fun z hz => ((hv4 z (jnsub (V := [3, 6, 7, 8, 9, 10, 11, 12, 13]) hz [1, 2, 3, 4, 5, 6, 7, 8, 9] rfl)).trans (nv1 z (jne hz 0 rfl)))), hv5, f4_0, f4_1, O4⟩

set_option maxHeartbeats 4000000 in
set_option maxRecDepth 100000 in
theorem c_g_addMember (l : Launch) (G : Nat → ClassId) (c : Nat → Nat) (B : Nat → List Nat) (S : Nat → Nat) (P : Nat → JP) (q : SS) (X : Nat) (v : Nat → Int32) (k sz : Nat) (A : EP) : jKv l yX4_addMember wsX4_addMember ({ frames := 4, cells := 0, slots := 0, locals := 87 }) G [.ref (c 7), .ref (c (270 + 2 * k))] (fun L F => CW G L F c B S P q X v ∧ k < 16 ∧ v 2 = nI sz ∧ sz < 4 ∧ (B k).length = 33 ∧ rep (P 19) A) (fun L F F1 => ∃ B' P' v', CW G L F1 c B' S P' q X v' ∧ (∀ i, i ∉ [(38 + 3 * sz)] → B' i = B i) ∧ (∀ i, i ∉ [(29 + 3 * sz)] → P' i = P i) ∧ (∀ i, i ∉ [2, 3, 6, 7, 8, 9, 10, 11, 12, 13] → v' i = v i) ∧ B' (38 + 3 * sz) = B k ∧ rep (P' (29 + 3 * sz)) A ∧ v' 2 = nI (sz + 1) ∧ v' 3 = 0 ∧ (∀ t, t < 4 → v' (6 + 2 * t) = 0 ∧ v' (7 + 2 * t) = 0) ∧ cO c F F1) := by
  refine jm_kv (cc := cX4_addMember) (maxL := 2) (by decide) rfl (Nat.le_of_ble_eq_true rfl) ?_
  intro E L F hE hR hpre
  have hE : jOk E G _ cX4_addMember 2 RX4 wsX4_addMember := hE
  obtain ⟨W0, hk, hsz, h4, hl, hA⟩ := hpre
  have f7 : jFl RX4 wsX4_addMember 7 4 0 := ⟨rfl, by decide, by decide +kernel, by decide +kernel⟩
  have f28 : jFl RX4 wsX4_addMember 28 4 6 := ⟨rfl, by decide, by decide +kernel, by decide +kernel⟩
  have f108 : jFl RX4 wsX4_addMember 108 5 0 := ⟨rfl, by decide, by decide +kernel, by decide +kernel⟩
  have f115 : jFl RX4 wsX4_addMember 115 5 1 := ⟨rfl, by decide, by decide +kernel, by decide +kernel⟩
  have f66 : jFl RX4 wsX4_addMember 66 4 16 := ⟨rfl, by decide, by decide +kernel, by decide +kernel⟩
  refine jr_aload_n hE dX4_addMember_0 0 rfl ?_
  refine jr_get hE dX4_addMember_1 f7 W0.o7 rfl ?_
  rw [show v 2 = (nI sz) from hsz]
  refine jr_if_lt (tgt := 14) hE dX4_addMember_4 (by decide) (fun c_4 => absurd c_4 (fun h => absurd (i32_0.mp h) (by rw [nI_toInt (by omega)]; omega))) (fun c_4 => ?_)
  refine jr_aload_n hE dX4_addMember_7 0 rfl ?_
  refine jr_kVi (ci := 4) (n := 0) (As := []) (rest := []) hE dX4_addMember_8 (fun l => c_g_isFull l G c B S P q X v sz) gX4_addMember_X4_isFull rfl W0.o7 rfl (by decide +kernel) ⟨rfl, rfl, by decide, by decide⟩ (by decide) rfl rfl (Nat.le_of_ble_eq_true rfl) (⟨W0, hsz, by omega⟩) (fun r3 F1 q2 => ?_)
  obtain ⟨eq2, rq2⟩ := q2
  subst eq2 rq2
  refine jr_if_eq (tgt := 15) hE dX4_addMember_11 (by decide) (fun c11 => ?_) (fun c11 => ?_)
  · refine jr_aload_n hE dX4_addMember_15 0 rfl ?_
    refine jr_get hE dX4_addMember_16 f28 W0.o7 rfl ?_
    refine jr_aload_n hE dX4_addMember_19 0 rfl ?_
    refine jr_get hE dX4_addMember_20 f7 W0.o7 rfl ?_
    rw [show v 2 = (nI sz) from hsz]
    obtain ⟨f4, ja4, ga4⟩ := W0.aM
    refine jr_aald (v := c (29 + sz)) hE dX4_addMember_23 ja4 rfl (vp_in_nI (n := sz) (by omega) (by decide)) (by rw [nI_clamp (by omega)]; exact ga4 sz (by omega)) ?_
    refine jr_get hE dX4_addMember_24 f108 (W0.oM sz (by omega)) rfl ?_
    refine jr_aload_n hE dX4_addMember_27 1 rfl ?_
    refine jr_kVv (ci := 0) (n := 1) (As := [.ref (c (270 + 2 * k))]) (rest := []) hE dX4_addMember_28 (fun l => c_X0_become l G (c (270 + 2 * (38 + 3 * sz))) (c (271 + 2 * (38 + 3 * sz))) (bcap (38 + 3 * sz)) (c (270 + 2 * k)) (c (271 + 2 * k)) (bcap k) (B (38 + 3 * sz)) (B k)) gX4_addMember_X0_become rfl ((W0.by (38 + 3 * sz) (by omega)).ob) rfl (by decide +kernel) ⟨rfl, rfl, by decide, by decide⟩ (by decide) rfl rfl (Nat.le_of_ble_eq_true rfl) (⟨W0.by (38 + 3 * sz) (by omega), (by have q := W0.by k (by omega); rw [show B k = (B k) from rfl] at q; exact q), cnd W0.1 [270 + 2 * (38 + 3 * sz), 271 + 2 * (38 + 3 * sz), 270 + 2 * k, 271 + 2 * k] (by simp only [List.mem_cons, List.not_mem_nil, or_false]; omega) (by simp only [List.nodup_cons, List.mem_cons, List.not_mem_nil, or_false, not_or, List.nodup_nil, not_false_eq_true, and_true]; omega), by rw [hl, bc_pk (by omega)]; exact Nat.le_refl _⟩) (fun F5 q6 => ?_)
    obtain ⟨h7, u7⟩ := q6
    obtain ⟨W7, P7⟩ := W0.setB (i := (38 + 3 * sz)) (bs := (B k)) (by omega) h7 u7
    have O7 := (cO.rf c F).tr P7
    obtain ⟨B7, eB7, hB7, yB7⟩ := uz_ab B (38 + 3 * sz) (B k)
    rw [eB7] at W7
    have nB7 : ∀ z, z ≠ (38 + 3 * sz) → B7 z = B z := fun z hz => hB7 z (fun e => hz (List.mem_singleton.mp e))
    refine jr_aload_n hE dX4_addMember_31 0 rfl ?_
    refine jr_get hE dX4_addMember_32 f28 W7.o7 rfl ?_
    refine jr_aload_n hE dX4_addMember_35 0 rfl ?_
    refine jr_get hE dX4_addMember_36 f7 W7.o7 rfl ?_
    rw [show v 2 = (nI sz) from hsz]
    obtain ⟨f8, ja8, ga8⟩ := W7.aM
    refine jr_aald (v := c (29 + sz)) hE dX4_addMember_39 ja8 rfl (vp_in_nI (n := sz) (by omega) (by decide)) (by rw [nI_clamp (by omega)]; exact ga8 sz (by omega)) ?_
    refine jr_get hE dX4_addMember_40 f115 (W7.oM sz (by omega)) rfl ?_
    refine jr_aload_n hE dX4_addMember_43 0 rfl ?_
    refine jr_get hE dX4_addMember_44 f66 W7.o7 rfl ?_
    refine jr_kVv (ci := 6) (n := 1) (As := [.ref (c (40 + 4 * 19))]) (rest := []) hE dX4_addMember_47 (fun l => c_X6_become l G (c (40 + 4 * (29 + 3 * sz))) (c (41 + 4 * (29 + 3 * sz))) (c (42 + 4 * (29 + 3 * sz))) (c (43 + 4 * (29 + 3 * sz))) (c (40 + 4 * 19)) (c (41 + 4 * 19)) (c (42 + 4 * 19)) (c (43 + 4 * 19)) (P (29 + 3 * sz)) (P 19)) gX4_addMember_X6_become rfl ((W7.pt (29 + 3 * sz) (by omega) (by omega)).1) rfl (by decide +kernel) ⟨rfl, rfl, by decide, by decide⟩ (by decide) rfl rfl (Nat.le_of_ble_eq_true rfl) (⟨W7.pt (29 + 3 * sz) (by omega) (by omega), W7.pt 19 (by decide) (by decide), cnd W7.1 [40 + 4 * (29 + 3 * sz), 41 + 4 * (29 + 3 * sz), 42 + 4 * (29 + 3 * sz), 43 + 4 * (29 + 3 * sz), 40 + 4 * 19, 41 + 4 * 19, 42 + 4 * 19, 43 + 4 * 19] (by simp only [List.mem_cons, List.not_mem_nil, or_false]; omega) (by simp only [List.nodup_cons, List.mem_cons, List.not_mem_nil, or_false, not_or, List.nodup_nil, not_false_eq_true, and_true]; omega)⟩) (fun F9 q10 => ?_)
    obtain ⟨h11, u11⟩ := q10
    obtain ⟨W11, P11⟩ := W7.setPx (i := (29 + 3 * sz)) (by omega) (by omega) h11 u11
    have O11 := O7.tr P11
    obtain ⟨P11, eP11, hP11, yP11⟩ := uz_ab P (29 + 3 * sz) (P 19)
    rw [eP11] at W11
    have nP11 : ∀ z, z ≠ (29 + 3 * sz) → P11 z = P z := fun z hz => hP11 z (fun e => hz (List.mem_singleton.mp e))
    have hr11 : rep (P11 (29 + 3 * sz)) A := by rw [yP11]; exact hA
    refine jr_aload_n hE dX4_addMember_50 0 rfl ?_
    refine jr_dup hE dX4_addMember_51 rfl ?_
    refine jr_get hE dX4_addMember_52 f7 W11.o7 rfl ?_
    rw [show v 2 = (nI sz) from hsz]
    refine jr_iconst (v := (1 : Int32)) hE dX4_addMember_55 (by decide) ?_
    refine jr_iadd (z := nI (sz + 1)) hE dX4_addMember_56 (nI_add _ 1) ?_
    refine jr_put (ty := .int) hE dX4_addMember_57 f7 W11.o7 rfl (by decide +kernel) rfl rfl (Nat.le_of_ble_eq_true rfl) (fun F12 h12 u12 => ?_)
    obtain ⟨W12, P12⟩ := W11.setV7 (v1 := (uz v 2 (nI (sz + 1)))) h12 (fun z hz => uz_n _ _ (jne hz 0 rfl)) u12
    have O12 := O11.tr P12
    obtain ⟨v12, ev12, hv12, yv12⟩ := uz_ab v 2 (nI (sz + 1))
    rw [ev12] at W12
    have nv12 : ∀ z, z ≠ 2 → v12 z = v z := fun z hz => hv12 z (fun e => hz (List.mem_singleton.mp e))
    refine jr_aload_n hE dX4_addMember_60 0 rfl ?_
    refine jr_kVv (ci := 4) (n := 0) (As := []) (rest := []) hE dX4_addMember_61 (fun l => c_g_forgetNonces l G c B7 S P11 q X v12 ) gX4_addMember_X4_forgetNonces rfl W12.o7 rfl (by decide +kernel) ⟨rfl, rfl, by decide, by decide⟩ (by decide) rfl rfl (Nat.le_of_ble_eq_true rfl) (W12) (fun F13 q14 => ?_)
    obtain ⟨v15, W15, hv15, f15_0, f15_1, P15⟩ := q14
    have O15 := O12.tr P15
    have hv16 : v15 2 = (nI (sz + 1)) := (hv15 2 (by decide)).trans yv12
    exact hR F13 _ _ dX4_addMember_64 ⟨_, _, _, W15, (fun z hz => (nB7 z (by simp only [List.mem_cons, List.not_mem_nil, or_false, not_or] at hz; omega))), (fun z hz => (nP11 z (by simp only [List.mem_cons, List.not_mem_nil, or_false, not_or] at hz; omega))), (fun z hz => ((hv15 z (by simp only [List.mem_cons, List.not_mem_nil, or_false, not_or] at hz ⊢; omega)).trans (nv12 z (by simp only [List.mem_cons, List.not_mem_nil, or_false, not_or] at hz; omega)))), yB7, hr11, hv16, f15_0, f15_1, O15⟩
  · exact absurd (b2i_1 c11) (by omega)

set_option maxHeartbeats 4000000 in
set_option maxRecDepth 100000 in
theorem c_g_countNonces (l : Launch) (G : Nat → ClassId) (c : Nat → Nat) (B : Nat → List Nat) (S : Nat → Nat) (P : Nat → JP) (q : SS) (X : Nat) (v : Nat → Int32) (h : Nat → Bool) : jKi l yX4_countNonces wsX4_countNonces ({ frames := 0, cells := 0, slots := 0, locals := 0 }) G [.ref (c 7)] (fun L F => CW G L F c B S P q X v ∧ ∀ j, j < 4 → v (6 + 2 * j) = bi (h j)) (fun L F r F1 => F = F1 ∧ r = nI (cnt h 4)) := by
  refine jm_ki (cc := cX4_countNonces) (maxL := 3) (rt := .int) (by decide) rfl (Nat.le_of_ble_eq_true rfl) ?_
  intro E L F hE hR hpre
  have hE : jOk E G _ cX4_countNonces 3 RX4 wsX4_countNonces := hE

  have f28 : jFl RX4 wsX4_countNonces 28 4 6 := ⟨rfl, by decide, by decide +kernel, by decide +kernel⟩
  have f122 : jFl RX4 wsX4_countNonces 122 5 3 := ⟨rfl, by decide, by decide +kernel, by decide +kernel⟩
  obtain ⟨W0, hb⟩ := hpre
  have loop : ∀ (r0 i : Nat), i + r0 = 4 → J E L F 0 0 4 [(2, .int (nI i)), (1, .int (nI (cnt h i))), (0, .ref (c 7))] [] := by
    intro r0
    induction r0 with
    | zero =>
      intro i hi
      have hi4 : i = 4 := by omega
      subst hi4
      refine jr_iload_n hE dX4_countNonces_4 0 rfl ?_
      refine jr_iconst (v := (4 : Int32)) hE dX4_countNonces_5 (by decide) ?_
      refine jr_icmp_ge (tgt := 35) hE dX4_countNonces_6 (by decide) (fun c_6 => ?_) (fun c_6 => absurd (nI_le (a := 4) (by omega) (by omega)) c_6)
      refine jr_iload_n hE dX4_countNonces_35 1 rfl ?_
      exact hR F _ _ _ dX4_countNonces_36 rfl ⟨rfl, rfl⟩
    | succ r0 ih =>
      intro i hi
      refine jr_iload_n hE dX4_countNonces_4 0 rfl ?_
      refine jr_iconst (v := (4 : Int32)) hE dX4_countNonces_5 (by decide) ?_
      refine jr_icmp_ge (tgt := 35) hE dX4_countNonces_6 (by decide) (fun c_6 => absurd c_6 (nI_ge (b := 4) (by omega) (by omega))) (fun c_6 => ?_)
      refine jr_iload_n hE dX4_countNonces_9 1 rfl ?_
      refine jr_aload_n hE dX4_countNonces_10 2 rfl ?_
      refine jr_get hE dX4_countNonces_11 f28 W0.o7 rfl ?_
      refine jr_iload_n hE dX4_countNonces_14 0 rfl ?_
      obtain ⟨f1, ja1, ga1⟩ := W0.aM
      refine jr_aald (v := c (29 + i)) hE dX4_countNonces_15 ja1 rfl (vp_in_nI (n := i) (by omega) (by decide)) (by rw [nI_clamp (by omega)]; exact ga1 i (by omega)) ?_
      refine jr_get hE dX4_countNonces_16 f122 (W0.oM i (by omega)) rfl ?_
      rw [show v (6 + 2 * i) = (bi (h i)) from (hb i (by omega))]
      refine jr_if_eq (tgt := 26) hE dX4_countNonces_19 (by decide) (fun c19 => ?_) (fun c19 => ?_)
      · refine jr_iconst (v := (0 : Int32)) hE dX4_countNonces_26 (by decide) ?_
        refine jr_iadd (z := nI (cnt h i + 0)) hE dX4_countNonces_27 (nI_add _ 0) ?_
        refine jr_istore_n (lv' := [(1, .int (nI (cnt h i + 0))), (2, .int (nI i)), (0, .ref (c 7))]) hE dX4_countNonces_28 (by decide) rfl ?_
        refine jr_iinc (v := nI (i + 1)) (lv' := [(2, .int (nI (i + 1))), (1, .int (nI (cnt h i + 0))), (0, .ref (c 7))]) hE dX4_countNonces_29 1 rfl (nI_1 _) (by decide) rfl ?_
        refine jr_goto (tgt := 4) hE dX4_countNonces_32 (by decide) ?_
        refine jr_lv (lv' := [(2, .int (nI (i + 1))), (1, .int (nI (cnt h i + 0))), (0, .ref (c 7))]) [0, 1, 2] rfl ?_
        have q := ih (i + 1) (by omega)
        rw [cnu_0 (bi_0 c19)] at q
        exact q
      · refine jr_iconst (v := (1 : Int32)) hE dX4_countNonces_22 (by decide) ?_
        refine jr_goto (tgt := 27) hE dX4_countNonces_23 (by decide) ?_
        refine jr_iadd (z := nI (cnt h i + 1)) hE dX4_countNonces_27 (nI_add _ 1) ?_
        refine jr_istore_n (lv' := [(1, .int (nI (cnt h i + 1))), (2, .int (nI i)), (0, .ref (c 7))]) hE dX4_countNonces_28 (by decide) rfl ?_
        refine jr_iinc (v := nI (i + 1)) (lv' := [(2, .int (nI (i + 1))), (1, .int (nI (cnt h i + 1))), (0, .ref (c 7))]) hE dX4_countNonces_29 1 rfl (nI_1 _) (by decide) rfl ?_
        refine jr_goto (tgt := 4) hE dX4_countNonces_32 (by decide) ?_
        refine jr_lv (lv' := [(2, .int (nI (i + 1))), (1, .int (nI (cnt h i + 1))), (0, .ref (c 7))]) [0, 1, 2] rfl ?_
        have q := ih (i + 1) (by omega)
        rw [cnu_1 (bi_1 c19)] at q
        exact q
  refine jr_iconst (v := (0 : Int32)) hE dX4_countNonces_0 (by decide) ?_
  refine jr_istore_n (lv' := [(1, .int (0 : Int32)), (0, .ref (c 7))]) hE dX4_countNonces_1 (by decide) rfl ?_
  refine jr_iconst (v := (0 : Int32)) hE dX4_countNonces_2 (by decide) ?_
  refine jr_istore_n (lv' := [(2, .int (0 : Int32)), (1, .int (0 : Int32)), (0, .ref (c 7))]) hE dX4_countNonces_3 (by decide) rfl ?_
  refine jr_lv (lv' := [(2, .int (0 : Int32)), (1, .int (0 : Int32)), (0, .ref (c 7))]) [0, 1, 2] rfl ?_
  exact loop 4 0 rfl

set_option maxHeartbeats 4000000 in
set_option maxRecDepth 100000 in
theorem c_g_countTold (l : Launch) (G : Nat → ClassId) (c : Nat → Nat) (B : Nat → List Nat) (S : Nat → Nat) (P : Nat → JP) (q : SS) (X : Nat) (v : Nat → Int32) (h : Nat → Bool) : jKi l yX4_countTold wsX4_countTold ({ frames := 0, cells := 0, slots := 0, locals := 0 }) G [.ref (c 7)] (fun L F => CW G L F c B S P q X v ∧ ∀ j, j < 4 → v (7 + 2 * j) = bi (h j)) (fun L F r F1 => F = F1 ∧ r = nI (cnt h 4)) := by
  refine jm_ki (cc := cX4_countTold) (maxL := 3) (rt := .int) (by decide) rfl (Nat.le_of_ble_eq_true rfl) ?_
  intro E L F hE hR hpre
  have hE : jOk E G _ cX4_countTold 3 RX4 wsX4_countTold := hE

  have f28 : jFl RX4 wsX4_countTold 28 4 6 := ⟨rfl, by decide, by decide +kernel, by decide +kernel⟩
  have f125 : jFl RX4 wsX4_countTold 125 5 7 := ⟨rfl, by decide, by decide +kernel, by decide +kernel⟩
  obtain ⟨W0, hb⟩ := hpre
  have loop : ∀ (r0 i : Nat), i + r0 = 4 → J E L F 0 0 4 [(2, .int (nI i)), (1, .int (nI (cnt h i))), (0, .ref (c 7))] [] := by
    intro r0
    induction r0 with
    | zero =>
      intro i hi
      have hi4 : i = 4 := by omega
      subst hi4
      refine jr_iload_n hE dX4_countTold_4 0 rfl ?_
      refine jr_iconst (v := (4 : Int32)) hE dX4_countTold_5 (by decide) ?_
      refine jr_icmp_ge (tgt := 35) hE dX4_countTold_6 (by decide) (fun c_6 => ?_) (fun c_6 => absurd (nI_le (a := 4) (by omega) (by omega)) c_6)
      refine jr_iload_n hE dX4_countTold_35 1 rfl ?_
      exact hR F _ _ _ dX4_countTold_36 rfl ⟨rfl, rfl⟩
    | succ r0 ih =>
      intro i hi
      refine jr_iload_n hE dX4_countTold_4 0 rfl ?_
      refine jr_iconst (v := (4 : Int32)) hE dX4_countTold_5 (by decide) ?_
      refine jr_icmp_ge (tgt := 35) hE dX4_countTold_6 (by decide) (fun c_6 => absurd c_6 (nI_ge (b := 4) (by omega) (by omega))) (fun c_6 => ?_)
      refine jr_iload_n hE dX4_countTold_9 1 rfl ?_
      refine jr_aload_n hE dX4_countTold_10 2 rfl ?_
      refine jr_get hE dX4_countTold_11 f28 W0.o7 rfl ?_
      refine jr_iload_n hE dX4_countTold_14 0 rfl ?_
      obtain ⟨f1, ja1, ga1⟩ := W0.aM
      refine jr_aald (v := c (29 + i)) hE dX4_countTold_15 ja1 rfl (vp_in_nI (n := i) (by omega) (by decide)) (by rw [nI_clamp (by omega)]; exact ga1 i (by omega)) ?_
      refine jr_get hE dX4_countTold_16 f125 (W0.oM i (by omega)) rfl ?_
      rw [show v (7 + 2 * i) = (bi (h i)) from (hb i (by omega))]
      refine jr_if_eq (tgt := 26) hE dX4_countTold_19 (by decide) (fun c19 => ?_) (fun c19 => ?_)
      · refine jr_iconst (v := (0 : Int32)) hE dX4_countTold_26 (by decide) ?_
        refine jr_iadd (z := nI (cnt h i + 0)) hE dX4_countTold_27 (nI_add _ 0) ?_
        refine jr_istore_n (lv' := [(1, .int (nI (cnt h i + 0))), (2, .int (nI i)), (0, .ref (c 7))]) hE dX4_countTold_28 (by decide) rfl ?_
        refine jr_iinc (v := nI (i + 1)) (lv' := [(2, .int (nI (i + 1))), (1, .int (nI (cnt h i + 0))), (0, .ref (c 7))]) hE dX4_countTold_29 1 rfl (nI_1 _) (by decide) rfl ?_
        refine jr_goto (tgt := 4) hE dX4_countTold_32 (by decide) ?_
        refine jr_lv (lv' := [(2, .int (nI (i + 1))), (1, .int (nI (cnt h i + 0))), (0, .ref (c 7))]) [0, 1, 2] rfl ?_
        have q := ih (i + 1) (by omega)
        rw [cnu_0 (bi_0 c19)] at q
        exact q
      · refine jr_iconst (v := (1 : Int32)) hE dX4_countTold_22 (by decide) ?_
        refine jr_goto (tgt := 27) hE dX4_countTold_23 (by decide) ?_
        refine jr_iadd (z := nI (cnt h i + 1)) hE dX4_countTold_27 (nI_add _ 1) ?_
        refine jr_istore_n (lv' := [(1, .int (nI (cnt h i + 1))), (2, .int (nI i)), (0, .ref (c 7))]) hE dX4_countTold_28 (by decide) rfl ?_
        refine jr_iinc (v := nI (i + 1)) (lv' := [(2, .int (nI (i + 1))), (1, .int (nI (cnt h i + 1))), (0, .ref (c 7))]) hE dX4_countTold_29 1 rfl (nI_1 _) (by decide) rfl ?_
        refine jr_goto (tgt := 4) hE dX4_countTold_32 (by decide) ?_
        refine jr_lv (lv' := [(2, .int (nI (i + 1))), (1, .int (nI (cnt h i + 1))), (0, .ref (c 7))]) [0, 1, 2] rfl ?_
        have q := ih (i + 1) (by omega)
        rw [cnu_1 (bi_1 c19)] at q
        exact q
  refine jr_iconst (v := (0 : Int32)) hE dX4_countTold_0 (by decide) ?_
  refine jr_istore_n (lv' := [(1, .int (0 : Int32)), (0, .ref (c 7))]) hE dX4_countTold_1 (by decide) rfl ?_
  refine jr_iconst (v := (0 : Int32)) hE dX4_countTold_2 (by decide) ?_
  refine jr_istore_n (lv' := [(2, .int (0 : Int32)), (1, .int (0 : Int32)), (0, .ref (c 7))]) hE dX4_countTold_3 (by decide) rfl ?_
  refine jr_lv (lv' := [(2, .int (0 : Int32)), (1, .int (0 : Int32)), (0, .ref (c 7))]) [0, 1, 2] rfl ?_
  exact loop 4 0 rfl

set_option maxHeartbeats 4000000 in
set_option maxRecDepth 100000 in
theorem c_e_become (l : Launch) (G : Nat → ClassId) (c : Nat → Nat) (B : Nat → List Nat) (S : Nat → Nat) (P : Nat → JP) (q : SS) (X : Nat) (v : Nat → Int32) (e i j k a : Nat) : jKv l yX3_become wsX3_become ({ frames := 4, cells := 0, slots := 0, locals := 87 }) G [.ref (c (25 + e)), .ref (c (270 + 2 * i)), .ref (c (270 + 2 * j)), .ref (c (270 + 2 * k)), .long (lN a)] (fun L F => CW G L F c B S P q X v ∧ e < 4 ∧ i < 16 ∧ j < 16 ∧ k < 16 ∧ (B i).length = 32 ∧ (B j).length ≤ 40 ∧ (B k).length = 64 ∧ a < 2 ^ 64) (fun L F F1 => ∃ B' S', CW G L F1 c B' S' P q X v ∧ (∀ i, i ∉ [(26 + 3 * e), (27 + 3 * e), (28 + 3 * e)] → B' i = B i) ∧ (∀ i, i ∉ [(10 + 2 * e)] → S' i = S i) ∧ B' (26 + 3 * e) = B i ∧ B' (27 + 3 * e) = B j ∧ B' (28 + 3 * e) = B k ∧ S' (10 + 2 * e) = a ∧ cO c F F1) := by
  refine jm_kv (cc := cX3_become) (maxL := 6) (by decide) rfl (Nat.le_of_ble_eq_true rfl) ?_
  intro E L F hE hR hpre
  have hE : jOk E G _ cX3_become 6 RX3 wsX3_become := hE
  obtain ⟨W0, he, hi, hj, hk, hli, hlj, hlk, ha⟩ := hpre
  have f14 : jFl RX3 wsX3_become 14 3 0 := ⟨rfl, by decide, by decide +kernel, by decide +kernel⟩
  have f20 : jFl RX3 wsX3_become 20 3 1 := ⟨rfl, by decide, by decide +kernel, by decide +kernel⟩
  have f23 : jFl RX3 wsX3_become 23 3 2 := ⟨rfl, by decide, by decide +kernel, by decide +kernel⟩
  have f29 : jFl RX3 wsX3_become 29 3 3 := ⟨rfl, by decide, by decide +kernel, by decide +kernel⟩
  refine jr_aload_n hE dX3_become_0 0 rfl ?_
  refine jr_get hE dX3_become_1 f14 (W0.oE e (by omega)) rfl ?_
  refine jr_aload_n hE dX3_become_4 1 rfl ?_
  refine jr_kVv (ci := 0) (n := 1) (As := [.ref (c (270 + 2 * i))]) (rest := []) hE dX3_become_5 (fun l => c_X0_become l G (c (270 + 2 * (26 + 3 * e))) (c (271 + 2 * (26 + 3 * e))) (bcap (26 + 3 * e)) (c (270 + 2 * i)) (c (271 + 2 * i)) (bcap i) (B (26 + 3 * e)) (B i)) gX3_become_X0_become rfl ((W0.by (26 + 3 * e) (by omega)).ob) rfl (by decide +kernel) ⟨rfl, rfl, by decide, by decide⟩ (by decide) rfl rfl (Nat.le_of_ble_eq_true rfl) (⟨W0.by (26 + 3 * e) (by omega), (by have q := W0.by i (by omega); rw [show B i = (B i) from rfl] at q; exact q), cnd W0.1 [270 + 2 * (26 + 3 * e), 271 + 2 * (26 + 3 * e), 270 + 2 * i, 271 + 2 * i] (by simp only [List.mem_cons, List.not_mem_nil, or_false]; omega) (by simp only [List.nodup_cons, List.mem_cons, List.not_mem_nil, or_false, not_or, List.nodup_nil, not_false_eq_true, and_true]; omega), by rw [(bc_en he).1]; omega⟩) (fun F1 q2 => ?_)
  obtain ⟨h3, u3⟩ := q2
  obtain ⟨W3, P3⟩ := W0.setB (i := (26 + 3 * e)) (bs := (B i)) (by omega) h3 u3
  have O3 := (cO.rf c F).tr P3
  obtain ⟨B3, eB3, hB3, yB3⟩ := uz_ab B (26 + 3 * e) (B i)
  rw [eB3] at W3
  have nB3 : ∀ z, z ≠ (26 + 3 * e) → B3 z = B z := fun z hz => hB3 z (fun e => hz (List.mem_singleton.mp e))
  refine jr_aload_n hE dX3_become_8 0 rfl ?_
  refine jr_get hE dX3_become_9 f20 (W3.oE e (by omega)) rfl ?_
  refine jr_aload_n hE dX3_become_12 2 rfl ?_
  have hB4 : B3 j = (B j) := (nB3 j (by omega)).trans rfl
  refine jr_kVv (ci := 0) (n := 1) (As := [.ref (c (270 + 2 * j))]) (rest := []) hE dX3_become_13 (fun l => c_X0_become l G (c (270 + 2 * (27 + 3 * e))) (c (271 + 2 * (27 + 3 * e))) (bcap (27 + 3 * e)) (c (270 + 2 * j)) (c (271 + 2 * j)) (bcap j) (B3 (27 + 3 * e)) (B j)) gX3_become_X0_become rfl ((W3.by (27 + 3 * e) (by omega)).ob) rfl (by decide +kernel) ⟨rfl, rfl, by decide, by decide⟩ (by decide) rfl rfl (Nat.le_of_ble_eq_true rfl) (⟨W3.by (27 + 3 * e) (by omega), (by have q := W3.by j (by omega); rw [show B3 j = (B j) from hB4] at q; exact q), cnd W3.1 [270 + 2 * (27 + 3 * e), 271 + 2 * (27 + 3 * e), 270 + 2 * j, 271 + 2 * j] (by simp only [List.mem_cons, List.not_mem_nil, or_false]; omega) (by simp only [List.nodup_cons, List.mem_cons, List.not_mem_nil, or_false, not_or, List.nodup_nil, not_false_eq_true, and_true]; omega), by rw [(bc_en he).2.1]; omega⟩) (fun F5 q6 => ?_)
  obtain ⟨h7, u7⟩ := q6
  obtain ⟨W7, P7⟩ := W3.setB (i := (27 + 3 * e)) (bs := (B j)) (by omega) h7 u7
  have O7 := O3.tr P7
  obtain ⟨B7, eB7, hB7, yB7⟩ := uz_ab B3 (27 + 3 * e) (B j)
  rw [eB7] at W7
  have nB7 : ∀ z, z ≠ (27 + 3 * e) → B7 z = B3 z := fun z hz => hB7 z (fun e => hz (List.mem_singleton.mp e))
  refine jr_aload_n hE dX3_become_16 0 rfl ?_
  refine jr_get hE dX3_become_17 f23 (W7.oE e (by omega)) rfl ?_
  refine jr_aload_n hE dX3_become_20 3 rfl ?_
  have hB8 : B7 k = (B k) := ((nB7 k (by omega)).trans (nB3 k (by omega))).trans rfl
  refine jr_kVv (ci := 0) (n := 1) (As := [.ref (c (270 + 2 * k))]) (rest := []) hE dX3_become_21 (fun l => c_X0_become l G (c (270 + 2 * (28 + 3 * e))) (c (271 + 2 * (28 + 3 * e))) (bcap (28 + 3 * e)) (c (270 + 2 * k)) (c (271 + 2 * k)) (bcap k) (B7 (28 + 3 * e)) (B k)) gX3_become_X0_become rfl ((W7.by (28 + 3 * e) (by omega)).ob) rfl (by decide +kernel) ⟨rfl, rfl, by decide, by decide⟩ (by decide) rfl rfl (Nat.le_of_ble_eq_true rfl) (⟨W7.by (28 + 3 * e) (by omega), (by have q := W7.by k (by omega); rw [show B7 k = (B k) from hB8] at q; exact q), cnd W7.1 [270 + 2 * (28 + 3 * e), 271 + 2 * (28 + 3 * e), 270 + 2 * k, 271 + 2 * k] (by simp only [List.mem_cons, List.not_mem_nil, or_false]; omega) (by simp only [List.nodup_cons, List.mem_cons, List.not_mem_nil, or_false, not_or, List.nodup_nil, not_false_eq_true, and_true]; omega), by rw [(bc_en he).2.2]; omega⟩) (fun F9 q10 => ?_)
  obtain ⟨h11, u11⟩ := q10
  obtain ⟨W11, P11⟩ := W7.setB (i := (28 + 3 * e)) (bs := (B k)) (by omega) h11 u11
  have O11 := O7.tr P11
  obtain ⟨B11, eB11, hB11, yB11⟩ := uz_ab B7 (28 + 3 * e) (B k)
  rw [eB11] at W11
  have nB11 : ∀ z, z ≠ (28 + 3 * e) → B11 z = B7 z := fun z hz => hB11 z (fun e => hz (List.mem_singleton.mp e))
  refine jr_aload_n hE dX3_become_24 0 rfl ?_
  refine jr_get hE dX3_become_25 f29 (W11.oE e (by omega)) rfl ?_
  refine jr_lload hE dX3_become_28 4 rfl ?_
  refine jr_kVv (ci := 8) (n := 1) (As := [.long (lN a)]) (rest := []) hE dX3_become_30 (fun l => c_X8_becomeNumber l G (c (210 + 2 * (10 + 2 * e))) (c (211 + 2 * (10 + 2 * e))) (S (10 + 2 * e)) a) gX3_become_X8_becomeNumber rfl ((W11.sc (10 + 2 * e) (by omega)).ob) rfl (by decide +kernel) ⟨rfl, rfl, by decide, by decide⟩ (by decide) rfl rfl (Nat.le_of_ble_eq_true rfl) (⟨(W11.sc (10 + 2 * e) (by omega)), by omega⟩) (fun F12 q13 => ?_)
  obtain ⟨h14, u14⟩ := q13
  obtain ⟨W14, P14⟩ := W11.setS (i := (10 + 2 * e)) (x := a) (by omega) h14 u14
  have O14 := O11.tr P14
  obtain ⟨S14, eS14, hS14, yS14⟩ := uz_ab S (10 + 2 * e) a
  rw [eS14] at W14
  have nS14 : ∀ z, z ≠ (10 + 2 * e) → S14 z = S z := fun z hz => hS14 z (fun e => hz (List.mem_singleton.mp e))
  have hB15 : B11 (26 + 3 * e) = (B i) := ((nB11 (26 + 3 * e) (by omega)).trans (nB7 (26 + 3 * e) (by omega))).trans yB3
  have hB16 : B11 (27 + 3 * e) = (B j) := (nB11 (27 + 3 * e) (by omega)).trans yB7
  exact hR F12 _ _ dX3_become_33 ⟨_, _, W14, (fun z hz => ((nB11 z (by simp only [List.mem_cons, List.not_mem_nil, or_false, not_or] at hz; omega)).trans ((nB7 z (by simp only [List.mem_cons, List.not_mem_nil, or_false, not_or] at hz; omega)).trans (nB3 z (by simp only [List.mem_cons, List.not_mem_nil, or_false, not_or] at hz; omega))))), (fun z hz => (nS14 z (by simp only [List.mem_cons, List.not_mem_nil, or_false, not_or] at hz; omega))), hB15, hB16, yB11, yS14, O14⟩

