/-! Group: nonces, what was told, a session -/
theorem nb_small {n : Nat} (h : n < 256) : nb (lN n) 8 = List.replicate 7 0 ++ [n] := by
  rw [nb_bex (by omega)]
  show [n / 256 ^ 7 % 256, n / 256 ^ 6 % 256, n / 256 ^ 5 % 256, n / 256 ^ 4 % 256, n / 256 ^ 3 % 256, n / 256 ^ 2 % 256, n / 256 ^ 1 % 256, n / 256 ^ 0 % 256] = [0, 0, 0, 0, 0, 0, 0, n]
  rw [Nat.div_eq_of_lt (a := n) (b := 256 ^ 7) (by omega), Nat.div_eq_of_lt (a := n) (b := 256 ^ 6) (by omega), Nat.div_eq_of_lt (a := n) (b := 256 ^ 5) (by omega), Nat.div_eq_of_lt (a := n) (b := 256 ^ 4) (by omega), Nat.div_eq_of_lt (a := n) (b := 256 ^ 3) (by omega), Nat.div_eq_of_lt (a := n) (b := 256 ^ 2) (by omega), Nat.div_eq_of_lt (a := n) (b := 256 ^ 1) (by omega), Nat.pow_zero, Nat.div_one, Nat.mod_eq_of_lt h]
theorem rs_s (T : List Nat) (i : Nat) : T ++ List.replicate (i + 1) 0 = T ++ List.replicate i 0 ++ [0] := by
  rw [show List.replicate (i + 1) 0 = List.replicate i 0 ++ [0] from List.replicate_succ', List.append_assoc]

theorem td_v1 {l : List Nat} (h : l.length = 66) : bnum ((l.take 33).drop 1) = bnum ((l.drop (0 + 1)).take 32) := by
  rw [List.drop_take]

theorem i2l_n {n : Nat} (h : n < 2 ^ 31) : (nI n).toInt64 = lN n := by
  apply Int64.toInt_inj.mp
  rw [i2l_T, nI_toInt h]
  unfold lN
  rw [Int64.toInt_ofNat_of_lt (by omega)]
theorem bv_s {n : Nat} (h : n < 2) : bv (nI n) = n := by
  match n, h with
  | 0, _ => decide
  | 1, _ => decide

set_option maxHeartbeats 4000000 in
set_option maxRecDepth 100000 in
theorem c_g_hear (l : Launch) (G : Nat → ClassId) (c : Nat → Nat) (B : Nat → List Nat) (S : Nat → Nat) (P : Nat → JP) (q : SS) (X : Nat) (v : Nat → Int32) (u sz k : Nat) : jKi l yX4_hear wsX4_hear ({ frames := 5, cells := 0, slots := 0, locals := 173 }) G [.ref (c 7), .int (nI u), .ref (c (270 + 2 * k))] (fun L F => CW G L F c B S P q X v ∧ v 2 = nI sz ∧ u < sz ∧ sz ≤ 4 ∧ k < 16) (fun L F r F1 => ∃ B' P' v', CW G L F1 c B' S P' q X v' ∧ (∀ i, i ∉ [(40 + 3 * u)] → B' i = B i) ∧ (∀ i, i ∉ [19, 20, (30 + 3 * u), (31 + 3 * u)] → P' i = P i) ∧ (∀ i, i ∉ [3, (7 + 2 * u)] → v' i = v i) ∧ (tdOK (B k) → B' (40 + 3 * u) = B k ∧ rep (P' (30 + 3 * u)) (tdE0 (B k)) ∧ rep (P' (31 + 3 * u)) (tdE1 (B k)) ∧ v' 3 = 0 ∧ v' (7 + 2 * u) = 1) ∧ (¬ tdOK (B k) → B' (40 + 3 * u) = B (40 + 3 * u) ∧ P' (30 + 3 * u) = P (30 + 3 * u) ∧ P' (31 + 3 * u) = P (31 + 3 * u) ∧ v' 3 = v 3 ∧ v' (7 + 2 * u) = v (7 + 2 * u)) ∧ r = b2i (tdOK (B k)) ∧ cO c F F1) := by
  refine jm_ki (cc := cX4_hear) (maxL := 4) (rt := .boolean) (by decide) rfl (Nat.le_of_ble_eq_true rfl) ?_
  intro E L F hE hR hpre
  have hE : jOk E G _ cX4_hear 4 RX4 wsX4_hear := hE
  obtain ⟨W0, hsz, hu, h4, hk⟩ := hpre
  have hck := W0.cp k (by omega)
  have hbk : bcap k ≤ 100 := (W0.by k (by omega)).cap.2
  have f95 : jFl RX4 wsX4_hear 95 0 1 := ⟨rfl, by decide, by decide +kernel, by decide +kernel⟩
  have f93 : jFl RX4 wsX4_hear 93 4 5 := ⟨rfl, by decide, by decide +kernel, by decide +kernel⟩
  have f66 : jFl RX4 wsX4_hear 66 4 16 := ⟨rfl, by decide, by decide +kernel, by decide +kernel⟩
  have f70 : jFl RX4 wsX4_hear 70 4 17 := ⟨rfl, by decide, by decide +kernel, by decide +kernel⟩
  have f28 : jFl RX4 wsX4_hear 28 4 6 := ⟨rfl, by decide, by decide +kernel, by decide +kernel⟩
  have f237 : jFl RX4 wsX4_hear 237 5 9 := ⟨rfl, by decide, by decide +kernel, by decide +kernel⟩
  have f240 : jFl RX4 wsX4_hear 240 5 10 := ⟨rfl, by decide, by decide +kernel, by decide +kernel⟩
  have f243 : jFl RX4 wsX4_hear 243 5 8 := ⟨rfl, by decide, by decide +kernel, by decide +kernel⟩
  have f125 : jFl RX4 wsX4_hear 125 5 7 := ⟨rfl, by decide, by decide +kernel, by decide +kernel⟩
  have f13 : jFl RX4 wsX4_hear 13 4 1 := ⟨rfl, by decide, by decide +kernel, by decide +kernel⟩
  refine jr_aload_n hE dX4_hear_0 0 rfl ?_
  refine jr_iload_n hE dX4_hear_1 1 rfl ?_
  refine jr_kVi (ci := 4) (n := 1) (As := [.int (nI u)]) (rest := []) hE dX4_hear_2 (fun l => c_g_hasMember l G c B S P q X v (nI u) sz) gX4_hear_X4_hasMember rfl W0.o7 rfl (by decide +kernel) ⟨rfl, rfl, by decide, by decide⟩ (by decide) rfl rfl (Nat.le_of_ble_eq_true rfl) (⟨W0, hsz, h4⟩) (fun r3 F1 q2 => ?_)
  obtain ⟨eq2, rq2⟩ := q2
  subst eq2 rq2
  refine jr_if_eq (tgt := 50) hE dX4_hear_5 (by decide) (fun c_5 => absurd c_5 (b2i_nz (hm_u hu h4))) (fun c_5 => ?_)
  refine jr_aload_n hE dX4_hear_8 2 rfl ?_
  refine jr_get hE dX4_hear_9 f95 (W0.by k (by omega)).ob rfl ?_
  rw [show B k = (B k) from rfl]
  refine jr_bipush (v := (66 : Int32)) hE dX4_hear_12 (by decide) ?_
  refine jr_icmp_ne (tgt := 50) hE dX4_hear_14 (by decide) (fun c14 => ?_) (fun c14 => ?_)
  · refine jr_iconst (v := (0 : Int32)) hE dX4_hear_50 (by decide) ?_
    exact hR F _ _ _ dX4_hear_51 rfl ⟨_, _, _, W0, (fun z hz => rfl), (fun z hz => rfl), (fun z hz => rfl), (fun h => absurd h (fun h => c14 ((nI_eq (by omega) (by decide)).mpr h.1))), (fun _ => ⟨rfl, rfl, rfl, rfl, rfl⟩), (b2i_f (fun h => c14 ((nI_eq (by omega) (by decide)).mpr h.1))).symm, (cO.rf c F)⟩
  · have hl : (B k).length = 66 := (nI_eq (by omega) (by decide)).mp c14
    refine jr_aload_n hE dX4_hear_17 0 rfl ?_
    refine jr_get hE dX4_hear_18 f93 W0.o7 rfl ?_
    refine jr_aload_n hE dX4_hear_21 0 rfl ?_
    refine jr_get hE dX4_hear_22 f66 W0.o7 rfl ?_
    refine jr_aload_n hE dX4_hear_25 2 rfl ?_
    refine jr_iconst (v := (0 : Int32)) hE dX4_hear_26 (by decide) ?_
    refine jr_kVi (ci := 2) (n := 3) (As := [.ref (c (40 + 4 * 19)), .ref (c (270 + 2 * k)), .int (0 : Int32)]) (rest := []) hE dX4_hear_27 (fun l => c_X2_read l G (c 9) (c (40 + 4 * 16)) (c 11) (c 10) (c 12) (c 13) (c 14) (c 15) (c 16) (c 17) (c 18) (c 19) (c 20) (c 21) (c 22) (c 23) (c (40 + 4 * 19)) (c (41 + 4 * 19)) (c (42 + 4 * 19)) (c (43 + 4 * 19)) (c (270 + 2 * k)) (c (271 + 2 * k)) (bcap k) 0 (bnum (((B k).take 33).drop 1)) ((B k).getD 0 0) (P 19) (B k)) gX4_hear_X2_read rfl W0.cv rfl (by decide +kernel) ⟨rfl, rfl, by decide, by decide⟩ (by decide) rfl rfl (Nat.le_of_ble_eq_true rfl) (⟨(W0.settlePre 19 (by decide) (by decide)).1, (W0.settlePre 19 (by decide) (by decide)).2.1, (W0.settlePre 19 (by decide) (by decide)).2.2.1, (W0.settlePre 19 (by decide) (by decide)).2.2.2.1, (W0.settlePre 19 (by decide) (by decide)).2.2.2.2, (by have q := W0.by k (by omega); rw [show B k = (B k) from rfl] at q; exact q), by omega, td_v1 hl, rfl⟩) (fun r6 F4 q5 => ?_)
    obtain ⟨g7, gp7, go7, ⟨Q7, h7, hq7⟩, u7, r6e⟩ := q5
    subst r6e
    obtain ⟨W7, P7⟩ := W0.lift (i := 19) (by decide) (by decide) g7 gp7 go7 h7 u7
    have O7 := (cO.rf c F).tr P7
    obtain ⟨P7, eP7, hP7, yP7⟩ := uz_ab P 19 Q7
    rw [eP7] at W7
    have nP7 : ∀ z, z ≠ 19 → P7 z = P z := fun z hz => hP7 z (fun e => hz (List.mem_singleton.mp e))
    have hr7 : (rdX ((B k).getD 0 0) (bnum (((B k).take 33).drop 1))) → rep (P7 19) (rdE ((B k).getD 0 0) (bnum (((B k).take 33).drop 1))) := fun h => by rw [yP7, hq7 h]; exact rep_rd h
    refine jr_if_eq (tgt := 50) hE dX4_hear_30 (by decide) (fun c30 => ?_) (fun c30 => ?_)
    · refine jr_iconst (v := (0 : Int32)) hE dX4_hear_50 (by decide) ?_
      exact hR F4 _ _ _ dX4_hear_51 rfl ⟨_, _, _, W7, (fun z hz => rfl), (fun z hz => (nP7 z (by simp only [List.mem_cons, List.not_mem_nil, or_false, not_or] at hz; omega))), (fun z hz => rfl), (fun h => absurd h (fun h => absurd (b2i_t h.2.1) (by rw [c30]; decide))), (fun _ => ⟨rfl, (nP7 (30 + 3 * u) (by omega)), (nP7 (31 + 3 * u) (by omega)), rfl, rfl⟩), (b2i_f (fun h => absurd (b2i_t h.2.1) (by rw [c30]; decide))).symm, O7⟩
    · refine jr_aload_n hE dX4_hear_33 0 rfl ?_
      refine jr_get hE dX4_hear_34 f93 W7.o7 rfl ?_
      refine jr_aload_n hE dX4_hear_37 0 rfl ?_
      refine jr_get hE dX4_hear_38 f70 W7.o7 rfl ?_
      refine jr_aload_n hE dX4_hear_41 2 rfl ?_
      refine jr_bipush (v := (33 : Int32)) hE dX4_hear_42 (by decide) ?_
      refine jr_kVi (ci := 2) (n := 3) (As := [.ref (c (40 + 4 * 20)), .ref (c (270 + 2 * k)), .int (33 : Int32)]) (rest := []) hE dX4_hear_44 (fun l => c_X2_read l G (c 9) (c (40 + 4 * 16)) (c 11) (c 10) (c 12) (c 13) (c 14) (c 15) (c 16) (c 17) (c 18) (c 19) (c 20) (c 21) (c 22) (c 23) (c (40 + 4 * 20)) (c (41 + 4 * 20)) (c (42 + 4 * 20)) (c (43 + 4 * 20)) (c (270 + 2 * k)) (c (271 + 2 * k)) (bcap k) 33 (bnum ((B k).drop 34)) ((B k).getD 33 0) (P7 20) (B k)) gX4_hear_X2_read rfl W7.cv rfl (by decide +kernel) ⟨rfl, rfl, by decide, by decide⟩ (by decide) rfl rfl (Nat.le_of_ble_eq_true rfl) (⟨(W7.settlePre 20 (by decide) (by decide)).1, (W7.settlePre 20 (by decide) (by decide)).2.1, (W7.settlePre 20 (by decide) (by decide)).2.2.1, (W7.settlePre 20 (by decide) (by decide)).2.2.2.1, (W7.settlePre 20 (by decide) (by decide)).2.2.2.2, (by have q := W7.by k (by omega); rw [show B k = (B k) from rfl] at q; exact q), by omega, by rw [show 33 + 1 = 34 from rfl, dt1 (by omega)], rfl⟩) (fun r10 F8 q9 => ?_)
      obtain ⟨g11, gp11, go11, ⟨Q11, h11, hq11⟩, u11, r10e⟩ := q9
      subst r10e
      obtain ⟨W11, P11⟩ := W7.lift (i := 20) (by decide) (by decide) g11 gp11 go11 h11 u11
      have O11 := O7.tr P11
      obtain ⟨P11, eP11, hP11, yP11⟩ := uz_ab P7 20 Q11
      rw [eP11] at W11
      have nP11 : ∀ z, z ≠ 20 → P11 z = P7 z := fun z hz => hP11 z (fun e => hz (List.mem_singleton.mp e))
      have hr11 : (rdX ((B k).getD 33 0) (bnum ((B k).drop 34))) → rep (P11 20) (rdE ((B k).getD 33 0) (bnum ((B k).drop 34))) := fun h => by rw [yP11, hq11 h]; exact rep_rd h
      refine jr_if_ne (tgt := 52) hE dX4_hear_47 (by decide) (fun c47 => ?_) (fun c47 => ?_)
      · have hok : tdOK (B k) := ⟨hl, b2i_1 c30, b2i_1 c47⟩
        refine jr_aload_n hE dX4_hear_52 0 rfl ?_
        refine jr_get hE dX4_hear_53 f28 W11.o7 rfl ?_
        refine jr_iload_n hE dX4_hear_56 1 rfl ?_
        obtain ⟨f12, ja12, ga12⟩ := W11.aM
        refine jr_aald (v := c (29 + u)) hE dX4_hear_57 ja12 rfl (vp_in_nI (n := u) (by omega) (by decide)) (by rw [nI_clamp (by omega)]; exact ga12 u (by omega)) ?_
        refine jr_astore_n (lv' := [(3, .ref (c (29 + u))), (0, .ref (c 7)), (1, .int (nI u)), (2, .ref (c (270 + 2 * k)))]) hE dX4_hear_58 (by decide) rfl ?_
        refine jr_aload_n hE dX4_hear_59 0 rfl ?_
        refine jr_get hE dX4_hear_60 f237 (W11.oM u (by omega)) rfl ?_
        refine jr_aload_n hE dX4_hear_63 1 rfl ?_
        refine jr_get hE dX4_hear_64 f66 W11.o7 rfl ?_
        refine jr_kVv (ci := 6) (n := 1) (As := [.ref (c (40 + 4 * 19))]) (rest := []) hE dX4_hear_67 (fun l => c_X6_become l G (c (40 + 4 * (30 + 3 * u))) (c (41 + 4 * (30 + 3 * u))) (c (42 + 4 * (30 + 3 * u))) (c (43 + 4 * (30 + 3 * u))) (c (40 + 4 * 19)) (c (41 + 4 * 19)) (c (42 + 4 * 19)) (c (43 + 4 * 19)) (P11 (30 + 3 * u)) (P11 19)) gX4_hear_X6_become rfl ((W11.pt (30 + 3 * u) (by omega) (by omega)).1) rfl (by decide +kernel) ⟨rfl, rfl, by decide, by decide⟩ (by decide) rfl rfl (Nat.le_of_ble_eq_true rfl) (⟨W11.pt (30 + 3 * u) (by omega) (by omega), W11.pt 19 (by decide) (by decide), cnd W11.1 [40 + 4 * (30 + 3 * u), 41 + 4 * (30 + 3 * u), 42 + 4 * (30 + 3 * u), 43 + 4 * (30 + 3 * u), 40 + 4 * 19, 41 + 4 * 19, 42 + 4 * 19, 43 + 4 * 19] (by simp only [List.mem_cons, List.not_mem_nil, or_false]; omega) (by simp only [List.nodup_cons, List.mem_cons, List.not_mem_nil, or_false, not_or, List.nodup_nil, not_false_eq_true, and_true]; omega)⟩) (fun F13 q14 => ?_)
        obtain ⟨h15, u15⟩ := q14
        obtain ⟨W15, P15⟩ := W11.setPx (i := (30 + 3 * u)) (by omega) (by omega) h15 u15
        have hp16 : rep (P11 19) (rdE ((B k).getD 0 0) (bnum (((B k).take 33).drop 1))) := by rw [show P11 19 = P7 19 from (nP11 19 (by decide))]; exact (hr7 (b2i_1 c30))
        have O15 := O11.tr P15
        obtain ⟨P15, eP15, hP15, yP15⟩ := uz_ab P11 (30 + 3 * u) (P11 19)
        rw [eP15] at W15
        have nP15 : ∀ z, z ≠ (30 + 3 * u) → P15 z = P11 z := fun z hz => hP15 z (fun e => hz (List.mem_singleton.mp e))
        have hr15 : rep (P15 (30 + 3 * u)) (rdE ((B k).getD 0 0) (bnum (((B k).take 33).drop 1))) := by rw [yP15]; exact hp16
        refine jr_aload_n hE dX4_hear_70 0 rfl ?_
        refine jr_get hE dX4_hear_71 f240 (W15.oM u (by omega)) rfl ?_
        refine jr_aload_n hE dX4_hear_74 1 rfl ?_
        refine jr_get hE dX4_hear_75 f70 W15.o7 rfl ?_
        refine jr_kVv (ci := 6) (n := 1) (As := [.ref (c (40 + 4 * 20))]) (rest := []) hE dX4_hear_78 (fun l => c_X6_become l G (c (40 + 4 * (31 + 3 * u))) (c (41 + 4 * (31 + 3 * u))) (c (42 + 4 * (31 + 3 * u))) (c (43 + 4 * (31 + 3 * u))) (c (40 + 4 * 20)) (c (41 + 4 * 20)) (c (42 + 4 * 20)) (c (43 + 4 * 20)) (P15 (31 + 3 * u)) (P15 20)) gX4_hear_X6_become rfl ((W15.pt (31 + 3 * u) (by omega) (by omega)).1) rfl (by decide +kernel) ⟨rfl, rfl, by decide, by decide⟩ (by decide) rfl rfl (Nat.le_of_ble_eq_true rfl) (⟨W15.pt (31 + 3 * u) (by omega) (by omega), W15.pt 20 (by decide) (by decide), cnd W15.1 [40 + 4 * (31 + 3 * u), 41 + 4 * (31 + 3 * u), 42 + 4 * (31 + 3 * u), 43 + 4 * (31 + 3 * u), 40 + 4 * 20, 41 + 4 * 20, 42 + 4 * 20, 43 + 4 * 20] (by simp only [List.mem_cons, List.not_mem_nil, or_false]; omega) (by simp only [List.nodup_cons, List.mem_cons, List.not_mem_nil, or_false, not_or, List.nodup_nil, not_false_eq_true, and_true]; omega)⟩) (fun F17 q18 => ?_)
        obtain ⟨h19, u19⟩ := q18
        obtain ⟨W19, P19⟩ := W15.setPx (i := (31 + 3 * u)) (by omega) (by omega) h19 u19
        have hp20 : rep (P15 20) (rdE ((B k).getD 33 0) (bnum ((B k).drop 34))) := by rw [show P15 20 = P11 20 from (nP15 20 (by omega))]; exact (hr11 (b2i_1 c47))
        have O19 := O15.tr P19
        obtain ⟨P19, eP19, hP19, yP19⟩ := uz_ab P15 (31 + 3 * u) (P15 20)
        rw [eP19] at W19
        have nP19 : ∀ z, z ≠ (31 + 3 * u) → P19 z = P15 z := fun z hz => hP19 z (fun e => hz (List.mem_singleton.mp e))
        have hr19 : rep (P19 (31 + 3 * u)) (rdE ((B k).getD 33 0) (bnum ((B k).drop 34))) := by rw [yP19]; exact hp20
        refine jr_aload_n hE dX4_hear_81 0 rfl ?_
        refine jr_get hE dX4_hear_82 f243 (W19.oM u (by omega)) rfl ?_
        refine jr_aload_n hE dX4_hear_85 3 rfl ?_
        refine jr_kVv (ci := 0) (n := 1) (As := [.ref (c (270 + 2 * k))]) (rest := []) hE dX4_hear_86 (fun l => c_X0_become l G (c (270 + 2 * (40 + 3 * u))) (c (271 + 2 * (40 + 3 * u))) (bcap (40 + 3 * u)) (c (270 + 2 * k)) (c (271 + 2 * k)) (bcap k) (B (40 + 3 * u)) (B k)) gX4_hear_X0_become rfl ((W19.by (40 + 3 * u) (by omega)).ob) rfl (by decide +kernel) ⟨rfl, rfl, by decide, by decide⟩ (by decide) rfl rfl (Nat.le_of_ble_eq_true rfl) (⟨W19.by (40 + 3 * u) (by omega), (by have q := W19.by k (by omega); rw [show B k = (B k) from rfl] at q; exact q), cnd W19.1 [270 + 2 * (40 + 3 * u), 271 + 2 * (40 + 3 * u), 270 + 2 * k, 271 + 2 * k] (by simp only [List.mem_cons, List.not_mem_nil, or_false]; omega) (by simp only [List.nodup_cons, List.mem_cons, List.not_mem_nil, or_false, not_or, List.nodup_nil, not_false_eq_true, and_true]; omega), by rw [hl, (bc_nb (by omega)).2]; exact Nat.le_refl _⟩) (fun F21 q22 => ?_)
        obtain ⟨h23, u23⟩ := q22
        obtain ⟨W23, P23⟩ := W19.setB (i := (40 + 3 * u)) (bs := (B k)) (by omega) h23 u23
        have O23 := O19.tr P23
        obtain ⟨B23, eB23, hB23, yB23⟩ := uz_ab B (40 + 3 * u) (B k)
        rw [eB23] at W23
        have nB23 : ∀ z, z ≠ (40 + 3 * u) → B23 z = B z := fun z hz => hB23 z (fun e => hz (List.mem_singleton.mp e))
        refine jr_aload_n hE dX4_hear_89 0 rfl ?_
        refine jr_iconst (v := (1 : Int32)) hE dX4_hear_90 (by decide) ?_
        refine jr_put (ty := .boolean) hE dX4_hear_91 f125 (W23.oM u (by omega)) rfl (by decide +kernel) rfl rfl (Nat.le_of_ble_eq_true rfl) (fun F24 h24 u24 => ?_)
        have h24 : jF L F24 (c (29 + u)) (.inr (5, [.ref (c (270 + 2 * (38 + 3 * u))), .ref (c (40 + 4 * (29 + 3 * u))), .ref (c (210 + 2 * (18 + 3 * u))), .int ((uz v (7 + 2 * u) (1 : Int32)) (6 + 2 * u)), .ref (c (210 + 2 * (19 + 3 * u))), .ref (c (210 + 2 * (20 + 3 * u))), .ref (c (270 + 2 * (39 + 3 * u))), .int ((uz v (7 + 2 * u) (1 : Int32)) (7 + 2 * u)), .ref (c (270 + 2 * (40 + 3 * u))), .ref (c (40 + 4 * (30 + 3 * u))), .ref (c (40 + 4 * (31 + 3 * u)))])) := by
          rw [uz_s, show (uz v (7 + 2 * u) (1 : Int32)) (6 + 2 * u) = v (6 + 2 * u) from uz_n _ _ (by omega)]
          exact h24
        obtain ⟨W24, P24⟩ := W23.setVM (m := u) (v1 := (uz v (7 + 2 * u) (1 : Int32))) (by omega) h24 (fun z h1 h2 => uz_n _ _ h2) u24
        have O24 := O23.tr P24
        obtain ⟨v24, ev24, hv24, yv24⟩ := uz_ab v (7 + 2 * u) (1 : Int32)
        rw [ev24] at W24
        have nv24 : ∀ z, z ≠ (7 + 2 * u) → v24 z = v z := fun z hz => hv24 z (fun e => hz (List.mem_singleton.mp e))
        refine jr_aload_n hE dX4_hear_94 1 rfl ?_
        refine jr_iconst (v := (0 : Int32)) hE dX4_hear_95 (by decide) ?_
        refine jr_put (ty := .boolean) hE dX4_hear_96 f13 W24.o7 rfl (by decide +kernel) rfl rfl (Nat.le_of_ble_eq_true rfl) (fun F25 h25 u25 => ?_)
        obtain ⟨W25, P25⟩ := W24.setV7 (v1 := (uz v24 3 (0 : Int32))) h25 (fun z hz => uz_n _ _ (jne hz 1 rfl)) u25
        have O25 := O24.tr P25
        obtain ⟨v25, ev25, hv25, yv25⟩ := uz_ab v24 3 (0 : Int32)
        rw [ev25] at W25
        have nv25 : ∀ z, z ≠ 3 → v25 z = v24 z := fun z hz => hv25 z (fun e => hz (List.mem_singleton.mp e))
        refine jr_iconst (v := (1 : Int32)) hE dX4_hear_99 (by decide) ?_
        have hp26 : rep (P19 (30 + 3 * u)) (rdE ((B k).getD 0 0) (bnum (((B k).take 33).drop 1))) := by rw [show P19 (30 + 3 * u) = P15 (30 + 3 * u) from (nP19 (30 + 3 * u) (by omega))]; exact hr15
        have hv27 : v25 (7 + 2 * u) = (1 : Int32) := (nv25 (7 + 2 * u) (by omega)).trans yv24
        exact hR F25 _ _ _ dX4_hear_100 rfl ⟨_, _, _, W25, (fun z hz => (nB23 z (by simp only [List.mem_cons, List.not_mem_nil, or_false, not_or] at hz; omega))), (fun z hz => ((nP19 z (by simp only [List.mem_cons, List.not_mem_nil, or_false, not_or] at hz; omega)).trans ((nP15 z (by simp only [List.mem_cons, List.not_mem_nil, or_false, not_or] at hz; omega)).trans ((nP11 z (by simp only [List.mem_cons, List.not_mem_nil, or_false, not_or] at hz; omega)).trans (nP7 z (by simp only [List.mem_cons, List.not_mem_nil, or_false, not_or] at hz; omega)))))), (fun z hz => ((nv25 z (by simp only [List.mem_cons, List.not_mem_nil, or_false, not_or] at hz; omega)).trans (nv24 z (by simp only [List.mem_cons, List.not_mem_nil, or_false, not_or] at hz; omega)))), (fun _ => ⟨yB23, hp26, hr19, yv25, hv27⟩), (fun h => absurd hok h), (b2i_t hok).symm, O25⟩
      · refine jr_iconst (v := (0 : Int32)) hE dX4_hear_50 (by decide) ?_
        exact hR F8 _ _ _ dX4_hear_51 rfl ⟨_, _, _, W11, (fun z hz => rfl), (fun z hz => ((nP11 z (by simp only [List.mem_cons, List.not_mem_nil, or_false, not_or] at hz; omega)).trans (nP7 z (by simp only [List.mem_cons, List.not_mem_nil, or_false, not_or] at hz; omega)))), (fun z hz => rfl), (fun h => absurd h (fun h => absurd (b2i_t h.2.2) (by rw [c47]; decide))), (fun _ => ⟨rfl, ((nP11 (30 + 3 * u) (by omega)).trans (nP7 (30 + 3 * u) (by omega))), ((nP11 (31 + 3 * u) (by omega)).trans (nP7 (31 + 3 * u) (by omega))), rfl, rfl⟩), (b2i_f (fun h => absurd (b2i_t h.2.2) (by rw [c47]; decide))).symm, O11⟩

set_option maxHeartbeats 4000000 in
set_option maxRecDepth 100000 in
theorem c_g_addNonces (l : Launch) (G : Nat → ClassId) (c : Nat → Nat) (B : Nat → List Nat) (S : Nat → Nat) (P : Nat → JP) (q : SS) (X : Nat) (v : Nat → Int32) (sz : Nat) (Td : Nat → Option (List Nat)) : jKv l yX4_addNonces wsX4_addNonces ({ frames := 4, cells := 0, slots := 0, locals := 147 }) G [.ref (c 7)] (fun L F => CW G L F c B S P q X v ∧ v 2 = nI sz ∧ sz ≤ 4 ∧ (∀ j, j < sz → rep (P (30 + 3 * j)) (tdE 0 ((Td j).getD [])) ∧ rep (P (31 + 3 * j)) (tdE 1 ((Td j).getD [])))) (fun L F F1 => ∃ B' P', CW G L F1 c B' S P' q X v ∧ (∀ i, i ∉ [24] → B' i = B i) ∧ (∀ i, i ∉ [19, 20] → P' i = P i) ∧ stl (P' 19) (tSs Td 0 sz) ∧ stl (P' 20) (tSs Td 1 sz) ∧ B' 24 = pbE (tSs Td 0 sz) ++ pbE (tSs Td 1 sz) ∧ cO c F F1) := by
  refine jm_kv (cc := cX4_addNonces) (maxL := 2) (by decide) rfl (Nat.le_of_ble_eq_true rfl) ?_
  intro E L F hE hR hpre
  have hE : jOk E G _ cX4_addNonces 2 RX4 wsX4_addNonces := hE
  obtain ⟨W0, hsz, h4, hdat⟩ := hpre
  have f66 : jFl RX4 wsX4_addNonces 66 4 16 := ⟨rfl, by decide, by decide +kernel, by decide +kernel⟩
  have f135 : jFl RX4 wsX4_addNonces 135 6 3 := ⟨rfl, by decide, by decide +kernel, by decide +kernel⟩
  have f70 : jFl RX4 wsX4_addNonces 70 4 17 := ⟨rfl, by decide, by decide +kernel, by decide +kernel⟩
  have f7 : jFl RX4 wsX4_addNonces 7 4 0 := ⟨rfl, by decide, by decide +kernel, by decide +kernel⟩
  have f93 : jFl RX4 wsX4_addNonces 93 4 5 := ⟨rfl, by decide, by decide +kernel, by decide +kernel⟩
  have f38 : jFl RX4 wsX4_addNonces 38 4 9 := ⟨rfl, by decide, by decide +kernel, by decide +kernel⟩
  have f28 : jFl RX4 wsX4_addNonces 28 4 6 := ⟨rfl, by decide, by decide +kernel, by decide +kernel⟩
  have f237 : jFl RX4 wsX4_addNonces 237 5 9 := ⟨rfl, by decide, by decide +kernel, by decide +kernel⟩
  have f240 : jFl RX4 wsX4_addNonces 240 5 10 := ⟨rfl, by decide, by decide +kernel, by decide +kernel⟩
  refine jr_aload_n hE dX4_addNonces_0 0 rfl ?_
  refine jr_get hE dX4_addNonces_1 f66 W0.o7 rfl ?_
  refine jr_iconst (v := (1 : Int32)) hE dX4_addNonces_4 (by decide) ?_
  refine jr_put (ty := .boolean) hE dX4_addNonces_5 f135 (W0.pt 19 (by decide) (by decide)).1 rfl (by decide +kernel) rfl rfl (Nat.le_of_ble_eq_true rfl) (fun F1 h1 u1 => ?_)
  obtain ⟨W1, P1⟩ := W0.noughtP (i := 19) (by decide) (by decide) h1 u1
  have O1 := (cO.rf c F).tr P1
  obtain ⟨P1, eP1, hP1, yP1⟩ := uz_ab P 19 (true, (P 19).2)
  rw [eP1] at W1
  have nP1 : ∀ z, z ≠ 19 → P1 z = P z := fun z hz => hP1 z (fun e => hz (List.mem_singleton.mp e))
  have hz1 : rep (P1 19) none := by rw [yP1]; exact Or.inl ⟨rfl, rfl⟩
  refine jr_aload_n hE dX4_addNonces_8 0 rfl ?_
  refine jr_get hE dX4_addNonces_9 f70 W1.o7 rfl ?_
  refine jr_iconst (v := (1 : Int32)) hE dX4_addNonces_12 (by decide) ?_
  refine jr_put (ty := .boolean) hE dX4_addNonces_13 f135 (W1.pt 20 (by decide) (by decide)).1 rfl (by decide +kernel) rfl rfl (Nat.le_of_ble_eq_true rfl) (fun F2 h2 u2 => ?_)
  obtain ⟨W2, P2⟩ := W1.noughtP (i := 20) (by decide) (by decide) h2 u2
  have O2 := O1.tr P2
  obtain ⟨P2, eP2, hP2, yP2⟩ := uz_ab P1 20 (true, (P1 20).2)
  rw [eP2] at W2
  have nP2 : ∀ z, z ≠ 20 → P2 z = P1 z := fun z hz => hP2 z (fun e => hz (List.mem_singleton.mp e))
  have hz2 : rep (P2 20) none := by rw [yP2]; exact Or.inl ⟨rfl, rfl⟩
  refine jr_iconst (v := (0 : Int32)) hE dX4_addNonces_16 (by decide) ?_
  refine jr_istore_n (lv' := [(1, .int (0 : Int32)), (0, .ref (c 7))]) hE dX4_addNonces_17 (by decide) rfl ?_
  have loop : ∀ (r0 i : Nat) (F4 : Nat → va_E) (P4 : Nat → JP), i + r0 = sz → CW G L F4 c B S P4 q X v → (∀ z, z ∉ [19, 20] → P4 z = P z) → rep (P4 19) (tSs Td 0 i) → rep (P4 20) (tSs Td 1 i) → cO c F F4 → J E L F4 0 0 18 [(1, .int (nI i)), (0, .ref (c 7))] [] := by
    intro r0
    induction r0 with
    | zero =>
      intro i F4 P4 hi W4 hPf h0 h1 O4
      have hiN : sz = i := by omega
      subst hiN
      refine jr_iload_n hE dX4_addNonces_18 0 rfl ?_
      refine jr_aload_n hE dX4_addNonces_19 1 rfl ?_
      refine jr_get hE dX4_addNonces_20 f7 W4.o7 rfl ?_
      rw [show v 2 = (nI sz) from hsz]
      refine jr_icmp_ge (tgt := 77) hE dX4_addNonces_23 (by decide) (fun c_23 => ?_) (fun c_23 => absurd (nI_le (a := sz) (by omega) (by omega)) c_23)
      refine jr_aload_n hE dX4_addNonces_77 1 rfl ?_
      refine jr_get hE dX4_addNonces_78 f93 W4.o7 rfl ?_
      refine jr_aload_n hE dX4_addNonces_81 1 rfl ?_
      refine jr_get hE dX4_addNonces_82 f66 W4.o7 rfl ?_
      refine jr_kVv (ci := 2) (n := 1) (As := [.ref (c (40 + 4 * 19))]) (rest := []) hE dX4_addNonces_85 (fun l => c_X2_settle l G (c 9) (c (40 + 4 * 16)) (c 11) (c 10) (c 12) (c 13) (c 14) (c 15) (c 16) (c 17) (c 18) (c 19) (c 20) (c 21) (c 22) (c 23) (c (40 + 4 * 19)) (c (41 + 4 * 19)) (c (42 + 4 * 19)) (c (43 + 4 * 19)) (P4 19)) gX4_addNonces_X2_settle rfl W4.cv rfl (by decide +kernel) ⟨rfl, rfl, by decide, by decide⟩ (by decide) rfl rfl (Nat.le_of_ble_eq_true rfl) (W4.settlePre 19 (by decide) (by decide)) (fun F3 q4 => ?_)
      obtain ⟨g5, gp5, go5, h5, u5⟩ := q4
      obtain ⟨W5, P5⟩ := W4.settle (i := 19) (by decide) (by decide) g5 gp5 go5 h5 u5
      have O5 := O4.tr P5
      obtain ⟨P5, eP5, hP5, yP5⟩ := uz_ab P4 19 (stJ (P4 19))
      rw [eP5] at W5
      have nP5 : ∀ z, z ≠ 19 → P5 z = P4 z := fun z hz => hP5 z (fun e => hz (List.mem_singleton.mp e))
      have hr5 : stl (P5 19) (tSs Td 0 sz) := by rw [yP5]; exact rep_stl h0
      refine jr_aload_n hE dX4_addNonces_88 1 rfl ?_
      refine jr_get hE dX4_addNonces_89 f93 W5.o7 rfl ?_
      refine jr_aload_n hE dX4_addNonces_92 1 rfl ?_
      refine jr_get hE dX4_addNonces_93 f70 W5.o7 rfl ?_
      have hp6 : rep (P5 20) (tSs Td 1 sz) := by rw [show P5 20 = P4 20 from (nP5 20 (by decide))]; exact h1
      refine jr_kVv (ci := 2) (n := 1) (As := [.ref (c (40 + 4 * 20))]) (rest := []) hE dX4_addNonces_96 (fun l => c_X2_settle l G (c 9) (c (40 + 4 * 16)) (c 11) (c 10) (c 12) (c 13) (c 14) (c 15) (c 16) (c 17) (c 18) (c 19) (c 20) (c 21) (c 22) (c 23) (c (40 + 4 * 20)) (c (41 + 4 * 20)) (c (42 + 4 * 20)) (c (43 + 4 * 20)) (P5 20)) gX4_addNonces_X2_settle rfl W5.cv rfl (by decide +kernel) ⟨rfl, rfl, by decide, by decide⟩ (by decide) rfl rfl (Nat.le_of_ble_eq_true rfl) (W5.settlePre 20 (by decide) (by decide)) (fun F7 q8 => ?_)
      obtain ⟨g9, gp9, go9, h9, u9⟩ := q8
      obtain ⟨W9, P9⟩ := W5.settle (i := 20) (by decide) (by decide) g9 gp9 go9 h9 u9
      have O9 := O5.tr P9
      obtain ⟨P9, eP9, hP9, yP9⟩ := uz_ab P5 20 (stJ (P5 20))
      rw [eP9] at W9
      have nP9 : ∀ z, z ≠ 20 → P9 z = P5 z := fun z hz => hP9 z (fun e => hz (List.mem_singleton.mp e))
      have hr9 : stl (P9 20) (tSs Td 1 sz) := by rw [yP9]; exact rep_stl hp6
      refine jr_aload_n hE dX4_addNonces_99 1 rfl ?_
      refine jr_get hE dX4_addNonces_100 f38 W9.o7 rfl ?_
      refine jr_kVv (ci := 0) (n := 0) (As := []) (rest := []) hE dX4_addNonces_103 (fun l => c_X0_empty l G (c (270 + 2 * 24)) (c (271 + 2 * 24)) (bcap 24) (B 24)) gX4_addNonces_X0_empty rfl ((W9.by 24 (by decide)).ob) rfl (by decide +kernel) ⟨rfl, rfl, by decide, by decide⟩ (by decide) rfl rfl (Nat.le_of_ble_eq_true rfl) (W9.by 24 (by decide)) (fun F10 q11 => ?_)
      obtain ⟨h12, u12⟩ := q11
      obtain ⟨W12, P12⟩ := W9.setBo (i := 24) (bs := []) (by decide) h12 u12
      have O12 := O9.tr P12
      obtain ⟨B12, eB12, hB12, yB12⟩ := uz_ab B 24 ([])
      rw [eB12] at W12
      have nB12 : ∀ z, z ≠ 24 → B12 z = B z := fun z hz => hB12 z (fun e => hz (List.mem_singleton.mp e))
      refine jr_aload_n hE dX4_addNonces_106 1 rfl ?_
      refine jr_get hE dX4_addNonces_107 f66 W12.o7 rfl ?_
      refine jr_aload_n hE dX4_addNonces_110 1 rfl ?_
      refine jr_get hE dX4_addNonces_111 f38 W12.o7 rfl ?_
      have hp13 : stl (P9 19) (tSs Td 0 sz) := by rw [show P9 19 = P5 19 from (nP9 19 (by decide))]; exact hr5
      refine jr_kVv (ci := 6) (n := 1) (As := [.ref (c (270 + 2 * 24))]) (rest := []) hE dX4_addNonces_114 (fun l => c_X6_addTo l G (c (40 + 4 * 19)) (c (41 + 4 * 19)) (c (42 + 4 * 19)) (c (43 + 4 * 19)) (c (270 + 2 * 24)) (c (271 + 2 * 24)) (bcap 24) (P9 19) ([])) gX4_addNonces_X6_addTo rfl ((W12.pt 19 (by decide) (by decide)).1) rfl (by decide +kernel) ⟨rfl, rfl, by decide, by decide⟩ (by decide) rfl rfl (Nat.le_of_ble_eq_true rfl) (⟨W12.pt 19 (by decide) (by decide), (by have q := W12.by 24 (by decide); rw [show B12 24 = [] from yB12] at q; exact q), by decide, cnd W12.1 [40 + 4 * 19, 41 + 4 * 19, 42 + 4 * 19, 43 + 4 * 19, 270 + 2 * 24, 271 + 2 * 24] (by decide) (by decide)⟩) (fun F14 q15 => ?_)
      rw [hp13.ptb] at q15
      rw [List.nil_append] at q15
      obtain ⟨W16, P16⟩ := W12.paddP (i := 19) (k := 24) (by decide) (by decide) (by decide) q15
      have O16 := O12.tr P16
      obtain ⟨B16, eB16, hB16, yB16⟩ := uz_ab B12 24 (pbE (tSs Td 0 sz))
      rw [eB16] at W16
      have nB16 : ∀ z, z ≠ 24 → B16 z = B12 z := fun z hz => hB16 z (fun e => hz (List.mem_singleton.mp e))
      refine jr_aload_n hE dX4_addNonces_117 1 rfl ?_
      refine jr_get hE dX4_addNonces_118 f70 W16.o7 rfl ?_
      refine jr_aload_n hE dX4_addNonces_121 1 rfl ?_
      refine jr_get hE dX4_addNonces_122 f38 W16.o7 rfl ?_
      refine jr_kVv (ci := 6) (n := 1) (As := [.ref (c (270 + 2 * 24))]) (rest := []) hE dX4_addNonces_125 (fun l => c_X6_addTo l G (c (40 + 4 * 20)) (c (41 + 4 * 20)) (c (42 + 4 * 20)) (c (43 + 4 * 20)) (c (270 + 2 * 24)) (c (271 + 2 * 24)) (bcap 24) (P9 20) (pbE (tSs Td 0 sz))) gX4_addNonces_X6_addTo rfl ((W16.pt 20 (by decide) (by decide)).1) rfl (by decide +kernel) ⟨rfl, rfl, by decide, by decide⟩ (by decide) rfl rfl (Nat.le_of_ble_eq_true rfl) (⟨W16.pt 20 (by decide) (by decide), (by have q := W16.by 24 (by decide); rw [show B16 24 = (pbE (tSs Td 0 sz)) from yB16] at q; exact q), by rw [pbE_len]; decide, cnd W16.1 [40 + 4 * 20, 41 + 4 * 20, 42 + 4 * 20, 43 + 4 * 20, 270 + 2 * 24, 271 + 2 * 24] (by decide) (by decide)⟩) (fun F17 q18 => ?_)
      rw [hr9.ptb] at q18
      obtain ⟨W19, P19⟩ := W16.paddP (i := 20) (k := 24) (by decide) (by decide) (by decide) q18
      have O19 := O16.tr P19
      obtain ⟨B19, eB19, hB19, yB19⟩ := uz_ab B16 24 ((pbE (tSs Td 0 sz)) ++ pbE (tSs Td 1 sz))
      rw [eB19] at W19
      have nB19 : ∀ z, z ≠ 24 → B19 z = B16 z := fun z hz => hB19 z (fun e => hz (List.mem_singleton.mp e))
      exact hR F17 _ _ dX4_addNonces_128 ⟨_, _, W19, (fun z hz => ((nB19 z (by simp only [List.mem_cons, List.not_mem_nil, or_false, not_or] at hz; omega)).trans ((nB16 z (by simp only [List.mem_cons, List.not_mem_nil, or_false, not_or] at hz; omega)).trans (nB12 z (by simp only [List.mem_cons, List.not_mem_nil, or_false, not_or] at hz; omega))))), (fun z hz => ((nP9 z (by simp only [List.mem_cons, List.not_mem_nil, or_false, not_or] at hz; omega)).trans ((nP5 z (by simp only [List.mem_cons, List.not_mem_nil, or_false, not_or] at hz; omega)).trans (hPf z (by simp only [List.mem_cons, List.not_mem_nil, or_false, not_or] at hz ⊢; omega))))), hp13, hr9, yB19, O19⟩
    | succ r0 ih =>
      intro i F4 P4 hi W4 hPf h0 h1 O4
      obtain ⟨d1, d2⟩ := hdat i (by omega)
      refine jr_iload_n hE dX4_addNonces_18 0 rfl ?_
      refine jr_aload_n hE dX4_addNonces_19 1 rfl ?_
      refine jr_get hE dX4_addNonces_20 f7 W4.o7 rfl ?_
      rw [show v 2 = (nI sz) from hsz]
      refine jr_icmp_ge (tgt := 77) hE dX4_addNonces_23 (by decide) (fun c_23 => absurd c_23 (nI_ge (b := sz) (by omega) (by omega))) (fun c_23 => ?_)
      refine jr_iload_n hE dX4_addNonces_26 0 rfl ?_
      refine jr_iconst (v := (4 : Int32)) hE dX4_addNonces_27 (by decide) ?_
      refine jr_icmp_ge (tgt := 77) hE dX4_addNonces_28 (by decide) (fun c_28 => absurd c_28 (nI_ge (b := 4) (by omega) (by omega))) (fun c_28 => ?_)
      refine jr_aload_n hE dX4_addNonces_31 1 rfl ?_
      refine jr_get hE dX4_addNonces_32 f93 W4.o7 rfl ?_
      refine jr_aload_n hE dX4_addNonces_35 1 rfl ?_
      refine jr_get hE dX4_addNonces_36 f66 W4.o7 rfl ?_
      refine jr_aload_n hE dX4_addNonces_39 1 rfl ?_
      refine jr_get hE dX4_addNonces_40 f28 W4.o7 rfl ?_
      refine jr_iload_n hE dX4_addNonces_43 0 rfl ?_
      obtain ⟨f20, ja20, ga20⟩ := W4.aM
      refine jr_aald (v := c (29 + i)) hE dX4_addNonces_44 ja20 rfl (vp_in_nI (n := i) (by omega) (by decide)) (by rw [nI_clamp (by omega)]; exact ga20 i (by omega)) ?_
      refine jr_get hE dX4_addNonces_45 f237 (W4.oM i (by omega)) rfl ?_
      have hp21 : rep (P4 (30 + 3 * i)) (tdE 0 ((Td i).getD [])) := by rw [show P4 (30 + 3 * i) = P (30 + 3 * i) from (hPf (30 + 3 * i) (by simp only [List.mem_cons, List.not_mem_nil, or_false, not_or]; omega))]; exact d1
      refine jr_kVv (ci := 2) (n := 2) (As := [.ref (c (40 + 4 * 19)), .ref (c (40 + 4 * (30 + 3 * i)))]) (rest := []) hE dX4_addNonces_48 (fun l => c_X2_plus l G (c 9) (c (40 + 4 * 16)) (c 11) (c 10) (c 12) (c 13) (c 14) (c 15) (c 16) (c 17) (c (40 + 4 * 19)) (c (41 + 4 * 19)) (c (42 + 4 * 19)) (c (43 + 4 * 19)) (c (40 + 4 * (30 + 3 * i))) (c (41 + 4 * (30 + 3 * i))) (c (42 + 4 * (30 + 3 * i))) (c (43 + 4 * (30 + 3 * i))) (P4 19) (P4 (30 + 3 * i))) gX4_addNonces_X2_plus rfl W4.cv rfl (by decide +kernel) ⟨rfl, rfl, by decide, by decide⟩ (by decide) rfl rfl (Nat.le_of_ble_eq_true rfl) (W4.plusPre 19 (30 + 3 * i) (by decide) (by decide) (by omega) (by omega) (by omega)) (fun F22 q23 => ?_)
      obtain ⟨g24, h24, u24⟩ := q23
      obtain ⟨W24, P24⟩ := W4.plus (i := 19) (by decide) (by decide) g24 h24 u24
      have O24 := O4.tr P24
      obtain ⟨P24, eP24, hP24, yP24⟩ := uz_ab P4 19 (plJ (P4 19) (P4 (30 + 3 * i)))
      rw [eP24] at W24
      have nP24 : ∀ z, z ≠ 19 → P24 z = P4 z := fun z hz => hP24 z (fun e => hz (List.mem_singleton.mp e))
      have hr24 : rep (P24 19) (eadd PP (tSs Td 0 i) (tdE 0 ((Td i).getD []))) := by rw [yP24]; exact rep_pl h0 hp21
      refine jr_aload_n hE dX4_addNonces_51 1 rfl ?_
      refine jr_get hE dX4_addNonces_52 f93 W24.o7 rfl ?_
      refine jr_aload_n hE dX4_addNonces_55 1 rfl ?_
      refine jr_get hE dX4_addNonces_56 f70 W24.o7 rfl ?_
      refine jr_aload_n hE dX4_addNonces_59 1 rfl ?_
      refine jr_get hE dX4_addNonces_60 f28 W24.o7 rfl ?_
      refine jr_iload_n hE dX4_addNonces_63 0 rfl ?_
      obtain ⟨f25, ja25, ga25⟩ := W24.aM
      refine jr_aald (v := c (29 + i)) hE dX4_addNonces_64 ja25 rfl (vp_in_nI (n := i) (by omega) (by decide)) (by rw [nI_clamp (by omega)]; exact ga25 i (by omega)) ?_
      refine jr_get hE dX4_addNonces_65 f240 (W24.oM i (by omega)) rfl ?_
      have hp26 : rep (P24 20) (tSs Td 1 i) := by rw [show P24 20 = P4 20 from (nP24 20 (by decide))]; exact h1
      have hp27 : rep (P24 (31 + 3 * i)) (tdE 1 ((Td i).getD [])) := by rw [show P24 (31 + 3 * i) = P (31 + 3 * i) from ((nP24 (31 + 3 * i) (by omega)).trans (hPf (31 + 3 * i) (by simp only [List.mem_cons, List.not_mem_nil, or_false, not_or]; omega)))]; exact d2
      refine jr_kVv (ci := 2) (n := 2) (As := [.ref (c (40 + 4 * 20)), .ref (c (40 + 4 * (31 + 3 * i)))]) (rest := []) hE dX4_addNonces_68 (fun l => c_X2_plus l G (c 9) (c (40 + 4 * 16)) (c 11) (c 10) (c 12) (c 13) (c 14) (c 15) (c 16) (c 17) (c (40 + 4 * 20)) (c (41 + 4 * 20)) (c (42 + 4 * 20)) (c (43 + 4 * 20)) (c (40 + 4 * (31 + 3 * i))) (c (41 + 4 * (31 + 3 * i))) (c (42 + 4 * (31 + 3 * i))) (c (43 + 4 * (31 + 3 * i))) (P24 20) (P24 (31 + 3 * i))) gX4_addNonces_X2_plus rfl W24.cv rfl (by decide +kernel) ⟨rfl, rfl, by decide, by decide⟩ (by decide) rfl rfl (Nat.le_of_ble_eq_true rfl) (W24.plusPre 20 (31 + 3 * i) (by decide) (by decide) (by omega) (by omega) (by omega)) (fun F28 q29 => ?_)
      obtain ⟨g30, h30, u30⟩ := q29
      obtain ⟨W30, P30⟩ := W24.plus (i := 20) (by decide) (by decide) g30 h30 u30
      have O30 := O24.tr P30
      obtain ⟨P30, eP30, hP30, yP30⟩ := uz_ab P24 20 (plJ (P24 20) (P24 (31 + 3 * i)))
      rw [eP30] at W30
      have nP30 : ∀ z, z ≠ 20 → P30 z = P24 z := fun z hz => hP30 z (fun e => hz (List.mem_singleton.mp e))
      have hr30 : rep (P30 20) (eadd PP (tSs Td 1 i) (tdE 1 ((Td i).getD []))) := by rw [yP30]; exact rep_pl hp26 hp27
      refine jr_iinc (v := nI (i + 1)) (lv' := [(1, .int (nI (i + 1))), (0, .ref (c 7))]) hE dX4_addNonces_71 0 rfl (nI_1 _) (by decide) rfl ?_
      refine jr_goto (tgt := 18) hE dX4_addNonces_74 (by decide) ?_
      have hp31 : rep (P30 19) (eadd PP (tSs Td 0 i) (tdE 0 ((Td i).getD []))) := by rw [show P30 19 = P24 19 from (nP30 19 (by decide))]; exact hr24
      refine jr_lv (lv' := [(1, .int (nI (i + 1))), (0, .ref (c 7))]) [0, 1] rfl ?_
      exact ih (i + 1) F28 P30 (by omega) W30 (fun z hz => ((nP30 z (by simp only [List.mem_cons, List.not_mem_nil, or_false, not_or] at hz; omega)).trans ((nP24 z (by simp only [List.mem_cons, List.not_mem_nil, or_false, not_or] at hz; omega)).trans (hPf z (by simp only [List.mem_cons, List.not_mem_nil, or_false, not_or] at hz ⊢; omega))))) hp31 hr30 O30
  have hp32 : rep (P2 19) none := by rw [show P2 19 = P1 19 from (nP2 19 (by decide))]; exact hz1
  exact loop sz 0 F2 P2 (by omega) W2 (fun z hz => ((nP2 z (by simp only [List.mem_cons, List.not_mem_nil, or_false, not_or] at hz; omega)).trans (nP1 z (by simp only [List.mem_cons, List.not_mem_nil, or_false, not_or] at hz; omega)))) hp32 hz2 O2

set_option maxHeartbeats 4000000 in
set_option maxRecDepth 100000 in
theorem c_g_open (l : Launch) (G : Nat → ClassId) (c : Nat → Nat) (B : Nat → List Nat) (S : Nat → Nat) (P : Nat → JP) (q : SS) (X : Nat) (v : Nat → Int32) (k sz jx : Nat) (Td : Nat → Option (List Nat)) : jKv l yX4_open wsX4_open ({ frames := 6, cells := 0, slots := 0, locals := 168 }) G [.ref (c 7), .ref (c (270 + 2 * k))] (fun L F => CW G L F c B S P q X v ∧ v 2 = nI sz ∧ sz ≤ 4 ∧ (∀ j, j < sz → rep (P (30 + 3 * j)) (tdE 0 ((Td j).getD [])) ∧ rep (P (31 + 3 * j)) (tdE 1 ((Td j).getD []))) ∧ k < 16 ∧ (B k).length ≤ 40 ∧ B 21 = bex jx 32 ∧ rep (P 16) GE) (fun L F F1 => ∃ B' S' P' v' q', CW G L F1 c B' S' P' q' X v' ∧ (∀ i, i ∉ [17, 19, 22, 24, 25] → B' i = B i) ∧ (∀ i, i ∉ [5, 6] → S' i = S i) ∧ (∀ i, i ∉ [19, 20] → P' i = P i) ∧ (∀ i, i ∉ [3, 5] → v' i = v i) ∧ B' 24 = pbE (tSs Td 0 sz) ++ pbE (tSs Td 1 sz) ∧ S' 5 = (bnum (sha (sha (tgb 7) ++ sha (tgb 7) ++ (pbE (tSs Td 0 sz) ++ pbE (tSs Td 1 sz)) ++ bex jx 32 ++ B k)) % NN) ∧ B' 25 = bex (exE (finE (eadd PP (emul PP (bnum (sha (sha (tgb 7) ++ sha (tgb 7) ++ (pbE (tSs Td 0 sz) ++ pbE (tSs Td 1 sz)) ++ bex jx 32 ++ B k)) % NN) (tSs Td 1 sz)) (tSs Td 0 sz)))) 32 ∧ S' 6 = chS (exE (finE (eadd PP (emul PP (bnum (sha (sha (tgb 7) ++ sha (tgb 7) ++ (pbE (tSs Td 0 sz) ++ pbE (tSs Td 1 sz)) ++ bex jx 32 ++ B k)) % NN) (tSs Td 1 sz)) (tSs Td 0 sz)))) jx (B k) ∧ v' 5 = bi (eyO (finE (eadd PP (emul PP (bnum (sha (sha (tgb 7) ++ sha (tgb 7) ++ (pbE (tSs Td 0 sz) ++ pbE (tSs Td 1 sz)) ++ bex jx 32 ++ B k)) % NN) (tSs Td 1 sz)) (tSs Td 0 sz)))) ∧ v' 3 = 1 ∧ cO c F F1) := by
  refine jm_kv (cc := cX4_open) (maxL := 2) (by decide) rfl (Nat.le_of_ble_eq_true rfl) ?_
  intro E L F hE hR hpre
  have hE : jOk E G _ cX4_open 2 RX4 wsX4_open := hE
  obtain ⟨W0, hsz, h4, hdat, hk, hlk, hjx, hG⟩ := hpre
  have f79 : jFl RX4 wsX4_open 79 4 3 := ⟨rfl, by decide, by decide +kernel, by decide +kernel⟩
  have f38 : jFl RX4 wsX4_open 38 4 9 := ⟨rfl, by decide, by decide +kernel, by decide +kernel⟩
  have f22 : jFl RX4 wsX4_open 22 4 2 := ⟨rfl, by decide, by decide +kernel, by decide +kernel⟩
  have f32 : jFl RX4 wsX4_open 32 4 7 := ⟨rfl, by decide, by decide +kernel, by decide +kernel⟩
  have f47 : jFl RX4 wsX4_open 47 4 11 := ⟨rfl, by decide, by decide +kernel, by decide +kernel⟩
  have f93 : jFl RX4 wsX4_open 93 4 5 := ⟨rfl, by decide, by decide +kernel, by decide +kernel⟩
  have f70 : jFl RX4 wsX4_open 70 4 17 := ⟨rfl, by decide, by decide +kernel, by decide +kernel⟩
  have f66 : jFl RX4 wsX4_open 66 4 16 := ⟨rfl, by decide, by decide +kernel, by decide +kernel⟩
  have f135 : jFl RX4 wsX4_open 135 6 3 := ⟨rfl, by decide, by decide +kernel, by decide +kernel⟩
  have f156 : jFl RX4 wsX4_open 156 6 1 := ⟨rfl, by decide, by decide +kernel, by decide +kernel⟩
  have f76 : jFl RX4 wsX4_open 76 4 19 := ⟨rfl, by decide, by decide +kernel, by decide +kernel⟩
  have f41 : jFl RX4 wsX4_open 41 4 10 := ⟨rfl, by decide, by decide +kernel, by decide +kernel⟩
  have f168 : jFl RX4 wsX4_open 168 6 0 := ⟨rfl, by decide, by decide +kernel, by decide +kernel⟩
  have f83 : jFl RX4 wsX4_open 83 4 4 := ⟨rfl, by decide, by decide +kernel, by decide +kernel⟩
  have f51 : jFl RX4 wsX4_open 51 4 12 := ⟨rfl, by decide, by decide +kernel, by decide +kernel⟩
  have f13 : jFl RX4 wsX4_open 13 4 1 := ⟨rfl, by decide, by decide +kernel, by decide +kernel⟩
  have f233 : jFl RX4 wsX4_open 233 2 0 := ⟨rfl, by decide, by decide +kernel, by decide +kernel⟩
  refine jr_aload_n hE dX4_open_0 0 rfl ?_
  refine jr_kVv (ci := 4) (n := 0) (As := []) (rest := []) hE dX4_open_1 (fun l => c_g_addNonces l G c B S P q X v sz Td) gX4_open_X4_addNonces rfl W0.o7 rfl (by decide +kernel) ⟨rfl, rfl, by decide, by decide⟩ (by decide) rfl rfl (Nat.le_of_ble_eq_true rfl) (⟨W0, hsz, h4, hdat⟩) (fun F1 q2 => ?_)
  obtain ⟨B3, Pf3, W3, hB3, hPf3, f3_0, f3_1, f3_2, P3⟩ := q2
  have O3 := (cO.rf c F).tr P3
  refine jr_aload_n hE dX4_open_4 0 rfl ?_
  refine jr_get hE dX4_open_5 f79 W3.o7 rfl ?_
  refine jr_bipush (v := (7 : Int32)) hE dX4_open_8 (by decide) ?_
  refine jr_kVv (ci := 9) (n := 1) (As := [.int (7 : Int32)]) (rest := []) hE dX4_open_10 (fun l => c_X9_beginT l G (c 3) (c 4) (c 5) (c (270 + 2 * 17)) (c (271 + 2 * 17)) (bcap 17) 7 q (B3 17)) gX4_open_X9_beginBy rfl W3.sh.1 rfl (by decide +kernel) ⟨rfl, rfl, by decide, by decide⟩ (by decide) rfl rfl (Nat.le_of_ble_eq_true rfl) (W3.beginTpre (i := 7) (by decide)) (fun F4 q5 => ?_)
  obtain ⟨q6, W6, D6, P6⟩ := W3.beginT (i := 7) (by decide) q5
  have O6 := O3.tr P6
  obtain ⟨B6, eB6, hB6, yB6⟩ := uz_ab B3 17 (sha (tgb 7))
  rw [eB6] at W6
  have nB6 : ∀ z, z ≠ 17 → B6 z = B3 z := fun z hz => hB6 z (fun e => hz (List.mem_singleton.mp e))
  have T6 : ∀ b, b ∈ (sha (tgb 7) ++ sha (tgb 7)) → b < 256 := app_lt (sha_lt _) (sha_lt _)
  refine jr_aload_n hE dX4_open_13 0 rfl ?_
  refine jr_get hE dX4_open_14 f79 W6.o7 rfl ?_
  refine jr_aload_n hE dX4_open_17 0 rfl ?_
  refine jr_get hE dX4_open_18 f38 W6.o7 rfl ?_
  have hB7 : B6 24 = (pbE (tSs Td 0 sz) ++ pbE (tSs Td 1 sz)) := (nB6 24 (by decide)).trans f3_2
  refine jr_kVv (ci := 9) (n := 1) (As := [.ref (c (270 + 2 * 24))]) (rest := []) hE dX4_open_21 (fun l => c_X9_takeAll l G (c 3) (c 4) (c 5) (c (270 + 2 * 17)) (c (270 + 2 * 24)) (c (271 + 2 * 24)) (bcap 24) q6 (pbE (tSs Td 0 sz) ++ pbE (tSs Td 1 sz))) gX4_open_X9_takeAll rfl W6.sh.1 rfl (by decide +kernel) ⟨rfl, rfl, by decide, by decide⟩ (by decide) rfl rfl (Nat.le_of_ble_eq_true rfl) (⟨W6.sh, (by have q := W6.by 24 (by decide); rw [show B6 24 = (pbE (tSs Td 0 sz) ++ pbE (tSs Td 1 sz)) from hB7] at q; exact q), (W6.shB 24 (by decide) trivial D6 (by simp only [List.length_append, List.length_cons, List.length_nil, List.length_take, List.length_drop, sha_len, bex_len, pbE_len, xorL_len, List.length_replicate]; omega)).2.2.1, (W6.shB 24 (by decide) trivial D6 (by simp only [List.length_append, List.length_cons, List.length_nil, List.length_take, List.length_drop, sha_len, bex_len, pbE_len, xorL_len, List.length_replicate]; omega)).2.2.2⟩) (fun F8 q9 => ?_)
  have Dq9 := W6.takeA D6 q9
  obtain ⟨q10, W10, D10, P10⟩ := Dq9
  have O10 := O6.tr P10
  have T10 : ∀ b, b ∈ (sha (tgb 7) ++ sha (tgb 7) ++ (pbE (tSs Td 0 sz) ++ pbE (tSs Td 1 sz))) → b < 256 := app_lt T6 (by have q := W6.bB 24 (by decide); rw [show B6 24 = (pbE (tSs Td 0 sz) ++ pbE (tSs Td 1 sz)) from hB7] at q; exact q)
  refine jr_aload_n hE dX4_open_24 0 rfl ?_
  refine jr_get hE dX4_open_25 f79 W10.o7 rfl ?_
  refine jr_aload_n hE dX4_open_28 0 rfl ?_
  refine jr_get hE dX4_open_29 f22 W10.o7 rfl ?_
  have hB11 : B6 21 = (bex jx 32) := ((nB6 21 (by decide)).trans (hB3 21 (by decide))).trans hjx
  refine jr_kVv (ci := 9) (n := 1) (As := [.ref (c (270 + 2 * 21))]) (rest := []) hE dX4_open_32 (fun l => c_X9_takeAll l G (c 3) (c 4) (c 5) (c (270 + 2 * 17)) (c (270 + 2 * 21)) (c (271 + 2 * 21)) (bcap 21) q10 (bex jx 32)) gX4_open_X9_takeAll rfl W10.sh.1 rfl (by decide +kernel) ⟨rfl, rfl, by decide, by decide⟩ (by decide) rfl rfl (Nat.le_of_ble_eq_true rfl) (⟨W10.sh, (by have q := W10.by 21 (by decide); rw [show B6 21 = (bex jx 32) from hB11] at q; exact q), (W10.shB 21 (by decide) trivial D10 (by simp only [List.length_append, List.length_cons, List.length_nil, List.length_take, List.length_drop, sha_len, bex_len, pbE_len, xorL_len, List.length_replicate]; omega)).2.2.1, (W10.shB 21 (by decide) trivial D10 (by simp only [List.length_append, List.length_cons, List.length_nil, List.length_take, List.length_drop, sha_len, bex_len, pbE_len, xorL_len, List.length_replicate]; omega)).2.2.2⟩) (fun F12 q13 => ?_)
  have Dq13 := W10.takeA D10 q13
  obtain ⟨q14, W14, D14, P14⟩ := Dq13
  have O14 := O10.tr P14
  have T14 : ∀ b, b ∈ (sha (tgb 7) ++ sha (tgb 7) ++ (pbE (tSs Td 0 sz) ++ pbE (tSs Td 1 sz)) ++ (bex jx 32)) → b < 256 := app_lt T10 (by have q := W10.bB 21 (by decide); rw [show B6 21 = (bex jx 32) from hB11] at q; exact q)
  refine jr_aload_n hE dX4_open_35 0 rfl ?_
  refine jr_get hE dX4_open_36 f79 W14.o7 rfl ?_
  refine jr_aload_n hE dX4_open_39 1 rfl ?_
  have hB15 : B6 k = (B k) := ((nB6 k (by omega)).trans (hB3 k (by simp only [List.mem_cons, List.not_mem_nil, or_false, not_or]; omega))).trans rfl
  refine jr_kVv (ci := 9) (n := 1) (As := [.ref (c (270 + 2 * k))]) (rest := []) hE dX4_open_40 (fun l => c_X9_takeAll l G (c 3) (c 4) (c 5) (c (270 + 2 * 17)) (c (270 + 2 * k)) (c (271 + 2 * k)) (bcap k) q14 (B k)) gX4_open_X9_takeAll rfl W14.sh.1 rfl (by decide +kernel) ⟨rfl, rfl, by decide, by decide⟩ (by decide) rfl rfl (Nat.le_of_ble_eq_true rfl) (⟨W14.sh, (by have q := W14.by k (by omega); rw [show B6 k = (B k) from hB15] at q; exact q), (W14.shB k (by omega) trivial D14 (by simp only [List.length_append, List.length_cons, List.length_nil, List.length_take, List.length_drop, sha_len, bex_len, pbE_len, xorL_len, List.length_replicate]; omega)).2.2.1, (W14.shB k (by omega) trivial D14 (by simp only [List.length_append, List.length_cons, List.length_nil, List.length_take, List.length_drop, sha_len, bex_len, pbE_len, xorL_len, List.length_replicate]; omega)).2.2.2⟩) (fun F16 q17 => ?_)
  have Dq17 := W14.takeA D14 q17
  obtain ⟨q18, W18, D18, P18⟩ := Dq17
  have O18 := O14.tr P18
  have T18 : ∀ b, b ∈ (sha (tgb 7) ++ sha (tgb 7) ++ (pbE (tSs Td 0 sz) ++ pbE (tSs Td 1 sz)) ++ (bex jx 32) ++ (B k)) → b < 256 := app_lt T14 (by have q := W14.bB k (by omega); rw [show B6 k = (B k) from hB15] at q; exact q)
  refine jr_aload_n hE dX4_open_43 0 rfl ?_
  refine jr_get hE dX4_open_44 f79 W18.o7 rfl ?_
  refine jr_aload_n hE dX4_open_47 0 rfl ?_
  refine jr_get hE dX4_open_48 f32 W18.o7 rfl ?_
  refine jr_kVv (ci := 9) (n := 1) (As := [.ref (c (270 + 2 * 22))]) (rest := []) hE dX4_open_51 (fun l => c_X9_finish l G (c 3) (c 4) (c 5) (c (270 + 2 * 17)) (c (270 + 2 * 22)) (c (271 + 2 * 22)) (bcap 22) q18 (B6 22)) gX4_open_X9_finish rfl W18.sh.1 rfl (by decide +kernel) ⟨rfl, rfl, by decide, by decide⟩ (by decide) rfl rfl (Nat.le_of_ble_eq_true rfl) (⟨W18.sh, W18.by 22 (by decide), (W18.shB 22 (by decide) trivial D18 (by simp only [List.length_append, List.length_cons, List.length_nil, List.length_take, List.length_drop, sha_len, bex_len, pbE_len, xorL_len, List.length_replicate]; omega)).2.2.1, by decide, (W18.shB 22 (by decide) trivial D18 (by simp only [List.length_append, List.length_cons, List.length_nil, List.length_take, List.length_drop, sha_len, bex_len, pbE_len, xorL_len, List.length_replicate]; omega)).2.2.2⟩) (fun F19 q20 => ?_)
  obtain ⟨q21, W21, P21⟩ := W18.finP (i := 22) (by decide) D18 T18 (by simp only [List.length_append, List.length_cons, List.length_nil, List.length_take, List.length_drop, sha_len, bex_len, pbE_len, xorL_len, List.length_replicate]; omega) q20
  have O21 := O18.tr P21
  obtain ⟨B21, eB21, hB21, yB21⟩ := uz_ab B6 22 (sha (sha (tgb 7) ++ sha (tgb 7) ++ (pbE (tSs Td 0 sz) ++ pbE (tSs Td 1 sz)) ++ (bex jx 32) ++ (B k)))
  rw [eB21] at W21
  have nB21 : ∀ z, z ≠ 22 → B21 z = B6 z := fun z hz => hB21 z (fun e => hz (List.mem_singleton.mp e))
  refine jr_aload_n hE dX4_open_54 0 rfl ?_
  refine jr_get hE dX4_open_55 f47 W21.o7 rfl ?_
  refine jr_aload_n hE dX4_open_58 0 rfl ?_
  refine jr_get hE dX4_open_59 f32 W21.o7 rfl ?_
  refine jr_kVv (ci := 8) (n := 1) (As := [.ref (c (270 + 2 * 22))]) (rest := []) hE dX4_open_62 (fun l => c_X8_takeDigest l G (c (210 + 2 * 5)) (c (211 + 2 * 5)) (c (270 + 2 * 22)) (c (271 + 2 * 22)) (bcap 22) (S 5) (sha (sha (tgb 7) ++ sha (tgb 7) ++ (pbE (tSs Td 0 sz) ++ pbE (tSs Td 1 sz)) ++ (bex jx 32) ++ (B k)))) gX4_open_X8_takeDigest rfl ((W21.sc 5 (by decide)).ob) rfl (by decide +kernel) ⟨rfl, rfl, by decide, by decide⟩ (by decide) rfl rfl (Nat.le_of_ble_eq_true rfl) (⟨(W21.sc 5 (by decide)), (by have q := W21.by 22 (by decide); rw [show B21 22 = (sha (sha (tgb 7) ++ sha (tgb 7) ++ (pbE (tSs Td 0 sz) ++ pbE (tSs Td 1 sz)) ++ (bex jx 32) ++ (B k))) from yB21] at q; exact q), sha_len _, cnd W21.1 [210 + 2 * 5, 211 + 2 * 5, 270 + 2 * 22, 271 + 2 * 22] (by decide) (by decide)⟩) (fun F22 q23 => ?_)
  obtain ⟨BB, eBB⟩ : ∃ y : Nat, y = (bnum (sha (sha (tgb 7) ++ sha (tgb 7) ++ (pbE (tSs Td 0 sz) ++ pbE (tSs Td 1 sz)) ++ (bex jx 32) ++ (B k))) % NN) := ⟨_, rfl⟩
  rw [← eBB] at q23
  obtain ⟨h24, u24⟩ := q23
  obtain ⟨W24, P24⟩ := W21.setS (i := 5) (x := BB) (by decide) h24 u24
  have O24 := O21.tr P24
  obtain ⟨S24, eS24, hS24, yS24⟩ := uz_ab S 5 BB
  rw [eS24] at W24
  have nS24 : ∀ z, z ≠ 5 → S24 z = S z := fun z hz => hS24 z (fun e => hz (List.mem_singleton.mp e))
  have lBB : BB < NN := by rw [eBB]; exact Nat.mod_lt _ NN0
  have hon0 := f3_0.rep.onE
  have hon1 := f3_1.rep.onE
  refine jr_aload_n hE dX4_open_65 0 rfl ?_
  refine jr_get hE dX4_open_66 f93 W24.o7 rfl ?_
  refine jr_aload_n hE dX4_open_69 0 rfl ?_
  refine jr_get hE dX4_open_70 f70 W24.o7 rfl ?_
  refine jr_aload_n hE dX4_open_73 0 rfl ?_
  refine jr_get hE dX4_open_74 f70 W24.o7 rfl ?_
  refine jr_aload_n hE dX4_open_77 0 rfl ?_
  refine jr_get hE dX4_open_78 f47 W24.o7 rfl ?_
  obtain ⟨f25, jm25, gm25⟩ := W24.cu.2.2.2.1
  have hk25 : S24 5 < 2 ^ 256 := by rw [show S24 5 = BB from yS24]; exact Nat.lt_trans lBB NN_256
  refine jr_kVv (ci := 2) (n := 3) (As := [.ref (c (40 + 4 * 20)), .ref (c (40 + 4 * 20)), .ref (c (210 + 2 * 5))]) (rest := []) hE dX4_open_81 (fun l => c_X2_times l G (c 9) (c (40 + 4 * 16)) (c 11) (c 10) (c 12) (c 13) (c 14) (c 15) (c 16) (c 17) (c (40 + 4 * 20)) (c (41 + 4 * 20)) (c (42 + 4 * 20)) (c (43 + 4 * 20)) (c (40 + 4 * 20)) (c (41 + 4 * 20)) (c (42 + 4 * 20)) (c (43 + 4 * 20)) (c (210 + 2 * 5)) (c (211 + 2 * 5)) (S24 5) f25 (fun i k => c (ck i k)) (Pf3 20) (Pf3 20)) gX4_open_X2_times rfl W24.cv rfl (by decide +kernel) ⟨rfl, rfl, by decide, by decide⟩ (by decide) rfl rfl (Nat.le_of_ble_eq_true rfl) (W24.timesPre jm25 gm25 20 20 5 (by decide) (by decide) (by decide) (by decide) (by decide) hk25) (fun F26 q27 => ?_)
  obtain ⟨W28, P28⟩ := W24.timesP gm25 (i := 20) (by decide) (by decide) q27
  have O28 := O24.tr P28
  obtain ⟨P28, eP28, hP28, yP28⟩ := uz_ab Pf3 20 (tmJ (Pf3 20) (Pf3 20) (S24 5))
  rw [eP28] at W28
  have nP28 : ∀ z, z ≠ 20 → P28 z = Pf3 z := fun z hz => hP28 z (fun e => hz (List.mem_singleton.mp e))
  have hr28 : rep (P28 20) (emul PP BB (tSs Td 1 sz)) := by rw [yP28]; exact (by have q := rep_tm (O := Pf3 20) f3_1.rep hk25; rw [show S24 5 = BB from yS24] at q ⊢; exact q)
  refine jr_aload_n hE dX4_open_84 0 rfl ?_
  refine jr_get hE dX4_open_85 f93 W28.o7 rfl ?_
  refine jr_aload_n hE dX4_open_88 0 rfl ?_
  refine jr_get hE dX4_open_89 f66 W28.o7 rfl ?_
  refine jr_aload_n hE dX4_open_92 0 rfl ?_
  refine jr_get hE dX4_open_93 f70 W28.o7 rfl ?_
  have hp29 : stl (P28 19) (tSs Td 0 sz) := by rw [show P28 19 = Pf3 19 from (nP28 19 (by decide))]; exact f3_0
  refine jr_kVv (ci := 2) (n := 2) (As := [.ref (c (40 + 4 * 19)), .ref (c (40 + 4 * 20))]) (rest := []) hE dX4_open_96 (fun l => c_X2_plus l G (c 9) (c (40 + 4 * 16)) (c 11) (c 10) (c 12) (c 13) (c 14) (c 15) (c 16) (c 17) (c (40 + 4 * 19)) (c (41 + 4 * 19)) (c (42 + 4 * 19)) (c (43 + 4 * 19)) (c (40 + 4 * 20)) (c (41 + 4 * 20)) (c (42 + 4 * 20)) (c (43 + 4 * 20)) (P28 19) (P28 20)) gX4_open_X2_plus rfl W28.cv rfl (by decide +kernel) ⟨rfl, rfl, by decide, by decide⟩ (by decide) rfl rfl (Nat.le_of_ble_eq_true rfl) (W28.plusPre 19 20 (by decide) (by decide) (by decide) (by decide) (by decide)) (fun F30 q31 => ?_)
  obtain ⟨g32, h32, u32⟩ := q31
  obtain ⟨W32, P32⟩ := W28.plus (i := 19) (by decide) (by decide) g32 h32 u32
  have O32 := O28.tr P32
  obtain ⟨P32, eP32, hP32, yP32⟩ := uz_ab P28 19 (plJ (P28 19) (P28 20))
  rw [eP32] at W32
  have nP32 : ∀ z, z ≠ 19 → P32 z = P28 z := fun z hz => hP32 z (fun e => hz (List.mem_singleton.mp e))
  have hr32 : rep (P32 19) (eadd PP (tSs Td 0 sz) (emul PP BB (tSs Td 1 sz))) := by rw [yP32]; exact rep_pl hp29.rep hr28
  obtain ⟨R1, eR1⟩ : ∃ Y : EP, Y = (eadd PP (tSs Td 0 sz) (emul PP BB (tSs Td 1 sz))) := ⟨_, rfl⟩
  have hR33 : rep (P32 19) R1 := by rw [eR1]; exact hr32
  refine jr_aload_n hE dX4_open_99 0 rfl ?_
  refine jr_get hE dX4_open_100 f66 W32.o7 rfl ?_
  refine jr_get hE dX4_open_103 f135 (W32.pt 19 (by decide) (by decide)).1 rfl ?_
  rw [hR33.no]
  refine jr_if_eq (tgt := 123) hE dX4_open_106 (by decide) (fun c106 => ?_) (fun c106 => ?_)
  · have hF34 : rep (P32 19) (finE R1) := by rw [show finE R1 = R1 from if_neg (b2i_0 c106)]; exact hR33
    refine jr_aload_n hE dX4_open_123 0 rfl ?_
    refine jr_get hE dX4_open_124 f93 W32.o7 rfl ?_
    refine jr_aload_n hE dX4_open_127 0 rfl ?_
    refine jr_get hE dX4_open_128 f66 W32.o7 rfl ?_
    refine jr_kVv (ci := 2) (n := 1) (As := [.ref (c (40 + 4 * 19))]) (rest := []) hE dX4_open_131 (fun l => c_X2_settle l G (c 9) (c (40 + 4 * 16)) (c 11) (c 10) (c 12) (c 13) (c 14) (c 15) (c 16) (c 17) (c 18) (c 19) (c 20) (c 21) (c 22) (c 23) (c (40 + 4 * 19)) (c (41 + 4 * 19)) (c (42 + 4 * 19)) (c (43 + 4 * 19)) (P32 19)) gX4_open_X2_settle rfl W32.cv rfl (by decide +kernel) ⟨rfl, rfl, by decide, by decide⟩ (by decide) rfl rfl (Nat.le_of_ble_eq_true rfl) (W32.settlePre 19 (by decide) (by decide)) (fun F35 q36 => ?_)
    obtain ⟨g37, gp37, go37, h37, u37⟩ := q36
    obtain ⟨W37, P37⟩ := W32.settle (i := 19) (by decide) (by decide) g37 gp37 go37 h37 u37
    have O37 := O32.tr P37
    obtain ⟨P37, eP37, hP37, yP37⟩ := uz_ab P32 19 (stJ (P32 19))
    rw [eP37] at W37
    have nP37 : ∀ z, z ≠ 19 → P37 z = P32 z := fun z hz => hP37 z (fun e => hz (List.mem_singleton.mp e))
    have hr37 : stl (P37 19) (finE R1) := by rw [yP37]; exact rep_stl hF34
    refine jr_aload_n hE dX4_open_134 0 rfl ?_
    refine jr_aload_n hE dX4_open_135 0 rfl ?_
    refine jr_get hE dX4_open_136 f66 W37.o7 rfl ?_
    refine jr_get hE dX4_open_139 f156 (W37.pt 19 (by decide) (by decide)).1 rfl ?_
    obtain ⟨hx38, hy38, hz38⟩ := hr37.xy (fin_ne R1)
    have hX38 : (P37 19).2.1 = exE (finE R1) := by rw [hx38]
    have hY38 : (P37 19).2.2.1 = eyN (finE R1) := by rw [hx38]
    refine jr_kVi (ci := 1) (n := 0) (As := []) (rest := [.ref (c 7)]) hE dX4_open_142 (fun l => c_X1_isOdd l G (c (42 + 4 * 19)) (P37 19).2.2.1) gX4_open_X1_isOdd rfl ((W37.pt 19 (by decide) (by decide)).2.2.1.cell.choose_spec) rfl (by decide +kernel) ⟨rfl, rfl, by decide, by decide⟩ (by decide) rfl rfl (Nat.le_of_ble_eq_true rfl) ((W37.pt 19 (by decide) (by decide)).2.2.1) (fun r41 F39 q40 => ?_)
    obtain ⟨h42, u42, r41e⟩ := q40
    rw [hY38] at r41e
    subst r41e
    obtain ⟨W42, P42⟩ := W37.oddP (i := 19) (by decide) (by decide) (by rw [hY38]; exact hz38) h42 u42
    have O42 := O37.tr P42
    refine jr_put (ty := .boolean) hE dX4_open_145 f76 W42.o7 rfl (by decide +kernel) (b2i_z _) (b2i_fit _) (Nat.le_of_ble_eq_true rfl) (fun F43 h43 u43 => ?_)
    obtain ⟨W43, P43⟩ := W42.setV7 (v1 := (uz v 5 (b2i (eyN (finE R1) % 2 = 1)))) h43 (fun z hz => uz_n _ _ (jne hz 3 rfl)) u43
    have O43 := O42.tr P43
    obtain ⟨v43, ev43, hv43, yv43⟩ := uz_ab v 5 (b2i (eyN (finE R1) % 2 = 1))
    rw [ev43] at W43
    have nv43 : ∀ z, z ≠ 5 → v43 z = v z := fun z hz => hv43 z (fun e => hz (List.mem_singleton.mp e))
    refine jr_aload_n hE dX4_open_148 0 rfl ?_
    refine jr_get hE dX4_open_149 f41 W43.o7 rfl ?_
    refine jr_kVv (ci := 0) (n := 0) (As := []) (rest := []) hE dX4_open_152 (fun l => c_X0_empty l G (c (270 + 2 * 25)) (c (271 + 2 * 25)) (bcap 25) (B21 25)) gX4_open_X0_empty rfl ((W43.by 25 (by decide)).ob) rfl (by decide +kernel) ⟨rfl, rfl, by decide, by decide⟩ (by decide) rfl rfl (Nat.le_of_ble_eq_true rfl) (W43.by 25 (by decide)) (fun F44 q45 => ?_)
    obtain ⟨h46, u46⟩ := q45
    obtain ⟨W46, P46⟩ := W43.setBo (i := 25) (bs := []) (by decide) h46 u46
    have O46 := O43.tr P46
    obtain ⟨B46, eB46, hB46, yB46⟩ := uz_ab B21 25 ([])
    rw [eB46] at W46
    have nB46 : ∀ z, z ≠ 25 → B46 z = B21 z := fun z hz => hB46 z (fun e => hz (List.mem_singleton.mp e))
    refine jr_aload_n hE dX4_open_155 0 rfl ?_
    refine jr_get hE dX4_open_156 f66 W46.o7 rfl ?_
    refine jr_get hE dX4_open_159 f168 (W46.pt 19 (by decide) (by decide)).1 rfl ?_
    refine jr_aload_n hE dX4_open_162 0 rfl ?_
    refine jr_get hE dX4_open_163 f41 W46.o7 rfl ?_
    obtain ⟨hx47, hy47, hz47⟩ := hr37.xy (fin_ne R1)
    have hX47 : (P37 19).2.1 = exE (finE R1) := by rw [hx47]
    have hY47 : (P37 19).2.2.1 = eyN (finE R1) := by rw [hx47]
    refine jr_kVv (ci := 1) (n := 1) (As := [.ref (c (270 + 2 * 25))]) (rest := []) hE dX4_open_166 (fun l => c_X1_addTo l G (c (41 + 4 * 19)) (c (270 + 2 * 25)) (c (271 + 2 * 25)) (bcap 25) (P37 19).2.1 ([])) gX4_open_X1_addTo rfl ((W46.pt 19 (by decide) (by decide)).2.1.cell.choose_spec) rfl (by decide +kernel) ⟨rfl, rfl, by decide, by decide⟩ (by decide) rfl rfl (Nat.le_of_ble_eq_true rfl) (⟨(W46.pt 19 (by decide) (by decide)).2.1, (by have q := W46.by 25 (by decide); rw [show B46 25 = [] from yB46] at q; exact q), by decide, cnd W46.1 [41 + 4 * 19, 270 + 2 * 25, 271 + 2 * 25] (by decide) (by decide)⟩) (fun F48 q49 => ?_)
    rw [show bex (P37 19).2.1 32 = bex (exE (finE R1)) 32 from by rw [hX47]] at q49
    rw [List.nil_append] at q49
    obtain ⟨W50, P50⟩ := W46.xaddP (i := 19) (k := 25) (by decide) (by decide) (by decide) (by rw [hX47]; exact hy47) q49
    have O50 := O46.tr P50
    obtain ⟨B50, eB50, hB50, yB50⟩ := uz_ab B46 25 (bex (exE (finE R1)) 32)
    rw [eB50] at W50
    have nB50 : ∀ z, z ≠ 25 → B50 z = B46 z := fun z hz => hB50 z (fun e => hz (List.mem_singleton.mp e))
    refine jr_aload_n hE dX4_open_169 0 rfl ?_
    refine jr_get hE dX4_open_170 f83 W50.o7 rfl ?_
    refine jr_aload_n hE dX4_open_173 0 rfl ?_
    refine jr_get hE dX4_open_174 f51 W50.o7 rfl ?_
    refine jr_aload_n hE dX4_open_177 0 rfl ?_
    refine jr_get hE dX4_open_178 f41 W50.o7 rfl ?_
    refine jr_aload_n hE dX4_open_181 0 rfl ?_
    refine jr_get hE dX4_open_182 f22 W50.o7 rfl ?_
    refine jr_iconst (v := (0 : Int32)) hE dX4_open_185 (by decide) ?_
    refine jr_aload_n hE dX4_open_186 1 rfl ?_
    have hB51 : B50 21 = (bex jx 32) := ((nB50 21 (by decide)).trans ((nB46 21 (by decide)).trans (nB21 21 (by decide)))).trans hB11
    have hB52 : B50 k = (B k) := ((nB50 k (by omega)).trans ((nB46 k (by omega)).trans (nB21 k (by omega)))).trans hB15
    refine jr_kVv (ci := 10) (n := 5) (As := [.ref (c (210 + 2 * 6)), .ref (c (270 + 2 * 25)), .ref (c (270 + 2 * 21)), .int (0 : Int32), .ref (c (270 + 2 * k))]) (rest := []) hE dX4_open_187 (fun l => c_s_challenge l G c B50 S24 P37 q21 X v43 6 25 21 0 k) gX4_open_X10_challenge rfl W50.o6 rfl (by decide +kernel) ⟨rfl, rfl, by decide, by decide⟩ (by decide) rfl rfl (Nat.le_of_ble_eq_true rfl) (⟨W50, by decide, by decide, by decide, by omega, by decide, by decide, by omega, by decide, by decide, by omega, (by rw [yB50, bex_len]; exact Nat.le_refl _), (by rw [hB51, bex_len]; decide), (by rw [show B50 k = B k from hB52]; omega)⟩) (fun F53 q54 => ?_)
    obtain ⟨B55, S55, q55, W55, hB55, hS55, f55_0, P55⟩ := q54
    have O55 := O50.tr P55
    refine jr_aload_n hE dX4_open_190 0 rfl ?_
    refine jr_iconst (v := (1 : Int32)) hE dX4_open_191 (by decide) ?_
    refine jr_put (ty := .boolean) hE dX4_open_192 f13 W55.o7 rfl (by decide +kernel) rfl rfl (Nat.le_of_ble_eq_true rfl) (fun F56 h56 u56 => ?_)
    obtain ⟨W56, P56⟩ := W55.setV7 (v1 := (uz v43 3 (1 : Int32))) h56 (fun z hz => uz_n _ _ (jne hz 1 rfl)) u56
    have O56 := O55.tr P56
    obtain ⟨v56, ev56, hv56, yv56⟩ := uz_ab v43 3 (1 : Int32)
    rw [ev56] at W56
    have nv56 : ∀ z, z ≠ 3 → v56 z = v43 z := fun z hz => hv56 z (fun e => hz (List.mem_singleton.mp e))
    have hv57 : v56 5 = (b2i (eyN (finE R1) % 2 = 1)) := (nv56 5 (by decide)).trans yv43
    have hRF : (finE (eadd PP (emul PP (bnum (sha (sha (tgb 7) ++ sha (tgb 7) ++ (pbE (tSs Td 0 sz) ++ pbE (tSs Td 1 sz)) ++ bex jx 32 ++ B k)) % NN) (tSs Td 1 sz)) (tSs Td 0 sz))) = finE R1 := by rw [eR1, ← eBB]; rw [eadd_c (onE_mul gdP hon1 _) hon0]
    have hs6 : S55 6 = (chS (exE (finE R1)) jx (B k)) := (by have q := f55_0; rw [yB50, hB51, show B50 k = B k from hB52, List.drop_zero, List.drop_zero, List.take_of_length_le (by rw [bex_len]; exact Nat.le_refl _), List.take_of_length_le (by rw [bex_len]; exact Nat.le_refl _)] at q; exact q)
    have hB58 : B55 24 = (pbE (tSs Td 0 sz) ++ pbE (tSs Td 1 sz)) := ((hB55 24 (by decide)).trans ((nB50 24 (by decide)).trans ((nB46 24 (by decide)).trans (nB21 24 (by decide))))).trans hB7
    have hS59 : S55 5 = BB := (hS55 5 (by decide)).trans yS24
    have hB60 : B55 25 = (bex (exE (finE R1)) 32) := (hB55 25 (by decide)).trans yB50
    exact hR F56 _ _ dX4_open_195 ⟨_, _, _, _, _, W56, (fun z hz => ((hB55 z (jnsub (V := [17, 19]) hz [0, 1] rfl)).trans ((nB50 z (jne hz 4 rfl)).trans ((nB46 z (jne hz 4 rfl)).trans ((nB21 z (jne hz 2 rfl)).trans ((nB6 z (jne hz 0 rfl)).trans (hB3 z (jnsub (V := [24]) hz [3] rfl)))))))), (fun z hz => ((hS55 z (jnsub (V := [6]) hz [1] rfl)).trans (nS24 z (jne hz 0 rfl)))), (fun z hz => ((nP37 z (jne hz 0 rfl)).trans ((nP32 z (jne hz 0 rfl)).trans ((nP28 z (jne hz 1 rfl)).trans (hPf3 z (jnsub (V := [19, 20]) hz [0, 1] rfl)))))), (fun z hz => ((nv56 z (jne hz 0 rfl)).trans (nv43 z (jne hz 1 rfl)))), hB58, hS59.trans eBB, hB60.trans (by rw [hRF]), hs6.trans (by rw [hRF]), hv57.trans (by rw [hRF]; exact bi_b2i _), yv56, O56⟩
  · refine jr_aload_n hE dX4_open_109 0 rfl ?_
    refine jr_get hE dX4_open_110 f66 W32.o7 rfl ?_
    refine jr_aload_n hE dX4_open_113 0 rfl ?_
    refine jr_get hE dX4_open_114 f93 W32.o7 rfl ?_
    refine jr_get hE dX4_open_117 f233 W32.cv rfl ?_
    refine jr_kVv (ci := 6) (n := 1) (As := [.ref (c (40 + 4 * 16))]) (rest := []) hE dX4_open_120 (fun l => c_X6_become l G (c (40 + 4 * 19)) (c (41 + 4 * 19)) (c (42 + 4 * 19)) (c (43 + 4 * 19)) (c (40 + 4 * 16)) (c (41 + 4 * 16)) (c (42 + 4 * 16)) (c (43 + 4 * 16)) (P32 19) (P32 16)) gX4_open_X6_become rfl ((W32.pt 19 (by decide) (by decide)).1) rfl (by decide +kernel) ⟨rfl, rfl, by decide, by decide⟩ (by decide) rfl rfl (Nat.le_of_ble_eq_true rfl) (⟨W32.pt 19 (by decide) (by decide), W32.pt 16 (by decide) (by decide), cnd W32.1 [40 + 4 * 19, 41 + 4 * 19, 42 + 4 * 19, 43 + 4 * 19, 40 + 4 * 16, 41 + 4 * 16, 42 + 4 * 16, 43 + 4 * 16] (by decide) (by decide)⟩) (fun F61 q62 => ?_)
    obtain ⟨h63, u63⟩ := q62
    obtain ⟨W63, P63⟩ := W32.setPx (i := 19) (by decide) (by decide) h63 u63
    have hp64 : rep (P32 16) GE := by rw [show P32 16 = P 16 from ((nP32 16 (by decide)).trans ((nP28 16 (by decide)).trans (hPf3 16 (by decide))))]; exact hG
    have O63 := O32.tr P63
    obtain ⟨P63, eP63, hP63, yP63⟩ := uz_ab P32 19 (P32 16)
    rw [eP63] at W63
    have nP63 : ∀ z, z ≠ 19 → P63 z = P32 z := fun z hz => hP63 z (fun e => hz (List.mem_singleton.mp e))
    have hr63 : rep (P63 19) GE := by rw [yP63]; exact hp64
    have hF65 : rep (P63 19) (finE R1) := by rw [show finE R1 = GE from if_pos (b2i_1 c106)]; exact hr63
    refine jr_aload_n hE dX4_open_123 0 rfl ?_
    refine jr_get hE dX4_open_124 f93 W63.o7 rfl ?_
    refine jr_aload_n hE dX4_open_127 0 rfl ?_
    refine jr_get hE dX4_open_128 f66 W63.o7 rfl ?_
    refine jr_kVv (ci := 2) (n := 1) (As := [.ref (c (40 + 4 * 19))]) (rest := []) hE dX4_open_131 (fun l => c_X2_settle l G (c 9) (c (40 + 4 * 16)) (c 11) (c 10) (c 12) (c 13) (c 14) (c 15) (c 16) (c 17) (c 18) (c 19) (c 20) (c 21) (c 22) (c 23) (c (40 + 4 * 19)) (c (41 + 4 * 19)) (c (42 + 4 * 19)) (c (43 + 4 * 19)) (P63 19)) gX4_open_X2_settle rfl W63.cv rfl (by decide +kernel) ⟨rfl, rfl, by decide, by decide⟩ (by decide) rfl rfl (Nat.le_of_ble_eq_true rfl) (W63.settlePre 19 (by decide) (by decide)) (fun F66 q67 => ?_)
    obtain ⟨g68, gp68, go68, h68, u68⟩ := q67
    obtain ⟨W68, P68⟩ := W63.settle (i := 19) (by decide) (by decide) g68 gp68 go68 h68 u68
    have O68 := O63.tr P68
    obtain ⟨P68, eP68, hP68, yP68⟩ := uz_ab P63 19 (stJ (P63 19))
    rw [eP68] at W68
    have nP68 : ∀ z, z ≠ 19 → P68 z = P63 z := fun z hz => hP68 z (fun e => hz (List.mem_singleton.mp e))
    have hr68 : stl (P68 19) (finE R1) := by rw [yP68]; exact rep_stl hF65
    refine jr_aload_n hE dX4_open_134 0 rfl ?_
    refine jr_aload_n hE dX4_open_135 0 rfl ?_
    refine jr_get hE dX4_open_136 f66 W68.o7 rfl ?_
    refine jr_get hE dX4_open_139 f156 (W68.pt 19 (by decide) (by decide)).1 rfl ?_
    obtain ⟨hx69, hy69, hz69⟩ := hr68.xy (fin_ne R1)
    have hX69 : (P68 19).2.1 = exE (finE R1) := by rw [hx69]
    have hY69 : (P68 19).2.2.1 = eyN (finE R1) := by rw [hx69]
    refine jr_kVi (ci := 1) (n := 0) (As := []) (rest := [.ref (c 7)]) hE dX4_open_142 (fun l => c_X1_isOdd l G (c (42 + 4 * 19)) (P68 19).2.2.1) gX4_open_X1_isOdd rfl ((W68.pt 19 (by decide) (by decide)).2.2.1.cell.choose_spec) rfl (by decide +kernel) ⟨rfl, rfl, by decide, by decide⟩ (by decide) rfl rfl (Nat.le_of_ble_eq_true rfl) ((W68.pt 19 (by decide) (by decide)).2.2.1) (fun r72 F70 q71 => ?_)
    obtain ⟨h73, u73, r72e⟩ := q71
    rw [hY69] at r72e
    subst r72e
    obtain ⟨W73, P73⟩ := W68.oddP (i := 19) (by decide) (by decide) (by rw [hY69]; exact hz69) h73 u73
    have O73 := O68.tr P73
    refine jr_put (ty := .boolean) hE dX4_open_145 f76 W73.o7 rfl (by decide +kernel) (b2i_z _) (b2i_fit _) (Nat.le_of_ble_eq_true rfl) (fun F74 h74 u74 => ?_)
    obtain ⟨W74, P74⟩ := W73.setV7 (v1 := (uz v 5 (b2i (eyN (finE R1) % 2 = 1)))) h74 (fun z hz => uz_n _ _ (jne hz 3 rfl)) u74
    have O74 := O73.tr P74
    obtain ⟨v74, ev74, hv74, yv74⟩ := uz_ab v 5 (b2i (eyN (finE R1) % 2 = 1))
    rw [ev74] at W74
    have nv74 : ∀ z, z ≠ 5 → v74 z = v z := fun z hz => hv74 z (fun e => hz (List.mem_singleton.mp e))
    refine jr_aload_n hE dX4_open_148 0 rfl ?_
    refine jr_get hE dX4_open_149 f41 W74.o7 rfl ?_
    refine jr_kVv (ci := 0) (n := 0) (As := []) (rest := []) hE dX4_open_152 (fun l => c_X0_empty l G (c (270 + 2 * 25)) (c (271 + 2 * 25)) (bcap 25) (B21 25)) gX4_open_X0_empty rfl ((W74.by 25 (by decide)).ob) rfl (by decide +kernel) ⟨rfl, rfl, by decide, by decide⟩ (by decide) rfl rfl (Nat.le_of_ble_eq_true rfl) (W74.by 25 (by decide)) (fun F75 q76 => ?_)
    obtain ⟨h77, u77⟩ := q76
    obtain ⟨W77, P77⟩ := W74.setBo (i := 25) (bs := []) (by decide) h77 u77
    have O77 := O74.tr P77
    obtain ⟨B77, eB77, hB77, yB77⟩ := uz_ab B21 25 ([])
    rw [eB77] at W77
    have nB77 : ∀ z, z ≠ 25 → B77 z = B21 z := fun z hz => hB77 z (fun e => hz (List.mem_singleton.mp e))
    refine jr_aload_n hE dX4_open_155 0 rfl ?_
    refine jr_get hE dX4_open_156 f66 W77.o7 rfl ?_
    refine jr_get hE dX4_open_159 f168 (W77.pt 19 (by decide) (by decide)).1 rfl ?_
    refine jr_aload_n hE dX4_open_162 0 rfl ?_
    refine jr_get hE dX4_open_163 f41 W77.o7 rfl ?_
    obtain ⟨hx78, hy78, hz78⟩ := hr68.xy (fin_ne R1)
    have hX78 : (P68 19).2.1 = exE (finE R1) := by rw [hx78]
    have hY78 : (P68 19).2.2.1 = eyN (finE R1) := by rw [hx78]
    refine jr_kVv (ci := 1) (n := 1) (As := [.ref (c (270 + 2 * 25))]) (rest := []) hE dX4_open_166 (fun l => c_X1_addTo l G (c (41 + 4 * 19)) (c (270 + 2 * 25)) (c (271 + 2 * 25)) (bcap 25) (P68 19).2.1 ([])) gX4_open_X1_addTo rfl ((W77.pt 19 (by decide) (by decide)).2.1.cell.choose_spec) rfl (by decide +kernel) ⟨rfl, rfl, by decide, by decide⟩ (by decide) rfl rfl (Nat.le_of_ble_eq_true rfl) (⟨(W77.pt 19 (by decide) (by decide)).2.1, (by have q := W77.by 25 (by decide); rw [show B77 25 = [] from yB77] at q; exact q), by decide, cnd W77.1 [41 + 4 * 19, 270 + 2 * 25, 271 + 2 * 25] (by decide) (by decide)⟩) (fun F79 q80 => ?_)
    rw [show bex (P68 19).2.1 32 = bex (exE (finE R1)) 32 from by rw [hX78]] at q80
    rw [List.nil_append] at q80
    obtain ⟨W81, P81⟩ := W77.xaddP (i := 19) (k := 25) (by decide) (by decide) (by decide) (by rw [hX78]; exact hy78) q80
    have O81 := O77.tr P81
    obtain ⟨B81, eB81, hB81, yB81⟩ := uz_ab B77 25 (bex (exE (finE R1)) 32)
    rw [eB81] at W81
    have nB81 : ∀ z, z ≠ 25 → B81 z = B77 z := fun z hz => hB81 z (fun e => hz (List.mem_singleton.mp e))
    refine jr_aload_n hE dX4_open_169 0 rfl ?_
    refine jr_get hE dX4_open_170 f83 W81.o7 rfl ?_
    refine jr_aload_n hE dX4_open_173 0 rfl ?_
    refine jr_get hE dX4_open_174 f51 W81.o7 rfl ?_
    refine jr_aload_n hE dX4_open_177 0 rfl ?_
    refine jr_get hE dX4_open_178 f41 W81.o7 rfl ?_
    refine jr_aload_n hE dX4_open_181 0 rfl ?_
    refine jr_get hE dX4_open_182 f22 W81.o7 rfl ?_
    refine jr_iconst (v := (0 : Int32)) hE dX4_open_185 (by decide) ?_
    refine jr_aload_n hE dX4_open_186 1 rfl ?_
    have hB82 : B81 21 = (bex jx 32) := ((nB81 21 (by decide)).trans ((nB77 21 (by decide)).trans (nB21 21 (by decide)))).trans hB11
    have hB83 : B81 k = (B k) := ((nB81 k (by omega)).trans ((nB77 k (by omega)).trans (nB21 k (by omega)))).trans hB15
    refine jr_kVv (ci := 10) (n := 5) (As := [.ref (c (210 + 2 * 6)), .ref (c (270 + 2 * 25)), .ref (c (270 + 2 * 21)), .int (0 : Int32), .ref (c (270 + 2 * k))]) (rest := []) hE dX4_open_187 (fun l => c_s_challenge l G c B81 S24 P68 q21 X v74 6 25 21 0 k) gX4_open_X10_challenge rfl W81.o6 rfl (by decide +kernel) ⟨rfl, rfl, by decide, by decide⟩ (by decide) rfl rfl (Nat.le_of_ble_eq_true rfl) (⟨W81, by decide, by decide, by decide, by omega, by decide, by decide, by omega, by decide, by decide, by omega, (by rw [yB81, bex_len]; exact Nat.le_refl _), (by rw [hB82, bex_len]; decide), (by rw [show B81 k = B k from hB83]; omega)⟩) (fun F84 q85 => ?_)
    obtain ⟨B86, S86, q86, W86, hB86, hS86, f86_0, P86⟩ := q85
    have O86 := O81.tr P86
    refine jr_aload_n hE dX4_open_190 0 rfl ?_
    refine jr_iconst (v := (1 : Int32)) hE dX4_open_191 (by decide) ?_
    refine jr_put (ty := .boolean) hE dX4_open_192 f13 W86.o7 rfl (by decide +kernel) rfl rfl (Nat.le_of_ble_eq_true rfl) (fun F87 h87 u87 => ?_)
    obtain ⟨W87, P87⟩ := W86.setV7 (v1 := (uz v74 3 (1 : Int32))) h87 (fun z hz => uz_n _ _ (jne hz 1 rfl)) u87
    have O87 := O86.tr P87
    obtain ⟨v87, ev87, hv87, yv87⟩ := uz_ab v74 3 (1 : Int32)
    rw [ev87] at W87
    have nv87 : ∀ z, z ≠ 3 → v87 z = v74 z := fun z hz => hv87 z (fun e => hz (List.mem_singleton.mp e))
    have hv88 : v87 5 = (b2i (eyN (finE R1) % 2 = 1)) := (nv87 5 (by decide)).trans yv74
    have hRF : (finE (eadd PP (emul PP (bnum (sha (sha (tgb 7) ++ sha (tgb 7) ++ (pbE (tSs Td 0 sz) ++ pbE (tSs Td 1 sz)) ++ bex jx 32 ++ B k)) % NN) (tSs Td 1 sz)) (tSs Td 0 sz))) = finE R1 := by rw [eR1, ← eBB]; rw [eadd_c (onE_mul gdP hon1 _) hon0]
    have hs6 : S86 6 = (chS (exE (finE R1)) jx (B k)) := (by have q := f86_0; rw [yB81, hB82, show B81 k = B k from hB83, List.drop_zero, List.drop_zero, List.take_of_length_le (by rw [bex_len]; exact Nat.le_refl _), List.take_of_length_le (by rw [bex_len]; exact Nat.le_refl _)] at q; exact q)
    have hB89 : B86 24 = (pbE (tSs Td 0 sz) ++ pbE (tSs Td 1 sz)) := ((hB86 24 (by decide)).trans ((nB81 24 (by decide)).trans ((nB77 24 (by decide)).trans (nB21 24 (by decide))))).trans hB7
    have hS90 : S86 5 = BB := (hS86 5 (by decide)).trans yS24
    have hB91 : B86 25 = (bex (exE (finE R1)) 32) := (hB86 25 (by decide)).trans yB81
    exact hR F87 _ _ dX4_open_195 ⟨_, _, _, _, _, W87, (fun z hz => ((hB86 z (jnsub (V := [17, 19]) hz [0, 1] rfl)).trans ((nB81 z (jne hz 4 rfl)).trans ((nB77 z (jne hz 4 rfl)).trans ((nB21 z (jne hz 2 rfl)).trans ((nB6 z (jne hz 0 rfl)).trans (hB3 z (jnsub (V := [24]) hz [3] rfl)))))))), (fun z hz => ((hS86 z (jnsub (V := [6]) hz [1] rfl)).trans (nS24 z (jne hz 0 rfl)))), (fun z hz => ((nP68 z (jne hz 0 rfl)).trans ((nP63 z (jne hz 0 rfl)).trans ((nP32 z (jne hz 0 rfl)).trans ((nP28 z (jne hz 1 rfl)).trans (hPf3 z (jnsub (V := [19, 20]) hz [0, 1] rfl))))))), (fun z hz => ((nv87 z (jne hz 0 rfl)).trans (nv74 z (jne hz 1 rfl)))), hB89, hS90.trans eBB, hB91.trans (by rw [hRF]), hs6.trans (by rw [hRF]), hv88.trans (by rw [hRF]; exact bi_b2i _), yv87, O87⟩

set_option maxHeartbeats 4000000 in
set_option maxRecDepth 100000 in
theorem c_g_drawHalf (l : Launch) (G : Nat → ClassId) (c : Nat → Nat) (B : Nat → List Nat) (S : Nat → Nat) (P : Nat → JP) (q : SS) (X : Nat) (v : Nat → Int32) (t wh k jx : Nat) (A D : List Nat) : jKv l yX4_drawHalf wsX4_drawHalf ({ frames := 5, cells := 0, slots := 0, locals := 108 }) G [.ref (c 7), .ref (c (210 + 2 * t)), .int (nI wh), .ref (c (270 + 2 * k))] (fun L F => CW G L F c B S P q X v ∧ t < 30 ∧ wh < 2 ∧ k < 16 ∧ (B k).length ≤ 40 ∧ B 19 = A ∧ A.length = 32 ∧ B 18 = D ∧ D.length = 33 ∧ B 21 = bex jx 32) (fun L F F1 => ∃ B' S' q', CW G L F1 c B' S' P q' X v ∧ (∀ i, i ∉ [17, 22] → B' i = B i) ∧ (∀ i, i ∉ [t] → S' i = S i) ∧ S' t = noK A D jx (B k) wh ∧ cO c F F1) := by
  refine jm_kv (cc := cX4_drawHalf) (maxL := 5) (by decide) rfl (Nat.le_of_ble_eq_true rfl) ?_
  intro E L F hE hR hpre
  have hE : jOk E G _ cX4_drawHalf 5 RX4 wsX4_drawHalf := hE
  obtain ⟨W0, ht, hh, hk, hlk, hA, hlA, hD0, hlD, hjx⟩ := hpre
  have f79 : jFl RX4 wsX4_drawHalf 79 4 3 := ⟨rfl, by decide, by decide +kernel, by decide +kernel⟩
  have f83 : jFl RX4 wsX4_drawHalf 83 4 4 := ⟨rfl, by decide, by decide +kernel, by decide +kernel⟩
  have f223 : jFl RX4 wsX4_drawHalf 223 10 3 := ⟨rfl, by decide, by decide +kernel, by decide +kernel⟩
  have f200 : jFl RX4 wsX4_drawHalf 200 10 2 := ⟨rfl, by decide, by decide +kernel, by decide +kernel⟩
  have f22 : jFl RX4 wsX4_drawHalf 22 4 2 := ⟨rfl, by decide, by decide +kernel, by decide +kernel⟩
  have f95 : jFl RX4 wsX4_drawHalf 95 0 1 := ⟨rfl, by decide, by decide +kernel, by decide +kernel⟩
  have f32 : jFl RX4 wsX4_drawHalf 32 4 7 := ⟨rfl, by decide, by decide +kernel, by decide +kernel⟩
  refine jr_aload_n hE dX4_drawHalf_0 0 rfl ?_
  refine jr_get hE dX4_drawHalf_1 f79 W0.o7 rfl ?_
  refine jr_bipush (v := (6 : Int32)) hE dX4_drawHalf_4 (by decide) ?_
  refine jr_kVv (ci := 9) (n := 1) (As := [.int (6 : Int32)]) (rest := []) hE dX4_drawHalf_6 (fun l => c_X9_beginT l G (c 3) (c 4) (c 5) (c (270 + 2 * 17)) (c (271 + 2 * 17)) (bcap 17) 6 q (B 17)) gX4_drawHalf_X9_beginBy rfl W0.sh.1 rfl (by decide +kernel) ⟨rfl, rfl, by decide, by decide⟩ (by decide) rfl rfl (Nat.le_of_ble_eq_true rfl) (W0.beginTpre (i := 6) (by decide)) (fun F1 q2 => ?_)
  obtain ⟨q3, W3, D3, P3⟩ := W0.beginT (i := 6) (by decide) q2
  have O3 := (cO.rf c F).tr P3
  obtain ⟨B3, eB3, hB3, yB3⟩ := uz_ab B 17 (sha (tgb 6))
  rw [eB3] at W3
  have nB3 : ∀ z, z ≠ 17 → B3 z = B z := fun z hz => hB3 z (fun e => hz (List.mem_singleton.mp e))
  have T3 : ∀ b, b ∈ (sha (tgb 6) ++ sha (tgb 6)) → b < 256 := app_lt (sha_lt _) (sha_lt _)
  refine jr_aload_n hE dX4_drawHalf_9 0 rfl ?_
  refine jr_get hE dX4_drawHalf_10 f79 W3.o7 rfl ?_
  refine jr_aload_n hE dX4_drawHalf_13 0 rfl ?_
  refine jr_get hE dX4_drawHalf_14 f83 W3.o7 rfl ?_
  refine jr_get hE dX4_drawHalf_17 f223 W3.o6 rfl ?_
  have hB4 : B3 19 = A := (nB3 19 (by decide)).trans hA
  refine jr_kVv (ci := 9) (n := 1) (As := [.ref (c (270 + 2 * 19))]) (rest := []) hE dX4_drawHalf_20 (fun l => c_X9_takeAll l G (c 3) (c 4) (c 5) (c (270 + 2 * 17)) (c (270 + 2 * 19)) (c (271 + 2 * 19)) (bcap 19) q3 A) gX4_drawHalf_X9_takeAll rfl W3.sh.1 rfl (by decide +kernel) ⟨rfl, rfl, by decide, by decide⟩ (by decide) rfl rfl (Nat.le_of_ble_eq_true rfl) (⟨W3.sh, (by have q := W3.by 19 (by decide); rw [show B3 19 = A from hB4] at q; exact q), (W3.shB 19 (by decide) trivial D3 (by simp only [List.length_append, List.length_cons, List.length_nil, List.length_take, List.length_drop, sha_len, bex_len, pbE_len, xorL_len, List.length_replicate]; omega)).2.2.1, (W3.shB 19 (by decide) trivial D3 (by simp only [List.length_append, List.length_cons, List.length_nil, List.length_take, List.length_drop, sha_len, bex_len, pbE_len, xorL_len, List.length_replicate]; omega)).2.2.2⟩) (fun F5 q6 => ?_)
  have Dq6 := W3.takeA D3 q6
  obtain ⟨q7, W7, D7, P7⟩ := Dq6
  have O7 := O3.tr P7
  have T7 : ∀ b, b ∈ (sha (tgb 6) ++ sha (tgb 6) ++ A) → b < 256 := app_lt T3 (by have q := W3.bB 19 (by decide); rw [show B3 19 = A from hB4] at q; exact q)
  refine jr_aload_n hE dX4_drawHalf_23 0 rfl ?_
  refine jr_get hE dX4_drawHalf_24 f79 W7.o7 rfl ?_
  refine jr_bipush (v := (33 : Int32)) hE dX4_drawHalf_27 (by decide) ?_
  refine jr_kVv (ci := 9) (n := 1) (As := [.int (33 : Int32)]) (rest := []) hE dX4_drawHalf_29 (fun l => c_X9_take l G (c 3) (c 4) (c 5) (c (270 + 2 * 17)) q7 (33 : Int32)) gX4_drawHalf_X9_take rfl W7.sh.1 rfl (by decide +kernel) ⟨rfl, rfl, by decide, by decide⟩ (by decide) rfl rfl (Nat.le_of_ble_eq_true rfl) (⟨W7.sh, by rw [D7.n]; exact Nat.lt_trans (by simp only [List.length_append, List.length_cons, List.length_nil, List.length_take, List.length_drop, sha_len, bex_len, pbE_len, xorL_len, List.length_replicate]; omega : _ < 1000) (by decide), cnd W7.1 [3, 4, 5] (by decide) (by decide)⟩) (fun F8 q9 => ?_)
  obtain ⟨q10, W10, D10, P10⟩ := W7.takeO (b := 33) (by decide) D7 q9
  have O10 := O7.tr P10
  have T10 : ∀ b, b ∈ (sha (tgb 6) ++ sha (tgb 6) ++ A ++ [33]) → b < 256 := app_lt T7 (fun z hz => by rw [List.mem_singleton.mp hz]; exact (by decide))
  refine jr_aload_n hE dX4_drawHalf_32 0 rfl ?_
  refine jr_get hE dX4_drawHalf_33 f79 W10.o7 rfl ?_
  refine jr_aload_n hE dX4_drawHalf_36 0 rfl ?_
  refine jr_get hE dX4_drawHalf_37 f83 W10.o7 rfl ?_
  refine jr_get hE dX4_drawHalf_40 f200 W10.o6 rfl ?_
  have hB11 : B3 18 = D := (nB3 18 (by decide)).trans hD0
  refine jr_kVv (ci := 9) (n := 1) (As := [.ref (c (270 + 2 * 18))]) (rest := []) hE dX4_drawHalf_43 (fun l => c_X9_takeAll l G (c 3) (c 4) (c 5) (c (270 + 2 * 17)) (c (270 + 2 * 18)) (c (271 + 2 * 18)) (bcap 18) q10 D) gX4_drawHalf_X9_takeAll rfl W10.sh.1 rfl (by decide +kernel) ⟨rfl, rfl, by decide, by decide⟩ (by decide) rfl rfl (Nat.le_of_ble_eq_true rfl) (⟨W10.sh, (by have q := W10.by 18 (by decide); rw [show B3 18 = D from hB11] at q; exact q), (W10.shB 18 (by decide) trivial D10 (by simp only [List.length_append, List.length_cons, List.length_nil, List.length_take, List.length_drop, sha_len, bex_len, pbE_len, xorL_len, List.length_replicate]; omega)).2.2.1, (W10.shB 18 (by decide) trivial D10 (by simp only [List.length_append, List.length_cons, List.length_nil, List.length_take, List.length_drop, sha_len, bex_len, pbE_len, xorL_len, List.length_replicate]; omega)).2.2.2⟩) (fun F12 q13 => ?_)
  have Dq13 := W10.takeA D10 q13
  obtain ⟨q14, W14, D14, P14⟩ := Dq13
  have O14 := O10.tr P14
  have T14 : ∀ b, b ∈ (sha (tgb 6) ++ sha (tgb 6) ++ A ++ [33] ++ D) → b < 256 := app_lt T10 (by have q := W10.bB 18 (by decide); rw [show B3 18 = D from hB11] at q; exact q)
  refine jr_aload_n hE dX4_drawHalf_46 0 rfl ?_
  refine jr_get hE dX4_drawHalf_47 f79 W14.o7 rfl ?_
  refine jr_bipush (v := (32 : Int32)) hE dX4_drawHalf_50 (by decide) ?_
  refine jr_kVv (ci := 9) (n := 1) (As := [.int (32 : Int32)]) (rest := []) hE dX4_drawHalf_52 (fun l => c_X9_take l G (c 3) (c 4) (c 5) (c (270 + 2 * 17)) q14 (32 : Int32)) gX4_drawHalf_X9_take rfl W14.sh.1 rfl (by decide +kernel) ⟨rfl, rfl, by decide, by decide⟩ (by decide) rfl rfl (Nat.le_of_ble_eq_true rfl) (⟨W14.sh, by rw [D14.n]; exact Nat.lt_trans (by simp only [List.length_append, List.length_cons, List.length_nil, List.length_take, List.length_drop, sha_len, bex_len, pbE_len, xorL_len, List.length_replicate]; omega : _ < 1000) (by decide), cnd W14.1 [3, 4, 5] (by decide) (by decide)⟩) (fun F15 q16 => ?_)
  obtain ⟨q17, W17, D17, P17⟩ := W14.takeO (b := 32) (by decide) D14 q16
  have O17 := O14.tr P17
  have T17 : ∀ b, b ∈ (sha (tgb 6) ++ sha (tgb 6) ++ A ++ [33] ++ D ++ [32]) → b < 256 := app_lt T14 (fun z hz => by rw [List.mem_singleton.mp hz]; exact (by decide))
  refine jr_aload_n hE dX4_drawHalf_55 0 rfl ?_
  refine jr_get hE dX4_drawHalf_56 f79 W17.o7 rfl ?_
  refine jr_aload_n hE dX4_drawHalf_59 0 rfl ?_
  refine jr_get hE dX4_drawHalf_60 f22 W17.o7 rfl ?_
  have hB18 : B3 21 = (bex jx 32) := (nB3 21 (by decide)).trans hjx
  refine jr_kVv (ci := 9) (n := 1) (As := [.ref (c (270 + 2 * 21))]) (rest := []) hE dX4_drawHalf_63 (fun l => c_X9_takeAll l G (c 3) (c 4) (c 5) (c (270 + 2 * 17)) (c (270 + 2 * 21)) (c (271 + 2 * 21)) (bcap 21) q17 (bex jx 32)) gX4_drawHalf_X9_takeAll rfl W17.sh.1 rfl (by decide +kernel) ⟨rfl, rfl, by decide, by decide⟩ (by decide) rfl rfl (Nat.le_of_ble_eq_true rfl) (⟨W17.sh, (by have q := W17.by 21 (by decide); rw [show B3 21 = (bex jx 32) from hB18] at q; exact q), (W17.shB 21 (by decide) trivial D17 (by simp only [List.length_append, List.length_cons, List.length_nil, List.length_take, List.length_drop, sha_len, bex_len, pbE_len, xorL_len, List.length_replicate]; omega)).2.2.1, (W17.shB 21 (by decide) trivial D17 (by simp only [List.length_append, List.length_cons, List.length_nil, List.length_take, List.length_drop, sha_len, bex_len, pbE_len, xorL_len, List.length_replicate]; omega)).2.2.2⟩) (fun F19 q20 => ?_)
  have Dq20 := W17.takeA D17 q20
  obtain ⟨q21, W21, D21, P21⟩ := Dq20
  have O21 := O17.tr P21
  have T21 : ∀ b, b ∈ (sha (tgb 6) ++ sha (tgb 6) ++ A ++ [33] ++ D ++ [32] ++ (bex jx 32)) → b < 256 := app_lt T17 (by have q := W17.bB 21 (by decide); rw [show B3 21 = (bex jx 32) from hB18] at q; exact q)
  refine jr_aload_n hE dX4_drawHalf_66 0 rfl ?_
  refine jr_get hE dX4_drawHalf_67 f79 W21.o7 rfl ?_
  refine jr_iconst (v := (1 : Int32)) hE dX4_drawHalf_70 (by decide) ?_
  refine jr_kVv (ci := 9) (n := 1) (As := [.int (1 : Int32)]) (rest := []) hE dX4_drawHalf_71 (fun l => c_X9_take l G (c 3) (c 4) (c 5) (c (270 + 2 * 17)) q21 (1 : Int32)) gX4_drawHalf_X9_take rfl W21.sh.1 rfl (by decide +kernel) ⟨rfl, rfl, by decide, by decide⟩ (by decide) rfl rfl (Nat.le_of_ble_eq_true rfl) (⟨W21.sh, by rw [D21.n]; exact Nat.lt_trans (by simp only [List.length_append, List.length_cons, List.length_nil, List.length_take, List.length_drop, sha_len, bex_len, pbE_len, xorL_len, List.length_replicate]; omega : _ < 1000) (by decide), cnd W21.1 [3, 4, 5] (by decide) (by decide)⟩) (fun F22 q23 => ?_)
  obtain ⟨q24, W24, D24, P24⟩ := W21.takeO (b := 1) (by decide) D21 q23
  have O24 := O21.tr P24
  have T24 : ∀ b, b ∈ (sha (tgb 6) ++ sha (tgb 6) ++ A ++ [33] ++ D ++ [32] ++ (bex jx 32) ++ [1]) → b < 256 := app_lt T21 (fun z hz => by rw [List.mem_singleton.mp hz]; exact (by decide))
  refine jr_aload_n hE dX4_drawHalf_74 0 rfl ?_
  refine jr_get hE dX4_drawHalf_75 f79 W24.o7 rfl ?_
  refine jr_aload_n hE dX4_drawHalf_78 3 rfl ?_
  refine jr_get hE dX4_drawHalf_79 f95 (W24.by k (by omega)).ob rfl ?_
  have hB25 : B3 k = (B k) := (nB3 k (by omega)).trans rfl
  rw [show B3 k = (B k) from hB25]
  refine jr_i2l hE dX4_drawHalf_82 rfl ?_
  refine jr_kVv (ci := 9) (n := 1) (As := [.long ((nI (B k).length).toInt64)]) (rest := []) hE dX4_drawHalf_83 (fun l => c_X9_takeNumber l G (c 3) (c 4) (c 5) (c (270 + 2 * 17)) q24 ((nI (B k).length).toInt64)) gX4_drawHalf_X9_takeNumber rfl W24.sh.1 rfl (by decide +kernel) ⟨rfl, rfl, by decide, by decide⟩ (by decide) rfl rfl (Nat.le_of_ble_eq_true rfl) (⟨W24.sh, by rw [D24.n]; exact Nat.lt_trans (by simp only [List.length_append, List.length_cons, List.length_nil, List.length_take, List.length_drop, sha_len, bex_len, pbE_len, xorL_len, List.length_replicate]; omega : _ < 1000) (by decide), cnd W24.1 [3, 4, 5] (by decide) (by decide)⟩) (fun F26 q27 => ?_)
  rw [i2l_n (by omega), nb_small (by omega)] at q27
  have Dq27 := W24.takeA D24 q27
  rw [← List.append_assoc] at Dq27
  obtain ⟨q28, W28, D28, P28⟩ := Dq27
  have O28 := O24.tr P28
  have T28 : ∀ b, b ∈ (sha (tgb 6) ++ sha (tgb 6) ++ A ++ [33] ++ D ++ [32] ++ (bex jx 32) ++ [1] ++ List.replicate 7 0 ++ [(B k).length]) → b < 256 := app_lt (app_lt T24 (fun b hb => by rw [List.eq_of_mem_replicate hb]; decide)) (fun z hz => by rw [List.mem_singleton.mp hz]; omega)
  refine jr_aload_n hE dX4_drawHalf_86 0 rfl ?_
  refine jr_get hE dX4_drawHalf_87 f79 W28.o7 rfl ?_
  refine jr_aload_n hE dX4_drawHalf_90 3 rfl ?_
  refine jr_kVv (ci := 9) (n := 1) (As := [.ref (c (270 + 2 * k))]) (rest := []) hE dX4_drawHalf_91 (fun l => c_X9_takeAll l G (c 3) (c 4) (c 5) (c (270 + 2 * 17)) (c (270 + 2 * k)) (c (271 + 2 * k)) (bcap k) q28 (B k)) gX4_drawHalf_X9_takeAll rfl W28.sh.1 rfl (by decide +kernel) ⟨rfl, rfl, by decide, by decide⟩ (by decide) rfl rfl (Nat.le_of_ble_eq_true rfl) (⟨W28.sh, (by have q := W28.by k (by omega); rw [show B3 k = (B k) from hB25] at q; exact q), (W28.shB k (by omega) trivial D28 (by simp only [List.length_append, List.length_cons, List.length_nil, List.length_take, List.length_drop, sha_len, bex_len, pbE_len, xorL_len, List.length_replicate]; omega)).2.2.1, (W28.shB k (by omega) trivial D28 (by simp only [List.length_append, List.length_cons, List.length_nil, List.length_take, List.length_drop, sha_len, bex_len, pbE_len, xorL_len, List.length_replicate]; omega)).2.2.2⟩) (fun F29 q30 => ?_)
  have Dq30 := W28.takeA D28 q30
  obtain ⟨q31, W31, D31, P31⟩ := Dq30
  have O31 := O28.tr P31
  have T31 : ∀ b, b ∈ (sha (tgb 6) ++ sha (tgb 6) ++ A ++ [33] ++ D ++ [32] ++ (bex jx 32) ++ [1] ++ List.replicate 7 0 ++ [(B k).length] ++ (B k)) → b < 256 := app_lt T28 (by have q := W28.bB k (by omega); rw [show B3 k = (B k) from hB25] at q; exact q)
  refine jr_iconst (v := (0 : Int32)) hE dX4_drawHalf_94 (by decide) ?_
  refine jr_istore (lv' := [(4, .int (0 : Int32)), (0, .ref (c 7)), (1, .ref (c (210 + 2 * t))), (2, .int (nI wh)), (3, .ref (c (270 + 2 * k)))]) hE dX4_drawHalf_95 (by decide) rfl ?_
  have loop : ∀ (r0 i : Nat) (F4 : Nat → va_E) (q4 : SS), i + r0 = 4 → CW G L F4 c B3 S P q4 X v → dgS q4 (sha (tgb 6) ++ sha (tgb 6) ++ A ++ [33] ++ D ++ [32] ++ (bex jx 32) ++ [1] ++ List.replicate 7 0 ++ [(B k).length] ++ (B k) ++ List.replicate i 0) → (∀ b, b ∈ sha (tgb 6) ++ sha (tgb 6) ++ A ++ [33] ++ D ++ [32] ++ (bex jx 32) ++ [1] ++ List.replicate 7 0 ++ [(B k).length] ++ (B k) ++ List.replicate i 0 → b < 256) → cO c F F4 → J E L F4 0 0 97 [(4, .int (nI i)), (0, .ref (c 7)), (1, .ref (c (210 + 2 * t))), (2, .int (nI wh)), (3, .ref (c (270 + 2 * k)))] [] := by
    intro r0
    induction r0 with
    | zero =>
      intro i F4 q4 hi W4 hD hT O4
      have hiN : 4 = i := by omega
      subst hiN
      refine jr_iload hE dX4_drawHalf_97 0 rfl ?_
      refine jr_iconst (v := (4 : Int32)) hE dX4_drawHalf_99 (by decide) ?_
      refine jr_icmp_ge (tgt := 117) hE dX4_drawHalf_100 (by decide) (fun c_100 => ?_) (fun c_100 => absurd (nI_le (a := 4) (by omega) (by omega)) c_100)
      refine jr_aload_n hE dX4_drawHalf_117 1 rfl ?_
      refine jr_get hE dX4_drawHalf_118 f79 W4.o7 rfl ?_
      refine jr_iload_n hE dX4_drawHalf_121 3 rfl ?_
      refine jr_kVv (ci := 9) (n := 1) (As := [.int (nI wh)]) (rest := []) hE dX4_drawHalf_122 (fun l => c_X9_take l G (c 3) (c 4) (c 5) (c (270 + 2 * 17)) q4 (nI wh)) gX4_drawHalf_X9_take rfl W4.sh.1 rfl (by decide +kernel) ⟨rfl, rfl, by decide, by decide⟩ (by decide) rfl rfl (Nat.le_of_ble_eq_true rfl) (⟨W4.sh, by rw [hD.n]; exact Nat.lt_trans (by simp only [List.length_append, List.length_cons, List.length_nil, List.length_take, List.length_drop, sha_len, bex_len, pbE_len, xorL_len, List.length_replicate]; omega : _ < 1000) (by decide), cnd W4.1 [3, 4, 5] (by decide) (by decide)⟩) (fun F32 q33 => ?_)
      obtain ⟨q34, W34, D34, P34⟩ := W4.takeO (b := wh) (bv_s hh) hD q33
      have O34 := O4.tr P34
      have T34 : ∀ b, b ∈ (sha (tgb 6) ++ sha (tgb 6) ++ A ++ [33] ++ D ++ [32] ++ (bex jx 32) ++ [1] ++ List.replicate 7 0 ++ [(B k).length] ++ (B k) ++ List.replicate 4 0 ++ [wh]) → b < 256 := app_lt hT (fun z hz => by rw [List.mem_singleton.mp hz]; exact (by omega))
      refine jr_aload_n hE dX4_drawHalf_125 1 rfl ?_
      refine jr_get hE dX4_drawHalf_126 f79 W34.o7 rfl ?_
      refine jr_aload_n hE dX4_drawHalf_129 1 rfl ?_
      refine jr_get hE dX4_drawHalf_130 f32 W34.o7 rfl ?_
      refine jr_kVv (ci := 9) (n := 1) (As := [.ref (c (270 + 2 * 22))]) (rest := []) hE dX4_drawHalf_133 (fun l => c_X9_finish l G (c 3) (c 4) (c 5) (c (270 + 2 * 17)) (c (270 + 2 * 22)) (c (271 + 2 * 22)) (bcap 22) q34 (B3 22)) gX4_drawHalf_X9_finish rfl W34.sh.1 rfl (by decide +kernel) ⟨rfl, rfl, by decide, by decide⟩ (by decide) rfl rfl (Nat.le_of_ble_eq_true rfl) (⟨W34.sh, W34.by 22 (by decide), (W34.shB 22 (by decide) trivial D34 (by simp only [List.length_append, List.length_cons, List.length_nil, List.length_take, List.length_drop, sha_len, bex_len, pbE_len, xorL_len, List.length_replicate]; omega)).2.2.1, by decide, (W34.shB 22 (by decide) trivial D34 (by simp only [List.length_append, List.length_cons, List.length_nil, List.length_take, List.length_drop, sha_len, bex_len, pbE_len, xorL_len, List.length_replicate]; omega)).2.2.2⟩) (fun F35 q36 => ?_)
      obtain ⟨q37, W37, P37⟩ := W34.finP (i := 22) (by decide) D34 T34 (by simp only [List.length_append, List.length_cons, List.length_nil, List.length_take, List.length_drop, sha_len, bex_len, pbE_len, xorL_len, List.length_replicate]; omega) q36
      have O37 := O34.tr P37
      obtain ⟨B37, eB37, hB37, yB37⟩ := uz_ab B3 22 (sha (sha (tgb 6) ++ sha (tgb 6) ++ A ++ [33] ++ D ++ [32] ++ (bex jx 32) ++ [1] ++ List.replicate 7 0 ++ [(B k).length] ++ (B k) ++ List.replicate 4 0 ++ [wh]))
      rw [eB37] at W37
      have nB37 : ∀ z, z ≠ 22 → B37 z = B3 z := fun z hz => hB37 z (fun e => hz (List.mem_singleton.mp e))
      refine jr_aload_n hE dX4_drawHalf_136 2 rfl ?_
      refine jr_aload_n hE dX4_drawHalf_137 1 rfl ?_
      refine jr_get hE dX4_drawHalf_138 f32 W37.o7 rfl ?_
      refine jr_kVv (ci := 8) (n := 1) (As := [.ref (c (270 + 2 * 22))]) (rest := []) hE dX4_drawHalf_141 (fun l => c_X8_takeDigest l G (c (210 + 2 * t)) (c (211 + 2 * t)) (c (270 + 2 * 22)) (c (271 + 2 * 22)) (bcap 22) (S t) (sha (sha (tgb 6) ++ sha (tgb 6) ++ A ++ [33] ++ D ++ [32] ++ (bex jx 32) ++ [1] ++ List.replicate 7 0 ++ [(B k).length] ++ (B k) ++ List.replicate 4 0 ++ [wh]))) gX4_drawHalf_X8_takeDigest rfl ((W37.sc t (by omega)).ob) rfl (by decide +kernel) ⟨rfl, rfl, by decide, by decide⟩ (by decide) rfl rfl (Nat.le_of_ble_eq_true rfl) (⟨(W37.sc t (by omega)), (by have q := W37.by 22 (by decide); rw [show B37 22 = (sha (sha (tgb 6) ++ sha (tgb 6) ++ A ++ [33] ++ D ++ [32] ++ (bex jx 32) ++ [1] ++ List.replicate 7 0 ++ [(B k).length] ++ (B k) ++ List.replicate 4 0 ++ [wh])) from yB37] at q; exact q), sha_len _, cnd W37.1 [210 + 2 * t, 211 + 2 * t, 270 + 2 * 22, 271 + 2 * 22] (by simp only [List.mem_cons, List.not_mem_nil, or_false]; omega) (by simp only [List.nodup_cons, List.mem_cons, List.not_mem_nil, or_false, not_or, List.nodup_nil, not_false_eq_true, and_true]; omega)⟩) (fun F38 q39 => ?_)
      obtain ⟨h40, u40⟩ := q39
      obtain ⟨W40, P40⟩ := W37.setS (i := t) (x := (bnum (sha (sha (tgb 6) ++ sha (tgb 6) ++ A ++ [33] ++ D ++ [32] ++ (bex jx 32) ++ [1] ++ List.replicate 7 0 ++ [(B k).length] ++ (B k) ++ List.replicate 4 0 ++ [wh])) % NN)) (by omega) h40 u40
      have O40 := O37.tr P40
      obtain ⟨S40, eS40, hS40, yS40⟩ := uz_ab S t (bnum (sha (sha (tgb 6) ++ sha (tgb 6) ++ A ++ [33] ++ D ++ [32] ++ (bex jx 32) ++ [1] ++ List.replicate 7 0 ++ [(B k).length] ++ (B k) ++ List.replicate 4 0 ++ [wh])) % NN)
      rw [eS40] at W40
      have nS40 : ∀ z, z ≠ t → S40 z = S z := fun z hz => hS40 z (fun e => hz (List.mem_singleton.mp e))
      exact hR F38 _ _ dX4_drawHalf_144 ⟨_, _, _, W40, (fun z hz => ((nB37 z (by simp only [List.mem_cons, List.not_mem_nil, or_false, not_or] at hz; omega)).trans (nB3 z (by simp only [List.mem_cons, List.not_mem_nil, or_false, not_or] at hz; omega)))), (fun z hz => (nS40 z (by simp only [List.mem_cons, List.not_mem_nil, or_false, not_or] at hz; omega))), yS40.trans (by rw [noK_eq]), O40⟩
    | succ r0 ih =>
      intro i F4 q4 hi W4 hD hT O4
      refine jr_iload hE dX4_drawHalf_97 0 rfl ?_
      refine jr_iconst (v := (4 : Int32)) hE dX4_drawHalf_99 (by decide) ?_
      refine jr_icmp_ge (tgt := 117) hE dX4_drawHalf_100 (by decide) (fun c_100 => absurd c_100 (nI_ge (b := 4) (by omega) (by omega))) (fun c_100 => ?_)
      refine jr_aload_n hE dX4_drawHalf_103 1 rfl ?_
      refine jr_get hE dX4_drawHalf_104 f79 W4.o7 rfl ?_
      refine jr_iconst (v := (0 : Int32)) hE dX4_drawHalf_107 (by decide) ?_
      refine jr_kVv (ci := 9) (n := 1) (As := [.int (0 : Int32)]) (rest := []) hE dX4_drawHalf_108 (fun l => c_X9_take l G (c 3) (c 4) (c 5) (c (270 + 2 * 17)) q4 (0 : Int32)) gX4_drawHalf_X9_take rfl W4.sh.1 rfl (by decide +kernel) ⟨rfl, rfl, by decide, by decide⟩ (by decide) rfl rfl (Nat.le_of_ble_eq_true rfl) (⟨W4.sh, by rw [hD.n]; exact Nat.lt_trans (by simp only [List.length_append, List.length_cons, List.length_nil, List.length_take, List.length_drop, sha_len, bex_len, pbE_len, xorL_len, List.length_replicate]; omega : _ < 1000) (by decide), cnd W4.1 [3, 4, 5] (by decide) (by decide)⟩) (fun F41 q42 => ?_)
      obtain ⟨q43, W43, D43, P43⟩ := W4.takeO (b := 0) (by decide) hD q42
      have O43 := O4.tr P43
      have T43 : ∀ b, b ∈ (sha (tgb 6) ++ sha (tgb 6) ++ A ++ [33] ++ D ++ [32] ++ (bex jx 32) ++ [1] ++ List.replicate 7 0 ++ [(B k).length] ++ (B k) ++ List.replicate i 0 ++ [0]) → b < 256 := app_lt hT (fun z hz => by rw [List.mem_singleton.mp hz]; exact (by decide))
      refine jr_iinc (v := nI (i + 1)) (lv' := [(4, .int (nI (i + 1))), (0, .ref (c 7)), (1, .ref (c (210 + 2 * t))), (2, .int (nI wh)), (3, .ref (c (270 + 2 * k)))]) hE dX4_drawHalf_111 0 rfl (nI_1 _) (by decide) rfl ?_
      refine jr_goto (tgt := 97) hE dX4_drawHalf_114 (by decide) ?_
      refine jr_lv (lv' := [(4, .int (nI (i + 1))), (0, .ref (c 7)), (1, .ref (c (210 + 2 * t))), (2, .int (nI wh)), (3, .ref (c (270 + 2 * k)))]) [0, 1, 2, 3, 4] rfl ?_
      exact ih (i + 1) F41 q43 (by omega) W43 (by rw [rs_s]; exact D43) (by rw [rs_s]; exact T43) O43
  exact loop 4 0 F29 q31 (by omega) W31 (by rw [List.replicate_zero, List.append_nil]; exact D31) (by rw [List.replicate_zero, List.append_nil]; exact T31) O31

set_option maxHeartbeats 4000000 in
set_option maxRecDepth 100000 in
theorem c_g_drawNonce (l : Launch) (G : Nat → ClassId) (c : Nat → Nat) (B : Nat → List Nat) (S : Nat → Nat) (P : Nat → JP) (q : SS) (X : Nat) (v : Nat → Int32) (u sz k i jx : Nat) : jKi l yX4_drawNonce wsX4_drawNonce ({ frames := 6, cells := 0, slots := 0, locals := 132 }) G [.ref (c 7), .int (nI u), .ref (c (270 + 2 * k)), .ref (c (270 + 2 * i))] (fun L F => CW G L F c B S P q X v ∧ v 2 = nI sz ∧ u < sz ∧ sz ≤ 4 ∧ k < 16 ∧ i < 16 ∧ (B k).length ≤ 100 ∧ (B i).length ≤ 40 ∧ (B 18).length = 33 ∧ B 21 = bex jx 32) (fun L F r F1 => ∃ B' S' v' q', CW G L F1 c B' S' P q' X v' ∧ (∀ i, i ∉ [17, 19, 20, 22] → B' i = B i) ∧ (∀ i, i ∉ [7, 8, (19 + 3 * u), (20 + 3 * u)] → S' i = S i) ∧ (∀ i, i ∉ [(6 + 2 * u)] → v' i = v i) ∧ (((noK (xorL (bex (S 0) 32) (sha (sha (tgb 5) ++ sha (tgb 5) ++ B k))) (B 18) jx (B i) 0) ≠ 0 ∧ (noK (xorL (bex (S 0) 32) (sha (sha (tgb 5) ++ sha (tgb 5) ++ B k))) (B 18) jx (B i) 1) ≠ 0) → S' (19 + 3 * u) = (noK (xorL (bex (S 0) 32) (sha (sha (tgb 5) ++ sha (tgb 5) ++ B k))) (B 18) jx (B i) 0) ∧ S' (20 + 3 * u) = (noK (xorL (bex (S 0) 32) (sha (sha (tgb 5) ++ sha (tgb 5) ++ B k))) (B 18) jx (B i) 1) ∧ v' (6 + 2 * u) = 1) ∧ (¬ ((noK (xorL (bex (S 0) 32) (sha (sha (tgb 5) ++ sha (tgb 5) ++ B k))) (B 18) jx (B i) 0) ≠ 0 ∧ (noK (xorL (bex (S 0) 32) (sha (sha (tgb 5) ++ sha (tgb 5) ++ B k))) (B 18) jx (B i) 1) ≠ 0) → S' (19 + 3 * u) = S (19 + 3 * u) ∧ S' (20 + 3 * u) = S (20 + 3 * u) ∧ v' (6 + 2 * u) = v (6 + 2 * u)) ∧ r = b2i ((noK (xorL (bex (S 0) 32) (sha (sha (tgb 5) ++ sha (tgb 5) ++ B k))) (B 18) jx (B i) 0) ≠ 0 ∧ (noK (xorL (bex (S 0) 32) (sha (sha (tgb 5) ++ sha (tgb 5) ++ B k))) (B 18) jx (B i) 1) ≠ 0) ∧ cO c F F1) := by
  refine jm_ki (cc := cX4_drawNonce) (maxL := 4) (rt := .boolean) (by decide) rfl (Nat.le_of_ble_eq_true rfl) ?_
  intro E L F hE hR hpre
  have hE : jOk E G _ cX4_drawNonce 4 RX4 wsX4_drawNonce := hE
  obtain ⟨W0, hsz, hu, h4, hk, hi, hlk, hli, hlo, hjx⟩ := hpre
  have f83 : jFl RX4 wsX4_drawNonce 83 4 4 := ⟨rfl, by decide, by decide +kernel, by decide +kernel⟩
  have f54 : jFl RX4 wsX4_drawNonce 54 4 13 := ⟨rfl, by decide, by decide +kernel, by decide +kernel⟩
  have f57 : jFl RX4 wsX4_drawNonce 57 4 14 := ⟨rfl, by decide, by decide +kernel, by decide +kernel⟩
  have f28 : jFl RX4 wsX4_drawNonce 28 4 6 := ⟨rfl, by decide, by decide +kernel, by decide +kernel⟩
  have f214 : jFl RX4 wsX4_drawNonce 214 5 4 := ⟨rfl, by decide, by decide +kernel, by decide +kernel⟩
  have f220 : jFl RX4 wsX4_drawNonce 220 5 5 := ⟨rfl, by decide, by decide +kernel, by decide +kernel⟩
  have f122 : jFl RX4 wsX4_drawNonce 122 5 3 := ⟨rfl, by decide, by decide +kernel, by decide +kernel⟩
  refine jr_aload_n hE dX4_drawNonce_0 0 rfl ?_
  refine jr_get hE dX4_drawNonce_1 f83 W0.o7 rfl ?_
  refine jr_iconst (v := (5 : Int32)) hE dX4_drawNonce_4 (by decide) ?_
  refine jr_aload_n hE dX4_drawNonce_5 2 rfl ?_
  refine jr_kVv (ci := 10) (n := 2) (As := [.int (5 : Int32), .ref (c (270 + 2 * k))]) (rest := []) hE dX4_drawNonce_6 (fun l => c_s_hideSecret l G c B S P q X v 5 k) gX4_drawNonce_X10_hideSecret rfl W0.o6 rfl (by decide +kernel) ⟨rfl, rfl, by decide, by decide⟩ (by decide) rfl rfl (Nat.le_of_ble_eq_true rfl) (⟨W0, by decide, by omega, hlk⟩) (fun F1 q2 => ?_)
  obtain ⟨B3, q3, W3, hB3, f3_0, P3⟩ := q2
  have O3 := (cO.rf c F).tr P3
  refine jr_aload_n hE dX4_drawNonce_9 0 rfl ?_
  refine jr_aload_n hE dX4_drawNonce_10 0 rfl ?_
  refine jr_get hE dX4_drawNonce_11 f54 W3.o7 rfl ?_
  refine jr_iconst (v := (0 : Int32)) hE dX4_drawNonce_14 (by decide) ?_
  refine jr_aload_n hE dX4_drawNonce_15 3 rfl ?_
  have hB4 : B3 18 = (B 18) := (hB3 18 (by decide)).trans rfl
  have hB5 : B3 21 = (bex jx 32) := (hB3 21 (by decide)).trans hjx
  have hB6 : B3 i = (B i) := (hB3 i (by simp only [List.mem_cons, List.not_mem_nil, or_false, not_or]; omega)).trans rfl
  refine jr_kVv (ci := 4) (n := 3) (As := [.ref (c (210 + 2 * 7)), .int (0 : Int32), .ref (c (270 + 2 * i))]) (rest := []) hE dX4_drawNonce_16 (fun l => c_g_drawHalf l G c B3 S P q3 X v 7 0 i jx (xorL (bex (S 0) 32) (sha (sha (tgb 5) ++ sha (tgb 5) ++ B k))) (B 18)) gX4_drawNonce_X4_drawHalf rfl W3.o7 rfl (by decide +kernel) ⟨rfl, rfl, by decide, by decide⟩ (by decide) rfl rfl (Nat.le_of_ble_eq_true rfl) (⟨W3, by decide, by decide, by omega, (by rw [show B3 i = B i from hB6]; exact hli), f3_0, xorL_len _ _, hB4, hlo, hB5⟩) (fun F7 q8 => ?_)
  obtain ⟨B9, S9, q9, W9, hB9, hS9, f9_0, P9⟩ := q8
  have O9 := O3.tr P9
  have g9 := f9_0
  rw [show B3 i = B i from hB6] at g9
  refine jr_aload_n hE dX4_drawNonce_19 0 rfl ?_
  refine jr_aload_n hE dX4_drawNonce_20 0 rfl ?_
  refine jr_get hE dX4_drawNonce_21 f57 W9.o7 rfl ?_
  refine jr_iconst (v := (1 : Int32)) hE dX4_drawNonce_24 (by decide) ?_
  refine jr_aload_n hE dX4_drawNonce_25 3 rfl ?_
  have hB10 : B9 19 = (xorL (bex (S 0) 32) (sha (sha (tgb 5) ++ sha (tgb 5) ++ B k))) := (hB9 19 (by decide)).trans f3_0
  have hB11 : B9 18 = (B 18) := (hB9 18 (by decide)).trans hB4
  have hB12 : B9 21 = (bex jx 32) := (hB9 21 (by decide)).trans hB5
  have hB13 : B9 i = (B i) := (hB9 i (by simp only [List.mem_cons, List.not_mem_nil, or_false, not_or]; omega)).trans hB6
  refine jr_kVv (ci := 4) (n := 3) (As := [.ref (c (210 + 2 * 8)), .int (1 : Int32), .ref (c (270 + 2 * i))]) (rest := []) hE dX4_drawNonce_26 (fun l => c_g_drawHalf l G c B9 S9 P q9 X v 8 1 i jx (xorL (bex (S 0) 32) (sha (sha (tgb 5) ++ sha (tgb 5) ++ B k))) (B 18)) gX4_drawNonce_X4_drawHalf rfl W9.o7 rfl (by decide +kernel) ⟨rfl, rfl, by decide, by decide⟩ (by decide) rfl rfl (Nat.le_of_ble_eq_true rfl) (⟨W9, by decide, by decide, by omega, (by rw [show B9 i = B i from hB13]; exact hli), hB10, xorL_len _ _, hB11, hlo, hB12⟩) (fun F14 q15 => ?_)
  obtain ⟨B16, S16, q16, W16, hB16, hS16, f16_0, P16⟩ := q15
  have O16 := O9.tr P16
  have g16 := f16_0
  rw [show B9 i = B i from hB13] at g16
  refine jr_aload_n hE dX4_drawNonce_29 0 rfl ?_
  refine jr_iload_n hE dX4_drawNonce_30 1 rfl ?_
  refine jr_kVi (ci := 4) (n := 1) (As := [.int (nI u)]) (rest := []) hE dX4_drawNonce_31 (fun l => c_g_hasMember l G c B16 S16 P q16 X v (nI u) sz) gX4_drawNonce_X4_hasMember rfl W16.o7 rfl (by decide +kernel) ⟨rfl, rfl, by decide, by decide⟩ (by decide) rfl rfl (Nat.le_of_ble_eq_true rfl) (⟨W16, hsz, h4⟩) (fun r19 F17 q18 => ?_)
  obtain ⟨eq18, rq18⟩ := q18
  subst eq18 rq18
  refine jr_if_eq (tgt := 57) hE dX4_drawNonce_34 (by decide) (fun c_34 => absurd c_34 (b2i_nz (hm_u hu h4))) (fun c_34 => ?_)
  refine jr_aload_n hE dX4_drawNonce_37 0 rfl ?_
  refine jr_get hE dX4_drawNonce_38 f54 W16.o7 rfl ?_
  have hS20 : S16 7 = (noK (xorL (bex (S 0) 32) (sha (sha (tgb 5) ++ sha (tgb 5) ++ B k))) (B 18) jx (B i) 0) := (hS16 7 (by decide)).trans g9
  refine jr_kVi (ci := 8) (n := 0) (As := []) (rest := []) hE dX4_drawNonce_41 (fun l => c_X8_isZero l G (c (210 + 2 * 7)) (c (211 + 2 * 7)) (noK (xorL (bex (S 0) 32) (sha (sha (tgb 5) ++ sha (tgb 5) ++ B k))) (B 18) jx (B i) 0)) gX4_drawNonce_X8_isZero rfl ((W16.sc 7 (by decide)).ob) rfl (by decide +kernel) ⟨rfl, rfl, by decide, by decide⟩ (by decide) rfl rfl (Nat.le_of_ble_eq_true rfl) ((by have q := W16.sc 7 (by decide); rw [show S16 7 = (noK (xorL (bex (S 0) 32) (sha (sha (tgb 5) ++ sha (tgb 5) ++ B k))) (B 18) jx (B i) 0) from hS20] at q; exact q)) (fun r23 F21 q22 => ?_)
  obtain ⟨eq22, rq22⟩ := q22
  subst eq22 rq22
  refine jr_if_ne (tgt := 57) hE dX4_drawNonce_44 (by decide) (fun c44 => ?_) (fun c44 => ?_)
  · refine jr_iconst (v := (0 : Int32)) hE dX4_drawNonce_57 (by decide) ?_
    exact hR F14 _ _ _ dX4_drawNonce_58 rfl ⟨_, _, _, _, W16, (fun z hz => ((hB16 z (by simp only [List.mem_cons, List.not_mem_nil, or_false, not_or] at hz ⊢; omega)).trans ((hB9 z (by simp only [List.mem_cons, List.not_mem_nil, or_false, not_or] at hz ⊢; omega)).trans (hB3 z (by simp only [List.mem_cons, List.not_mem_nil, or_false, not_or] at hz ⊢; omega))))), (fun z hz => ((hS16 z (by simp only [List.mem_cons, List.not_mem_nil, or_false, not_or] at hz ⊢; omega)).trans (hS9 z (by simp only [List.mem_cons, List.not_mem_nil, or_false, not_or] at hz ⊢; omega)))), (fun z hz => rfl), (fun h => absurd h (fun h => h.1 (b2i_1 c44))), (fun _ => ⟨((hS16 (19 + 3 * u) (by simp only [List.mem_cons, List.not_mem_nil, or_false, not_or]; omega)).trans (hS9 (19 + 3 * u) (by simp only [List.mem_cons, List.not_mem_nil, or_false, not_or]; omega))), ((hS16 (20 + 3 * u) (by simp only [List.mem_cons, List.not_mem_nil, or_false, not_or]; omega)).trans (hS9 (20 + 3 * u) (by simp only [List.mem_cons, List.not_mem_nil, or_false, not_or]; omega))), rfl⟩), (b2i_f (fun h => h.1 (b2i_1 c44))).symm, O16⟩
  · refine jr_aload_n hE dX4_drawNonce_47 0 rfl ?_
    refine jr_get hE dX4_drawNonce_48 f57 W16.o7 rfl ?_
    refine jr_kVi (ci := 8) (n := 0) (As := []) (rest := []) hE dX4_drawNonce_51 (fun l => c_X8_isZero l G (c (210 + 2 * 8)) (c (211 + 2 * 8)) (noK (xorL (bex (S 0) 32) (sha (sha (tgb 5) ++ sha (tgb 5) ++ B k))) (B 18) jx (B i) 1)) gX4_drawNonce_X8_isZero rfl ((W16.sc 8 (by decide)).ob) rfl (by decide +kernel) ⟨rfl, rfl, by decide, by decide⟩ (by decide) rfl rfl (Nat.le_of_ble_eq_true rfl) ((by have q := W16.sc 8 (by decide); rw [show S16 8 = (noK (xorL (bex (S 0) 32) (sha (sha (tgb 5) ++ sha (tgb 5) ++ B k))) (B 18) jx (B i) 1) from g16] at q; exact q)) (fun r26 F24 q25 => ?_)
    obtain ⟨eq25, rq25⟩ := q25
    subst eq25 rq25
    refine jr_if_eq (tgt := 59) hE dX4_drawNonce_54 (by decide) (fun c54 => ?_) (fun c54 => ?_)
    · have hok : ((noK (xorL (bex (S 0) 32) (sha (sha (tgb 5) ++ sha (tgb 5) ++ B k))) (B 18) jx (B i) 0) ≠ 0 ∧ (noK (xorL (bex (S 0) 32) (sha (sha (tgb 5) ++ sha (tgb 5) ++ B k))) (B 18) jx (B i) 1) ≠ 0) := ⟨b2i_0 c44, b2i_0 c54⟩
      refine jr_aload_n hE dX4_drawNonce_59 0 rfl ?_
      refine jr_get hE dX4_drawNonce_60 f28 W16.o7 rfl ?_
      refine jr_iload_n hE dX4_drawNonce_63 1 rfl ?_
      obtain ⟨f27, ja27, ga27⟩ := W16.aM
      refine jr_aald (v := c (29 + u)) hE dX4_drawNonce_64 ja27 rfl (vp_in_nI (n := u) (by omega) (by decide)) (by rw [nI_clamp (by omega)]; exact ga27 u (by omega)) ?_
      refine jr_get hE dX4_drawNonce_65 f214 (W16.oM u (by omega)) rfl ?_
      refine jr_aload_n hE dX4_drawNonce_68 0 rfl ?_
      refine jr_get hE dX4_drawNonce_69 f54 W16.o7 rfl ?_
      refine jr_kVv (ci := 8) (n := 1) (As := [.ref (c (210 + 2 * 7))]) (rest := []) hE dX4_drawNonce_72 (fun l => c_X8_become l G (c (210 + 2 * (19 + 3 * u))) (c (211 + 2 * (19 + 3 * u))) (c (210 + 2 * 7)) (c (211 + 2 * 7)) (S16 (19 + 3 * u)) (noK (xorL (bex (S 0) 32) (sha (sha (tgb 5) ++ sha (tgb 5) ++ B k))) (B 18) jx (B i) 0)) gX4_drawNonce_X8_become rfl ((W16.sc (19 + 3 * u) (by omega)).ob) rfl (by decide +kernel) ⟨rfl, rfl, by decide, by decide⟩ (by decide) rfl rfl (Nat.le_of_ble_eq_true rfl) (⟨(W16.sc (19 + 3 * u) (by omega)), (by have q := W16.sc 7 (by decide); rw [show S16 7 = (noK (xorL (bex (S 0) 32) (sha (sha (tgb 5) ++ sha (tgb 5) ++ B k))) (B 18) jx (B i) 0) from hS20] at q; exact q), cnd W16.1 [210 + 2 * (19 + 3 * u), 211 + 2 * (19 + 3 * u), 210 + 2 * 7, 211 + 2 * 7] (by simp only [List.mem_cons, List.not_mem_nil, or_false]; omega) (by simp only [List.nodup_cons, List.mem_cons, List.not_mem_nil, or_false, not_or, List.nodup_nil, not_false_eq_true, and_true]; omega)⟩) (fun F28 q29 => ?_)
      obtain ⟨h30, u30⟩ := q29
      obtain ⟨W30, P30⟩ := W16.setS (i := (19 + 3 * u)) (x := (noK (xorL (bex (S 0) 32) (sha (sha (tgb 5) ++ sha (tgb 5) ++ B k))) (B 18) jx (B i) 0)) (by omega) h30 u30
      have O30 := O16.tr P30
      obtain ⟨S30, eS30, hS30, yS30⟩ := uz_ab S16 (19 + 3 * u) (noK (xorL (bex (S 0) 32) (sha (sha (tgb 5) ++ sha (tgb 5) ++ B k))) (B 18) jx (B i) 0)
      rw [eS30] at W30
      have nS30 : ∀ z, z ≠ (19 + 3 * u) → S30 z = S16 z := fun z hz => hS30 z (fun e => hz (List.mem_singleton.mp e))
      refine jr_aload_n hE dX4_drawNonce_75 0 rfl ?_
      refine jr_get hE dX4_drawNonce_76 f28 W30.o7 rfl ?_
      refine jr_iload_n hE dX4_drawNonce_79 1 rfl ?_
      obtain ⟨f31, ja31, ga31⟩ := W30.aM
      refine jr_aald (v := c (29 + u)) hE dX4_drawNonce_80 ja31 rfl (vp_in_nI (n := u) (by omega) (by decide)) (by rw [nI_clamp (by omega)]; exact ga31 u (by omega)) ?_
      refine jr_get hE dX4_drawNonce_81 f220 (W30.oM u (by omega)) rfl ?_
      refine jr_aload_n hE dX4_drawNonce_84 0 rfl ?_
      refine jr_get hE dX4_drawNonce_85 f57 W30.o7 rfl ?_
      have hS32 : S30 8 = (noK (xorL (bex (S 0) 32) (sha (sha (tgb 5) ++ sha (tgb 5) ++ B k))) (B 18) jx (B i) 1) := (nS30 8 (by omega)).trans g16
      refine jr_kVv (ci := 8) (n := 1) (As := [.ref (c (210 + 2 * 8))]) (rest := []) hE dX4_drawNonce_88 (fun l => c_X8_become l G (c (210 + 2 * (20 + 3 * u))) (c (211 + 2 * (20 + 3 * u))) (c (210 + 2 * 8)) (c (211 + 2 * 8)) (S30 (20 + 3 * u)) (noK (xorL (bex (S 0) 32) (sha (sha (tgb 5) ++ sha (tgb 5) ++ B k))) (B 18) jx (B i) 1)) gX4_drawNonce_X8_become rfl ((W30.sc (20 + 3 * u) (by omega)).ob) rfl (by decide +kernel) ⟨rfl, rfl, by decide, by decide⟩ (by decide) rfl rfl (Nat.le_of_ble_eq_true rfl) (⟨(W30.sc (20 + 3 * u) (by omega)), (by have q := W30.sc 8 (by decide); rw [show S30 8 = (noK (xorL (bex (S 0) 32) (sha (sha (tgb 5) ++ sha (tgb 5) ++ B k))) (B 18) jx (B i) 1) from hS32] at q; exact q), cnd W30.1 [210 + 2 * (20 + 3 * u), 211 + 2 * (20 + 3 * u), 210 + 2 * 8, 211 + 2 * 8] (by simp only [List.mem_cons, List.not_mem_nil, or_false]; omega) (by simp only [List.nodup_cons, List.mem_cons, List.not_mem_nil, or_false, not_or, List.nodup_nil, not_false_eq_true, and_true]; omega)⟩) (fun F33 q34 => ?_)
      obtain ⟨h35, u35⟩ := q34
      obtain ⟨W35, P35⟩ := W30.setS (i := (20 + 3 * u)) (x := (noK (xorL (bex (S 0) 32) (sha (sha (tgb 5) ++ sha (tgb 5) ++ B k))) (B 18) jx (B i) 1)) (by omega) h35 u35
      have O35 := O30.tr P35
      obtain ⟨S35, eS35, hS35, yS35⟩ := uz_ab S30 (20 + 3 * u) (noK (xorL (bex (S 0) 32) (sha (sha (tgb 5) ++ sha (tgb 5) ++ B k))) (B 18) jx (B i) 1)
      rw [eS35] at W35
      have nS35 : ∀ z, z ≠ (20 + 3 * u) → S35 z = S30 z := fun z hz => hS35 z (fun e => hz (List.mem_singleton.mp e))
      refine jr_aload_n hE dX4_drawNonce_91 0 rfl ?_
      refine jr_get hE dX4_drawNonce_92 f28 W35.o7 rfl ?_
      refine jr_iload_n hE dX4_drawNonce_95 1 rfl ?_
      obtain ⟨f36, ja36, ga36⟩ := W35.aM
      refine jr_aald (v := c (29 + u)) hE dX4_drawNonce_96 ja36 rfl (vp_in_nI (n := u) (by omega) (by decide)) (by rw [nI_clamp (by omega)]; exact ga36 u (by omega)) ?_
      refine jr_iconst (v := (1 : Int32)) hE dX4_drawNonce_97 (by decide) ?_
      refine jr_put (ty := .boolean) hE dX4_drawNonce_98 f122 (W35.oM u (by omega)) rfl (by decide +kernel) rfl rfl (Nat.le_of_ble_eq_true rfl) (fun F37 h37 u37 => ?_)
      have h37 : jF L F37 (c (29 + u)) (.inr (5, [.ref (c (270 + 2 * (38 + 3 * u))), .ref (c (40 + 4 * (29 + 3 * u))), .ref (c (210 + 2 * (18 + 3 * u))), .int ((uz v (6 + 2 * u) (1 : Int32)) (6 + 2 * u)), .ref (c (210 + 2 * (19 + 3 * u))), .ref (c (210 + 2 * (20 + 3 * u))), .ref (c (270 + 2 * (39 + 3 * u))), .int ((uz v (6 + 2 * u) (1 : Int32)) (7 + 2 * u)), .ref (c (270 + 2 * (40 + 3 * u))), .ref (c (40 + 4 * (30 + 3 * u))), .ref (c (40 + 4 * (31 + 3 * u)))])) := by
        rw [uz_s, show (uz v (6 + 2 * u) (1 : Int32)) (7 + 2 * u) = v (7 + 2 * u) from uz_n _ _ (by omega)]
        exact h37
      obtain ⟨W37, P37⟩ := W35.setVM (m := u) (v1 := (uz v (6 + 2 * u) (1 : Int32))) (by omega) h37 (fun z h1 h2 => uz_n _ _ h1) u37
      have O37 := O35.tr P37
      obtain ⟨v37, ev37, hv37, yv37⟩ := uz_ab v (6 + 2 * u) (1 : Int32)
      rw [ev37] at W37
      have nv37 : ∀ z, z ≠ (6 + 2 * u) → v37 z = v z := fun z hz => hv37 z (fun e => hz (List.mem_singleton.mp e))
      refine jr_iconst (v := (1 : Int32)) hE dX4_drawNonce_101 (by decide) ?_
      have hS38 : S35 (19 + 3 * u) = (noK (xorL (bex (S 0) 32) (sha (sha (tgb 5) ++ sha (tgb 5) ++ B k))) (B 18) jx (B i) 0) := (nS35 (19 + 3 * u) (by omega)).trans yS30
      exact hR F37 _ _ _ dX4_drawNonce_102 rfl ⟨_, _, _, _, W37, (fun z hz => ((hB16 z (by simp only [List.mem_cons, List.not_mem_nil, or_false, not_or] at hz ⊢; omega)).trans ((hB9 z (by simp only [List.mem_cons, List.not_mem_nil, or_false, not_or] at hz ⊢; omega)).trans (hB3 z (by simp only [List.mem_cons, List.not_mem_nil, or_false, not_or] at hz ⊢; omega))))), (fun z hz => ((nS35 z (by simp only [List.mem_cons, List.not_mem_nil, or_false, not_or] at hz; omega)).trans ((nS30 z (by simp only [List.mem_cons, List.not_mem_nil, or_false, not_or] at hz; omega)).trans ((hS16 z (by simp only [List.mem_cons, List.not_mem_nil, or_false, not_or] at hz ⊢; omega)).trans (hS9 z (by simp only [List.mem_cons, List.not_mem_nil, or_false, not_or] at hz ⊢; omega)))))), (fun z hz => (nv37 z (by simp only [List.mem_cons, List.not_mem_nil, or_false, not_or] at hz; omega))), (fun _ => ⟨hS38, yS35, yv37⟩), (fun h => absurd hok h), (b2i_t hok).symm, O37⟩
    · refine jr_iconst (v := (0 : Int32)) hE dX4_drawNonce_57 (by decide) ?_
      exact hR F14 _ _ _ dX4_drawNonce_58 rfl ⟨_, _, _, _, W16, (fun z hz => ((hB16 z (by simp only [List.mem_cons, List.not_mem_nil, or_false, not_or] at hz ⊢; omega)).trans ((hB9 z (by simp only [List.mem_cons, List.not_mem_nil, or_false, not_or] at hz ⊢; omega)).trans (hB3 z (by simp only [List.mem_cons, List.not_mem_nil, or_false, not_or] at hz ⊢; omega))))), (fun z hz => ((hS16 z (by simp only [List.mem_cons, List.not_mem_nil, or_false, not_or] at hz ⊢; omega)).trans (hS9 z (by simp only [List.mem_cons, List.not_mem_nil, or_false, not_or] at hz ⊢; omega)))), (fun z hz => rfl), (fun h => absurd h (fun h => h.2 (b2i_1 c54))), (fun _ => ⟨((hS16 (19 + 3 * u) (by simp only [List.mem_cons, List.not_mem_nil, or_false, not_or]; omega)).trans (hS9 (19 + 3 * u) (by simp only [List.mem_cons, List.not_mem_nil, or_false, not_or]; omega))), ((hS16 (20 + 3 * u) (by simp only [List.mem_cons, List.not_mem_nil, or_false, not_or]; omega)).trans (hS9 (20 + 3 * u) (by simp only [List.mem_cons, List.not_mem_nil, or_false, not_or]; omega))), rfl⟩), (b2i_f (fun h => h.2 (b2i_1 c54))).symm, O16⟩

