/-! Group: the joint key -/
theorem isSec_u {K : Nat → List Nat} {n s t : Nat} (h : isSec K n s) (h' : isSec K n t) : s = t := by
  rcases Nat.lt_trichotomy s t with q | q | q
  · exact absurd (h'.2.2.1 s h.1 q) h.2.2.2
  · exact q
  · exact absurd (h.2.2.1 t h'.1 q) h'.2.2.2
theorem wgu_1 {K : Nat → List Nat} {n j s V : Nat} (h : isSec K n s) (e : K s = K j) : wgt K n j V = 1 := if_pos ⟨s, h, e⟩
theorem wgt_V {K : Nat → List Nat} {n j s V : Nat} (h : isSec K n s) (e : ¬ K s = K j) : wgt K n j V = V := if_neg (fun ⟨t, ht, q⟩ => e (by rw [isSec_u h ht]; exact q))
theorem wgt_0 {K : Nat → List Nat} {n j V : Nat} (h : ∀ t, t < n → K t = K 0) : wgt K n j V = V := if_neg (fun ⟨t, ht, _⟩ => ht.2.2.2 (h t ht.2.1))
theorem tf_s {Sg : List (List Nat)} {i : Nat} (h : i < Sg.length) : (Sg.take (i + 1)).flatten = (Sg.take i).flatten ++ Sg.getD i [] := by
  rw [gD_in [] h, List.take_succ, List.getElem?_eq_getElem h, List.flatten_append]
  simp
theorem fl_len {Sg : List (List Nat)} (h : ∀ j, j < Sg.length → (Sg.getD j []).length = 33) : ∀ i, i ≤ Sg.length → ((Sg.take i).flatten).length = 33 * i
  | 0, _ => rfl
  | i + 1, hi => by
    rw [tf_s (by omega), List.length_append, fl_len h i (by omega), h i (by omega)]
    omega
theorem wKs_lt (Sg : List (List Nat)) (j : Nat) : wKs Sg j < NN := by
  unfold wKs wgt
  split
  · decide +kernel
  · exact Nat.mod_lt _ NN0

set_option maxHeartbeats 4000000 in
set_option maxRecDepth 100000 in
theorem c_g_listKeys (l : Launch) (G : Nat → ClassId) (c : Nat → Nat) (B : Nat → List Nat) (S : Nat → Nat) (P : Nat → JP) (q : SS) (X : Nat) (v : Nat → Int32) (Sg : List (List Nat)) : jKv l yX4_listKeys wsX4_listKeys ({ frames := 5, cells := 0, slots := 0, locals := 108 }) G [.ref (c 7)] (fun L F => CW G L F c B S P q X v ∧ (∀ j, j < Sg.length → B (38 + 3 * j) = Sg.getD j [] ∧ (Sg.getD j []).length = 33) ∧ v 2 = nI Sg.length ∧ Sg.length ≤ 4) (fun L F F1 => ∃ B' q', CW G L F1 c B' S P q' X v ∧ (∀ i, i ∉ [17, 23] → B' i = B i) ∧ B' 23 = sha (sha (tgb 3) ++ sha (tgb 3) ++ Sg.flatten) ∧ cO c F F1) := by
  refine jm_kv (cc := cX4_listKeys) (maxL := 2) (by decide) rfl (Nat.le_of_ble_eq_true rfl) ?_
  intro E L F hE hR hpre
  have hE : jOk E G _ cX4_listKeys 2 RX4 wsX4_listKeys := hE
  obtain ⟨W0, hSg, hsz, h4⟩ := hpre
  have f79 : jFl RX4 wsX4_listKeys 79 4 3 := ⟨rfl, by decide, by decide +kernel, by decide +kernel⟩
  have f7 : jFl RX4 wsX4_listKeys 7 4 0 := ⟨rfl, by decide, by decide +kernel, by decide +kernel⟩
  have f35 : jFl RX4 wsX4_listKeys 35 4 8 := ⟨rfl, by decide, by decide +kernel, by decide +kernel⟩
  have f28 : jFl RX4 wsX4_listKeys 28 4 6 := ⟨rfl, by decide, by decide +kernel, by decide +kernel⟩
  have f108 : jFl RX4 wsX4_listKeys 108 5 0 := ⟨rfl, by decide, by decide +kernel, by decide +kernel⟩
  refine jr_aload_n hE dX4_listKeys_0 0 rfl ?_
  refine jr_get hE dX4_listKeys_1 f79 W0.o7 rfl ?_
  refine jr_iconst (v := (3 : Int32)) hE dX4_listKeys_4 (by decide) ?_
  refine jr_kVv (ci := 9) (n := 1) (As := [.int (3 : Int32)]) (rest := []) hE dX4_listKeys_5 (fun l => c_X9_beginT l G (c 3) (c 4) (c 5) (c (270 + 2 * 17)) (c (271 + 2 * 17)) (bcap 17) 3 q (B 17)) gX4_listKeys_X9_beginBy rfl W0.sh.1 rfl (by decide +kernel) ⟨rfl, rfl, by decide, by decide⟩ (by decide) rfl rfl (Nat.le_of_ble_eq_true rfl) (W0.beginTpre (i := 3) (by decide)) (fun F1 q2 => ?_)
  obtain ⟨q3, W3, D3, P3⟩ := W0.beginT (i := 3) (by decide) q2
  have O3 := (cO.rf c F).tr P3
  obtain ⟨B3, eB3, hB3, yB3⟩ := uz_ab B 17 (sha (tgb 3))
  rw [eB3] at W3
  have nB3 : ∀ z, z ≠ 17 → B3 z = B z := fun z hz => hB3 z (fun e => hz (List.mem_singleton.mp e))
  have T3 : ∀ b, b ∈ (sha (tgb 3) ++ sha (tgb 3)) → b < 256 := app_lt (sha_lt _) (sha_lt _)
  refine jr_iconst (v := (0 : Int32)) hE dX4_listKeys_8 (by decide) ?_
  refine jr_istore_n (lv' := [(1, .int (0 : Int32)), (0, .ref (c 7))]) hE dX4_listKeys_9 (by decide) rfl ?_
  have loop : ∀ (r0 i : Nat) (F4 : Nat → va_E) (q4 : SS), i + r0 = Sg.length → CW G L F4 c B3 S P q4 X v → dgS q4 (sha (tgb 3) ++ sha (tgb 3) ++ (Sg.take i).flatten) → (∀ b, b ∈ sha (tgb 3) ++ sha (tgb 3) ++ (Sg.take i).flatten → b < 256) → cO c F F4 → J E L F4 0 0 10 [(1, .int (nI i)), (0, .ref (c 7))] [] := by
    intro r0
    induction r0 with
    | zero =>
      intro i F4 q4 hi W4 hD hT O4
      have hiN : Sg.length = i := by omega
      subst hiN
      have hfl := fl_len (fun j hj => (hSg j hj).2) Sg.length (by omega)
      refine jr_iload_n hE dX4_listKeys_10 0 rfl ?_
      refine jr_aload_n hE dX4_listKeys_11 1 rfl ?_
      refine jr_get hE dX4_listKeys_12 f7 W4.o7 rfl ?_
      rw [show v 2 = (nI Sg.length) from hsz]
      refine jr_icmp_ge (tgt := 45) hE dX4_listKeys_15 (by decide) (fun c_15 => ?_) (fun c_15 => absurd (nI_le (a := Sg.length) (by omega) (by omega)) c_15)
      refine jr_aload_n hE dX4_listKeys_45 1 rfl ?_
      refine jr_get hE dX4_listKeys_46 f79 W4.o7 rfl ?_
      refine jr_aload_n hE dX4_listKeys_49 1 rfl ?_
      refine jr_get hE dX4_listKeys_50 f35 W4.o7 rfl ?_
      refine jr_kVv (ci := 9) (n := 1) (As := [.ref (c (270 + 2 * 23))]) (rest := []) hE dX4_listKeys_53 (fun l => c_X9_finish l G (c 3) (c 4) (c 5) (c (270 + 2 * 17)) (c (270 + 2 * 23)) (c (271 + 2 * 23)) (bcap 23) q4 (B3 23)) gX4_listKeys_X9_finish rfl W4.sh.1 rfl (by decide +kernel) ⟨rfl, rfl, by decide, by decide⟩ (by decide) rfl rfl (Nat.le_of_ble_eq_true rfl) (⟨W4.sh, W4.by 23 (by decide), (W4.shB 23 (by decide) trivial hD (by simp only [List.length_append, List.length_cons, List.length_nil, List.length_take, List.length_drop, sha_len, bex_len, pbE_len, xorL_len, List.length_replicate]; omega)).2.2.1, by decide, (W4.shB 23 (by decide) trivial hD (by simp only [List.length_append, List.length_cons, List.length_nil, List.length_take, List.length_drop, sha_len, bex_len, pbE_len, xorL_len, List.length_replicate]; omega)).2.2.2⟩) (fun F4 q5 => ?_)
      obtain ⟨q6, W6, P6⟩ := W4.finP (i := 23) (by decide) hD hT (by simp only [List.length_append, List.length_cons, List.length_nil, List.length_take, List.length_drop, sha_len, bex_len, pbE_len, xorL_len, List.length_replicate]; omega) q5
      have O6 := O4.tr P6
      obtain ⟨B6, eB6, hB6, yB6⟩ := uz_ab B3 23 (sha (sha (tgb 3) ++ sha (tgb 3) ++ (Sg.take Sg.length).flatten))
      rw [eB6] at W6
      have nB6 : ∀ z, z ≠ 23 → B6 z = B3 z := fun z hz => hB6 z (fun e => hz (List.mem_singleton.mp e))
      exact hR F4 _ _ dX4_listKeys_56 ⟨_, _, W6, (fun z hz => ((nB6 z (jne hz 1 rfl)).trans (nB3 z (jne hz 0 rfl)))), yB6.trans (by rw [List.take_length]), O6⟩
    | succ r0 ih =>
      intro i F4 q4 hi W4 hD hT O4
      have hfl := fl_len (fun j hj => (hSg j hj).2) i (by omega)
      obtain ⟨d1, d2⟩ := hSg i (by omega)
      refine jr_iload_n hE dX4_listKeys_10 0 rfl ?_
      refine jr_aload_n hE dX4_listKeys_11 1 rfl ?_
      refine jr_get hE dX4_listKeys_12 f7 W4.o7 rfl ?_
      rw [show v 2 = (nI Sg.length) from hsz]
      refine jr_icmp_ge (tgt := 45) hE dX4_listKeys_15 (by decide) (fun c_15 => absurd c_15 (nI_ge (b := Sg.length) (by omega) (by omega))) (fun c_15 => ?_)
      refine jr_iload_n hE dX4_listKeys_18 0 rfl ?_
      refine jr_iconst (v := (4 : Int32)) hE dX4_listKeys_19 (by decide) ?_
      refine jr_icmp_ge (tgt := 45) hE dX4_listKeys_20 (by decide) (fun c_20 => absurd c_20 (nI_ge (b := 4) (by omega) (by omega))) (fun c_20 => ?_)
      refine jr_aload_n hE dX4_listKeys_23 1 rfl ?_
      refine jr_get hE dX4_listKeys_24 f79 W4.o7 rfl ?_
      refine jr_aload_n hE dX4_listKeys_27 1 rfl ?_
      refine jr_get hE dX4_listKeys_28 f28 W4.o7 rfl ?_
      refine jr_iload_n hE dX4_listKeys_31 0 rfl ?_
      obtain ⟨f7, ja7, ga7⟩ := W4.aM
      refine jr_aald (v := c (29 + i)) hE dX4_listKeys_32 ja7 rfl (vp_in_nI (n := i) (by omega) (by decide)) (by rw [nI_clamp (by omega)]; exact ga7 i (by omega)) ?_
      refine jr_get hE dX4_listKeys_33 f108 (W4.oM i (by omega)) rfl ?_
      have hB8 : B3 (38 + 3 * i) = (Sg.getD i []) := (nB3 (38 + 3 * i) (by omega)).trans d1
      refine jr_kVv (ci := 9) (n := 1) (As := [.ref (c (270 + 2 * (38 + 3 * i)))]) (rest := []) hE dX4_listKeys_36 (fun l => c_X9_takeAll l G (c 3) (c 4) (c 5) (c (270 + 2 * 17)) (c (270 + 2 * (38 + 3 * i))) (c (271 + 2 * (38 + 3 * i))) (bcap (38 + 3 * i)) q4 (Sg.getD i [])) gX4_listKeys_X9_takeAll rfl W4.sh.1 rfl (by decide +kernel) ⟨rfl, rfl, by decide, by decide⟩ (by decide) rfl rfl (Nat.le_of_ble_eq_true rfl) (⟨W4.sh, (by have q := W4.by (38 + 3 * i) (by omega); rw [show B3 (38 + 3 * i) = (Sg.getD i []) from hB8] at q; exact q), (W4.shB (38 + 3 * i) (by omega) trivial hD (by simp only [List.length_append, List.length_cons, List.length_nil, List.length_take, List.length_drop, sha_len, bex_len, pbE_len, xorL_len, List.length_replicate]; omega)).2.2.1, (W4.shB (38 + 3 * i) (by omega) trivial hD (by simp only [List.length_append, List.length_cons, List.length_nil, List.length_take, List.length_drop, sha_len, bex_len, pbE_len, xorL_len, List.length_replicate]; omega)).2.2.2⟩) (fun F9 q10 => ?_)
      have Dq10 := W4.takeA hD q10
      obtain ⟨q11, W11, D11, P11⟩ := Dq10
      have O11 := O4.tr P11
      have T11 : ∀ b, b ∈ (sha (tgb 3) ++ sha (tgb 3) ++ (Sg.take i).flatten ++ (Sg.getD i [])) → b < 256 := app_lt hT (by have q := W4.bB (38 + 3 * i) (by omega); rw [show B3 (38 + 3 * i) = (Sg.getD i []) from hB8] at q; exact q)
      refine jr_iinc (v := nI (i + 1)) (lv' := [(1, .int (nI (i + 1))), (0, .ref (c 7))]) hE dX4_listKeys_39 0 rfl (nI_1 _) (by decide) rfl ?_
      refine jr_goto (tgt := 10) hE dX4_listKeys_42 (by decide) ?_
      refine jr_lv (lv' := [(1, .int (nI (i + 1))), (0, .ref (c 7))]) [0, 1] rfl ?_
      exact ih (i + 1) F9 q11 (by omega) W11 (by rw [tf_s (by omega), ← List.append_assoc]; exact D11) (by rw [tf_s (by omega), ← List.append_assoc]; exact T11) O11
  exact loop Sg.length 0 F1 q3 (by omega) W3 (by rw [List.take_zero, List.flatten_nil, List.append_nil]; exact D3) (by rw [List.take_zero, List.flatten_nil, List.append_nil]; exact T3) O3

set_option maxHeartbeats 4000000 in
set_option maxRecDepth 100000 in
theorem c_g_findSecond (l : Launch) (G : Nat → ClassId) (c : Nat → Nat) (B : Nat → List Nat) (S : Nat → Nat) (P : Nat → JP) (q : SS) (X : Nat) (v : Nat → Int32) (Sg : List (List Nat)) : jKi l yX4_findSecond wsX4_findSecond ({ frames := 2, cells := 0, slots := 0, locals := 44 }) G [.ref (c 7)] (fun L F => CW G L F c B S P q X v ∧ (∀ j, j < Sg.length → B (38 + 3 * j) = Sg.getD j [] ∧ (Sg.getD j []).length = 33) ∧ v 2 = nI Sg.length ∧ Sg.length ≤ 4) (fun L F r F1 => F = F1 ∧ ∃ s0, r = nI s0 ∧ s0 < 4 ∧ ((s0 = 0 ∧ ∀ t, t < Sg.length → Sg.getD t [] = Sg.getD 0 []) ∨ isSec (fun j => Sg.getD j []) Sg.length s0)) := by
  refine jm_ki (cc := cX4_findSecond) (maxL := 2) (rt := .int) (by decide) rfl (Nat.le_of_ble_eq_true rfl) ?_
  intro E L F hE hR hpre
  have hE : jOk E G _ cX4_findSecond 2 RX4 wsX4_findSecond := hE

  have f7 : jFl RX4 wsX4_findSecond 7 4 0 := ⟨rfl, by decide, by decide +kernel, by decide +kernel⟩
  have f28 : jFl RX4 wsX4_findSecond 28 4 6 := ⟨rfl, by decide, by decide +kernel, by decide +kernel⟩
  have f108 : jFl RX4 wsX4_findSecond 108 5 0 := ⟨rfl, by decide, by decide +kernel, by decide +kernel⟩
  obtain ⟨W0, hSg, hsz, h4⟩ := hpre
  have loop : ∀ (r0 i : Nat), i + r0 = 4 → 1 ≤ i → (∀ t, 1 ≤ t → t < i → Sg.getD t [] = Sg.getD 0 []) → J E L F 0 0 2 [(1, .int (nI i)), (0, .ref (c 7))] [] := by
    intro r0
    induction r0 with
    | zero =>
      intro i hi hi1 heq
      refine jr_iload_n hE dX4_findSecond_2 0 rfl ?_
      refine jr_aload_n hE dX4_findSecond_3 1 rfl ?_
      refine jr_get hE dX4_findSecond_4 f7 W0.o7 rfl ?_
      rw [show v 2 = (nI Sg.length) from hsz]
      refine jr_icmp_ge (tgt := 47) hE dX4_findSecond_7 (by decide) (fun c_7 => ?_) (fun c_7 => absurd (nI_le (a := Sg.length) (by omega) (by omega)) c_7)
      refine jr_iconst (v := (0 : Int32)) hE dX4_findSecond_47 (by decide) ?_
      exact hR F _ _ _ dX4_findSecond_48 rfl ⟨rfl, 0, rfl, by decide, Or.inl ⟨rfl, fun t ht => by
        by_cases e : t = 0
        · rw [e]
        · exact heq t (by omega) (by omega)⟩⟩
    | succ r0 ih =>
      intro i hi hi1 heq
      refine jr_iload_n hE dX4_findSecond_2 0 rfl ?_
      refine jr_aload_n hE dX4_findSecond_3 1 rfl ?_
      refine jr_get hE dX4_findSecond_4 f7 W0.o7 rfl ?_
      rw [show v 2 = (nI Sg.length) from hsz]
      refine jr_icmp_ge (tgt := 47) hE dX4_findSecond_7 (by decide) (fun c7 => ?_) (fun c7 => ?_)
      · refine jr_iconst (v := (0 : Int32)) hE dX4_findSecond_47 (by decide) ?_
        have hle : Sg.length ≤ i := nI_leC (by omega) (by omega) c7
        exact hR F _ _ _ dX4_findSecond_48 rfl ⟨rfl, 0, rfl, by decide, Or.inl ⟨rfl, fun t ht => by
          by_cases e : t = 0
          · rw [e]
          · exact heq t (by omega) (by omega)⟩⟩
      · have hlt : i < Sg.length := Nat.lt_of_not_le (fun h => c7 (nI_le h (by omega)))
        obtain ⟨d1, d2⟩ := hSg i hlt
        obtain ⟨g1, g2⟩ := hSg 0 (by omega)
        refine jr_iload_n hE dX4_findSecond_10 0 rfl ?_
        refine jr_iconst (v := (4 : Int32)) hE dX4_findSecond_11 (by decide) ?_
        refine jr_icmp_ge (tgt := 47) hE dX4_findSecond_12 (by decide) (fun c_12 => absurd c_12 (nI_ge (b := 4) (by omega) (by omega))) (fun c_12 => ?_)
        refine jr_aload_n hE dX4_findSecond_15 1 rfl ?_
        refine jr_get hE dX4_findSecond_16 f28 W0.o7 rfl ?_
        refine jr_iload_n hE dX4_findSecond_19 0 rfl ?_
        obtain ⟨f1, ja1, ga1⟩ := W0.aM
        refine jr_aald (v := c (29 + i)) hE dX4_findSecond_20 ja1 rfl (vp_in_nI (n := i) (by omega) (by decide)) (by rw [nI_clamp (by omega)]; exact ga1 i (by omega)) ?_
        refine jr_get hE dX4_findSecond_21 f108 (W0.oM i (by omega)) rfl ?_
        refine jr_aload_n hE dX4_findSecond_24 1 rfl ?_
        refine jr_get hE dX4_findSecond_25 f28 W0.o7 rfl ?_
        refine jr_iconst (v := (0 : Int32)) hE dX4_findSecond_28 (by decide) ?_
        obtain ⟨f2, ja2, ga2⟩ := W0.aM
        refine jr_aald (v := c (29 + 0)) hE dX4_findSecond_29 ja2 rfl (vp_in_nI (n := 0) (by decide) (by decide)) (ga2 0 (by decide)) ?_
        refine jr_get hE dX4_findSecond_30 f108 (W0.oM 0 (by decide)) rfl ?_
        refine jr_kVi (ci := 0) (n := 1) (As := [.ref (c (270 + 2 * (38 + 3 * 0)))]) (rest := []) hE dX4_findSecond_33 (fun l => c_X0_isLike l G (c (270 + 2 * (38 + 3 * i))) (c (271 + 2 * (38 + 3 * i))) (bcap (38 + 3 * i)) (c (270 + 2 * (38 + 3 * 0))) (c (271 + 2 * (38 + 3 * 0))) (bcap (38 + 3 * 0)) (Sg.getD i []) (Sg.getD 0 [])) gX4_findSecond_X0_isLike rfl ((W0.by (38 + 3 * i) (by omega)).ob) rfl (by decide +kernel) ⟨rfl, rfl, by decide, by decide⟩ (by decide) rfl rfl (Nat.le_of_ble_eq_true rfl) (⟨(by have q := W0.by (38 + 3 * i) (by omega); rw [show B (38 + 3 * i) = (Sg.getD i []) from d1] at q; exact q), (by have q := W0.by (38 + 3 * 0) (by decide); rw [show B (38 + 3 * 0) = (Sg.getD 0 []) from g1] at q; exact q)⟩) (fun r5 F3 q4 => ?_)
        obtain ⟨eq4, rq4⟩ := q4
        subst eq4 rq4
        refine jr_if_ne (tgt := 41) hE dX4_findSecond_36 (by decide) (fun c36 => ?_) (fun c36 => ?_)
        · refine jr_iinc (v := nI (i + 1)) (lv' := [(1, .int (nI (i + 1))), (0, .ref (c 7))]) hE dX4_findSecond_41 0 rfl (nI_1 _) (by decide) rfl ?_
          refine jr_goto (tgt := 2) hE dX4_findSecond_44 (by decide) ?_
          refine jr_lv (lv' := [(1, .int (nI (i + 1))), (0, .ref (c 7))]) [0, 1] rfl ?_
          exact ih (i + 1) (by omega) (by omega) (fun t h1 h2 => by
            by_cases e : t = i
            · rw [e]; exact b2i_1 c36
            · exact heq t h1 (by omega))
        · refine jr_iload_n hE dX4_findSecond_39 0 rfl ?_
          exact hR F _ _ _ dX4_findSecond_40 rfl ⟨rfl, i, rfl, by omega, Or.inr ⟨hi1, hlt, heq, fun e => absurd (b2i_t e) (by rw [c36]; decide)⟩⟩
  refine jr_iconst (v := (1 : Int32)) hE dX4_findSecond_0 (by decide) ?_
  refine jr_istore_n (lv' := [(1, .int (1 : Int32)), (0, .ref (c 7))]) hE dX4_findSecond_1 (by decide) rfl ?_
  refine jr_lv (lv' := [(1, .int (1 : Int32)), (0, .ref (c 7))]) [0, 1] rfl ?_
  exact loop 3 1 rfl (by omega) (fun t h1 h2 => absurd h1 (by omega))

set_option maxHeartbeats 4000000 in
set_option maxRecDepth 100000 in
theorem c_g_weigh (l : Launch) (G : Nat → ClassId) (c : Nat → Nat) (B : Nat → List Nat) (S : Nat → Nat) (P : Nat → JP) (q : SS) (X : Nat) (v : Nat → Int32) (Sg : List (List Nat)) (j s0 : Nat) : jKv l yX4_weigh wsX4_weigh ({ frames := 5, cells := 0, slots := 0, locals := 108 }) G [.ref (c 7), .ref (c (29 + j)), .int (nI s0)] (fun L F => CW G L F c B S P q X v ∧ (∀ j, j < Sg.length → B (38 + 3 * j) = Sg.getD j [] ∧ (Sg.getD j []).length = 33) ∧ v 2 = nI Sg.length ∧ Sg.length ≤ 4 ∧ j < Sg.length ∧ s0 < 4 ∧ ((s0 = 0 ∧ ∀ t, t < Sg.length → Sg.getD t [] = Sg.getD 0 []) ∨ isSec (fun j => Sg.getD j []) Sg.length s0) ∧ B 23 = (sha (sha (tgb 3) ++ sha (tgb 3) ++ Sg.flatten))) (fun L F F1 => ∃ B' S' q', CW G L F1 c B' S' P q' X v ∧ (∀ i, i ∉ [17, 22] → B' i = B i) ∧ (∀ i, i ∉ [(18 + 3 * j)] → S' i = S i) ∧ S' (18 + 3 * j) = wKs Sg j ∧ cO c F F1) := by
  refine jm_kv (cc := cX4_weigh) (maxL := 3) (by decide) rfl (Nat.le_of_ble_eq_true rfl) ?_
  intro E L F hE hR hpre
  have hE : jOk E G _ cX4_weigh 3 RX4 wsX4_weigh := hE
  obtain ⟨W0, hSg, hsz, h4, hj, hs4, hs, hlist⟩ := hpre
  obtain ⟨hKj, hlj⟩ := hSg j hj
  have f79 : jFl RX4 wsX4_weigh 79 4 3 := ⟨rfl, by decide, by decide +kernel, by decide +kernel⟩
  have f35 : jFl RX4 wsX4_weigh 35 4 8 := ⟨rfl, by decide, by decide +kernel, by decide +kernel⟩
  have f108 : jFl RX4 wsX4_weigh 108 5 0 := ⟨rfl, by decide, by decide +kernel, by decide +kernel⟩
  have f32 : jFl RX4 wsX4_weigh 32 4 7 := ⟨rfl, by decide, by decide +kernel, by decide +kernel⟩
  have f142 : jFl RX4 wsX4_weigh 142 5 2 := ⟨rfl, by decide, by decide +kernel, by decide +kernel⟩
  have f28 : jFl RX4 wsX4_weigh 28 4 6 := ⟨rfl, by decide, by decide +kernel, by decide +kernel⟩
  refine jr_iload_n hE dX4_weigh_0 2 rfl ?_
  refine jr_if_le (tgt := 37) hE dX4_weigh_1 (by decide) (fun c1 => ?_) (fun c1 => ?_)
  · refine jr_aload_n hE dX4_weigh_37 0 rfl ?_
    refine jr_get hE dX4_weigh_38 f79 W0.o7 rfl ?_
    refine jr_iconst (v := (4 : Int32)) hE dX4_weigh_41 (by decide) ?_
    refine jr_kVv (ci := 9) (n := 1) (As := [.int (4 : Int32)]) (rest := []) hE dX4_weigh_42 (fun l => c_X9_beginT l G (c 3) (c 4) (c 5) (c (270 + 2 * 17)) (c (271 + 2 * 17)) (bcap 17) 4 q (B 17)) gX4_weigh_X9_beginBy rfl W0.sh.1 rfl (by decide +kernel) ⟨rfl, rfl, by decide, by decide⟩ (by decide) rfl rfl (Nat.le_of_ble_eq_true rfl) (W0.beginTpre (i := 4) (by decide)) (fun F1 q2 => ?_)
    obtain ⟨q3, W3, D3, P3⟩ := W0.beginT (i := 4) (by decide) q2
    have O3 := (cO.rf c F).tr P3
    obtain ⟨B3, eB3, hB3, yB3⟩ := uz_ab B 17 (sha (tgb 4))
    rw [eB3] at W3
    have nB3 : ∀ z, z ≠ 17 → B3 z = B z := fun z hz => hB3 z (fun e => hz (List.mem_singleton.mp e))
    have T3 : ∀ b, b ∈ (sha (tgb 4) ++ sha (tgb 4)) → b < 256 := app_lt (sha_lt _) (sha_lt _)
    refine jr_aload_n hE dX4_weigh_45 0 rfl ?_
    refine jr_get hE dX4_weigh_46 f79 W3.o7 rfl ?_
    refine jr_aload_n hE dX4_weigh_49 0 rfl ?_
    refine jr_get hE dX4_weigh_50 f35 W3.o7 rfl ?_
    have hB4 : B3 23 = (sha (sha (tgb 3) ++ sha (tgb 3) ++ Sg.flatten)) := (nB3 23 (by decide)).trans hlist
    refine jr_kVv (ci := 9) (n := 1) (As := [.ref (c (270 + 2 * 23))]) (rest := []) hE dX4_weigh_53 (fun l => c_X9_takeAll l G (c 3) (c 4) (c 5) (c (270 + 2 * 17)) (c (270 + 2 * 23)) (c (271 + 2 * 23)) (bcap 23) q3 (sha (sha (tgb 3) ++ sha (tgb 3) ++ Sg.flatten))) gX4_weigh_X9_takeAll rfl W3.sh.1 rfl (by decide +kernel) ⟨rfl, rfl, by decide, by decide⟩ (by decide) rfl rfl (Nat.le_of_ble_eq_true rfl) (⟨W3.sh, (by have q := W3.by 23 (by decide); rw [show B3 23 = (sha (sha (tgb 3) ++ sha (tgb 3) ++ Sg.flatten)) from hB4] at q; exact q), (W3.shB 23 (by decide) trivial D3 (by simp only [List.length_append, List.length_cons, List.length_nil, List.length_take, List.length_drop, sha_len, bex_len, pbE_len, xorL_len, List.length_replicate]; omega)).2.2.1, (W3.shB 23 (by decide) trivial D3 (by simp only [List.length_append, List.length_cons, List.length_nil, List.length_take, List.length_drop, sha_len, bex_len, pbE_len, xorL_len, List.length_replicate]; omega)).2.2.2⟩) (fun F5 q6 => ?_)
    have Dq6 := W3.takeA D3 q6
    obtain ⟨q7, W7, D7, P7⟩ := Dq6
    have O7 := O3.tr P7
    have T7 : ∀ b, b ∈ (sha (tgb 4) ++ sha (tgb 4) ++ (sha (sha (tgb 3) ++ sha (tgb 3) ++ Sg.flatten))) → b < 256 := app_lt T3 (by have q := W3.bB 23 (by decide); rw [show B3 23 = (sha (sha (tgb 3) ++ sha (tgb 3) ++ Sg.flatten)) from hB4] at q; exact q)
    refine jr_aload_n hE dX4_weigh_56 0 rfl ?_
    refine jr_get hE dX4_weigh_57 f79 W7.o7 rfl ?_
    refine jr_aload_n hE dX4_weigh_60 1 rfl ?_
    refine jr_get hE dX4_weigh_61 f108 (W7.oM j (by omega)) rfl ?_
    have hB8 : B3 (38 + 3 * j) = (Sg.getD j []) := (nB3 (38 + 3 * j) (by omega)).trans hKj
    refine jr_kVv (ci := 9) (n := 1) (As := [.ref (c (270 + 2 * (38 + 3 * j)))]) (rest := []) hE dX4_weigh_64 (fun l => c_X9_takeAll l G (c 3) (c 4) (c 5) (c (270 + 2 * 17)) (c (270 + 2 * (38 + 3 * j))) (c (271 + 2 * (38 + 3 * j))) (bcap (38 + 3 * j)) q7 (Sg.getD j [])) gX4_weigh_X9_takeAll rfl W7.sh.1 rfl (by decide +kernel) ⟨rfl, rfl, by decide, by decide⟩ (by decide) rfl rfl (Nat.le_of_ble_eq_true rfl) (⟨W7.sh, (by have q := W7.by (38 + 3 * j) (by omega); rw [show B3 (38 + 3 * j) = (Sg.getD j []) from hB8] at q; exact q), (W7.shB (38 + 3 * j) (by omega) trivial D7 (by simp only [List.length_append, List.length_cons, List.length_nil, List.length_take, List.length_drop, sha_len, bex_len, pbE_len, xorL_len, List.length_replicate]; omega)).2.2.1, (W7.shB (38 + 3 * j) (by omega) trivial D7 (by simp only [List.length_append, List.length_cons, List.length_nil, List.length_take, List.length_drop, sha_len, bex_len, pbE_len, xorL_len, List.length_replicate]; omega)).2.2.2⟩) (fun F9 q10 => ?_)
    have Dq10 := W7.takeA D7 q10
    obtain ⟨q11, W11, D11, P11⟩ := Dq10
    have O11 := O7.tr P11
    have T11 : ∀ b, b ∈ (sha (tgb 4) ++ sha (tgb 4) ++ (sha (sha (tgb 3) ++ sha (tgb 3) ++ Sg.flatten)) ++ (Sg.getD j [])) → b < 256 := app_lt T7 (by have q := W7.bB (38 + 3 * j) (by omega); rw [show B3 (38 + 3 * j) = (Sg.getD j []) from hB8] at q; exact q)
    refine jr_aload_n hE dX4_weigh_67 0 rfl ?_
    refine jr_get hE dX4_weigh_68 f79 W11.o7 rfl ?_
    refine jr_aload_n hE dX4_weigh_71 0 rfl ?_
    refine jr_get hE dX4_weigh_72 f32 W11.o7 rfl ?_
    refine jr_kVv (ci := 9) (n := 1) (As := [.ref (c (270 + 2 * 22))]) (rest := []) hE dX4_weigh_75 (fun l => c_X9_finish l G (c 3) (c 4) (c 5) (c (270 + 2 * 17)) (c (270 + 2 * 22)) (c (271 + 2 * 22)) (bcap 22) q11 (B3 22)) gX4_weigh_X9_finish rfl W11.sh.1 rfl (by decide +kernel) ⟨rfl, rfl, by decide, by decide⟩ (by decide) rfl rfl (Nat.le_of_ble_eq_true rfl) (⟨W11.sh, W11.by 22 (by decide), (W11.shB 22 (by decide) trivial D11 (by simp only [List.length_append, List.length_cons, List.length_nil, List.length_take, List.length_drop, sha_len, bex_len, pbE_len, xorL_len, List.length_replicate]; omega)).2.2.1, by decide, (W11.shB 22 (by decide) trivial D11 (by simp only [List.length_append, List.length_cons, List.length_nil, List.length_take, List.length_drop, sha_len, bex_len, pbE_len, xorL_len, List.length_replicate]; omega)).2.2.2⟩) (fun F12 q13 => ?_)
    obtain ⟨q14, W14, P14⟩ := W11.finP (i := 22) (by decide) D11 T11 (by simp only [List.length_append, List.length_cons, List.length_nil, List.length_take, List.length_drop, sha_len, bex_len, pbE_len, xorL_len, List.length_replicate]; omega) q13
    have O14 := O11.tr P14
    obtain ⟨B14, eB14, hB14, yB14⟩ := uz_ab B3 22 (sha (sha (tgb 4) ++ sha (tgb 4) ++ (sha (sha (tgb 3) ++ sha (tgb 3) ++ Sg.flatten)) ++ (Sg.getD j [])))
    rw [eB14] at W14
    have nB14 : ∀ z, z ≠ 22 → B14 z = B3 z := fun z hz => hB14 z (fun e => hz (List.mem_singleton.mp e))
    refine jr_aload_n hE dX4_weigh_78 1 rfl ?_
    refine jr_get hE dX4_weigh_79 f142 (W14.oM j (by omega)) rfl ?_
    refine jr_aload_n hE dX4_weigh_82 0 rfl ?_
    refine jr_get hE dX4_weigh_83 f32 W14.o7 rfl ?_
    refine jr_kVv (ci := 8) (n := 1) (As := [.ref (c (270 + 2 * 22))]) (rest := []) hE dX4_weigh_86 (fun l => c_X8_takeDigest l G (c (210 + 2 * (18 + 3 * j))) (c (211 + 2 * (18 + 3 * j))) (c (270 + 2 * 22)) (c (271 + 2 * 22)) (bcap 22) (S (18 + 3 * j)) (sha (sha (tgb 4) ++ sha (tgb 4) ++ (sha (sha (tgb 3) ++ sha (tgb 3) ++ Sg.flatten)) ++ (Sg.getD j [])))) gX4_weigh_X8_takeDigest rfl ((W14.sc (18 + 3 * j) (by omega)).ob) rfl (by decide +kernel) ⟨rfl, rfl, by decide, by decide⟩ (by decide) rfl rfl (Nat.le_of_ble_eq_true rfl) (⟨(W14.sc (18 + 3 * j) (by omega)), (by have q := W14.by 22 (by decide); rw [show B14 22 = (sha (sha (tgb 4) ++ sha (tgb 4) ++ (sha (sha (tgb 3) ++ sha (tgb 3) ++ Sg.flatten)) ++ (Sg.getD j []))) from yB14] at q; exact q), sha_len _, cnd W14.1 [210 + 2 * (18 + 3 * j), 211 + 2 * (18 + 3 * j), 270 + 2 * 22, 271 + 2 * 22] (by simp only [List.mem_cons, List.not_mem_nil, or_false]; omega) (by simp only [List.nodup_cons, List.mem_cons, List.not_mem_nil, or_false, not_or, List.nodup_nil, not_false_eq_true, and_true]; omega)⟩) (fun F15 q16 => ?_)
    obtain ⟨h17, u17⟩ := q16
    obtain ⟨W17, P17⟩ := W14.setS (i := (18 + 3 * j)) (x := (bnum (sha (sha (tgb 4) ++ sha (tgb 4) ++ (sha (sha (tgb 3) ++ sha (tgb 3) ++ Sg.flatten)) ++ (Sg.getD j []))) % NN)) (by omega) h17 u17
    have O17 := O14.tr P17
    obtain ⟨S17, eS17, hS17, yS17⟩ := uz_ab S (18 + 3 * j) (bnum (sha (sha (tgb 4) ++ sha (tgb 4) ++ (sha (sha (tgb 3) ++ sha (tgb 3) ++ Sg.flatten)) ++ (Sg.getD j []))) % NN)
    rw [eS17] at W17
    have nS17 : ∀ z, z ≠ (18 + 3 * j) → S17 z = S z := fun z hz => hS17 z (fun e => hz (List.mem_singleton.mp e))
    exact hR F15 _ _ dX4_weigh_89 ⟨_, _, _, W17, (fun z hz => ((nB14 z (by simp only [List.mem_cons, List.not_mem_nil, or_false, not_or] at hz; omega)).trans (nB3 z (by simp only [List.mem_cons, List.not_mem_nil, or_false, not_or] at hz; omega)))), (fun z hz => (nS17 z (by simp only [List.mem_cons, List.not_mem_nil, or_false, not_or] at hz; omega))), yS17.trans (Eq.symm (wgt_0 (by
      rcases hs with q | q
      · exact q.2
      · exact absurd (nI_leC (m := 0) (by omega) (by decide) c1) (by have := q.1; omega)) : wKs Sg j = (bnum (sha (sha (tgb 4) ++ sha (tgb 4) ++ (sha (sha (tgb 3) ++ sha (tgb 3) ++ Sg.flatten)) ++ Sg.getD j [])) % NN))), O17⟩
  · refine jr_iload_n hE dX4_weigh_4 2 rfl ?_
    refine jr_iconst (v := (4 : Int32)) hE dX4_weigh_5 (by decide) ?_
    have hs0 : isSec (fun j => Sg.getD j []) Sg.length s0 := by
      rcases hs with q | q
      · exact absurd (show nI s0 ≤ 0 by rw [q.1]; decide) c1
      · exact q
    have hsl := hs0.2.1
    obtain ⟨g1, g2⟩ := hSg s0 hsl
    refine jr_icmp_ge (tgt := 37) hE dX4_weigh_6 (by decide) (fun c_6 => absurd c_6 (nI_ge (b := 4) (by omega) (by omega))) (fun c_6 => ?_)
    refine jr_aload_n hE dX4_weigh_9 1 rfl ?_
    refine jr_get hE dX4_weigh_10 f108 (W0.oM j (by omega)) rfl ?_
    refine jr_aload_n hE dX4_weigh_13 0 rfl ?_
    refine jr_get hE dX4_weigh_14 f28 W0.o7 rfl ?_
    refine jr_iload_n hE dX4_weigh_17 2 rfl ?_
    obtain ⟨f18, ja18, ga18⟩ := W0.aM
    refine jr_aald (v := c (29 + s0)) hE dX4_weigh_18 ja18 rfl (vp_in_nI (n := s0) (by omega) (by decide)) (by rw [nI_clamp (by omega)]; exact ga18 s0 (by omega)) ?_
    refine jr_get hE dX4_weigh_19 f108 (W0.oM s0 (by omega)) rfl ?_
    refine jr_kVi (ci := 0) (n := 1) (As := [.ref (c (270 + 2 * (38 + 3 * s0)))]) (rest := []) hE dX4_weigh_22 (fun l => c_X0_isLike l G (c (270 + 2 * (38 + 3 * j))) (c (271 + 2 * (38 + 3 * j))) (bcap (38 + 3 * j)) (c (270 + 2 * (38 + 3 * s0))) (c (271 + 2 * (38 + 3 * s0))) (bcap (38 + 3 * s0)) (Sg.getD j []) (Sg.getD s0 [])) gX4_weigh_X0_isLike rfl ((W0.by (38 + 3 * j) (by omega)).ob) rfl (by decide +kernel) ⟨rfl, rfl, by decide, by decide⟩ (by decide) rfl rfl (Nat.le_of_ble_eq_true rfl) (⟨(by have q := W0.by (38 + 3 * j) (by omega); rw [show B (38 + 3 * j) = (Sg.getD j []) from hKj] at q; exact q), (by have q := W0.by (38 + 3 * s0) (by omega); rw [show B (38 + 3 * s0) = (Sg.getD s0 []) from g1] at q; exact q)⟩) (fun r21 F19 q20 => ?_)
    obtain ⟨eq20, rq20⟩ := q20
    subst eq20 rq20
    refine jr_if_eq (tgt := 37) hE dX4_weigh_25 (by decide) (fun c25 => ?_) (fun c25 => ?_)
    · refine jr_aload_n hE dX4_weigh_37 0 rfl ?_
      refine jr_get hE dX4_weigh_38 f79 W0.o7 rfl ?_
      refine jr_iconst (v := (4 : Int32)) hE dX4_weigh_41 (by decide) ?_
      refine jr_kVv (ci := 9) (n := 1) (As := [.int (4 : Int32)]) (rest := []) hE dX4_weigh_42 (fun l => c_X9_beginT l G (c 3) (c 4) (c 5) (c (270 + 2 * 17)) (c (271 + 2 * 17)) (bcap 17) 4 q (B 17)) gX4_weigh_X9_beginBy rfl W0.sh.1 rfl (by decide +kernel) ⟨rfl, rfl, by decide, by decide⟩ (by decide) rfl rfl (Nat.le_of_ble_eq_true rfl) (W0.beginTpre (i := 4) (by decide)) (fun F22 q23 => ?_)
      obtain ⟨q24, W24, D24, P24⟩ := W0.beginT (i := 4) (by decide) q23
      have O24 := (cO.rf c F).tr P24
      obtain ⟨B24, eB24, hB24, yB24⟩ := uz_ab B 17 (sha (tgb 4))
      rw [eB24] at W24
      have nB24 : ∀ z, z ≠ 17 → B24 z = B z := fun z hz => hB24 z (fun e => hz (List.mem_singleton.mp e))
      have T24 : ∀ b, b ∈ (sha (tgb 4) ++ sha (tgb 4)) → b < 256 := app_lt (sha_lt _) (sha_lt _)
      refine jr_aload_n hE dX4_weigh_45 0 rfl ?_
      refine jr_get hE dX4_weigh_46 f79 W24.o7 rfl ?_
      refine jr_aload_n hE dX4_weigh_49 0 rfl ?_
      refine jr_get hE dX4_weigh_50 f35 W24.o7 rfl ?_
      have hB25 : B24 23 = (sha (sha (tgb 3) ++ sha (tgb 3) ++ Sg.flatten)) := (nB24 23 (by decide)).trans hlist
      refine jr_kVv (ci := 9) (n := 1) (As := [.ref (c (270 + 2 * 23))]) (rest := []) hE dX4_weigh_53 (fun l => c_X9_takeAll l G (c 3) (c 4) (c 5) (c (270 + 2 * 17)) (c (270 + 2 * 23)) (c (271 + 2 * 23)) (bcap 23) q24 (sha (sha (tgb 3) ++ sha (tgb 3) ++ Sg.flatten))) gX4_weigh_X9_takeAll rfl W24.sh.1 rfl (by decide +kernel) ⟨rfl, rfl, by decide, by decide⟩ (by decide) rfl rfl (Nat.le_of_ble_eq_true rfl) (⟨W24.sh, (by have q := W24.by 23 (by decide); rw [show B24 23 = (sha (sha (tgb 3) ++ sha (tgb 3) ++ Sg.flatten)) from hB25] at q; exact q), (W24.shB 23 (by decide) trivial D24 (by simp only [List.length_append, List.length_cons, List.length_nil, List.length_take, List.length_drop, sha_len, bex_len, pbE_len, xorL_len, List.length_replicate]; omega)).2.2.1, (W24.shB 23 (by decide) trivial D24 (by simp only [List.length_append, List.length_cons, List.length_nil, List.length_take, List.length_drop, sha_len, bex_len, pbE_len, xorL_len, List.length_replicate]; omega)).2.2.2⟩) (fun F26 q27 => ?_)
      have Dq27 := W24.takeA D24 q27
      obtain ⟨q28, W28, D28, P28⟩ := Dq27
      have O28 := O24.tr P28
      have T28 : ∀ b, b ∈ (sha (tgb 4) ++ sha (tgb 4) ++ (sha (sha (tgb 3) ++ sha (tgb 3) ++ Sg.flatten))) → b < 256 := app_lt T24 (by have q := W24.bB 23 (by decide); rw [show B24 23 = (sha (sha (tgb 3) ++ sha (tgb 3) ++ Sg.flatten)) from hB25] at q; exact q)
      refine jr_aload_n hE dX4_weigh_56 0 rfl ?_
      refine jr_get hE dX4_weigh_57 f79 W28.o7 rfl ?_
      refine jr_aload_n hE dX4_weigh_60 1 rfl ?_
      refine jr_get hE dX4_weigh_61 f108 (W28.oM j (by omega)) rfl ?_
      have hB29 : B24 (38 + 3 * j) = (Sg.getD j []) := (nB24 (38 + 3 * j) (by omega)).trans hKj
      refine jr_kVv (ci := 9) (n := 1) (As := [.ref (c (270 + 2 * (38 + 3 * j)))]) (rest := []) hE dX4_weigh_64 (fun l => c_X9_takeAll l G (c 3) (c 4) (c 5) (c (270 + 2 * 17)) (c (270 + 2 * (38 + 3 * j))) (c (271 + 2 * (38 + 3 * j))) (bcap (38 + 3 * j)) q28 (Sg.getD j [])) gX4_weigh_X9_takeAll rfl W28.sh.1 rfl (by decide +kernel) ⟨rfl, rfl, by decide, by decide⟩ (by decide) rfl rfl (Nat.le_of_ble_eq_true rfl) (⟨W28.sh, (by have q := W28.by (38 + 3 * j) (by omega); rw [show B24 (38 + 3 * j) = (Sg.getD j []) from hB29] at q; exact q), (W28.shB (38 + 3 * j) (by omega) trivial D28 (by simp only [List.length_append, List.length_cons, List.length_nil, List.length_take, List.length_drop, sha_len, bex_len, pbE_len, xorL_len, List.length_replicate]; omega)).2.2.1, (W28.shB (38 + 3 * j) (by omega) trivial D28 (by simp only [List.length_append, List.length_cons, List.length_nil, List.length_take, List.length_drop, sha_len, bex_len, pbE_len, xorL_len, List.length_replicate]; omega)).2.2.2⟩) (fun F30 q31 => ?_)
      have Dq31 := W28.takeA D28 q31
      obtain ⟨q32, W32, D32, P32⟩ := Dq31
      have O32 := O28.tr P32
      have T32 : ∀ b, b ∈ (sha (tgb 4) ++ sha (tgb 4) ++ (sha (sha (tgb 3) ++ sha (tgb 3) ++ Sg.flatten)) ++ (Sg.getD j [])) → b < 256 := app_lt T28 (by have q := W28.bB (38 + 3 * j) (by omega); rw [show B24 (38 + 3 * j) = (Sg.getD j []) from hB29] at q; exact q)
      refine jr_aload_n hE dX4_weigh_67 0 rfl ?_
      refine jr_get hE dX4_weigh_68 f79 W32.o7 rfl ?_
      refine jr_aload_n hE dX4_weigh_71 0 rfl ?_
      refine jr_get hE dX4_weigh_72 f32 W32.o7 rfl ?_
      refine jr_kVv (ci := 9) (n := 1) (As := [.ref (c (270 + 2 * 22))]) (rest := []) hE dX4_weigh_75 (fun l => c_X9_finish l G (c 3) (c 4) (c 5) (c (270 + 2 * 17)) (c (270 + 2 * 22)) (c (271 + 2 * 22)) (bcap 22) q32 (B24 22)) gX4_weigh_X9_finish rfl W32.sh.1 rfl (by decide +kernel) ⟨rfl, rfl, by decide, by decide⟩ (by decide) rfl rfl (Nat.le_of_ble_eq_true rfl) (⟨W32.sh, W32.by 22 (by decide), (W32.shB 22 (by decide) trivial D32 (by simp only [List.length_append, List.length_cons, List.length_nil, List.length_take, List.length_drop, sha_len, bex_len, pbE_len, xorL_len, List.length_replicate]; omega)).2.2.1, by decide, (W32.shB 22 (by decide) trivial D32 (by simp only [List.length_append, List.length_cons, List.length_nil, List.length_take, List.length_drop, sha_len, bex_len, pbE_len, xorL_len, List.length_replicate]; omega)).2.2.2⟩) (fun F33 q34 => ?_)
      obtain ⟨q35, W35, P35⟩ := W32.finP (i := 22) (by decide) D32 T32 (by simp only [List.length_append, List.length_cons, List.length_nil, List.length_take, List.length_drop, sha_len, bex_len, pbE_len, xorL_len, List.length_replicate]; omega) q34
      have O35 := O32.tr P35
      obtain ⟨B35, eB35, hB35, yB35⟩ := uz_ab B24 22 (sha (sha (tgb 4) ++ sha (tgb 4) ++ (sha (sha (tgb 3) ++ sha (tgb 3) ++ Sg.flatten)) ++ (Sg.getD j [])))
      rw [eB35] at W35
      have nB35 : ∀ z, z ≠ 22 → B35 z = B24 z := fun z hz => hB35 z (fun e => hz (List.mem_singleton.mp e))
      refine jr_aload_n hE dX4_weigh_78 1 rfl ?_
      refine jr_get hE dX4_weigh_79 f142 (W35.oM j (by omega)) rfl ?_
      refine jr_aload_n hE dX4_weigh_82 0 rfl ?_
      refine jr_get hE dX4_weigh_83 f32 W35.o7 rfl ?_
      refine jr_kVv (ci := 8) (n := 1) (As := [.ref (c (270 + 2 * 22))]) (rest := []) hE dX4_weigh_86 (fun l => c_X8_takeDigest l G (c (210 + 2 * (18 + 3 * j))) (c (211 + 2 * (18 + 3 * j))) (c (270 + 2 * 22)) (c (271 + 2 * 22)) (bcap 22) (S (18 + 3 * j)) (sha (sha (tgb 4) ++ sha (tgb 4) ++ (sha (sha (tgb 3) ++ sha (tgb 3) ++ Sg.flatten)) ++ (Sg.getD j [])))) gX4_weigh_X8_takeDigest rfl ((W35.sc (18 + 3 * j) (by omega)).ob) rfl (by decide +kernel) ⟨rfl, rfl, by decide, by decide⟩ (by decide) rfl rfl (Nat.le_of_ble_eq_true rfl) (⟨(W35.sc (18 + 3 * j) (by omega)), (by have q := W35.by 22 (by decide); rw [show B35 22 = (sha (sha (tgb 4) ++ sha (tgb 4) ++ (sha (sha (tgb 3) ++ sha (tgb 3) ++ Sg.flatten)) ++ (Sg.getD j []))) from yB35] at q; exact q), sha_len _, cnd W35.1 [210 + 2 * (18 + 3 * j), 211 + 2 * (18 + 3 * j), 270 + 2 * 22, 271 + 2 * 22] (by simp only [List.mem_cons, List.not_mem_nil, or_false]; omega) (by simp only [List.nodup_cons, List.mem_cons, List.not_mem_nil, or_false, not_or, List.nodup_nil, not_false_eq_true, and_true]; omega)⟩) (fun F36 q37 => ?_)
      obtain ⟨h38, u38⟩ := q37
      obtain ⟨W38, P38⟩ := W35.setS (i := (18 + 3 * j)) (x := (bnum (sha (sha (tgb 4) ++ sha (tgb 4) ++ (sha (sha (tgb 3) ++ sha (tgb 3) ++ Sg.flatten)) ++ (Sg.getD j []))) % NN)) (by omega) h38 u38
      have O38 := O35.tr P38
      obtain ⟨S38, eS38, hS38, yS38⟩ := uz_ab S (18 + 3 * j) (bnum (sha (sha (tgb 4) ++ sha (tgb 4) ++ (sha (sha (tgb 3) ++ sha (tgb 3) ++ Sg.flatten)) ++ (Sg.getD j []))) % NN)
      rw [eS38] at W38
      have nS38 : ∀ z, z ≠ (18 + 3 * j) → S38 z = S z := fun z hz => hS38 z (fun e => hz (List.mem_singleton.mp e))
      exact hR F36 _ _ dX4_weigh_89 ⟨_, _, _, W38, (fun z hz => ((nB35 z (by simp only [List.mem_cons, List.not_mem_nil, or_false, not_or] at hz; omega)).trans (nB24 z (by simp only [List.mem_cons, List.not_mem_nil, or_false, not_or] at hz; omega)))), (fun z hz => (nS38 z (by simp only [List.mem_cons, List.not_mem_nil, or_false, not_or] at hz; omega))), yS38.trans (Eq.symm (wgt_V hs0 (fun e => absurd (b2i_t (p := Sg.getD j [] = Sg.getD s0 []) e.symm) (by rw [c25]; decide)) : wKs Sg j = (bnum (sha (sha (tgb 4) ++ sha (tgb 4) ++ (sha (sha (tgb 3) ++ sha (tgb 3) ++ Sg.flatten)) ++ Sg.getD j [])) % NN))), O38⟩
    · refine jr_aload_n hE dX4_weigh_28 1 rfl ?_
      refine jr_get hE dX4_weigh_29 f142 (W0.oM j (by omega)) rfl ?_
      refine jr_lconst (v := (1 : Int64)) hE dX4_weigh_32 (by decide) ?_
      refine jr_kVv (ci := 8) (n := 1) (As := [.long (1 : Int64)]) (rest := []) hE dX4_weigh_33 (fun l => c_X8_becomeNumber l G (c (210 + 2 * (18 + 3 * j))) (c (211 + 2 * (18 + 3 * j))) (S (18 + 3 * j)) 1) gX4_weigh_X8_becomeNumber rfl ((W0.sc (18 + 3 * j) (by omega)).ob) rfl (by decide +kernel) ⟨rfl, rfl, by decide, by decide⟩ (by decide) rfl rfl (Nat.le_of_ble_eq_true rfl) (⟨(W0.sc (18 + 3 * j) (by omega)), by decide⟩) (fun F39 q40 => ?_)
      obtain ⟨h41, u41⟩ := q40
      obtain ⟨W41, P41⟩ := W0.setS (i := (18 + 3 * j)) (x := 1) (by omega) h41 u41
      have O41 := (cO.rf c F).tr P41
      obtain ⟨S41, eS41, hS41, yS41⟩ := uz_ab S (18 + 3 * j) 1
      rw [eS41] at W41
      have nS41 : ∀ z, z ≠ (18 + 3 * j) → S41 z = S z := fun z hz => hS41 z (fun e => hz (List.mem_singleton.mp e))
      exact hR F39 _ _ dX4_weigh_36 ⟨_, _, _, W41, (fun z hz => rfl), (fun z hz => (nS41 z (by simp only [List.mem_cons, List.not_mem_nil, or_false, not_or] at hz; omega))), yS41.trans ((wgu_1 hs0 (b2i_1 (p := Sg.getD j [] = Sg.getD s0 []) c25).symm).symm), O41⟩

set_option maxHeartbeats 4000000 in
set_option maxRecDepth 100000 in
theorem c_g_joinKeys (l : Launch) (G : Nat → ClassId) (c : Nat → Nat) (B : Nat → List Nat) (S : Nat → Nat) (P : Nat → JP) (q : SS) (X : Nat) (v : Nat → Int32) (Sg : List (List Nat)) : jKi l yX4_joinKeys wsX4_joinKeys ({ frames := 6, cells := 0, slots := 0, locals := 148 }) G [.ref (c 7)] (fun L F => CW G L F c B S P q X v ∧ (∀ j, j < Sg.length → B (38 + 3 * j) = Sg.getD j [] ∧ (Sg.getD j []).length = 33) ∧ v 2 = nI Sg.length ∧ Sg.length ≤ 4 ∧ ∀ j, j < Sg.length → rep (P (29 + 3 * j)) (pKs (Sg.getD j []))) (fun L F r F1 => ∃ B' S' P' v' q', CW G L F1 c B' S' P' q' X v' ∧ (∀ i, i ∉ [17, 21, 22, 23] → B' i = B i) ∧ (∀ i, i ∉ [18, 21, 24, 27] → S' i = S i) ∧ (∀ i, i ∉ [19, 20] → P' i = P i) ∧ (∀ i, i ∉ [4] → v' i = v i) ∧ (∀ t, t < Sg.length → S' (18 + 3 * t) = wKs Sg t) ∧ ((qSs Sg Sg.length) ≠ none → B' 21 = bex (exE (qSs Sg Sg.length)) 32 ∧ v' 4 = b2i (eyN (qSs Sg Sg.length) % 2 = 1)) ∧ r = b2i ((qSs Sg Sg.length) ≠ none) ∧ cO c F F1) := by
  refine jm_ki (cc := cX4_joinKeys) (maxL := 3) (rt := .boolean) (by decide) rfl (Nat.le_of_ble_eq_true rfl) ?_
  intro E L F hE hR hpre
  have hE : jOk E G _ cX4_joinKeys 3 RX4 wsX4_joinKeys := hE
  obtain ⟨W0, hSg, hsz, h4, hPk⟩ := hpre
  have f66 : jFl RX4 wsX4_joinKeys 66 4 16 := ⟨rfl, by decide, by decide +kernel, by decide +kernel⟩
  have f135 : jFl RX4 wsX4_joinKeys 135 6 3 := ⟨rfl, by decide, by decide +kernel, by decide +kernel⟩
  have f7 : jFl RX4 wsX4_joinKeys 7 4 0 := ⟨rfl, by decide, by decide +kernel, by decide +kernel⟩
  have f93 : jFl RX4 wsX4_joinKeys 93 4 5 := ⟨rfl, by decide, by decide +kernel, by decide +kernel⟩
  have f156 : jFl RX4 wsX4_joinKeys 156 6 1 := ⟨rfl, by decide, by decide +kernel, by decide +kernel⟩
  have f73 : jFl RX4 wsX4_joinKeys 73 4 18 := ⟨rfl, by decide, by decide +kernel, by decide +kernel⟩
  have f22 : jFl RX4 wsX4_joinKeys 22 4 2 := ⟨rfl, by decide, by decide +kernel, by decide +kernel⟩
  have f168 : jFl RX4 wsX4_joinKeys 168 6 0 := ⟨rfl, by decide, by decide +kernel, by decide +kernel⟩
  have f28 : jFl RX4 wsX4_joinKeys 28 4 6 := ⟨rfl, by decide, by decide +kernel, by decide +kernel⟩
  have f70 : jFl RX4 wsX4_joinKeys 70 4 17 := ⟨rfl, by decide, by decide +kernel, by decide +kernel⟩
  have f115 : jFl RX4 wsX4_joinKeys 115 5 1 := ⟨rfl, by decide, by decide +kernel, by decide +kernel⟩
  have f142 : jFl RX4 wsX4_joinKeys 142 5 2 := ⟨rfl, by decide, by decide +kernel, by decide +kernel⟩
  refine jr_aload_n hE dX4_joinKeys_0 0 rfl ?_
  refine jr_kVv (ci := 4) (n := 0) (As := []) (rest := []) hE dX4_joinKeys_1 (fun l => c_g_listKeys l G c B S P q X v Sg) gX4_joinKeys_X4_listKeys rfl W0.o7 rfl (by decide +kernel) ⟨rfl, rfl, by decide, by decide⟩ (by decide) rfl rfl (Nat.le_of_ble_eq_true rfl) (⟨W0, (fun t ht => by rw [show B (38 + 3 * t) = B (38 + 3 * t) from rfl]; exact hSg t ht), hsz, h4⟩) (fun F1 q2 => ?_)
  obtain ⟨B3, q3, W3, hB3, f3_0, P3⟩ := q2
  have O3 := (cO.rf c F).tr P3
  refine jr_aload_n hE dX4_joinKeys_4 0 rfl ?_
  refine jr_kVi (ci := 4) (n := 0) (As := []) (rest := []) hE dX4_joinKeys_5 (fun l => c_g_findSecond l G c B3 S P q3 X v Sg) gX4_joinKeys_X4_findSecond rfl W3.o7 rfl (by decide +kernel) ⟨rfl, rfl, by decide, by decide⟩ (by decide) rfl rfl (Nat.le_of_ble_eq_true rfl) (⟨W3, (fun t ht => by rw [show B3 (38 + 3 * t) = B (38 + 3 * t) from (hB3 (38 + 3 * t) (by simp only [List.mem_cons, List.not_mem_nil, or_false, not_or]; omega))]; exact hSg t ht), hsz, h4⟩) (fun r6 F4 q5 => ?_)
  obtain ⟨eq5, s0, rq5, hs4, hs⟩ := q5
  subst eq5 rq5
  refine jr_istore_n (lv' := [(1, .int (nI s0)), (0, .ref (c 7))]) hE dX4_joinKeys_8 (by decide) rfl ?_
  refine jr_aload_n hE dX4_joinKeys_9 1 rfl ?_
  refine jr_get hE dX4_joinKeys_10 f66 W3.o7 rfl ?_
  refine jr_iconst (v := (1 : Int32)) hE dX4_joinKeys_13 (by decide) ?_
  refine jr_put (ty := .boolean) hE dX4_joinKeys_14 f135 (W3.pt 19 (by decide) (by decide)).1 rfl (by decide +kernel) rfl rfl (Nat.le_of_ble_eq_true rfl) (fun F7 h7 u7 => ?_)
  obtain ⟨W7, P7⟩ := W3.noughtP (i := 19) (by decide) (by decide) h7 u7
  have O7 := O3.tr P7
  obtain ⟨P7, eP7, hP7, yP7⟩ := uz_ab P 19 (true, (P 19).2)
  rw [eP7] at W7
  have nP7 : ∀ z, z ≠ 19 → P7 z = P z := fun z hz => hP7 z (fun e => hz (List.mem_singleton.mp e))
  have hz7 : rep (P7 19) none := by rw [yP7]; exact Or.inl ⟨rfl, rfl⟩
  refine jr_iconst (v := (0 : Int32)) hE dX4_joinKeys_17 (by decide) ?_
  refine jr_istore_n (lv' := [(2, .int (0 : Int32)), (1, .int (nI s0)), (0, .ref (c 7))]) hE dX4_joinKeys_18 (by decide) rfl ?_
  have loop : ∀ (r0 i : Nat) (F4 : Nat → va_E) (B4 : Nat → List Nat) (S4 : Nat → Nat) (P4 : Nat → JP) (q4 : SS), i + r0 = Sg.length → CW G L F4 c B4 S4 P4 q4 X v → (∀ z, z ∉ [17, 22] → B4 z = B3 z) → (∀ z, z ∉ [18, 21, 24, 27] → S4 z = S z) → (∀ z, z ∉ [19, 20] → P4 z = P7 z) → (∀ t, t < i → S4 (18 + 3 * t) = wKs Sg t) → rep (P4 19) (qSs Sg i) → cO c F F4 → J E L F4 0 0 19 [(2, .int (nI i)), (1, .int (nI s0)), (0, .ref (c 7))] [] := by
    intro r0
    induction r0 with
    | zero =>
      intro i F4 B4 S4 P4 q4 hi W4 hBf hSf hPf hw hr O4
      have hiN : Sg.length = i := by omega
      subst hiN
      refine jr_iload_n hE dX4_joinKeys_19 0 rfl ?_
      refine jr_aload_n hE dX4_joinKeys_20 2 rfl ?_
      refine jr_get hE dX4_joinKeys_21 f7 W4.o7 rfl ?_
      rw [show v 2 = (nI Sg.length) from hsz]
      refine jr_icmp_ge (tgt := 93) hE dX4_joinKeys_24 (by decide) (fun c_24 => ?_) (fun c_24 => absurd (nI_le (a := Sg.length) (by omega) (by omega)) c_24)
      refine jr_aload_n hE dX4_joinKeys_93 2 rfl ?_
      refine jr_get hE dX4_joinKeys_94 f66 W4.o7 rfl ?_
      refine jr_get hE dX4_joinKeys_97 f135 (W4.pt 19 (by decide) (by decide)).1 rfl ?_
      rw [hr.no]
      refine jr_if_eq (tgt := 105) hE dX4_joinKeys_100 (by decide) (fun c100 => ?_) (fun c100 => ?_)
      · have hQ0 : (qSs Sg Sg.length) ≠ none := b2i_0 c100
        refine jr_aload_n hE dX4_joinKeys_105 2 rfl ?_
        refine jr_get hE dX4_joinKeys_106 f93 W4.o7 rfl ?_
        refine jr_aload_n hE dX4_joinKeys_109 2 rfl ?_
        refine jr_get hE dX4_joinKeys_110 f66 W4.o7 rfl ?_
        refine jr_kVv (ci := 2) (n := 1) (As := [.ref (c (40 + 4 * 19))]) (rest := []) hE dX4_joinKeys_113 (fun l => c_X2_settle l G (c 9) (c (40 + 4 * 16)) (c 11) (c 10) (c 12) (c 13) (c 14) (c 15) (c 16) (c 17) (c 18) (c 19) (c 20) (c 21) (c 22) (c 23) (c (40 + 4 * 19)) (c (41 + 4 * 19)) (c (42 + 4 * 19)) (c (43 + 4 * 19)) (P4 19)) gX4_joinKeys_X2_settle rfl W4.cv rfl (by decide +kernel) ⟨rfl, rfl, by decide, by decide⟩ (by decide) rfl rfl (Nat.le_of_ble_eq_true rfl) (W4.settlePre 19 (by decide) (by decide)) (fun F8 q9 => ?_)
        obtain ⟨g10, gp10, go10, h10, u10⟩ := q9
        obtain ⟨W10, P10⟩ := W4.settle (i := 19) (by decide) (by decide) g10 gp10 go10 h10 u10
        have O10 := O4.tr P10
        obtain ⟨P10, eP10, hP10, yP10⟩ := uz_ab P4 19 (stJ (P4 19))
        rw [eP10] at W10
        have nP10 : ∀ z, z ≠ 19 → P10 z = P4 z := fun z hz => hP10 z (fun e => hz (List.mem_singleton.mp e))
        have hr10 : stl (P10 19) (qSs Sg Sg.length) := by rw [yP10]; exact rep_stl hr
        refine jr_aload_n hE dX4_joinKeys_116 2 rfl ?_
        refine jr_aload_n hE dX4_joinKeys_117 2 rfl ?_
        refine jr_get hE dX4_joinKeys_118 f66 W10.o7 rfl ?_
        refine jr_get hE dX4_joinKeys_121 f156 (W10.pt 19 (by decide) (by decide)).1 rfl ?_
        obtain ⟨hx11, hy11, hz11⟩ := hr10.xy hQ0
        have hX11 : (P10 19).2.1 = exE (qSs Sg Sg.length) := by rw [hx11]
        have hY11 : (P10 19).2.2.1 = eyN (qSs Sg Sg.length) := by rw [hx11]
        refine jr_kVi (ci := 1) (n := 0) (As := []) (rest := [.ref (c 7)]) hE dX4_joinKeys_124 (fun l => c_X1_isOdd l G (c (42 + 4 * 19)) (P10 19).2.2.1) gX4_joinKeys_X1_isOdd rfl ((W10.pt 19 (by decide) (by decide)).2.2.1.cell.choose_spec) rfl (by decide +kernel) ⟨rfl, rfl, by decide, by decide⟩ (by decide) rfl rfl (Nat.le_of_ble_eq_true rfl) ((W10.pt 19 (by decide) (by decide)).2.2.1) (fun r14 F12 q13 => ?_)
        obtain ⟨h15, u15, r14e⟩ := q13
        rw [hY11] at r14e
        subst r14e
        obtain ⟨W15, P15⟩ := W10.oddP (i := 19) (by decide) (by decide) (by rw [hY11]; exact hz11) h15 u15
        have O15 := O10.tr P15
        refine jr_put (ty := .boolean) hE dX4_joinKeys_127 f73 W15.o7 rfl (by decide +kernel) (b2i_z _) (b2i_fit _) (Nat.le_of_ble_eq_true rfl) (fun F16 h16 u16 => ?_)
        obtain ⟨W16, P16⟩ := W15.setV7 (v1 := (uz v 4 (b2i (eyN (qSs Sg Sg.length) % 2 = 1)))) h16 (fun z hz => uz_n _ _ (jne hz 2 rfl)) u16
        have O16 := O15.tr P16
        obtain ⟨v16, ev16, hv16, yv16⟩ := uz_ab v 4 (b2i (eyN (qSs Sg Sg.length) % 2 = 1))
        rw [ev16] at W16
        have nv16 : ∀ z, z ≠ 4 → v16 z = v z := fun z hz => hv16 z (fun e => hz (List.mem_singleton.mp e))
        refine jr_aload_n hE dX4_joinKeys_130 2 rfl ?_
        refine jr_get hE dX4_joinKeys_131 f22 W16.o7 rfl ?_
        refine jr_kVv (ci := 0) (n := 0) (As := []) (rest := []) hE dX4_joinKeys_134 (fun l => c_X0_empty l G (c (270 + 2 * 21)) (c (271 + 2 * 21)) (bcap 21) (B4 21)) gX4_joinKeys_X0_empty rfl ((W16.by 21 (by decide)).ob) rfl (by decide +kernel) ⟨rfl, rfl, by decide, by decide⟩ (by decide) rfl rfl (Nat.le_of_ble_eq_true rfl) (W16.by 21 (by decide)) (fun F17 q18 => ?_)
        obtain ⟨h19, u19⟩ := q18
        obtain ⟨W19, P19⟩ := W16.setBo (i := 21) (bs := []) (by decide) h19 u19
        have O19 := O16.tr P19
        obtain ⟨B19, eB19, hB19, yB19⟩ := uz_ab B4 21 ([])
        rw [eB19] at W19
        have nB19 : ∀ z, z ≠ 21 → B19 z = B4 z := fun z hz => hB19 z (fun e => hz (List.mem_singleton.mp e))
        refine jr_aload_n hE dX4_joinKeys_137 2 rfl ?_
        refine jr_get hE dX4_joinKeys_138 f66 W19.o7 rfl ?_
        refine jr_get hE dX4_joinKeys_141 f168 (W19.pt 19 (by decide) (by decide)).1 rfl ?_
        refine jr_aload_n hE dX4_joinKeys_144 2 rfl ?_
        refine jr_get hE dX4_joinKeys_145 f22 W19.o7 rfl ?_
        obtain ⟨hx20, hy20, hz20⟩ := hr10.xy hQ0
        have hX20 : (P10 19).2.1 = exE (qSs Sg Sg.length) := by rw [hx20]
        have hY20 : (P10 19).2.2.1 = eyN (qSs Sg Sg.length) := by rw [hx20]
        refine jr_kVv (ci := 1) (n := 1) (As := [.ref (c (270 + 2 * 21))]) (rest := []) hE dX4_joinKeys_148 (fun l => c_X1_addTo l G (c (41 + 4 * 19)) (c (270 + 2 * 21)) (c (271 + 2 * 21)) (bcap 21) (P10 19).2.1 ([])) gX4_joinKeys_X1_addTo rfl ((W19.pt 19 (by decide) (by decide)).2.1.cell.choose_spec) rfl (by decide +kernel) ⟨rfl, rfl, by decide, by decide⟩ (by decide) rfl rfl (Nat.le_of_ble_eq_true rfl) (⟨(W19.pt 19 (by decide) (by decide)).2.1, (by have q := W19.by 21 (by decide); rw [show B19 21 = [] from yB19] at q; exact q), by decide, cnd W19.1 [41 + 4 * 19, 270 + 2 * 21, 271 + 2 * 21] (by decide) (by decide)⟩) (fun F21 q22 => ?_)
        rw [show bex (P10 19).2.1 32 = bex (exE (qSs Sg Sg.length)) 32 from by rw [hX20]] at q22
        rw [List.nil_append] at q22
        obtain ⟨W23, P23⟩ := W19.xaddP (i := 19) (k := 21) (by decide) (by decide) (by decide) (by rw [hX20]; exact hy20) q22
        have O23 := O19.tr P23
        obtain ⟨B23, eB23, hB23, yB23⟩ := uz_ab B19 21 (bex (exE (qSs Sg Sg.length)) 32)
        rw [eB23] at W23
        have nB23 : ∀ z, z ≠ 21 → B23 z = B19 z := fun z hz => hB23 z (fun e => hz (List.mem_singleton.mp e))
        refine jr_iconst (v := (1 : Int32)) hE dX4_joinKeys_151 (by decide) ?_
        exact hR F21 _ _ _ dX4_joinKeys_152 rfl ⟨_, _, _, _, _, W23, (fun z hz => ((nB23 z (by simp only [List.mem_cons, List.not_mem_nil, or_false, not_or] at hz; omega)).trans ((nB19 z (by simp only [List.mem_cons, List.not_mem_nil, or_false, not_or] at hz; omega)).trans ((hBf z (by simp only [List.mem_cons, List.not_mem_nil, or_false, not_or] at hz ⊢; omega)).trans (hB3 z (by simp only [List.mem_cons, List.not_mem_nil, or_false, not_or] at hz ⊢; omega)))))), (fun z hz => (hSf z (by simp only [List.mem_cons, List.not_mem_nil, or_false, not_or] at hz ⊢; omega))), (fun z hz => ((nP10 z (by simp only [List.mem_cons, List.not_mem_nil, or_false, not_or] at hz; omega)).trans ((hPf z (by simp only [List.mem_cons, List.not_mem_nil, or_false, not_or] at hz ⊢; omega)).trans (nP7 z (by simp only [List.mem_cons, List.not_mem_nil, or_false, not_or] at hz; omega))))), (fun z hz => (nv16 z (by simp only [List.mem_cons, List.not_mem_nil, or_false, not_or] at hz; omega))), (fun t ht => hw t ht), (fun _ => ⟨yB23, yv16⟩), (b2i_t hQ0).symm, O23⟩
      · refine jr_iconst (v := (0 : Int32)) hE dX4_joinKeys_103 (by decide) ?_
        exact hR F4 _ _ _ dX4_joinKeys_104 rfl ⟨_, _, _, _, _, W4, (fun z hz => ((hBf z (by simp only [List.mem_cons, List.not_mem_nil, or_false, not_or] at hz ⊢; omega)).trans (hB3 z (by simp only [List.mem_cons, List.not_mem_nil, or_false, not_or] at hz ⊢; omega)))), (fun z hz => (hSf z (by simp only [List.mem_cons, List.not_mem_nil, or_false, not_or] at hz ⊢; omega))), (fun z hz => ((hPf z (by simp only [List.mem_cons, List.not_mem_nil, or_false, not_or] at hz ⊢; omega)).trans (nP7 z (by simp only [List.mem_cons, List.not_mem_nil, or_false, not_or] at hz; omega)))), (fun z hz => rfl), (fun t ht => hw t ht), (fun h => absurd h (fun h => h (b2i_1 c100))), (b2i_f (fun h => h (b2i_1 c100))).symm, O4⟩
    | succ r0 ih =>
      intro i F4 B4 S4 P4 q4 hi W4 hBf hSf hPf hw hr O4
      refine jr_iload_n hE dX4_joinKeys_19 0 rfl ?_
      refine jr_aload_n hE dX4_joinKeys_20 2 rfl ?_
      refine jr_get hE dX4_joinKeys_21 f7 W4.o7 rfl ?_
      rw [show v 2 = (nI Sg.length) from hsz]
      refine jr_icmp_ge (tgt := 93) hE dX4_joinKeys_24 (by decide) (fun c_24 => absurd c_24 (nI_ge (b := Sg.length) (by omega) (by omega))) (fun c_24 => ?_)
      refine jr_iload_n hE dX4_joinKeys_27 0 rfl ?_
      refine jr_iconst (v := (4 : Int32)) hE dX4_joinKeys_28 (by decide) ?_
      refine jr_icmp_ge (tgt := 93) hE dX4_joinKeys_29 (by decide) (fun c_29 => absurd c_29 (nI_ge (b := 4) (by omega) (by omega))) (fun c_29 => ?_)
      refine jr_aload_n hE dX4_joinKeys_32 2 rfl ?_
      refine jr_aload_n hE dX4_joinKeys_33 2 rfl ?_
      refine jr_get hE dX4_joinKeys_34 f28 W4.o7 rfl ?_
      refine jr_iload_n hE dX4_joinKeys_37 0 rfl ?_
      obtain ⟨f24, ja24, ga24⟩ := W4.aM
      refine jr_aald (v := c (29 + i)) hE dX4_joinKeys_38 ja24 rfl (vp_in_nI (n := i) (by omega) (by decide)) (by rw [nI_clamp (by omega)]; exact ga24 i (by omega)) ?_
      refine jr_iload_n hE dX4_joinKeys_39 1 rfl ?_
      have hB25 : B4 23 = (sha (sha (tgb 3) ++ sha (tgb 3) ++ Sg.flatten)) := (hBf 23 (by decide)).trans f3_0
      refine jr_kVv (ci := 4) (n := 2) (As := [.ref (c (29 + i)), .int (nI s0)]) (rest := []) hE dX4_joinKeys_40 (fun l => c_g_weigh l G c B4 S4 P4 q4 X v Sg i s0) gX4_joinKeys_X4_weigh rfl W4.o7 rfl (by decide +kernel) ⟨rfl, rfl, by decide, by decide⟩ (by decide) rfl rfl (Nat.le_of_ble_eq_true rfl) (⟨W4, (fun t ht => by rw [show B4 (38 + 3 * t) = B (38 + 3 * t) from ((hBf (38 + 3 * t) (by simp only [List.mem_cons, List.not_mem_nil, or_false, not_or]; omega)).trans (hB3 (38 + 3 * t) (by simp only [List.mem_cons, List.not_mem_nil, or_false, not_or]; omega)))]; exact hSg t ht), hsz, h4, by omega, hs4, hs, hB25⟩) (fun F26 q27 => ?_)
      obtain ⟨B28, S28, q28, W28, hB28, hS28, f28_0, P28⟩ := q27
      have O28 := O4.tr P28
      refine jr_aload_n hE dX4_joinKeys_43 2 rfl ?_
      refine jr_get hE dX4_joinKeys_44 f93 W28.o7 rfl ?_
      refine jr_aload_n hE dX4_joinKeys_47 2 rfl ?_
      refine jr_get hE dX4_joinKeys_48 f70 W28.o7 rfl ?_
      refine jr_aload_n hE dX4_joinKeys_51 2 rfl ?_
      refine jr_get hE dX4_joinKeys_52 f28 W28.o7 rfl ?_
      refine jr_iload_n hE dX4_joinKeys_55 0 rfl ?_
      obtain ⟨f29, ja29, ga29⟩ := W28.aM
      refine jr_aald (v := c (29 + i)) hE dX4_joinKeys_56 ja29 rfl (vp_in_nI (n := i) (by omega) (by decide)) (by rw [nI_clamp (by omega)]; exact ga29 i (by omega)) ?_
      refine jr_get hE dX4_joinKeys_57 f115 (W28.oM i (by omega)) rfl ?_
      refine jr_aload_n hE dX4_joinKeys_60 2 rfl ?_
      refine jr_get hE dX4_joinKeys_61 f28 W28.o7 rfl ?_
      refine jr_iload_n hE dX4_joinKeys_64 0 rfl ?_
      obtain ⟨f30, ja30, ga30⟩ := W28.aM
      refine jr_aald (v := c (29 + i)) hE dX4_joinKeys_65 ja30 rfl (vp_in_nI (n := i) (by omega) (by decide)) (by rw [nI_clamp (by omega)]; exact ga30 i (by omega)) ?_
      refine jr_get hE dX4_joinKeys_66 f142 (W28.oM i (by omega)) rfl ?_
      have hp31 : rep (P4 (29 + 3 * i)) (pKs (Sg.getD i [])) := by rw [show P4 (29 + 3 * i) = P (29 + 3 * i) from ((hPf (29 + 3 * i) (by simp only [List.mem_cons, List.not_mem_nil, or_false, not_or]; omega)).trans (nP7 (29 + 3 * i) (by omega)))]; exact (hPk i (by omega))
      obtain ⟨f32, jm32, gm32⟩ := W28.cu.2.2.2.1
      have hk32 : S28 (18 + 3 * i) < 2 ^ 256 := by rw [show S28 (18 + 3 * i) = (wKs Sg i) from f28_0]; exact Nat.lt_trans (wKs_lt _ _) NN_256
      refine jr_kVv (ci := 2) (n := 3) (As := [.ref (c (40 + 4 * 20)), .ref (c (40 + 4 * (29 + 3 * i))), .ref (c (210 + 2 * (18 + 3 * i)))]) (rest := []) hE dX4_joinKeys_69 (fun l => c_X2_times l G (c 9) (c (40 + 4 * 16)) (c 11) (c 10) (c 12) (c 13) (c 14) (c 15) (c 16) (c 17) (c (40 + 4 * 20)) (c (41 + 4 * 20)) (c (42 + 4 * 20)) (c (43 + 4 * 20)) (c (40 + 4 * (29 + 3 * i))) (c (41 + 4 * (29 + 3 * i))) (c (42 + 4 * (29 + 3 * i))) (c (43 + 4 * (29 + 3 * i))) (c (210 + 2 * (18 + 3 * i))) (c (211 + 2 * (18 + 3 * i))) (S28 (18 + 3 * i)) f32 (fun i k => c (ck i k)) (P4 20) (P4 (29 + 3 * i))) gX4_joinKeys_X2_times rfl W28.cv rfl (by decide +kernel) ⟨rfl, rfl, by decide, by decide⟩ (by decide) rfl rfl (Nat.le_of_ble_eq_true rfl) (W28.timesPre jm32 gm32 20 (29 + 3 * i) (18 + 3 * i) (by decide) (by decide) (by omega) (by omega) (by omega) hk32) (fun F33 q34 => ?_)
      obtain ⟨W35, P35⟩ := W28.timesP gm32 (i := 20) (by decide) (by decide) q34
      have O35 := O28.tr P35
      obtain ⟨P35, eP35, hP35, yP35⟩ := uz_ab P4 20 (tmJ (P4 20) (P4 (29 + 3 * i)) (S28 (18 + 3 * i)))
      rw [eP35] at W35
      have nP35 : ∀ z, z ≠ 20 → P35 z = P4 z := fun z hz => hP35 z (fun e => hz (List.mem_singleton.mp e))
      have hr35 : rep (P35 20) (emul PP (wKs Sg i) (pKs (Sg.getD i []))) := by rw [yP35]; exact (by have q := rep_tm (O := P4 20) hp31 hk32; rw [show S28 (18 + 3 * i) = (wKs Sg i) from f28_0] at q ⊢; exact q)
      refine jr_aload_n hE dX4_joinKeys_72 2 rfl ?_
      refine jr_get hE dX4_joinKeys_73 f93 W35.o7 rfl ?_
      refine jr_aload_n hE dX4_joinKeys_76 2 rfl ?_
      refine jr_get hE dX4_joinKeys_77 f66 W35.o7 rfl ?_
      refine jr_aload_n hE dX4_joinKeys_80 2 rfl ?_
      refine jr_get hE dX4_joinKeys_81 f70 W35.o7 rfl ?_
      have hp36 : rep (P35 19) (qSs Sg i) := by rw [show P35 19 = P4 19 from (nP35 19 (by decide))]; exact hr
      refine jr_kVv (ci := 2) (n := 2) (As := [.ref (c (40 + 4 * 19)), .ref (c (40 + 4 * 20))]) (rest := []) hE dX4_joinKeys_84 (fun l => c_X2_plus l G (c 9) (c (40 + 4 * 16)) (c 11) (c 10) (c 12) (c 13) (c 14) (c 15) (c 16) (c 17) (c (40 + 4 * 19)) (c (41 + 4 * 19)) (c (42 + 4 * 19)) (c (43 + 4 * 19)) (c (40 + 4 * 20)) (c (41 + 4 * 20)) (c (42 + 4 * 20)) (c (43 + 4 * 20)) (P35 19) (P35 20)) gX4_joinKeys_X2_plus rfl W35.cv rfl (by decide +kernel) ⟨rfl, rfl, by decide, by decide⟩ (by decide) rfl rfl (Nat.le_of_ble_eq_true rfl) (W35.plusPre 19 20 (by decide) (by decide) (by decide) (by decide) (by decide)) (fun F37 q38 => ?_)
      obtain ⟨g39, h39, u39⟩ := q38
      obtain ⟨W39, P39⟩ := W35.plus (i := 19) (by decide) (by decide) g39 h39 u39
      have O39 := O35.tr P39
      obtain ⟨P39, eP39, hP39, yP39⟩ := uz_ab P35 19 (plJ (P35 19) (P35 20))
      rw [eP39] at W39
      have nP39 : ∀ z, z ≠ 19 → P39 z = P35 z := fun z hz => hP39 z (fun e => hz (List.mem_singleton.mp e))
      have hr39 : rep (P39 19) (eadd PP (qSs Sg i) (emul PP (wKs Sg i) (pKs (Sg.getD i [])))) := by rw [yP39]; exact rep_pl hp36 hr35
      refine jr_iinc (v := nI (i + 1)) (lv' := [(2, .int (nI (i + 1))), (1, .int (nI s0)), (0, .ref (c 7))]) hE dX4_joinKeys_87 0 rfl (nI_1 _) (by decide) rfl ?_
      refine jr_goto (tgt := 19) hE dX4_joinKeys_90 (by decide) ?_
      refine jr_lv (lv' := [(2, .int (nI (i + 1))), (1, .int (nI s0)), (0, .ref (c 7))]) [0, 1, 2] rfl ?_
      exact ih (i + 1) F37 B28 S28 P39 q28 (by omega) W39 (fun z hz => ((hB28 z (by simp only [List.mem_cons, List.not_mem_nil, or_false, not_or] at hz ⊢; omega)).trans (hBf z (by simp only [List.mem_cons, List.not_mem_nil, or_false, not_or] at hz ⊢; omega)))) (fun z hz => ((hS28 z (by simp only [List.mem_cons, List.not_mem_nil, or_false, not_or] at hz ⊢; omega)).trans (hSf z (by simp only [List.mem_cons, List.not_mem_nil, or_false, not_or] at hz ⊢; omega)))) (fun z hz => ((nP39 z (by simp only [List.mem_cons, List.not_mem_nil, or_false, not_or] at hz; omega)).trans ((nP35 z (by simp only [List.mem_cons, List.not_mem_nil, or_false, not_or] at hz; omega)).trans (hPf z (by simp only [List.mem_cons, List.not_mem_nil, or_false, not_or] at hz ⊢; omega))))) (fun t ht => by
        by_cases e : t = i
        · rw [e]; exact f28_0
        · rw [hS28 (18 + 3 * t) (by simp only [List.mem_cons, List.not_mem_nil, or_false, not_or]; omega)]
          exact hw t (by omega)) hr39 O39
  exact loop Sg.length 0 F7 B3 S P7 q3 (by omega) W7 (fun z hz => rfl) (fun z hz => rfl) (fun z hz => rfl) (fun t ht => absurd ht (Nat.not_lt_zero t)) hz7 O7

