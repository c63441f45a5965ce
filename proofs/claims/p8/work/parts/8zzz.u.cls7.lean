/-! Group: describe; JointSigns: about, count -/
set_option maxHeartbeats 4000000 in
set_option maxRecDepth 100000 in
theorem c_g_describe (l : Launch) (G : Nat → ClassId) (c : Nat → Nat) (B : Nat → List Nat) (S : Nat → Nat) (P : Nat → JP) (q : SS) (X : Nat) (v : Nat → Int32) (x : Int32) : jKv l yX4_describe wsX4_describe ({ frames := 3, cells := 0, slots := 0, locals := 67 }) G [.ref (c 7), .int x, .ref (c (270 + 2 * 16))] (fun L F => CW G L F c B S P q X v ∧ (0 ≤ x.toInt ∧ x.toInt ≤ 3) ∧ (B 24).length = 66 ∧ (B 25).length = 32) (fun L F F1 => ∃ B', CW G L F1 c B' S P q X v ∧ (∀ i, i ∉ [16] → B' i = B i) ∧ (x = 0 → B' 16 = B 24) ∧ (x = 1 → B' 16 = B 25) ∧ (x = 2 → B' 16 = bex (S 6) 32) ∧ (x = 3 → B' 16 = bex (S 5) 32) ∧ cO c F F1) := by
  refine jm_kv (cc := cX4_describe) (maxL := 3) (by decide) rfl (Nat.le_of_ble_eq_true rfl) ?_
  intro E L F hE hR hpre
  have hE : jOk E G _ cX4_describe 3 RX4 wsX4_describe := hE
  obtain ⟨W0, hx, h24, h25⟩ := hpre
  have f38 : jFl RX4 wsX4_describe 38 4 9 := ⟨rfl, by decide, by decide +kernel, by decide +kernel⟩
  have f41 : jFl RX4 wsX4_describe 41 4 10 := ⟨rfl, by decide, by decide +kernel, by decide +kernel⟩
  have f51 : jFl RX4 wsX4_describe 51 4 12 := ⟨rfl, by decide, by decide +kernel, by decide +kernel⟩
  have f47 : jFl RX4 wsX4_describe 47 4 11 := ⟨rfl, by decide, by decide +kernel, by decide +kernel⟩
  by_cases ex0 : x = 0
  · subst ex0
    refine jr_aload_n hE dX4_describe_0 2 rfl ?_
    refine jr_kVv (ci := 0) (n := 0) (As := []) (rest := []) hE dX4_describe_1 (fun l => c_X0_empty l G (c (270 + 2 * 16)) (c (271 + 2 * 16)) (bcap 16) (B 16)) gX4_describe_X0_empty rfl ((W0.by 16 (by decide)).ob) rfl (by decide +kernel) ⟨rfl, rfl, by decide, by decide⟩ (by decide) rfl rfl (Nat.le_of_ble_eq_true rfl) (W0.by 16 (by decide)) (fun F1 q2 => ?_)
    obtain ⟨h3, u3⟩ := q2
    obtain ⟨W3, P3⟩ := W0.setBo (i := 16) (bs := []) (by decide) h3 u3
    have O3 := (cO.rf c F).tr P3
    obtain ⟨B3, eB3, hB3, yB3⟩ := uz_ab B 16 ([])
    rw [eB3] at W3
    have nB3 : ∀ z, z ≠ 16 → B3 z = B z := fun z hz => hB3 z (fun e => hz (List.mem_singleton.mp e))
    refine jr_iload_n hE dX4_describe_4 1 rfl ?_
    refine jr_tabIn 36 hE dX4_describe_5 (by decide) (by decide) (off := 31) (by decide) (by decide) ?_
    refine jr_aload_n hE dX4_describe_36 2 rfl ?_
    refine jr_aload_n hE dX4_describe_37 0 rfl ?_
    refine jr_get hE dX4_describe_38 f38 W3.o7 rfl ?_
    have hB4 : B3 24 = (B 24) := (nB3 24 (by decide)).trans rfl
    refine jr_kVv (ci := 0) (n := 1) (As := [.ref (c (270 + 2 * 24))]) (rest := []) hE dX4_describe_41 (fun l => c_X0_addAll l G (c (270 + 2 * 16)) (c (271 + 2 * 16)) (bcap 16) (c (270 + 2 * 24)) (c (271 + 2 * 24)) (bcap 24) ([]) (B 24)) gX4_describe_X0_addAll rfl ((W3.by 16 (by decide)).ob) rfl (by decide +kernel) ⟨rfl, rfl, by decide, by decide⟩ (by decide) rfl rfl (Nat.le_of_ble_eq_true rfl) (⟨(by have q := W3.by 16 (by decide); rw [show B3 16 = [] from yB3] at q; exact q), (by have q := W3.by 24 (by decide); rw [show B3 24 = (B 24) from hB4] at q; exact q), cnd W3.1 [270 + 2 * 16, 271 + 2 * 16, 270 + 2 * 24, 271 + 2 * 24] (by decide) (by decide), by rw [h24]; decide⟩) (fun F5 q6 => ?_)
    rw [List.nil_append] at q6
    obtain ⟨h7, u7⟩ := q6
    obtain ⟨W7, P7⟩ := W3.setB (i := 16) (bs := (B 24)) (by decide) h7 u7
    have O7 := O3.tr P7
    obtain ⟨B7, eB7, hB7, yB7⟩ := uz_ab B3 16 (B 24)
    rw [eB7] at W7
    have nB7 : ∀ z, z ≠ 16 → B7 z = B3 z := fun z hz => hB7 z (fun e => hz (List.mem_singleton.mp e))
    refine jr_goto (tgt := 80) hE dX4_describe_44 (by decide) ?_
    exact hR F5 _ _ dX4_describe_80 ⟨_, W7, (fun z hz => ((nB7 z (by simp only [List.mem_cons, List.not_mem_nil, or_false, not_or] at hz; omega)).trans (nB3 z (by simp only [List.mem_cons, List.not_mem_nil, or_false, not_or] at hz; omega)))), (fun _ => yB7), (fun h => absurd h (by decide)), (fun h => absurd h (by decide)), (fun h => absurd h (by decide)), O7⟩
  by_cases ex1 : x = 1
  · subst ex1
    refine jr_aload_n hE dX4_describe_0 2 rfl ?_
    refine jr_kVv (ci := 0) (n := 0) (As := []) (rest := []) hE dX4_describe_1 (fun l => c_X0_empty l G (c (270 + 2 * 16)) (c (271 + 2 * 16)) (bcap 16) (B 16)) gX4_describe_X0_empty rfl ((W0.by 16 (by decide)).ob) rfl (by decide +kernel) ⟨rfl, rfl, by decide, by decide⟩ (by decide) rfl rfl (Nat.le_of_ble_eq_true rfl) (W0.by 16 (by decide)) (fun F8 q9 => ?_)
    obtain ⟨h10, u10⟩ := q9
    obtain ⟨W10, P10⟩ := W0.setBo (i := 16) (bs := []) (by decide) h10 u10
    have O10 := (cO.rf c F).tr P10
    obtain ⟨B10, eB10, hB10, yB10⟩ := uz_ab B 16 ([])
    rw [eB10] at W10
    have nB10 : ∀ z, z ≠ 16 → B10 z = B z := fun z hz => hB10 z (fun e => hz (List.mem_singleton.mp e))
    refine jr_iload_n hE dX4_describe_4 1 rfl ?_
    refine jr_tabIn 47 hE dX4_describe_5 (by decide) (by decide) (off := 42) (by decide) (by decide) ?_
    refine jr_aload_n hE dX4_describe_47 2 rfl ?_
    refine jr_aload_n hE dX4_describe_48 0 rfl ?_
    refine jr_get hE dX4_describe_49 f41 W10.o7 rfl ?_
    have hB11 : B10 25 = (B 25) := (nB10 25 (by decide)).trans rfl
    refine jr_kVv (ci := 0) (n := 1) (As := [.ref (c (270 + 2 * 25))]) (rest := []) hE dX4_describe_52 (fun l => c_X0_addAll l G (c (270 + 2 * 16)) (c (271 + 2 * 16)) (bcap 16) (c (270 + 2 * 25)) (c (271 + 2 * 25)) (bcap 25) ([]) (B 25)) gX4_describe_X0_addAll rfl ((W10.by 16 (by decide)).ob) rfl (by decide +kernel) ⟨rfl, rfl, by decide, by decide⟩ (by decide) rfl rfl (Nat.le_of_ble_eq_true rfl) (⟨(by have q := W10.by 16 (by decide); rw [show B10 16 = [] from yB10] at q; exact q), (by have q := W10.by 25 (by decide); rw [show B10 25 = (B 25) from hB11] at q; exact q), cnd W10.1 [270 + 2 * 16, 271 + 2 * 16, 270 + 2 * 25, 271 + 2 * 25] (by decide) (by decide), by rw [h25]; decide⟩) (fun F12 q13 => ?_)
    rw [List.nil_append] at q13
    obtain ⟨h14, u14⟩ := q13
    obtain ⟨W14, P14⟩ := W10.setB (i := 16) (bs := (B 25)) (by decide) h14 u14
    have O14 := O10.tr P14
    obtain ⟨B14, eB14, hB14, yB14⟩ := uz_ab B10 16 (B 25)
    rw [eB14] at W14
    have nB14 : ∀ z, z ≠ 16 → B14 z = B10 z := fun z hz => hB14 z (fun e => hz (List.mem_singleton.mp e))
    refine jr_goto (tgt := 80) hE dX4_describe_55 (by decide) ?_
    exact hR F12 _ _ dX4_describe_80 ⟨_, W14, (fun z hz => ((nB14 z (by simp only [List.mem_cons, List.not_mem_nil, or_false, not_or] at hz; omega)).trans (nB10 z (by simp only [List.mem_cons, List.not_mem_nil, or_false, not_or] at hz; omega)))), (fun h => absurd h (by decide)), (fun _ => yB14), (fun h => absurd h (by decide)), (fun h => absurd h (by decide)), O14⟩
  by_cases ex2 : x = 2
  · subst ex2
    refine jr_aload_n hE dX4_describe_0 2 rfl ?_
    refine jr_kVv (ci := 0) (n := 0) (As := []) (rest := []) hE dX4_describe_1 (fun l => c_X0_empty l G (c (270 + 2 * 16)) (c (271 + 2 * 16)) (bcap 16) (B 16)) gX4_describe_X0_empty rfl ((W0.by 16 (by decide)).ob) rfl (by decide +kernel) ⟨rfl, rfl, by decide, by decide⟩ (by decide) rfl rfl (Nat.le_of_ble_eq_true rfl) (W0.by 16 (by decide)) (fun F15 q16 => ?_)
    obtain ⟨h17, u17⟩ := q16
    obtain ⟨W17, P17⟩ := W0.setBo (i := 16) (bs := []) (by decide) h17 u17
    have O17 := (cO.rf c F).tr P17
    obtain ⟨B17, eB17, hB17, yB17⟩ := uz_ab B 16 ([])
    rw [eB17] at W17
    have nB17 : ∀ z, z ≠ 16 → B17 z = B z := fun z hz => hB17 z (fun e => hz (List.mem_singleton.mp e))
    refine jr_iload_n hE dX4_describe_4 1 rfl ?_
    refine jr_tabIn 58 hE dX4_describe_5 (by decide) (by decide) (off := 53) (by decide) (by decide) ?_
    refine jr_aload_n hE dX4_describe_58 0 rfl ?_
    refine jr_get hE dX4_describe_59 f51 W17.o7 rfl ?_
    refine jr_aload_n hE dX4_describe_62 2 rfl ?_
    refine jr_kVv (ci := 8) (n := 1) (As := [.ref (c (270 + 2 * 16))]) (rest := []) hE dX4_describe_63 (fun l => c_X8_addTo l G (c (210 + 2 * 6)) (c (211 + 2 * 6)) (c (270 + 2 * 16)) (c (271 + 2 * 16)) (bcap 16) (S 6) ([])) gX4_describe_X8_addTo rfl ((W17.sc 6 (by decide)).ob) rfl (by decide +kernel) ⟨rfl, rfl, by decide, by decide⟩ (by decide) rfl rfl (Nat.le_of_ble_eq_true rfl) (⟨(by have q := W17.sc 6 (by decide); rw [show S 6 = (S 6) from rfl] at q; exact q), (by have q := W17.by 16 (by decide); rw [show B17 16 = [] from yB17] at q; exact q), by decide, cnd W17.1 [210 + 2 * 6, 211 + 2 * 6, 270 + 2 * 16, 271 + 2 * 16] (by decide) (by decide)⟩) (fun F18 q19 => ?_)
    rw [List.nil_append] at q19
    obtain ⟨h20, u20⟩ := q19
    obtain ⟨W20, P20⟩ := W17.setB (i := 16) (bs := (bex (S 6) 32)) (by decide) h20 u20
    have O20 := O17.tr P20
    obtain ⟨B20, eB20, hB20, yB20⟩ := uz_ab B17 16 (bex (S 6) 32)
    rw [eB20] at W20
    have nB20 : ∀ z, z ≠ 16 → B20 z = B17 z := fun z hz => hB20 z (fun e => hz (List.mem_singleton.mp e))
    refine jr_goto (tgt := 80) hE dX4_describe_66 (by decide) ?_
    exact hR F18 _ _ dX4_describe_80 ⟨_, W20, (fun z hz => ((nB20 z (by simp only [List.mem_cons, List.not_mem_nil, or_false, not_or] at hz; omega)).trans (nB17 z (by simp only [List.mem_cons, List.not_mem_nil, or_false, not_or] at hz; omega)))), (fun h => absurd h (by decide)), (fun h => absurd h (by decide)), (fun _ => yB20), (fun h => absurd h (by decide)), O20⟩
  by_cases ex3 : x = 3
  · subst ex3
    refine jr_aload_n hE dX4_describe_0 2 rfl ?_
    refine jr_kVv (ci := 0) (n := 0) (As := []) (rest := []) hE dX4_describe_1 (fun l => c_X0_empty l G (c (270 + 2 * 16)) (c (271 + 2 * 16)) (bcap 16) (B 16)) gX4_describe_X0_empty rfl ((W0.by 16 (by decide)).ob) rfl (by decide +kernel) ⟨rfl, rfl, by decide, by decide⟩ (by decide) rfl rfl (Nat.le_of_ble_eq_true rfl) (W0.by 16 (by decide)) (fun F21 q22 => ?_)
    obtain ⟨h23, u23⟩ := q22
    obtain ⟨W23, P23⟩ := W0.setBo (i := 16) (bs := []) (by decide) h23 u23
    have O23 := (cO.rf c F).tr P23
    obtain ⟨B23, eB23, hB23, yB23⟩ := uz_ab B 16 ([])
    rw [eB23] at W23
    have nB23 : ∀ z, z ≠ 16 → B23 z = B z := fun z hz => hB23 z (fun e => hz (List.mem_singleton.mp e))
    refine jr_iload_n hE dX4_describe_4 1 rfl ?_
    refine jr_tabIn 69 hE dX4_describe_5 (by decide) (by decide) (off := 64) (by decide) (by decide) ?_
    refine jr_aload_n hE dX4_describe_69 0 rfl ?_
    refine jr_get hE dX4_describe_70 f47 W23.o7 rfl ?_
    refine jr_aload_n hE dX4_describe_73 2 rfl ?_
    refine jr_kVv (ci := 8) (n := 1) (As := [.ref (c (270 + 2 * 16))]) (rest := []) hE dX4_describe_74 (fun l => c_X8_addTo l G (c (210 + 2 * 5)) (c (211 + 2 * 5)) (c (270 + 2 * 16)) (c (271 + 2 * 16)) (bcap 16) (S 5) ([])) gX4_describe_X8_addTo rfl ((W23.sc 5 (by decide)).ob) rfl (by decide +kernel) ⟨rfl, rfl, by decide, by decide⟩ (by decide) rfl rfl (Nat.le_of_ble_eq_true rfl) (⟨(by have q := W23.sc 5 (by decide); rw [show S 5 = (S 5) from rfl] at q; exact q), (by have q := W23.by 16 (by decide); rw [show B23 16 = [] from yB23] at q; exact q), by decide, cnd W23.1 [210 + 2 * 5, 211 + 2 * 5, 270 + 2 * 16, 271 + 2 * 16] (by decide) (by decide)⟩) (fun F24 q25 => ?_)
    rw [List.nil_append] at q25
    obtain ⟨h26, u26⟩ := q25
    obtain ⟨W26, P26⟩ := W23.setB (i := 16) (bs := (bex (S 5) 32)) (by decide) h26 u26
    have O26 := O23.tr P26
    obtain ⟨B26, eB26, hB26, yB26⟩ := uz_ab B23 16 (bex (S 5) 32)
    rw [eB26] at W26
    have nB26 : ∀ z, z ≠ 16 → B26 z = B23 z := fun z hz => hB26 z (fun e => hz (List.mem_singleton.mp e))
    refine jr_goto (tgt := 80) hE dX4_describe_77 (by decide) ?_
    exact hR F24 _ _ dX4_describe_80 ⟨_, W26, (fun z hz => ((nB26 z (by simp only [List.mem_cons, List.not_mem_nil, or_false, not_or] at hz; omega)).trans (nB23 z (by simp only [List.mem_cons, List.not_mem_nil, or_false, not_or] at hz; omega)))), (fun h => absurd h (by decide)), (fun h => absurd h (by decide)), (fun h => absurd h (by decide)), (fun _ => yB26), O26⟩
  obtain ⟨t, ht, hx0⟩ := sm_nI (x := x) (m := 3) hx.1 hx.2 (by decide)
  subst hx0
  have : t = 0 ∨ t = 1 ∨ t = 2 ∨ t = 3 := by omega
  rcases this with rfl | rfl | rfl | rfl
  · exact absurd rfl ex0
  · exact absurd rfl ex1
  · exact absurd rfl ex2
  · exact absurd rfl ex3

set_option maxHeartbeats 4000000 in
set_option maxRecDepth 100000 in
theorem c_c_about (l : Launch) (G : Nat → ClassId) (c : Nat → Nat) (B : Nat → List Nat) (S : Nat → Nat) (P : Nat → JP) (q : SS) (X : Nat) (v : Nat → Int32) (s : ST) (r x : Int32) : jKi l yX11_about wsX11_about ({ frames := 5, cells := 0, slots := 0, locals := 108 }) G [.ref (c 0), .int r, .int x] (fun L F => cI G L F c B S P q X v s) (fun L F ans F1 => ∃ B1 S1 P1 q1 X1 v1, cI G L F1 c B1 S1 P1 q1 X1 v1 (stAbout s r x).2 ∧ ans = (stAbout s r x).1 ∧ cO c F F1) := by
  refine jm_ki (cc := cX11_about) (maxL := 3) (rt := .int) (by decide) rfl (Nat.le_of_ble_eq_true rfl) ?_
  intro E L F hE hR hpre
  have hE : jOk E G _ cX11_about 3 RX11 wsX11_about := hE
  have hI := hpre
  obtain ⟨W0, hG, hRw, h0, hen, hwk, h2, hsg, hnc, htd, hse⟩ := id hpre
  have hwk48 := hwk.2
  have hs4 := hsg.1
  have hen4 := hen.1
  have f46 : jFl RX11 wsX11_about 46 11 4 := ⟨rfl, by decide, by decide +kernel, by decide +kernel⟩
  have f203 : jFl RX11 wsX11_about 203 4 1 := ⟨rfl, by decide, by decide +kernel, by decide +kernel⟩
  have f18 : jFl RX11 wsX11_about 18 11 1 := ⟨rfl, by decide, by decide +kernel, by decide +kernel⟩
  refine jr_iload_n hE dX11_about_0 1 rfl ?_
  refine jr_kSi (n := 1) (As := [.int r]) (rest := []) hE dX11_about_1 (fun l => c_c_isRow l G r) gX11_about_X11_isRow rfl (by decide +kernel) ⟨rfl, rfl, by decide, by decide⟩ (by decide) rfl rfl (Nat.le_of_ble_eq_true rfl) (trivial) (fun r3 F1 q2 => ?_)
  obtain ⟨eq2, rq2⟩ := q2
  subst eq2 rq2
  refine jr_if_eq (tgt := 16) hE dX11_about_4 (by decide) (fun c4 => ?_) (fun c4 => ?_)
  · refine jr_iconst (v := (-1 : Int32)) hE dX11_about_16 (by decide) ?_
    have e : stAbout s r x = (-1, s) := by
      unfold stAbout
      rw [if_neg (fun h => absurd (b2i_t h.1) (by rw [c4]; decide))]
    exact hR F _ _ _ dX11_about_17 rfl ⟨B, S, P, q, X, v, by rw [e]; exact hI, by rw [e], cO.rf c F⟩
  · have hrk : rowP r := b2i_1 c4
    obtain ⟨k, hk, rfl⟩ := rowP_nI hrk
    have hrnk := nI_rn hk
    have hlk : (s.1 k).length ≤ 100 := by rw [← hRw k hk]; have q := W0.cp k (by omega); rw [bcr (by omega)] at q; exact q
    refine jr_iload_n hE dX11_about_7 2 rfl ?_
    refine jr_if_lt (tgt := 16) hE dX11_about_8 (by decide) (fun c8 => ?_) (fun c8 => ?_)
    · refine jr_iconst (v := (-1 : Int32)) hE dX11_about_16 (by decide) ?_
      have e : stAbout s (nI k) x = (-1, s) := by
        unfold stAbout
        rw [if_neg (fun h => by have q := i32_0.mp c8; have := h.2.1; omega)]
      exact hR F _ _ _ dX11_about_17 rfl ⟨B, S, P, q, X, v, by rw [e]; exact hI, by rw [e], cO.rf c F⟩
    · refine jr_iload_n hE dX11_about_11 2 rfl ?_
      refine jr_iconst (v := (3 : Int32)) hE dX11_about_12 (by decide) ?_
      refine jr_icmp_le (tgt := 18) hE dX11_about_13 (by decide) (fun c13 => ?_) (fun c13 => ?_)
      · have hx : 0 ≤ x.toInt ∧ x.toInt ≤ 3 := ⟨Int.not_lt.mp (fun h => c8 (i32_0.mpr h)), (i32_le (m := 3) (by decide)).mp c13⟩
        rcases hsn : s.2.2.2.2.2.2 with _ | t
        · have hz9 := 0
          refine jr_aload_n hE dX11_about_18 0 rfl ?_
          refine jr_get hE dX11_about_19 f46 W0.o0 rfl ?_
          refine jr_get hE dX11_about_22 f203 W0.o7 rfl ?_
          rw [show v 3 = (0 : Int32) from (hse.1 hsn)]
          refine jr_if_ne (tgt := 31) hE dX11_about_25 (by decide) (fun c25 => ?_) (fun c25 => ?_)
          · exact absurd rfl c25
          · refine jr_bipush (v := (-2 : Int32)) hE dX11_about_28 (by decide) ?_
            have e : stAbout s (nI k) x = (-2, s) := stAbout_n ⟨nI_rowP hk, hx⟩ hsn
            exact hR F _ _ _ dX11_about_30 rfl ⟨B, S, P, q, X, v, by rw [e]; exact hI, by rw [e], cO.rf c F⟩
        · have hz9 := 0
          obtain ⟨b1, b2, b3, b4, b5, b6, b7, b8, b9, lb, le, hT, hJ⟩ := hse.2 t hsn
          refine jr_aload_n hE dX11_about_18 0 rfl ?_
          refine jr_get hE dX11_about_19 f46 W0.o0 rfl ?_
          refine jr_get hE dX11_about_22 f203 W0.o7 rfl ?_
          rw [show v 3 = (1 : Int32) from b1]
          refine jr_if_ne (tgt := 31) hE dX11_about_25 (by decide) (fun c25 => ?_) (fun c25 => ?_)
          · by_cases ex0 : x = 0
            · subst ex0
              refine jr_aload_n hE dX11_about_31 0 rfl ?_
              refine jr_get hE dX11_about_32 f46 W0.o0 rfl ?_
              refine jr_iload_n hE dX11_about_35 2 rfl ?_
              refine jr_aload_n hE dX11_about_36 0 rfl ?_
              refine jr_get hE dX11_about_37 f18 W0.o0 rfl ?_
              refine jr_kVv (ci := 4) (n := 2) (As := [.int (0 : Int32), .ref (c (270 + 2 * 16))]) (rest := []) hE dX11_about_40 (fun l => c_g_describe l G c B S P q X v (0 : Int32)) gX11_about_X4_describe rfl W0.o7 rfl (by decide +kernel) ⟨rfl, rfl, by decide, by decide⟩ (by decide) rfl rfl (Nat.le_of_ble_eq_true rfl) (⟨W0, (by decide), (by rw [b2]; exact b3), (by rw [b6]; exact bex_len _ _)⟩) (fun F4 q5 => ?_)
              obtain ⟨B6, W6, hB6, f6_0, f6_1, f6_2, f6_3, P6⟩ := q5
              have O6 := (cO.rf c F).tr P6
              refine jr_aload_n hE dX11_about_43 0 rfl ?_
              refine jr_iload_n hE dX11_about_44 1 rfl ?_
              have hJ := hI.upd (k := s.2.2.1) W6 (fun z hz => (hB6 z (by simp only [List.mem_cons, List.not_mem_nil, or_false, not_or] at hz ⊢; omega))) (fun z hz => rfl) (fun z hz => rfl) (fun z hz => rfl) hwk.1 (hwk.2)
              refine jr_kVi (ci := 11) (n := 1) (As := [.int (nI k)]) (rest := []) hE dX11_about_45 (fun l => c_c_answerIn l G c B6 S P q X v k) gX11_about_X11_answerIn rfl W6.o0 rfl (by decide +kernel) ⟨rfl, rfl, by decide, by decide⟩ (by decide) rfl rfl (Nat.le_of_ble_eq_true rfl) (⟨W6, hk⟩) (fun r9 F7 q8 => ?_)
              obtain ⟨B10, W10, hB10, f10_0, r9e, P10⟩ := q8
              subst r9e
              have O10 := O6.tr P10
              have e : stAbout s (nI k) (0 : Int32) = (66, setR s k t.1) := by
                rw [stAbout_s ⟨nI_rowP hk, hx⟩ hsn, hrnk, if_pos rfl]
              exact hR F7 _ _ _ dX11_about_48 rfl ⟨_, _, _, _, _, _, by rw [e]; exact hJ.row W10 hk (fun z hz => hB10 z (fun q => hz (List.mem_singleton.mp q))) (f10_0.trans ((f6_0 rfl).trans b2)), by rw [e, show B6 16 = t.1 from ((f6_0 rfl).trans b2), b3]; rfl, O10⟩
            by_cases ex1 : x = 1
            · subst ex1
              refine jr_aload_n hE dX11_about_31 0 rfl ?_
              refine jr_get hE dX11_about_32 f46 W0.o0 rfl ?_
              refine jr_iload_n hE dX11_about_35 2 rfl ?_
              refine jr_aload_n hE dX11_about_36 0 rfl ?_
              refine jr_get hE dX11_about_37 f18 W0.o0 rfl ?_
              refine jr_kVv (ci := 4) (n := 2) (As := [.int (1 : Int32), .ref (c (270 + 2 * 16))]) (rest := []) hE dX11_about_40 (fun l => c_g_describe l G c B S P q X v (1 : Int32)) gX11_about_X4_describe rfl W0.o7 rfl (by decide +kernel) ⟨rfl, rfl, by decide, by decide⟩ (by decide) rfl rfl (Nat.le_of_ble_eq_true rfl) (⟨W0, (by decide), (by rw [b2]; exact b3), (by rw [b6]; exact bex_len _ _)⟩) (fun F11 q12 => ?_)
              obtain ⟨B13, W13, hB13, f13_0, f13_1, f13_2, f13_3, P13⟩ := q12
              have O13 := (cO.rf c F).tr P13
              refine jr_aload_n hE dX11_about_43 0 rfl ?_
              refine jr_iload_n hE dX11_about_44 1 rfl ?_
              have hJ := hI.upd (k := s.2.2.1) W13 (fun z hz => (hB13 z (by simp only [List.mem_cons, List.not_mem_nil, or_false, not_or] at hz ⊢; omega))) (fun z hz => rfl) (fun z hz => rfl) (fun z hz => rfl) hwk.1 (hwk.2)
              refine jr_kVi (ci := 11) (n := 1) (As := [.int (nI k)]) (rest := []) hE dX11_about_45 (fun l => c_c_answerIn l G c B13 S P q X v k) gX11_about_X11_answerIn rfl W13.o0 rfl (by decide +kernel) ⟨rfl, rfl, by decide, by decide⟩ (by decide) rfl rfl (Nat.le_of_ble_eq_true rfl) (⟨W13, hk⟩) (fun r16 F14 q15 => ?_)
              obtain ⟨B17, W17, hB17, f17_0, r16e, P17⟩ := q15
              subst r16e
              have O17 := O13.tr P17
              have e : stAbout s (nI k) (1 : Int32) = (32, setR s k (bex t.2.2.2.1 32)) := by
                rw [stAbout_s ⟨nI_rowP hk, hx⟩ hsn, hrnk, if_neg (show ¬ (1 : Int32) = 0 by decide), if_pos rfl]
              exact hR F14 _ _ _ dX11_about_48 rfl ⟨_, _, _, _, _, _, by rw [e]; exact hJ.row W17 hk (fun z hz => hB17 z (fun q => hz (List.mem_singleton.mp q))) (f17_0.trans ((f13_1 rfl).trans b6)), by rw [e, show B13 16 = (bex t.2.2.2.1 32) from ((f13_1 rfl).trans b6), bex_len]; rfl, O17⟩
            by_cases ex2 : x = 2
            · subst ex2
              refine jr_aload_n hE dX11_about_31 0 rfl ?_
              refine jr_get hE dX11_about_32 f46 W0.o0 rfl ?_
              refine jr_iload_n hE dX11_about_35 2 rfl ?_
              refine jr_aload_n hE dX11_about_36 0 rfl ?_
              refine jr_get hE dX11_about_37 f18 W0.o0 rfl ?_
              refine jr_kVv (ci := 4) (n := 2) (As := [.int (2 : Int32), .ref (c (270 + 2 * 16))]) (rest := []) hE dX11_about_40 (fun l => c_g_describe l G c B S P q X v (2 : Int32)) gX11_about_X4_describe rfl W0.o7 rfl (by decide +kernel) ⟨rfl, rfl, by decide, by decide⟩ (by decide) rfl rfl (Nat.le_of_ble_eq_true rfl) (⟨W0, (by decide), (by rw [b2]; exact b3), (by rw [b6]; exact bex_len _ _)⟩) (fun F18 q19 => ?_)
              obtain ⟨B20, W20, hB20, f20_0, f20_1, f20_2, f20_3, P20⟩ := q19
              have O20 := (cO.rf c F).tr P20
              refine jr_aload_n hE dX11_about_43 0 rfl ?_
              refine jr_iload_n hE dX11_about_44 1 rfl ?_
              have hJ := hI.upd (k := s.2.2.1) W20 (fun z hz => (hB20 z (by simp only [List.mem_cons, List.not_mem_nil, or_false, not_or] at hz ⊢; omega))) (fun z hz => rfl) (fun z hz => rfl) (fun z hz => rfl) hwk.1 (hwk.2)
              refine jr_kVi (ci := 11) (n := 1) (As := [.int (nI k)]) (rest := []) hE dX11_about_45 (fun l => c_c_answerIn l G c B20 S P q X v k) gX11_about_X11_answerIn rfl W20.o0 rfl (by decide +kernel) ⟨rfl, rfl, by decide, by decide⟩ (by decide) rfl rfl (Nat.le_of_ble_eq_true rfl) (⟨W20, hk⟩) (fun r23 F21 q22 => ?_)
              obtain ⟨B24, W24, hB24, f24_0, r23e, P24⟩ := q22
              subst r23e
              have O24 := O20.tr P24
              have e : stAbout s (nI k) (2 : Int32) = (32, setR s k (bex t.2.2.1 32)) := by
                rw [stAbout_s ⟨nI_rowP hk, hx⟩ hsn, hrnk, if_neg (show ¬ (2 : Int32) = 0 by decide), if_neg (show ¬ (2 : Int32) = 1 by decide), if_pos rfl]
              exact hR F21 _ _ _ dX11_about_48 rfl ⟨_, _, _, _, _, _, by rw [e]; exact hJ.row W24 hk (fun z hz => hB24 z (fun q => hz (List.mem_singleton.mp q))) (f24_0.trans ((f20_2 rfl).trans (by rw [show S 6 = t.2.2.1 from b5]))), by rw [e, show B20 16 = (bex t.2.2.1 32) from ((f20_2 rfl).trans (by rw [show S 6 = t.2.2.1 from b5])), bex_len]; rfl, O24⟩
            by_cases ex3 : x = 3
            · subst ex3
              refine jr_aload_n hE dX11_about_31 0 rfl ?_
              refine jr_get hE dX11_about_32 f46 W0.o0 rfl ?_
              refine jr_iload_n hE dX11_about_35 2 rfl ?_
              refine jr_aload_n hE dX11_about_36 0 rfl ?_
              refine jr_get hE dX11_about_37 f18 W0.o0 rfl ?_
              refine jr_kVv (ci := 4) (n := 2) (As := [.int (3 : Int32), .ref (c (270 + 2 * 16))]) (rest := []) hE dX11_about_40 (fun l => c_g_describe l G c B S P q X v (3 : Int32)) gX11_about_X4_describe rfl W0.o7 rfl (by decide +kernel) ⟨rfl, rfl, by decide, by decide⟩ (by decide) rfl rfl (Nat.le_of_ble_eq_true rfl) (⟨W0, (by decide), (by rw [b2]; exact b3), (by rw [b6]; exact bex_len _ _)⟩) (fun F25 q26 => ?_)
              obtain ⟨B27, W27, hB27, f27_0, f27_1, f27_2, f27_3, P27⟩ := q26
              have O27 := (cO.rf c F).tr P27
              refine jr_aload_n hE dX11_about_43 0 rfl ?_
              refine jr_iload_n hE dX11_about_44 1 rfl ?_
              have hJ := hI.upd (k := s.2.2.1) W27 (fun z hz => (hB27 z (by simp only [List.mem_cons, List.not_mem_nil, or_false, not_or] at hz ⊢; omega))) (fun z hz => rfl) (fun z hz => rfl) (fun z hz => rfl) hwk.1 (hwk.2)
              refine jr_kVi (ci := 11) (n := 1) (As := [.int (nI k)]) (rest := []) hE dX11_about_45 (fun l => c_c_answerIn l G c B27 S P q X v k) gX11_about_X11_answerIn rfl W27.o0 rfl (by decide +kernel) ⟨rfl, rfl, by decide, by decide⟩ (by decide) rfl rfl (Nat.le_of_ble_eq_true rfl) (⟨W27, hk⟩) (fun r30 F28 q29 => ?_)
              obtain ⟨B31, W31, hB31, f31_0, r30e, P31⟩ := q29
              subst r30e
              have O31 := O27.tr P31
              have e : stAbout s (nI k) (3 : Int32) = (32, setR s k (bex t.2.1 32)) := by
                rw [stAbout_s ⟨nI_rowP hk, hx⟩ hsn, hrnk, if_neg (show ¬ (3 : Int32) = 0 by decide), if_neg (show ¬ (3 : Int32) = 1 by decide), if_neg (show ¬ (3 : Int32) = 2 by decide)]
              exact hR F28 _ _ _ dX11_about_48 rfl ⟨_, _, _, _, _, _, by rw [e]; exact hJ.row W31 hk (fun z hz => hB31 z (fun q => hz (List.mem_singleton.mp q))) (f31_0.trans ((f27_3 rfl).trans (by rw [show S 5 = t.2.1 from b4]))), by rw [e, show B27 16 = (bex t.2.1 32) from ((f27_3 rfl).trans (by rw [show S 5 = t.2.1 from b4])), bex_len]; rfl, O31⟩
            obtain ⟨t9, ht9, hx0⟩ := sm_nI (x := x) (m := 3) hx.1 hx.2 (by decide)
            subst hx0
            have : t9 = 0 ∨ t9 = 1 ∨ t9 = 2 ∨ t9 = 3 := by omega
            rcases this with rfl | rfl | rfl | rfl
            · exact absurd rfl ex0
            · exact absurd rfl ex1
            · exact absurd rfl ex2
            · exact absurd rfl ex3
          · exact absurd c25 (by decide)
      · refine jr_iconst (v := (-1 : Int32)) hE dX11_about_16 (by decide) ?_
        have e : stAbout s (nI k) x = (-1, s) := by
          unfold stAbout
          rw [if_neg (fun h => c13 ((i32_le (m := 3) (by decide)).mpr h.2.2))]
        exact hR F _ _ _ dX11_about_17 rfl ⟨B, S, P, q, X, v, by rw [e]; exact hI, by rw [e], cO.rf c F⟩

theorem cnt_4 {f : Nat → Bool} {m : Nat} (hm : m ≤ 4) (hz : ∀ j, m ≤ j → j < 4 → f j = false) : cnt f 4 = cnt f m := by
  obtain ⟨d, hd⟩ : ∃ d, 4 = m + d := ⟨4 - m, by omega⟩
  rw [hd, cnt_out d (fun j h1 h2 => hz j h1 (by omega))]

set_option maxHeartbeats 4000000 in
set_option maxRecDepth 100000 in
theorem c_c_count (l : Launch) (G : Nat → ClassId) (c : Nat → Nat) (B : Nat → List Nat) (S : Nat → Nat) (P : Nat → JP) (q : SS) (X : Nat) (v : Nat → Int32) (s : ST) (x : Int32) : jKi l yX11_count wsX11_count ({ frames := 1, cells := 0, slots := 0, locals := 22 }) G [.ref (c 0), .int x] (fun L F => cI G L F c B S P q X v s) (fun L F ans F1 => F = F1 ∧ ans = stCount s x) := by
  refine jm_ki (cc := cX11_count) (maxL := 2) (rt := .int) (by decide) rfl (Nat.le_of_ble_eq_true rfl) ?_
  intro E L F hE hR hpre
  have hE : jOk E G _ cX11_count 2 RX11 wsX11_count := hE
  have hI := hpre
  obtain ⟨W0, hG, hRw, h0, hen, hwk, h2, hsg, hnc, htd, hse⟩ := id hpre
  have hwk48 := hwk.2
  have hs4 := hsg.1
  have hen4 := hen.1
  have f46 : jFl RX11 wsX11_count 46 11 4 := ⟨rfl, by decide, by decide +kernel, by decide +kernel⟩
  have f167 : jFl RX11 wsX11_count 167 4 0 := ⟨rfl, by decide, by decide +kernel, by decide +kernel⟩
  have f203 : jFl RX11 wsX11_count 203 4 1 := ⟨rfl, by decide, by decide +kernel, by decide +kernel⟩
  have f56 : jFl RX11 wsX11_count 56 11 6 := ⟨rfl, by decide, by decide +kernel, by decide +kernel⟩
  have f60 : jFl RX11 wsX11_count 60 11 7 := ⟨rfl, by decide, by decide +kernel, by decide +kernel⟩
  by_cases ex0 : x = 0
  · subst ex0
    refine jr_iload_n hE dX11_count_0 1 rfl ?_
    refine jr_tabIn 40 hE dX11_count_1 (by decide) (by decide) (off := 39) (by decide) (by decide) ?_
    refine jr_aload_n hE dX11_count_40 0 rfl ?_
    refine jr_get hE dX11_count_41 f46 W0.o0 rfl ?_
    refine jr_get hE dX11_count_44 f167 W0.o7 rfl ?_
    rw [show v 2 = (nI s.2.2.2.1.length) from h2]
    exact hR F _ _ _ dX11_count_47 rfl ⟨rfl, rfl⟩
  by_cases ex1 : x = 1
  · subst ex1
    refine jr_iload_n hE dX11_count_0 1 rfl ?_
    refine jr_tabIn 48 hE dX11_count_1 (by decide) (by decide) (off := 47) (by decide) (by decide) ?_
    refine jr_aload_n hE dX11_count_48 0 rfl ?_
    refine jr_get hE dX11_count_49 f46 W0.o0 rfl ?_
    refine jr_kVi (ci := 4) (n := 0) (As := []) (rest := []) hE dX11_count_52 (fun l => c_g_countNonces l G c B S P q X v (fun j => (s.2.2.2.2.1 j).isSome)) gX11_count_X4_countNonces rfl W0.o7 rfl (by decide +kernel) ⟨rfl, rfl, by decide, by decide⟩ (by decide) rfl rfl (Nat.le_of_ble_eq_true rfl) (⟨W0, fun j hj => (hnc j hj).2.1⟩) (fun r3 F1 q2 => ?_)
    obtain ⟨eq2, rq2⟩ := q2
    subst eq2 rq2
    exact hR F _ _ _ dX11_count_55 rfl ⟨rfl, (by show nI (cnt (fun j => (s.2.2.2.2.1 j).isSome) 4) = nI (cnt (fun j => (s.2.2.2.2.1 j).isSome) s.2.2.2.1.length); rw [cnt_4 hs4 (fun j h1 h2 => by show (s.2.2.2.2.1 j).isSome = false; rw [(hnc j h2).1 h1]; rfl)])⟩
  by_cases ex2 : x = 2
  · subst ex2
    refine jr_iload_n hE dX11_count_0 1 rfl ?_
    refine jr_tabIn 56 hE dX11_count_1 (by decide) (by decide) (off := 55) (by decide) (by decide) ?_
    refine jr_aload_n hE dX11_count_56 0 rfl ?_
    refine jr_get hE dX11_count_57 f46 W0.o0 rfl ?_
    refine jr_kVi (ci := 4) (n := 0) (As := []) (rest := []) hE dX11_count_60 (fun l => c_g_countTold l G c B S P q X v (fun j => (s.2.2.2.2.2.1 j).isSome)) gX11_count_X4_countTold rfl W0.o7 rfl (by decide +kernel) ⟨rfl, rfl, by decide, by decide⟩ (by decide) rfl rfl (Nat.le_of_ble_eq_true rfl) (⟨W0, fun j hj => (htd j hj).2.1⟩) (fun r6 F4 q5 => ?_)
    obtain ⟨eq5, rq5⟩ := q5
    subst eq5 rq5
    exact hR F _ _ _ dX11_count_63 rfl ⟨rfl, (by show nI (cnt (fun j => (s.2.2.2.2.2.1 j).isSome) 4) = nI (cnt (fun j => (s.2.2.2.2.2.1 j).isSome) s.2.2.2.1.length); rw [cnt_4 hs4 (fun j h1 h2 => by show (s.2.2.2.2.2.1 j).isSome = false; rw [(htd j h2).1 h1]; rfl)])⟩
  by_cases ex3 : x = 3
  · subst ex3
    refine jr_iload_n hE dX11_count_0 1 rfl ?_
    refine jr_tabIn 64 hE dX11_count_1 (by decide) (by decide) (off := 63) (by decide) (by decide) ?_
    rcases hsn : s.2.2.2.2.2.2 with _ | t
    · have hz9 := 0
      refine jr_aload_n hE dX11_count_64 0 rfl ?_
      refine jr_get hE dX11_count_65 f46 W0.o0 rfl ?_
      refine jr_get hE dX11_count_68 f203 W0.o7 rfl ?_
      rw [show v 3 = (0 : Int32) from (hse.1 hsn)]
      refine jr_if_eq (tgt := 78) hE dX11_count_71 (by decide) (fun c_71 => ?_) (fun c_71 => absurd (rfl) c_71)
      refine jr_iconst (v := (0 : Int32)) hE dX11_count_78 (by decide) ?_
      exact hR F _ _ _ dX11_count_79 rfl ⟨rfl, (by show _ = (if s.2.2.2.2.2.2.isSome then (1 : Int32) else 0); rw [hsn]; rfl)⟩
    · have hz9 := 0
      obtain ⟨b1, b2, b3, b4, b5, b6, b7, b8, b9, lb, le, hT, hJ⟩ := hse.2 t hsn
      refine jr_aload_n hE dX11_count_64 0 rfl ?_
      refine jr_get hE dX11_count_65 f46 W0.o0 rfl ?_
      refine jr_get hE dX11_count_68 f203 W0.o7 rfl ?_
      rw [show v 3 = (1 : Int32) from b1]
      refine jr_if_eq (tgt := 78) hE dX11_count_71 (by decide) (fun c_71 => absurd c_71 (by decide)) (fun c_71 => ?_)
      refine jr_iconst (v := (1 : Int32)) hE dX11_count_74 (by decide) ?_
      refine jr_goto (tgt := 79) hE dX11_count_75 (by decide) ?_
      exact hR F _ _ _ dX11_count_79 rfl ⟨rfl, (by show _ = (if s.2.2.2.2.2.2.isSome then (1 : Int32) else 0); rw [hsn]; rfl)⟩
  by_cases ex4 : x = 4
  · subst ex4
    refine jr_iload_n hE dX11_count_0 1 rfl ?_
    refine jr_tabIn 80 hE dX11_count_1 (by decide) (by decide) (off := 79) (by decide) (by decide) ?_
    refine jr_aload_n hE dX11_count_80 0 rfl ?_
    refine jr_get hE dX11_count_81 f56 W0.o0 rfl ?_
    rw [show v 0 = (nI s.2.1.length) from h0]
    exact hR F _ _ _ dX11_count_84 rfl ⟨rfl, rfl⟩
  by_cases ex5 : x = 5
  · subst ex5
    refine jr_iload_n hE dX11_count_0 1 rfl ?_
    refine jr_tabIn 85 hE dX11_count_1 (by decide) (by decide) (off := 84) (by decide) (by decide) ?_
    refine jr_aload_n hE dX11_count_85 0 rfl ?_
    refine jr_get hE dX11_count_86 f60 W0.o0 rfl ?_
    rw [show v 1 = (nI s.2.2.1) from hwk.1]
    exact hR F _ _ _ dX11_count_89 rfl ⟨rfl, rfl⟩
  refine jr_iload_n hE dX11_count_0 1 rfl ?_
  refine jr_tabOut 90 hE dX11_count_1 (Classical.byContradiction (fun h => ?_)) (by decide) ?_
  · obtain ⟨t9, ht9, hx0⟩ := sm_nI (x := x) (m := 5) (by omega) (by omega) (by decide)
    subst hx0
    have : t9 = 0 ∨ t9 = 1 ∨ t9 = 2 ∨ t9 = 3 ∨ t9 = 4 ∨ t9 = 5 := by omega
    rcases this with rfl | rfl | rfl | rfl | rfl | rfl
    · exact absurd rfl ex0
    · exact absurd rfl ex1
    · exact absurd rfl ex2
    · exact absurd rfl ex3
    · exact absurd rfl ex4
    · exact absurd rfl ex5
  refine jr_iconst (v := (-1 : Int32)) hE dX11_count_90 (by decide) ?_
  exact hR F _ _ _ dX11_count_91 rfl ⟨rfl, by unfold stCount; rw [if_neg ex0, if_neg ex1, if_neg ex2, if_neg ex3, if_neg ex4, if_neg ex5]⟩

