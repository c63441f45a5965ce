/-! JointSigns: signer, noSigners, told, jointKey -/
theorem mem_nI {x : Int32} {m : Nat} (hm : m ≤ 4) (h : 0 ≤ x.toInt ∧ x.toInt < m) : ∃ u, u < m ∧ x = nI u := by
  obtain ⟨k, hk, e⟩ := sm_nI (x := x) (m := 3) h.1 (by omega) (by decide)
  subst e
  refine ⟨k, ?_, rfl⟩
  have q := h.2
  rw [nI_toInt (by omega)] at q
  omega
theorem cI.jne {G : Nat → ClassId} {L : List Nat} {F : Nat → va_E} {c : Nat → Nat} {B : Nat → List Nat} {S : Nat → Nat} {P : Nat → JP} {q : SS} {X : Nat} {v : Nat → Int32} {s : ST} (h : cI G L F c B S P q X v s) (hn : s.2.2.2.2.2.2 ≠ none) : qSs s.2.2.2.1 s.2.2.2.1.length ≠ none := by
  obtain ⟨t, ht⟩ := Option.ne_none_iff_exists'.mp hn
  obtain ⟨b1, b2, b3, b4, b5, b6, b7, b8, b9, b10⟩ := h.2.2.2.2.2.2.2.2.2.2.2 t ht
  exact b10.2.2.2

set_option maxHeartbeats 4000000 in
set_option maxRecDepth 100000 in
theorem c_c_signer (l : Launch) (G : Nat → ClassId) (c : Nat → Nat) (B : Nat → List Nat) (S : Nat → Nat) (P : Nat → JP) (q : SS) (X : Nat) (v : Nat → Int32) (s : ST) (r : Int32) : jKi l yX11_signer wsX11_signer ({ frames := 6, cells := 0, slots := 0, locals := 194 }) G [.ref (c 0), .int r] (fun L F => cI G L F c B S P q X v s) (fun L F ans F1 => ∃ B1 S1 P1 q1 X1 v1, cI G L F1 c B1 S1 P1 q1 X1 v1 (stSigner s r).2 ∧ ans = (stSigner s r).1 ∧ cO c F F1) := by
  refine jm_ki (cc := cX11_signer) (maxL := 2) (rt := .int) (by decide) rfl (Nat.le_of_ble_eq_true rfl) ?_
  intro E L F hE hR hpre
  have hE : jOk E G _ cX11_signer 2 RX11 wsX11_signer := hE
  have hI := hpre
  obtain ⟨W0, hG, hRw, h0, hen, hwk, h2, hsg, hnc, htd, hse⟩ := id hpre
  have hwk48 := hwk.2
  have hs4 := hsg.1
  have hen4 := hen.1
  have f46 : jFl RX11 wsX11_signer 46 11 4 := ⟨rfl, by decide, by decide +kernel, by decide +kernel⟩
  have f11 : jFl RX11 wsX11_signer 11 11 0 := ⟨rfl, by decide, by decide +kernel, by decide +kernel⟩
  have f167 : jFl RX11 wsX11_signer 167 4 0 := ⟨rfl, by decide, by decide +kernel, by decide +kernel⟩
  refine jr_iload_n hE dX11_signer_0 1 rfl ?_
  refine jr_kSi (n := 1) (As := [.int r]) (rest := []) hE dX11_signer_1 (fun l => c_c_isRow l G r) gX11_signer_X11_isRow rfl (by decide +kernel) ⟨rfl, rfl, by decide, by decide⟩ (by decide) rfl rfl (Nat.le_of_ble_eq_true rfl) (trivial) (fun r3 F1 q2 => ?_)
  obtain ⟨eq2, rq2⟩ := q2
  subst eq2 rq2
  refine jr_if_ne (tgt := 9) hE dX11_signer_4 (by decide) (fun c4 => ?_) (fun c4 => ?_)
  · have hrk : rowP r := b2i_1 c4
    obtain ⟨k, hk, rfl⟩ := rowP_nI hrk
    have hrnk := nI_rn hk
    have hlk : (s.1 k).length ≤ 100 := by rw [← hRw k hk]; have q := W0.cp k (by omega); rw [bcr (by omega)] at q; exact q
    refine jr_aload_n hE dX11_signer_9 0 rfl ?_
    refine jr_get hE dX11_signer_10 f46 W0.o0 rfl ?_
    refine jr_aload_n hE dX11_signer_13 0 rfl ?_
    refine jr_get hE dX11_signer_14 f11 W0.o0 rfl ?_
    refine jr_iload_n hE dX11_signer_17 1 rfl ?_
    obtain ⟨f4, ja4, ga4⟩ := W0.aR
    refine jr_aald (v := c (270 + 2 * k)) hE dX11_signer_18 ja4 rfl (vp_in_nI (n := k) (by omega) (by decide)) (by rw [nI_clamp (by omega)]; exact ga4 k (by omega)) ?_
    refine jr_kVi (ci := 4) (n := 1) (As := [.ref (c (270 + 2 * k))]) (rest := []) hE dX11_signer_19 (fun l => c_g_canRead l G c B S P q X v k) gX11_signer_X4_canRead rfl W0.o7 rfl (by decide +kernel) ⟨rfl, rfl, by decide, by decide⟩ (by decide) rfl rfl (Nat.le_of_ble_eq_true rfl) (⟨W0, hk⟩) (fun r7 F5 q6 => ?_)
    obtain ⟨Pf8, W8, hPf8, f8_0, r7e, P8⟩ := q6
    subst r7e
    have O8 := (cO.rf c F).tr P8
    refine jr_if_ne (tgt := 28) hE dX11_signer_22 (by decide) (fun c22 => ?_) (fun c22 => ?_)
    · have hok : sgOK (s.1 k) := by have q := b2i_1 c22; rw [show B k = s.1 k from (hRw k hk)] at q; exact q
      refine jr_aload_n hE dX11_signer_28 0 rfl ?_
      refine jr_get hE dX11_signer_29 f46 W8.o0 rfl ?_
      refine jr_kVi (ci := 4) (n := 0) (As := []) (rest := []) hE dX11_signer_32 (fun l => c_g_isFull l G c B S Pf8 q X v s.2.2.2.1.length) gX11_signer_X4_isFull rfl W8.o7 rfl (by decide +kernel) ⟨rfl, rfl, by decide, by decide⟩ (by decide) rfl rfl (Nat.le_of_ble_eq_true rfl) (⟨W8, h2, hs4⟩) (fun r11 F9 q10 => ?_)
      obtain ⟨eq10, rq10⟩ := q10
      subst eq10 rq10
      refine jr_if_eq (tgt := 41) hE dX11_signer_35 (by decide) (fun c35 => ?_) (fun c35 => ?_)
      · have hlt4 : s.2.2.2.1.length < 4 := Nat.lt_of_not_le (b2i_0 c35)
        refine jr_aload_n hE dX11_signer_41 0 rfl ?_
        refine jr_get hE dX11_signer_42 f46 W8.o0 rfl ?_
        refine jr_aload_n hE dX11_signer_45 0 rfl ?_
        refine jr_get hE dX11_signer_46 f11 W8.o0 rfl ?_
        refine jr_iload_n hE dX11_signer_49 1 rfl ?_
        obtain ⟨f12, ja12, ga12⟩ := W8.aR
        refine jr_aald (v := c (270 + 2 * k)) hE dX11_signer_50 ja12 rfl (vp_in_nI (n := k) (by omega) (by decide)) (by rw [nI_clamp (by omega)]; exact ga12 k (by omega)) ?_
        have hpk := f8_0
        rw [show B k = s.1 k from (hRw k hk)] at hpk
        refine jr_kVv (ci := 4) (n := 1) (As := [.ref (c (270 + 2 * k))]) (rest := []) hE dX11_signer_51 (fun l => c_g_addMember l G c B S Pf8 q X v k s.2.2.2.1.length (pKs (s.1 k))) gX11_signer_X4_addMember rfl W8.o7 rfl (by decide +kernel) ⟨rfl, rfl, by decide, by decide⟩ (by decide) rfl rfl (Nat.le_of_ble_eq_true rfl) (⟨W8, hk, h2, hlt4, (by rw [show B k = s.1 k from (hRw k hk)]; exact hok.1), hpk hok⟩) (fun F13 q14 => ?_)
        obtain ⟨B15, Pf15, v15, W15, hB15, hPf15, hv15, f15_0, f15_1, f15_2, f15_3, f15_4, P15⟩ := q14
        have O15 := O8.tr P15
        refine jr_aload_n hE dX11_signer_54 0 rfl ?_
        refine jr_get hE dX11_signer_55 f46 W15.o0 rfl ?_
        refine jr_get hE dX11_signer_58 f167 W15.o7 rfl ?_
        rw [show v15 2 = (nI (s.2.2.2.1.length + 1)) from f15_2]
        have e : stSigner s (nI k) = (nI (s.2.2.2.1.length + 1), addS s (s.1 k)) := by
          unfold stSigner
          rw [if_pos (nI_rowP hk), hrnk, if_pos hok, if_neg (by omega)]
        exact hR F13 _ _ _ dX11_signer_61 rfl ⟨_, _, _, _, _, _, by rw [e]; exact hI.sg W15 (fun z hz h2 => (hB15 z (by (try simp only [List.mem_cons, List.not_mem_nil, or_false, not_or] at hz ⊢); omega))) (fun z hz => rfl) (fun z hz h2 => ((hPf15 z (by (try simp only [List.mem_cons, List.not_mem_nil, or_false, not_or] at hz ⊢); omega)).trans (hPf8 z (by (try simp only [List.mem_cons, List.not_mem_nil, or_false, not_or] at hz ⊢); omega)))) (fun z hz => (hv15 z (by (try simp only [List.mem_cons, List.not_mem_nil, or_false, not_or] at hz ⊢); omega))) hlt4 (by have q := f15_0; rw [show B k = s.1 k from (hRw k hk)] at q; exact q) hok.1 f15_1 f15_2 f15_3 f15_4, by rw [e], O15⟩
      · refine jr_bipush (v := (-3 : Int32)) hE dX11_signer_38 (by decide) ?_
        have e : stSigner s (nI k) = (-3, s) := by
          unfold stSigner
          rw [if_pos (nI_rowP hk), hrnk, if_pos hok, if_pos (by have q := b2i_1 c35; omega)]
        exact hR F5 _ _ _ dX11_signer_40 rfl ⟨_, _, _, _, _, _, by rw [e]; exact hI.upd (k := s.2.2.1) W8 (fun z hz => rfl) (fun z hz => rfl) (fun z hz => (hPf8 z (by simp only [List.mem_cons, List.not_mem_nil, or_false, not_or] at hz ⊢; omega))) (fun z hz => rfl) hwk.1 (hwk.2), by rw [e], O8⟩
    · refine jr_bipush (v := (-2 : Int32)) hE dX11_signer_25 (by decide) ?_
      have e : stSigner s (nI k) = (-2, s) := by
        unfold stSigner
        rw [if_pos (nI_rowP hk), hrnk, if_neg (fun h => absurd (b2i_t (p := sgOK (B k)) (by rw [show B k = s.1 k from (hRw k hk)]; exact h)) (by rw [c22]; decide))]
      exact hR F5 _ _ _ dX11_signer_27 rfl ⟨_, _, _, _, _, _, by rw [e]; exact hI.upd (k := s.2.2.1) W8 (fun z hz => rfl) (fun z hz => rfl) (fun z hz => (hPf8 z (by simp only [List.mem_cons, List.not_mem_nil, or_false, not_or] at hz ⊢; omega))) (fun z hz => rfl) hwk.1 (hwk.2), by rw [e], O8⟩
  · refine jr_iconst (v := (-1 : Int32)) hE dX11_signer_7 (by decide) ?_
    have e : stSigner s r = (-1, s) := by
      unfold stSigner
      rw [if_neg (fun h => absurd (b2i_t (p := rowP r) h) (by rw [c4]; decide))]
    exact hR F _ _ _ dX11_signer_8 rfl ⟨B, S, P, q, X, v, by rw [e]; exact hI, by rw [e], cO.rf c F⟩

set_option maxHeartbeats 4000000 in
set_option maxRecDepth 100000 in
theorem c_c_noSigners (l : Launch) (G : Nat → ClassId) (c : Nat → Nat) (B : Nat → List Nat) (S : Nat → Nat) (P : Nat → JP) (q : SS) (X : Nat) (v : Nat → Int32) (s : ST) : jKi l yX11_noSigners wsX11_noSigners ({ frames := 2, cells := 0, slots := 0, locals := 41 }) G [.ref (c 0)] (fun L F => cI G L F c B S P q X v s) (fun L F ans F1 => ∃ B1 S1 P1 q1 X1 v1, cI G L F1 c B1 S1 P1 q1 X1 v1 (stNo s).2 ∧ ans = (stNo s).1 ∧ cO c F F1) := by
  refine jm_ki (cc := cX11_noSigners) (maxL := 2) (rt := .int) (by decide) rfl (Nat.le_of_ble_eq_true rfl) ?_
  intro E L F hE hR hpre
  have hE : jOk E G _ cX11_noSigners 2 RX11 wsX11_noSigners := hE
  have hI := hpre
  obtain ⟨W0, hG, hRw, h0, hen, hwk, h2, hsg, hnc, htd, hse⟩ := id hpre
  have hwk48 := hwk.2
  have hs4 := hsg.1
  have hen4 := hen.1
  have f46 : jFl RX11 wsX11_noSigners 46 11 4 := ⟨rfl, by decide, by decide +kernel, by decide +kernel⟩
  have f167 : jFl RX11 wsX11_noSigners 167 4 0 := ⟨rfl, by decide, by decide +kernel, by decide +kernel⟩
  refine jr_aload_n hE dX11_noSigners_0 0 rfl ?_
  refine jr_get hE dX11_noSigners_1 f46 W0.o0 rfl ?_
  refine jr_get hE dX11_noSigners_4 f167 W0.o7 rfl ?_
  rw [show v 2 = (nI s.2.2.2.1.length) from h2]
  refine jr_istore_n (lv' := [(1, .int (nI s.2.2.2.1.length)), (0, .ref (c 0))]) hE dX11_noSigners_7 (by decide) rfl ?_
  refine jr_aload_n hE dX11_noSigners_8 1 rfl ?_
  refine jr_get hE dX11_noSigners_9 f46 W0.o0 rfl ?_
  refine jr_kVv (ci := 4) (n := 0) (As := []) (rest := []) hE dX11_noSigners_12 (fun l => c_g_dissolve l G c B S P q X v ) gX11_noSigners_X4_dissolve rfl W0.o7 rfl (by decide +kernel) ⟨rfl, rfl, by decide, by decide⟩ (by decide) rfl rfl (Nat.le_of_ble_eq_true rfl) (W0) (fun F1 q2 => ?_)
  obtain ⟨v3, W3, hv3, f3_0, f3_1, f3_2, P3⟩ := q2
  have O3 := (cO.rf c F).tr P3
  refine jr_iload_n hE dX11_noSigners_15 0 rfl ?_
  exact hR F1 _ _ _ dX11_noSigners_16 rfl ⟨_, _, _, _, _, _, hI.no W3 (fun z hz => rfl) (fun z hz => rfl) (fun z hz => rfl) (fun z hz => (hv3 z (by (try simp only [List.mem_cons, List.not_mem_nil, or_false, not_or] at hz ⊢); omega))) f3_0 f3_1 f3_2, rfl, O3⟩

set_option maxHeartbeats 4000000 in
set_option maxRecDepth 100000 in
theorem c_c_told (l : Launch) (G : Nat → ClassId) (c : Nat → Nat) (B : Nat → List Nat) (S : Nat → Nat) (P : Nat → JP) (q : SS) (X : Nat) (v : Nat → Int32) (s : ST) (j r : Int32) : jKi l yX11_told wsX11_told ({ frames := 6, cells := 0, slots := 0, locals := 196 }) G [.ref (c 0), .int j, .int r] (fun L F => cI G L F c B S P q X v s) (fun L F ans F1 => ∃ B1 S1 P1 q1 X1 v1, cI G L F1 c B1 S1 P1 q1 X1 v1 (stTold s j r).2 ∧ ans = (stTold s j r).1 ∧ cO c F F1) := by
  refine jm_ki (cc := cX11_told) (maxL := 3) (rt := .int) (by decide) rfl (Nat.le_of_ble_eq_true rfl) ?_
  intro E L F hE hR hpre
  have hE : jOk E G _ cX11_told 3 RX11 wsX11_told := hE
  have hI := hpre
  obtain ⟨W0, hG, hRw, h0, hen, hwk, h2, hsg, hnc, htd, hse⟩ := id hpre
  have hwk48 := hwk.2
  have hs4 := hsg.1
  have hen4 := hen.1
  have f46 : jFl RX11 wsX11_told 46 11 4 := ⟨rfl, by decide, by decide +kernel, by decide +kernel⟩
  have f11 : jFl RX11 wsX11_told 11 11 0 := ⟨rfl, by decide, by decide +kernel, by decide +kernel⟩
  refine jr_iload_n hE dX11_told_0 2 rfl ?_
  refine jr_kSi (n := 1) (As := [.int r]) (rest := []) hE dX11_told_1 (fun l => c_c_isRow l G r) gX11_told_X11_isRow rfl (by decide +kernel) ⟨rfl, rfl, by decide, by decide⟩ (by decide) rfl rfl (Nat.le_of_ble_eq_true rfl) (trivial) (fun r3 F1 q2 => ?_)
  obtain ⟨eq2, rq2⟩ := q2
  subst eq2 rq2
  refine jr_if_eq (tgt := 18) hE dX11_told_4 (by decide) (fun c4 => ?_) (fun c4 => ?_)
  · refine jr_iconst (v := (-1 : Int32)) hE dX11_told_18 (by decide) ?_
    have e : stTold s j r = (-1, s) := by
      unfold stTold
      rw [if_neg (fun h => absurd (b2i_t h.2) (by rw [c4]; decide))]
    exact hR F _ _ _ dX11_told_19 rfl ⟨B, S, P, q, X, v, by rw [e]; exact hI, by rw [e], cO.rf c F⟩
  · have hrk : rowP r := b2i_1 c4
    obtain ⟨k, hk, rfl⟩ := rowP_nI hrk
    have hrnk := nI_rn hk
    have hlk : (s.1 k).length ≤ 100 := by rw [← hRw k hk]; have q := W0.cp k (by omega); rw [bcr (by omega)] at q; exact q
    refine jr_aload_n hE dX11_told_7 0 rfl ?_
    refine jr_get hE dX11_told_8 f46 W0.o0 rfl ?_
    refine jr_iload_n hE dX11_told_11 1 rfl ?_
    refine jr_kVi (ci := 4) (n := 1) (As := [.int j]) (rest := []) hE dX11_told_12 (fun l => c_g_hasMember l G c B S P q X v j s.2.2.2.1.length) gX11_told_X4_hasMember rfl W0.o7 rfl (by decide +kernel) ⟨rfl, rfl, by decide, by decide⟩ (by decide) rfl rfl (Nat.le_of_ble_eq_true rfl) (⟨W0, h2, hs4⟩) (fun r6 F4 q5 => ?_)
    obtain ⟨eq5, rq5⟩ := q5
    subst eq5 rq5
    refine jr_if_ne (tgt := 20) hE dX11_told_15 (by decide) (fun c15 => ?_) (fun c15 => ?_)
    · have hmu := b2i_1 c15
      obtain ⟨u, hu, rfl⟩ := mem_nI hs4 hmu
      have hrnu : rn (nI u) = u := rn_n (by omega)
      have hu4 : u < 4 := by omega
      refine jr_aload_n hE dX11_told_20 0 rfl ?_
      refine jr_get hE dX11_told_21 f46 W0.o0 rfl ?_
      refine jr_iload_n hE dX11_told_24 1 rfl ?_
      refine jr_aload_n hE dX11_told_25 0 rfl ?_
      refine jr_get hE dX11_told_26 f11 W0.o0 rfl ?_
      refine jr_iload_n hE dX11_told_29 2 rfl ?_
      obtain ⟨f7, ja7, ga7⟩ := W0.aR
      refine jr_aald (v := c (270 + 2 * k)) hE dX11_told_30 ja7 rfl (vp_in_nI (n := k) (by omega) (by decide)) (by rw [nI_clamp (by omega)]; exact ga7 k (by omega)) ?_
      refine jr_kVi (ci := 4) (n := 2) (As := [.int (nI u), .ref (c (270 + 2 * k))]) (rest := []) hE dX11_told_31 (fun l => c_g_hear l G c B S P q X v u s.2.2.2.1.length k) gX11_told_X4_hear rfl W0.o7 rfl (by decide +kernel) ⟨rfl, rfl, by decide, by decide⟩ (by decide) rfl rfl (Nat.le_of_ble_eq_true rfl) (⟨W0, h2, hu, hs4, hk⟩) (fun r10 F8 q9 => ?_)
      obtain ⟨B11, Pf11, v11, W11, hB11, hPf11, hv11, f11_0, f11_1, r10e, P11⟩ := q9
      subst r10e
      have O11 := (cO.rf c F).tr P11
      refine jr_if_eq (tgt := 41) hE dX11_told_34 (by decide) (fun c34 => ?_) (fun c34 => ?_)
      · refine jr_bipush (v := (-2 : Int32)) hE dX11_told_41 (by decide) ?_
        have hno : ¬ tdOK (s.1 k) := fun h => absurd (b2i_t (p := tdOK (B k)) (by rw [show B k = s.1 k from (hRw k hk)]; exact h)) (by rw [c34]; decide)
        obtain ⟨g1, g2, g3, g4, g5⟩ := f11_1 (by rw [show B k = s.1 k from (hRw k hk)]; exact hno)
        have hBn : ∀ z, z ∉ [16, 17, 18, 19, 20, 21, 22, 23] → B11 z = B z := by
          intro z hz
          by_cases e : z = 40 + 3 * u
          · rw [e]; exact g1
          · exact hB11 z (by simp only [List.mem_cons, List.not_mem_nil, or_false, not_or]; exact e)
        have hPn : ∀ z, z ∉ [17, 18, 19, 20, 21, 22, 23, 24, 25, 26, 27, 28] → Pf11 z = P z := by
          intro z hz
          by_cases e : z = 30 + 3 * u
          · rw [e]; exact g2
          · by_cases e2 : z = 31 + 3 * u
            · rw [e2]; exact g3
            · exact hPf11 z (by simp only [List.mem_cons, List.not_mem_nil, or_false, not_or] at hz ⊢; omega)
        have hvn : ∀ z, z ≠ 1 → v11 z = v z := by
          intro z hz
          by_cases e : z = 3
          · rw [e]; exact g4
          · by_cases e2 : z = 7 + 2 * u
            · rw [e2]; exact g5
            · exact hv11 z (by simp only [List.mem_cons, List.not_mem_nil, or_false, not_or]; omega)
        have hv12 : v11 1 = (nI s.2.2.1) := (hv11 1 (by simp only [List.mem_cons, List.not_mem_nil, or_false, not_or]; omega)).trans hwk.1
        have e : stTold s (nI u) (nI k) = (-2, s) := by
          unfold stTold
          rw [if_pos ⟨hmu, nI_rowP hk⟩, hrnk, if_neg hno]
        exact hR F8 _ _ _ dX11_told_43 rfl ⟨_, _, _, _, _, _, by rw [e]; exact hI.upd (k := s.2.2.1) W11 hBn (fun z hz => rfl) hPn hvn hv12 hwk.2, by rw [e], O11⟩
      · refine jr_iconst (v := (1 : Int32)) hE dX11_told_37 (by decide) ?_
        refine jr_goto (tgt := 43) hE dX11_told_38 (by decide) ?_
        have hok : tdOK (s.1 k) := by have q := b2i_1 c34; rw [show B k = s.1 k from (hRw k hk)] at q; exact q
        obtain ⟨g1, g2, g3, g4, g5⟩ := f11_0 (by rw [show B k = s.1 k from (hRw k hk)]; exact hok)
        rw [show B k = s.1 k from (hRw k hk)] at g1 g2 g3
        have e : stTold s (nI u) (nI k) = (1, setT s u (s.1 k)) := by
          unfold stTold
          rw [if_pos ⟨hmu, nI_rowP hk⟩, hrnk, hrnu, if_pos hok]
        exact hR F8 _ _ _ dX11_told_43 rfl ⟨_, _, _, _, _, _, by rw [e]; exact hI.td W11 (fun z hz h2 => (hB11 z (by (try simp only [List.mem_cons, List.not_mem_nil, or_false, not_or] at hz ⊢); omega))) (fun z hz => rfl) (fun z hz h2 h3 => (hPf11 z (by (try simp only [List.mem_cons, List.not_mem_nil, or_false, not_or] at hz ⊢); omega))) (fun z h1 h2 => (hv11 z (by (try simp only [List.mem_cons, List.not_mem_nil, or_false, not_or] at h1 ⊢); omega))) hu g1 g2 g3 g4 g5, by rw [e], O11⟩
    · refine jr_iconst (v := (-1 : Int32)) hE dX11_told_18 (by decide) ?_
      have e : stTold s j (nI k) = (-1, s) := by
        unfold stTold
        rw [if_neg (fun h => absurd (b2i_t h.1) (by rw [c15]; decide))]
      exact hR F _ _ _ dX11_told_19 rfl ⟨B, S, P, q, X, v, by rw [e]; exact hI, by rw [e], cO.rf c F⟩

set_option maxHeartbeats 4000000 in
set_option maxRecDepth 100000 in
theorem c_c_jointKey (l : Launch) (G : Nat → ClassId) (c : Nat → Nat) (B : Nat → List Nat) (S : Nat → Nat) (P : Nat → JP) (q : SS) (X : Nat) (v : Nat → Int32) (s : ST) (r : Int32) : jKi l yX11_jointKey wsX11_jointKey ({ frames := 7, cells := 0, slots := 0, locals := 170 }) G [.ref (c 0), .int r] (fun L F => cI G L F c B S P q X v s) (fun L F ans F1 => ∃ B1 S1 P1 q1 X1 v1, cI G L F1 c B1 S1 P1 q1 X1 v1 (stJoint s r).2 ∧ ans = (stJoint s r).1 ∧ cO c F F1) := by
  refine jm_ki (cc := cX11_jointKey) (maxL := 2) (rt := .int) (by decide) rfl (Nat.le_of_ble_eq_true rfl) ?_
  intro E L F hE hR hpre
  have hE : jOk E G _ cX11_jointKey 2 RX11 wsX11_jointKey := hE
  have hI := hpre
  obtain ⟨W0, hG, hRw, h0, hen, hwk, h2, hsg, hnc, htd, hse⟩ := id hpre
  have hwk48 := hwk.2
  have hs4 := hsg.1
  have hen4 := hen.1
  have f46 : jFl RX11 wsX11_jointKey 46 11 4 := ⟨rfl, by decide, by decide +kernel, by decide +kernel⟩
  have f167 : jFl RX11 wsX11_jointKey 167 4 0 := ⟨rfl, by decide, by decide +kernel, by decide +kernel⟩
  have f60 : jFl RX11 wsX11_jointKey 60 11 7 := ⟨rfl, by decide, by decide +kernel, by decide +kernel⟩
  have f18 : jFl RX11 wsX11_jointKey 18 11 1 := ⟨rfl, by decide, by decide +kernel, by decide +kernel⟩
  have f176 : jFl RX11 wsX11_jointKey 176 4 2 := ⟨rfl, by decide, by decide +kernel, by decide +kernel⟩
  refine jr_iload_n hE dX11_jointKey_0 1 rfl ?_
  refine jr_kSi (n := 1) (As := [.int r]) (rest := []) hE dX11_jointKey_1 (fun l => c_c_isRow l G r) gX11_jointKey_X11_isRow rfl (by decide +kernel) ⟨rfl, rfl, by decide, by decide⟩ (by decide) rfl rfl (Nat.le_of_ble_eq_true rfl) (trivial) (fun r3 F1 q2 => ?_)
  obtain ⟨eq2, rq2⟩ := q2
  subst eq2 rq2
  refine jr_if_ne (tgt := 9) hE dX11_jointKey_4 (by decide) (fun c4 => ?_) (fun c4 => ?_)
  · have hrk : rowP r := b2i_1 c4
    obtain ⟨k, hk, rfl⟩ := rowP_nI hrk
    have hrnk := nI_rn hk
    have hlk : (s.1 k).length ≤ 100 := by rw [← hRw k hk]; have q := W0.cp k (by omega); rw [bcr (by omega)] at q; exact q
    refine jr_aload_n hE dX11_jointKey_9 0 rfl ?_
    refine jr_get hE dX11_jointKey_10 f46 W0.o0 rfl ?_
    refine jr_get hE dX11_jointKey_13 f167 W0.o7 rfl ?_
    rw [show v 2 = (nI s.2.2.2.1.length) from h2]
    refine jr_if_ne (tgt := 22) hE dX11_jointKey_16 (by decide) (fun c16 => ?_) (fun c16 => ?_)
    · have hz : ¬ s.2.2.2.1.length = 0 := fun h => c16 ((nI_eq (b := 0) (by omega) (by decide)).mpr h)
      refine jr_aload_n hE dX11_jointKey_22 0 rfl ?_
      refine jr_aload_n hE dX11_jointKey_23 0 rfl ?_
      refine jr_get hE dX11_jointKey_24 f46 W0.o0 rfl ?_
      refine jr_get hE dX11_jointKey_27 f167 W0.o7 rfl ?_
      rw [show v 2 = (nI s.2.2.2.1.length) from h2]
      refine jr_kVi (ci := 11) (n := 1) (As := [.int (nI s.2.2.2.1.length)]) (rest := []) hE dX11_jointKey_30 (fun l => c_c_wouldPass l G c B S P q X v s.2.2.1 s.2.2.2.1.length) gX11_jointKey_X11_wouldPass rfl W0.o0 rfl (by decide +kernel) ⟨rfl, rfl, by decide, by decide⟩ (by decide) rfl rfl (Nat.le_of_ble_eq_true rfl) (⟨W0, hwk.1, by omega, by omega⟩) (fun r6 F4 q5 => ?_)
      obtain ⟨eq5, rq5⟩ := q5
      subst eq5 rq5
      refine jr_if_eq (tgt := 39) hE dX11_jointKey_33 (by decide) (fun c33 => ?_) (fun c33 => ?_)
      · have hw48 : ¬ 48 < s.2.2.1 + s.2.2.2.1.length := b2i_0 c33
        refine jr_aload_n hE dX11_jointKey_39 0 rfl ?_
        refine jr_dup hE dX11_jointKey_40 rfl ?_
        refine jr_get hE dX11_jointKey_41 f60 W0.o0 rfl ?_
        rw [show v 1 = (nI s.2.2.1) from hwk.1]
        refine jr_aload_n hE dX11_jointKey_44 0 rfl ?_
        refine jr_get hE dX11_jointKey_45 f46 W0.o0 rfl ?_
        refine jr_get hE dX11_jointKey_48 f167 W0.o7 rfl ?_
        rw [show v 2 = (nI s.2.2.2.1.length) from h2]
        refine jr_iadd (z := nI (s.2.2.1 + s.2.2.2.1.length)) hE dX11_jointKey_51 (nI_add _ _) ?_
        refine jr_put (ty := .int) hE dX11_jointKey_52 f60 W0.o0 rfl (by decide +kernel) rfl rfl (Nat.le_of_ble_eq_true rfl) (fun F7 h7 u7 => ?_)
        obtain ⟨W7, P7⟩ := W0.setV0 (v1 := (uz v 1 (nI (s.2.2.1 + s.2.2.2.1.length)))) h7 (fun z hz => uz_n _ _ (jne hz 1 rfl)) u7
        have O7 := (cO.rf c F).tr P7
        obtain ⟨v7, ev7, hv7, yv7⟩ := uz_ab v 1 (nI (s.2.2.1 + s.2.2.2.1.length))
        rw [ev7] at W7
        have nv7 : ∀ z, z ≠ 1 → v7 z = v z := fun z hz => hv7 z (fun e => hz (List.mem_singleton.mp e))
        refine jr_aload_n hE dX11_jointKey_55 0 rfl ?_
        refine jr_get hE dX11_jointKey_56 f46 W7.o0 rfl ?_
        have hv8 : v7 2 = (nI s.2.2.2.1.length) := (nv7 2 (by decide)).trans h2
        refine jr_kVi (ci := 4) (n := 0) (As := []) (rest := []) hE dX11_jointKey_59 (fun l => c_g_joinKeys l G c B S P q X v7 s.2.2.2.1) gX11_jointKey_X4_joinKeys rfl W7.o7 rfl (by decide +kernel) ⟨rfl, rfl, by decide, by decide⟩ (by decide) rfl rfl (Nat.le_of_ble_eq_true rfl) (⟨W7, (fun t ht => by have h8 := hs4; rw [show B (38 + 3 * t) = B (38 + 3 * t) from rfl]; exact ⟨(hsg.2 t ht).1, (hsg.2 t ht).2.1⟩), hv8, hs4, (fun t ht => by have h8 := hs4; rw [show P (29 + 3 * t) = P (29 + 3 * t) from rfl]; exact (hsg.2 t ht).2.2)⟩) (fun r11 F9 q10 => ?_)
        obtain ⟨B12, S12, Pf12, v12, q12, W12, hB12, hS12, hPf12, hv12, f12_0, f12_1, r11e, P12⟩ := q10
        subst r11e
        have O12 := O7.tr P12
        refine jr_if_ne (tgt := 68) hE dX11_jointKey_62 (by decide) (fun c62 => ?_) (fun c62 => ?_)
        · have hQ : (qSs s.2.2.2.1 s.2.2.2.1.length) ≠ none := b2i_1 c62
          obtain ⟨j1, j2⟩ := f12_1 hQ
          have hv4 : v12 4 = bi (oQ s) := j2.trans (bi_b2i _)
          refine jr_aload_n hE dX11_jointKey_68 0 rfl ?_
          refine jr_get hE dX11_jointKey_69 f18 W12.o0 rfl ?_
          refine jr_aload_n hE dX11_jointKey_72 0 rfl ?_
          refine jr_get hE dX11_jointKey_73 f46 W12.o0 rfl ?_
          refine jr_get hE dX11_jointKey_76 f176 W12.o7 rfl ?_
          refine jr_kVv (ci := 0) (n := 1) (As := [.ref (c (270 + 2 * 21))]) (rest := []) hE dX11_jointKey_79 (fun l => c_X0_become l G (c (270 + 2 * 16)) (c (271 + 2 * 16)) (bcap 16) (c (270 + 2 * 21)) (c (271 + 2 * 21)) (bcap 21) (B12 16) (bex (exE (qSs s.2.2.2.1 s.2.2.2.1.length)) 32)) gX11_jointKey_X0_become rfl ((W12.by 16 (by decide)).ob) rfl (by decide +kernel) ⟨rfl, rfl, by decide, by decide⟩ (by decide) rfl rfl (Nat.le_of_ble_eq_true rfl) (⟨W12.by 16 (by decide), (by have q := W12.by 21 (by decide); rw [show B12 21 = (bex (exE (qSs s.2.2.2.1 s.2.2.2.1.length)) 32) from j1] at q; exact q), cnd W12.1 [270 + 2 * 16, 271 + 2 * 16, 270 + 2 * 21, 271 + 2 * 21] (by decide) (by decide), by rw [bex_len]; decide⟩) (fun F13 q14 => ?_)
          obtain ⟨h15, u15⟩ := q14
          obtain ⟨W15, P15⟩ := W12.setB (i := 16) (bs := (bex (exE (qSs s.2.2.2.1 s.2.2.2.1.length)) 32)) (by decide) h15 u15
          have O15 := O12.tr P15
          obtain ⟨B15, eB15, hB15, yB15⟩ := uz_ab B12 16 (bex (exE (qSs s.2.2.2.1 s.2.2.2.1.length)) 32)
          rw [eB15] at W15
          have nB15 : ∀ z, z ≠ 16 → B15 z = B12 z := fun z hz => hB15 z (fun e => hz (List.mem_singleton.mp e))
          refine jr_aload_n hE dX11_jointKey_82 0 rfl ?_
          refine jr_iload_n hE dX11_jointKey_83 1 rfl ?_
          have hv16 : v12 1 = (nI (s.2.2.1 + s.2.2.2.1.length)) := (hv12 1 (by decide)).trans yv7
          have hJ := hI.updG (k := s.2.2.1 + s.2.2.2.1.length) W15 (fun z hz => ((nB15 z (by simp only [List.mem_cons, List.not_mem_nil, or_false, not_or] at hz; omega)).trans (hB12 z (by simp only [List.mem_cons, List.not_mem_nil, or_false, not_or] at hz ⊢; omega)))) (fun z hz => (hS12 z (by simp only [List.mem_cons, List.not_mem_nil, or_false, not_or] at hz ⊢; omega))) (fun z hz => (hPf12 z (by simp only [List.mem_cons, List.not_mem_nil, or_false, not_or] at hz ⊢; omega))) (fun z hz => ((hv12 z (by simp only [List.mem_cons, List.not_mem_nil, or_false, not_or] at hz ⊢; omega)).trans (nv7 z (by simp only [List.mem_cons, List.not_mem_nil, or_false, not_or] at hz; omega)))) hv16 (by omega) (fun _ => ⟨fun t ht => (rfl).trans (f12_0 t ht), hv4⟩)
          refine jr_kVi (ci := 11) (n := 1) (As := [.int (nI k)]) (rest := []) hE dX11_jointKey_84 (fun l => c_c_answerIn l G c B15 S12 Pf12 q12 X v12 k) gX11_jointKey_X11_answerIn rfl W15.o0 rfl (by decide +kernel) ⟨rfl, rfl, by decide, by decide⟩ (by decide) rfl rfl (Nat.le_of_ble_eq_true rfl) (⟨W15, hk⟩) (fun r19 F17 q18 => ?_)
          obtain ⟨B20, W20, hB20, f20_0, r19e, P20⟩ := q18
          subst r19e
          have O20 := O15.tr P20
          have e : stJoint s (nI k) = (32, setK (setR s k (bex (exE (qSs s.2.2.2.1 s.2.2.2.1.length)) 32)) (s.2.2.1 + s.2.2.2.1.length)) := by
            unfold stJoint
            rw [if_pos (nI_rowP hk), if_neg hz, if_neg hw48, if_neg hQ, hrnk]
          exact hR F17 _ _ _ dX11_jointKey_87 rfl ⟨_, _, _, _, _, _, by rw [e]; exact hJ.row W20 hk (fun z hz => hB20 z (fun q => hz (List.mem_singleton.mp q))) (f20_0.trans yB15), by rw [e, show B15 16 = (bex (exE (qSs s.2.2.2.1 s.2.2.2.1.length)) 32) from yB15, bex_len]; rfl, O20⟩
        · refine jr_bipush (v := (-2 : Int32)) hE dX11_jointKey_65 (by decide) ?_
          have hv21 : v12 1 = (nI (s.2.2.1 + s.2.2.2.1.length)) := (hv12 1 (by decide)).trans yv7
          have e : stJoint s (nI k) = (-2, setK s (s.2.2.1 + s.2.2.2.1.length)) := by
            unfold stJoint
            rw [if_pos (nI_rowP hk), if_neg hz, if_neg hw48, if_pos (Classical.byContradiction (fun h => b2i_0 c62 h))]
          exact hR F9 _ _ _ dX11_jointKey_67 rfl ⟨_, _, _, _, _, _, by rw [e]; exact hI.updG (k := s.2.2.1 + s.2.2.2.1.length) W12 (fun z hz => (hB12 z (by simp only [List.mem_cons, List.not_mem_nil, or_false, not_or] at hz ⊢; omega))) (fun z hz => (hS12 z (by simp only [List.mem_cons, List.not_mem_nil, or_false, not_or] at hz ⊢; omega))) (fun z hz => (hPf12 z (by simp only [List.mem_cons, List.not_mem_nil, or_false, not_or] at hz ⊢; omega))) (fun z hz => ((hv12 z (by simp only [List.mem_cons, List.not_mem_nil, or_false, not_or] at hz ⊢; omega)).trans (nv7 z (by simp only [List.mem_cons, List.not_mem_nil, or_false, not_or] at hz; omega)))) hv21 (by omega) (fun hn => absurd (hI.jne hn) (fun h => b2i_0 c62 h)), by rw [e], O12⟩
      · refine jr_bipush (v := (-5 : Int32)) hE dX11_jointKey_36 (by decide) ?_
        have e : stJoint s (nI k) = (-5, s) := by
          unfold stJoint
          rw [if_pos (nI_rowP hk), if_neg hz, if_pos (b2i_1 (p := 48 < s.2.2.1 + s.2.2.2.1.length) c33)]
        exact hR F _ _ _ dX11_jointKey_38 rfl ⟨B, S, P, q, X, v, by rw [e]; exact hI, by rw [e], cO.rf c F⟩
    · refine jr_bipush (v := (-2 : Int32)) hE dX11_jointKey_19 (by decide) ?_
      have e : stJoint s (nI k) = (-2, s) := by
        unfold stJoint
        rw [if_pos (nI_rowP hk), if_pos ((nI_eq (b := 0) (by omega) (by decide)).mp c16)]
      exact hR F _ _ _ dX11_jointKey_21 rfl ⟨B, S, P, q, X, v, by rw [e]; exact hI, by rw [e], cO.rf c F⟩
  · refine jr_iconst (v := (-1 : Int32)) hE dX11_jointKey_7 (by decide) ?_
    have e : stJoint s r = (-1, s) := by
      unfold stJoint
      rw [if_neg (fun h => absurd (b2i_t (p := rowP r) h) (by rw [c4]; decide))]
    exact hR F _ _ _ dX11_jointKey_8 rfl ⟨B, S, P, q, X, v, by rw [e]; exact hI, by rw [e], cO.rf c F⟩

