/-! JointSigns: put, at, bend, copy -/
theorem rn_n {k : Nat} (h : k < 2 ^ 31) : rn (nI k) = k := by
  unfold rn
  rw [nI_toInt h]
  rfl
theorem gD_set {l : List Nat} {i x : Nat} (h : i < l.length) : (l.set i x).getD i 0 = x := by
  rw [List.getD_eq_getElem?_getD, List.getElem?_set_self h]
  rfl

set_option maxHeartbeats 4000000 in
set_option maxRecDepth 100000 in
theorem c_c_put (l : Launch) (G : Nat → ClassId) (c : Nat → Nat) (B : Nat → List Nat) (S : Nat → Nat) (P : Nat → JP) (q : SS) (X : Nat) (v : Nat → Int32) (s : ST) (r n : Int32) (x : Int64) : jKi l yX11_put wsX11_put ({ frames := 2, cells := 0, slots := 0, locals := 45 }) G [.ref (c 0), .int r, .int n, .long x] (fun L F => cI G L F c B S P q X v s) (fun L F ans F1 => ∃ B1 S1 P1 q1 X1 v1, cI G L F1 c B1 S1 P1 q1 X1 v1 (stPut s r n x).2 ∧ ans = (stPut s r n x).1 ∧ cO c F F1) := by
  refine jm_ki (cc := cX11_put) (maxL := 5) (rt := .int) (by decide) rfl (Nat.le_of_ble_eq_true rfl) ?_
  intro E L F hE hR hpre
  have hE : jOk E G _ cX11_put 5 RX11 wsX11_put := hE
  have hI := hpre
  obtain ⟨W0, hG, hRw, h0, hen, hwk, h2, hsg, hnc, htd, hse⟩ := id hpre
  have hwk48 := hwk.2
  have hs4 := hsg.1
  have hen4 := hen.1
  have f11 : jFl RX11 wsX11_put 11 11 0 := ⟨rfl, by decide, by decide +kernel, by decide +kernel⟩
  have f68 : jFl RX11 wsX11_put 68 0 1 := ⟨rfl, by decide, by decide +kernel, by decide +kernel⟩
  refine jr_iload_n hE dX11_put_0 1 rfl ?_
  refine jr_kSi (n := 1) (As := [.int r]) (rest := []) hE dX11_put_1 (fun l => c_c_isRow l G r) gX11_put_X11_isRow rfl (by decide +kernel) ⟨rfl, rfl, by decide, by decide⟩ (by decide) rfl rfl (Nat.le_of_ble_eq_true rfl) (trivial) (fun r3 F1 q2 => ?_)
  obtain ⟨eq2, rq2⟩ := q2
  subst eq2 rq2
  refine jr_if_eq (tgt := 18) hE dX11_put_4 (by decide) (fun c4 => ?_) (fun c4 => ?_)
  · refine jr_iconst (v := (-1 : Int32)) hE dX11_put_18 (by decide) ?_
    have e : stPut s r n x = (-1, s) := by
      unfold stPut
      rw [if_neg (fun h => absurd (b2i_t h.1) (by rw [c4]; decide))]
    exact hR F _ _ _ dX11_put_19 rfl ⟨B, S, P, q, X, v, by rw [e]; exact hI, by rw [e], cO.rf c F⟩
  · have hrk : rowP r := b2i_1 c4
    obtain ⟨k, hk, rfl⟩ := rowP_nI hrk
    have hrnk := nI_rn hk
    have hlk : (s.1 k).length ≤ 100 := by rw [← hRw k hk]; have q := W0.cp k (by omega); rw [bcr (by omega)] at q; exact q
    refine jr_iload_n hE dX11_put_7 2 rfl ?_
    refine jr_iconst (v := (1 : Int32)) hE dX11_put_8 (by decide) ?_
    refine jr_icmp_lt (tgt := 18) hE dX11_put_9 (by decide) (fun c9 => ?_) (fun c9 => ?_)
    · refine jr_iconst (v := (-1 : Int32)) hE dX11_put_18 (by decide) ?_
      have e : stPut s (nI k) n x = (-1, s) := by
        unfold stPut
        rw [if_neg (fun h => by have q := Int32.lt_iff_toInt_lt.mp c9; rw [show (1 : Int32).toInt = 1 by decide] at q; have := h.2.1; omega)]
      exact hR F _ _ _ dX11_put_19 rfl ⟨B, S, P, q, X, v, by rw [e]; exact hI, by rw [e], cO.rf c F⟩
    · refine jr_iload_n hE dX11_put_12 2 rfl ?_
      refine jr_bipush (v := (8 : Int32)) hE dX11_put_13 (by decide) ?_
      refine jr_icmp_le (tgt := 20) hE dX11_put_15 (by decide) (fun c15 => ?_) (fun c15 => ?_)
      · have hn1 : 1 ≤ n.toInt := by have q := Int32.le_iff_toInt_le.mp (Int32.not_lt.mp c9); rw [show (1 : Int32).toInt = 1 by decide] at q; exact q
        have hn8 : n.toInt ≤ 8 := (i32_le (m := 8) (by decide)).mp c15
        obtain ⟨cn, hcn, rfl⟩ := sm_nI (x := n) (m := 8) (by omega) (hn8) (by decide)
        have hrncn : rn (nI cn) = cn := rn_n (by omega)
        refine jr_aload_n hE dX11_put_20 0 rfl ?_
        refine jr_get hE dX11_put_21 f11 W0.o0 rfl ?_
        refine jr_iload_n hE dX11_put_24 1 rfl ?_
        obtain ⟨f4, ja4, ga4⟩ := W0.aR
        refine jr_aald (v := c (270 + 2 * k)) hE dX11_put_25 ja4 rfl (vp_in_nI (n := k) (by omega) (by decide)) (by rw [nI_clamp (by omega)]; exact ga4 k (by omega)) ?_
        refine jr_get hE dX11_put_26 f68 (W0.by k (by omega)).ob rfl ?_
        rw [show B k = (s.1 k) from (hRw k hk)]
        refine jr_iload_n hE dX11_put_29 2 rfl ?_
        refine jr_iadd (z := nI ((s.1 k).length + cn)) hE dX11_put_30 (nI_add _ _) ?_
        refine jr_bipush (v := (100 : Int32)) hE dX11_put_31 (by decide) ?_
        refine jr_icmp_le (tgt := 39) hE dX11_put_33 (by decide) (fun c33 => ?_) (fun c33 => ?_)
        · have hfit := nI_leC (m := 100) (by omega) (by decide) c33
          refine jr_aload_n hE dX11_put_39 0 rfl ?_
          refine jr_get hE dX11_put_40 f11 W0.o0 rfl ?_
          refine jr_iload_n hE dX11_put_43 1 rfl ?_
          obtain ⟨f5, ja5, ga5⟩ := W0.aR
          refine jr_aald (v := c (270 + 2 * k)) hE dX11_put_44 ja5 rfl (vp_in_nI (n := k) (by omega) (by decide)) (by rw [nI_clamp (by omega)]; exact ga5 k (by omega)) ?_
          refine jr_lload_n hE dX11_put_45 3 rfl ?_
          refine jr_iload_n hE dX11_put_46 2 rfl ?_
          refine jr_kVv (ci := 0) (n := 2) (As := [.long x, .int (nI cn)]) (rest := []) hE dX11_put_47 (fun l => c_X0_addNumber l G (c (270 + 2 * k)) (c (271 + 2 * k)) (bcap k) cn (s.1 k) x) gX11_put_X0_addNumber rfl ((W0.by k (by omega)).ob) rfl (by decide +kernel) ⟨rfl, rfl, by decide, by decide⟩ (by decide) rfl rfl (Nat.le_of_ble_eq_true rfl) (⟨(by have q := W0.by k (by omega); rw [show B k = (s.1 k) from (hRw k hk)] at q; exact q), by rw [bcr (by omega)]; exact hfit, by omega⟩) (fun F6 q7 => ?_)
          obtain ⟨h8, u8⟩ := q7
          obtain ⟨W8, P8⟩ := W0.setB (i := k) (bs := ((s.1 k) ++ nb x cn)) (by omega) h8 u8
          have O8 := (cO.rf c F).tr P8
          obtain ⟨B8, eB8, hB8, yB8⟩ := uz_ab B k ((s.1 k) ++ nb x cn)
          rw [eB8] at W8
          have nB8 : ∀ z, z ≠ k → B8 z = B z := fun z hz => hB8 z (fun e => hz (List.mem_singleton.mp e))
          refine jr_aload_n hE dX11_put_50 0 rfl ?_
          refine jr_get hE dX11_put_51 f11 W8.o0 rfl ?_
          refine jr_iload_n hE dX11_put_54 1 rfl ?_
          obtain ⟨f9, ja9, ga9⟩ := W8.aR
          refine jr_aald (v := c (270 + 2 * k)) hE dX11_put_55 ja9 rfl (vp_in_nI (n := k) (by omega) (by decide)) (by rw [nI_clamp (by omega)]; exact ga9 k (by omega)) ?_
          refine jr_get hE dX11_put_56 f68 (W8.by k (by omega)).ob rfl ?_
          rw [show B8 k = ((s.1 k) ++ nb x cn) from yB8]
          have e : stPut s (nI k) (nI cn) x = (nI ((s.1 k).length + cn), setR s k (s.1 k ++ nb x cn)) := by
            unfold stPut
            rw [if_pos ⟨nI_rowP hk, hn1, hn8⟩, hrnk, hrncn, if_pos hfit]
          exact hR F6 _ _ _ dX11_put_59 rfl ⟨_, _, _, _, _, _, by rw [e]; exact hI.row W8 hk (fun z hz => (nB8 z hz)) yB8, by rw [e, List.length_append, nb_len], O8⟩
        · refine jr_bipush (v := (-3 : Int32)) hE dX11_put_36 (by decide) ?_
          have e : stPut s (nI k) (nI cn) x = (-3, s) := by
            unfold stPut
            rw [if_pos ⟨nI_rowP hk, hn1, hn8⟩, hrnk, hrncn, if_neg (fun h => c33 (nI_le (b := 100) h (by decide)))]
          exact hR F _ _ _ dX11_put_38 rfl ⟨B, S, P, q, X, v, by rw [e]; exact hI, by rw [e], cO.rf c F⟩
      · refine jr_iconst (v := (-1 : Int32)) hE dX11_put_18 (by decide) ?_
        have e : stPut s (nI k) n x = (-1, s) := by
          unfold stPut
          rw [if_neg (fun h => c15 ((i32_le (m := 8) (by decide)).mpr h.2.2))]
        exact hR F _ _ _ dX11_put_19 rfl ⟨B, S, P, q, X, v, by rw [e]; exact hI, by rw [e], cO.rf c F⟩

set_option maxHeartbeats 4000000 in
set_option maxRecDepth 100000 in
theorem c_c_at (l : Launch) (G : Nat → ClassId) (c : Nat → Nat) (B : Nat → List Nat) (S : Nat → Nat) (P : Nat → JP) (q : SS) (X : Nat) (v : Nat → Int32) (s : ST) (r i : Int32) : jKi l yX11_at wsX11_at ({ frames := 1, cells := 0, slots := 0, locals := 21 }) G [.ref (c 0), .int r, .int i] (fun L F => cI G L F c B S P q X v s) (fun L F ans F1 => F = F1 ∧ ans = stAt s r i) := by
  refine jm_ki (cc := cX11_at) (maxL := 3) (rt := .int) (by decide) rfl (Nat.le_of_ble_eq_true rfl) ?_
  intro E L F hE hR hpre
  have hE : jOk E G _ cX11_at 3 RX11 wsX11_at := hE
  have hI := hpre
  obtain ⟨W0, hG, hRw, h0, hen, hwk, h2, hsg, hnc, htd, hse⟩ := id hpre
  have hwk48 := hwk.2
  have hs4 := hsg.1
  have hen4 := hen.1
  have f11 : jFl RX11 wsX11_at 11 11 0 := ⟨rfl, by decide, by decide +kernel, by decide +kernel⟩
  have f68 : jFl RX11 wsX11_at 68 0 1 := ⟨rfl, by decide, by decide +kernel, by decide +kernel⟩
  refine jr_iload_n hE dX11_at_0 1 rfl ?_
  refine jr_kSi (n := 1) (As := [.int r]) (rest := []) hE dX11_at_1 (fun l => c_c_isRow l G r) gX11_at_X11_isRow rfl (by decide +kernel) ⟨rfl, rfl, by decide, by decide⟩ (by decide) rfl rfl (Nat.le_of_ble_eq_true rfl) (trivial) (fun r3 F1 q2 => ?_)
  obtain ⟨eq2, rq2⟩ := q2
  subst eq2 rq2
  refine jr_if_eq (tgt := 12) hE dX11_at_4 (by decide) (fun c4 => ?_) (fun c4 => ?_)
  · refine jr_iconst (v := (-1 : Int32)) hE dX11_at_12 (by decide) ?_
    have e : stAt s r i = -1 := by
      unfold stAt
      rw [if_pos (.inl (fun h => absurd (b2i_t h) (by rw [c4]; decide)))]
    exact hR F _ _ _ dX11_at_13 rfl ⟨rfl, by rw [e]⟩
  · have hrk : rowP r := b2i_1 c4
    obtain ⟨k, hk, rfl⟩ := rowP_nI hrk
    have hrnk := nI_rn hk
    have hlk : (s.1 k).length ≤ 100 := by rw [← hRw k hk]; have q := W0.cp k (by omega); rw [bcr (by omega)] at q; exact q
    refine jr_iload_n hE dX11_at_7 2 rfl ?_
    refine jr_iconst (v := (-1 : Int32)) hE dX11_at_8 (by decide) ?_
    refine jr_icmp_ge (tgt := 14) hE dX11_at_9 (by decide) (fun c9 => ?_) (fun c9 => ?_)
    · have hi1 : -1 ≤ i.toInt := by have q := Int32.le_iff_toInt_le.mp c9; rw [show (-1 : Int32).toInt = -1 by decide] at q; exact q
      refine jr_iload_n hE dX11_at_14 2 rfl ?_
      refine jr_iconst (v := (-1 : Int32)) hE dX11_at_15 (by decide) ?_
      refine jr_icmp_ne (tgt := 29) hE dX11_at_16 (by decide) (fun c16 => ?_) (fun c16 => ?_)
      · have hi0 : 0 ≤ i.toInt := by
          rcases Int.lt_or_le i.toInt 0 with q | q
          · exact absurd (Int32.toInt_inj.mp (by rw [show (-1 : Int32).toInt = -1 by decide]; omega)) c16
          · exact q
        refine jr_iload_n hE dX11_at_29 2 rfl ?_
        refine jr_aload_n hE dX11_at_30 0 rfl ?_
        refine jr_get hE dX11_at_31 f11 W0.o0 rfl ?_
        refine jr_iload_n hE dX11_at_34 1 rfl ?_
        obtain ⟨f4, ja4, ga4⟩ := W0.aR
        refine jr_aald (v := c (270 + 2 * k)) hE dX11_at_35 ja4 rfl (vp_in_nI (n := k) (by omega) (by decide)) (by rw [nI_clamp (by omega)]; exact ga4 k (by omega)) ?_
        refine jr_get hE dX11_at_36 f68 (W0.by k (by omega)).ob rfl ?_
        rw [show B k = (s.1 k) from (hRw k hk)]
        refine jr_icmp_ge (tgt := 55) hE dX11_at_39 (by decide) (fun c39 => ?_) (fun c39 => ?_)
        · refine jr_bipush (v := (-4 : Int32)) hE dX11_at_55 (by decide) ?_
          have e : stAt s (nI k) i = -4 := by
            unfold stAt
            rw [if_neg (fun h => h.elim (fun q => q (nI_rowP hk)) (fun q => absurd q (by omega))), if_neg (show ¬ i.toInt < 0 by omega), hrnk, if_neg (fun h => absurd ((i32_g (by omega)).mp c39) (by omega))]
          exact hR F _ _ _ dX11_at_57 rfl ⟨rfl, by rw [e]⟩
        · have hil := Int.not_le.mp (fun h => c39 ((i32_g (by omega)).mpr h))
          obtain ⟨ii, hii, rfl⟩ := sm_nI (x := i) (m := 99) (hi0) (by omega) (by decide)
          have hrnii : rn (nI ii) = ii := rn_n (by omega)
          have hiT : (nI ii).toInt = ii := nI_toInt (by omega)
          rw [hiT] at hil
          have hil : ii < (s.1 k).length := by omega
          refine jr_aload_n hE dX11_at_42 0 rfl ?_
          refine jr_get hE dX11_at_43 f11 W0.o0 rfl ?_
          refine jr_iload_n hE dX11_at_46 1 rfl ?_
          obtain ⟨f5, ja5, ga5⟩ := W0.aR
          refine jr_aald (v := c (270 + 2 * k)) hE dX11_at_47 ja5 rfl (vp_in_nI (n := k) (by omega) (by decide)) (by rw [nI_clamp (by omega)]; exact ga5 k (by omega)) ?_
          refine jr_iload_n hE dX11_at_48 2 rfl ?_
          refine jr_kVi (ci := 0) (n := 1) (As := [.int (nI ii)]) (rest := []) hE dX11_at_49 (fun l => c_X0_get l G (c (270 + 2 * k)) (c (271 + 2 * k)) (bcap k) ii (s.1 k)) gX11_at_X0_get rfl ((W0.by k (by omega)).ob) rfl (by decide +kernel) ⟨rfl, rfl, by decide, by decide⟩ (by decide) rfl rfl (Nat.le_of_ble_eq_true rfl) (⟨by have q := W0.by k (by omega); rw [show B k = (s.1 k) from (hRw k hk)] at q; exact q, hil⟩) (fun r8 F6 q7 => ?_)
          obtain ⟨eq7, rq7⟩ := q7
          subst eq7 rq7
          refine jr_goto (tgt := 57) hE dX11_at_52 (by decide) ?_
          have e : stAt s (nI k) (nI ii) = nI ((s.1 k).getD ii 0) := by
            unfold stAt
            rw [if_neg (fun h => h.elim (fun q => q (nI_rowP hk)) (fun q => absurd q (by omega))), if_neg (show ¬ (nI ii).toInt < 0 by omega), hrnk, hiT, if_pos (by omega), Int.toNat_natCast]
          exact hR F _ _ _ dX11_at_57 rfl ⟨rfl, by rw [e]⟩
      · refine jr_aload_n hE dX11_at_19 0 rfl ?_
        refine jr_get hE dX11_at_20 f11 W0.o0 rfl ?_
        refine jr_iload_n hE dX11_at_23 1 rfl ?_
        obtain ⟨f9, ja9, ga9⟩ := W0.aR
        refine jr_aald (v := c (270 + 2 * k)) hE dX11_at_24 ja9 rfl (vp_in_nI (n := k) (by omega) (by decide)) (by rw [nI_clamp (by omega)]; exact ga9 k (by omega)) ?_
        refine jr_get hE dX11_at_25 f68 (W0.by k (by omega)).ob rfl ?_
        rw [show B k = (s.1 k) from (hRw k hk)]
        have hi : i.toInt = -1 := by rw [c16]; decide
        have e : stAt s (nI k) i = nI (s.1 k).length := by
          unfold stAt
          rw [if_neg (fun h => h.elim (fun q => q (nI_rowP hk)) (fun q => absurd q (by omega))), if_pos (show i.toInt < 0 by omega), hrnk]
        exact hR F _ _ _ dX11_at_28 rfl ⟨rfl, by rw [e]⟩
    · refine jr_iconst (v := (-1 : Int32)) hE dX11_at_12 (by decide) ?_
      have e : stAt s (nI k) i = -1 := by
        unfold stAt
        rw [if_pos (.inr (by have q := Int32.lt_iff_toInt_lt.mp (Int32.not_le.mp c9); rw [show (-1 : Int32).toInt = -1 by decide] at q; exact q))]
      exact hR F _ _ _ dX11_at_13 rfl ⟨rfl, by rw [e]⟩

set_option maxHeartbeats 4000000 in
set_option maxRecDepth 100000 in
theorem c_c_bend (l : Launch) (G : Nat → ClassId) (c : Nat → Nat) (B : Nat → List Nat) (S : Nat → Nat) (P : Nat → JP) (q : SS) (X : Nat) (v : Nat → Int32) (s : ST) (r i m : Int32) : jKi l yX11_bend wsX11_bend ({ frames := 1, cells := 0, slots := 0, locals := 22 }) G [.ref (c 0), .int r, .int i, .int m] (fun L F => cI G L F c B S P q X v s) (fun L F ans F1 => ∃ B1 S1 P1 q1 X1 v1, cI G L F1 c B1 S1 P1 q1 X1 v1 (stBend s r i m).2 ∧ ans = (stBend s r i m).1 ∧ cO c F F1) := by
  refine jm_ki (cc := cX11_bend) (maxL := 4) (rt := .int) (by decide) rfl (Nat.le_of_ble_eq_true rfl) ?_
  intro E L F hE hR hpre
  have hE : jOk E G _ cX11_bend 4 RX11 wsX11_bend := hE
  have hI := hpre
  obtain ⟨W0, hG, hRw, h0, hen, hwk, h2, hsg, hnc, htd, hse⟩ := id hpre
  have hwk48 := hwk.2
  have hs4 := hsg.1
  have hen4 := hen.1
  have f11 : jFl RX11 wsX11_bend 11 11 0 := ⟨rfl, by decide, by decide +kernel, by decide +kernel⟩
  have f68 : jFl RX11 wsX11_bend 68 0 1 := ⟨rfl, by decide, by decide +kernel, by decide +kernel⟩
  refine jr_iload_n hE dX11_bend_0 1 rfl ?_
  refine jr_kSi (n := 1) (As := [.int r]) (rest := []) hE dX11_bend_1 (fun l => c_c_isRow l G r) gX11_bend_X11_isRow rfl (by decide +kernel) ⟨rfl, rfl, by decide, by decide⟩ (by decide) rfl rfl (Nat.le_of_ble_eq_true rfl) (trivial) (fun r3 F1 q2 => ?_)
  obtain ⟨eq2, rq2⟩ := q2
  subst eq2 rq2
  refine jr_if_eq (tgt := 36) hE dX11_bend_4 (by decide) (fun c4 => ?_) (fun c4 => ?_)
  · refine jr_iconst (v := (-1 : Int32)) hE dX11_bend_36 (by decide) ?_
    have e : stBend s r i m = (-1, s) := by
      unfold stBend
      rw [if_neg (fun h => absurd (b2i_t h.1) (by rw [c4]; decide))]
    exact hR F _ _ _ dX11_bend_37 rfl ⟨B, S, P, q, X, v, by rw [e]; exact hI, by rw [e], cO.rf c F⟩
  · have hrk : rowP r := b2i_1 c4
    obtain ⟨k, hk, rfl⟩ := rowP_nI hrk
    have hrnk := nI_rn hk
    have hlk : (s.1 k).length ≤ 100 := by rw [← hRw k hk]; have q := W0.cp k (by omega); rw [bcr (by omega)] at q; exact q
    refine jr_iload_n hE dX11_bend_7 2 rfl ?_
    refine jr_if_lt (tgt := 36) hE dX11_bend_8 (by decide) (fun c8 => ?_) (fun c8 => ?_)
    · refine jr_iconst (v := (-1 : Int32)) hE dX11_bend_36 (by decide) ?_
      have e : stBend s (nI k) i m = (-1, s) := by
        unfold stBend
        rw [if_neg (fun h => by have q := i32_0.mp c8; have := h.2.1.1; omega)]
      exact hR F _ _ _ dX11_bend_37 rfl ⟨B, S, P, q, X, v, by rw [e]; exact hI, by rw [e], cO.rf c F⟩
    · refine jr_iload_n hE dX11_bend_11 2 rfl ?_
      refine jr_aload_n hE dX11_bend_12 0 rfl ?_
      refine jr_get hE dX11_bend_13 f11 W0.o0 rfl ?_
      refine jr_iload_n hE dX11_bend_16 1 rfl ?_
      obtain ⟨f4, ja4, ga4⟩ := W0.aR
      refine jr_aald (v := c (270 + 2 * k)) hE dX11_bend_17 ja4 rfl (vp_in_nI (n := k) (by omega) (by decide)) (by rw [nI_clamp (by omega)]; exact ga4 k (by omega)) ?_
      refine jr_get hE dX11_bend_18 f68 (W0.by k (by omega)).ob rfl ?_
      rw [show B k = (s.1 k) from (hRw k hk)]
      refine jr_icmp_ge (tgt := 36) hE dX11_bend_21 (by decide) (fun c21 => ?_) (fun c21 => ?_)
      · refine jr_iconst (v := (-1 : Int32)) hE dX11_bend_36 (by decide) ?_
        have e : stBend s (nI k) i m = (-1, s) := by
          unfold stBend
          rw [if_neg (fun h => by have q := (i32_g (by omega)).mp c21; have q2 := h.2.1.2; rw [hrnk] at q2; omega)]
        exact hR F _ _ _ dX11_bend_37 rfl ⟨B, S, P, q, X, v, by rw [e]; exact hI, by rw [e], cO.rf c F⟩
      · refine jr_iload_n hE dX11_bend_24 3 rfl ?_
        refine jr_iconst (v := (1 : Int32)) hE dX11_bend_25 (by decide) ?_
        refine jr_icmp_lt (tgt := 36) hE dX11_bend_26 (by decide) (fun c26 => ?_) (fun c26 => ?_)
        · refine jr_iconst (v := (-1 : Int32)) hE dX11_bend_36 (by decide) ?_
          have e : stBend s (nI k) i m = (-1, s) := by
            unfold stBend
            rw [if_neg (fun h => by have q := Int32.lt_iff_toInt_lt.mp c26; rw [show (1 : Int32).toInt = 1 by decide] at q; have := h.2.2.1; omega)]
          exact hR F _ _ _ dX11_bend_37 rfl ⟨B, S, P, q, X, v, by rw [e]; exact hI, by rw [e], cO.rf c F⟩
        · refine jr_iload_n hE dX11_bend_29 3 rfl ?_
          refine jr_sipush (v := (255 : Int32)) hE dX11_bend_30 (by decide) ?_
          refine jr_icmp_le (tgt := 38) hE dX11_bend_33 (by decide) (fun c33 => ?_) (fun c33 => ?_)
          · have hi0 : 0 ≤ i.toInt := Int.not_lt.mp (fun h => c8 (i32_0.mpr h))
            have hil := Int.not_le.mp (fun h => c21 ((i32_g (by omega)).mpr h))
            have hm1 : 1 ≤ m.toInt := by have q := Int32.le_iff_toInt_le.mp (Int32.not_lt.mp c26); rw [show (1 : Int32).toInt = 1 by decide] at q; exact q
            have hm2 : m.toInt ≤ 255 := (i32_le (m := 255) (by decide)).mp c33
            obtain ⟨ii, hii, rfl⟩ := sm_nI (x := i) (m := 99) (hi0) (by omega) (by decide)
            have hrnii : rn (nI ii) = ii := rn_n (by omega)
            obtain ⟨mk, hmk, rfl⟩ := sm_nI (x := m) (m := 255) (by omega) (hm2) (by decide)
            have hrnmk : rn (nI mk) = mk := rn_n (by omega)
            have hiT : (nI ii).toInt = ii := nI_toInt (by omega)
            have hlt : ii < (s.1 k).length := by rw [hiT] at hil; omega
            refine jr_aload_n hE dX11_bend_38 0 rfl ?_
            refine jr_get hE dX11_bend_39 f11 W0.o0 rfl ?_
            refine jr_iload_n hE dX11_bend_42 1 rfl ?_
            obtain ⟨f5, ja5, ga5⟩ := W0.aR
            refine jr_aald (v := c (270 + 2 * k)) hE dX11_bend_43 ja5 rfl (vp_in_nI (n := k) (by omega) (by decide)) (by rw [nI_clamp (by omega)]; exact ga5 k (by omega)) ?_
            refine jr_iload_n hE dX11_bend_44 2 rfl ?_
            refine jr_iload_n hE dX11_bend_45 3 rfl ?_
            refine jr_kVv (ci := 0) (n := 2) (As := [.int (nI ii), .int (nI mk)]) (rest := []) hE dX11_bend_46 (fun l => c_X0_turn l G (c (270 + 2 * k)) (c (271 + 2 * k)) (bcap k) ii mk (s.1 k)) gX11_bend_X0_turn rfl ((W0.by k (by omega)).ob) rfl (by decide +kernel) ⟨rfl, rfl, by decide, by decide⟩ (by decide) rfl rfl (Nat.le_of_ble_eq_true rfl) (⟨(by have q := W0.by k (by omega); rw [show B k = (s.1 k) from (hRw k hk)] at q; exact q), hlt, by omega⟩) (fun F6 q7 => ?_)
            obtain ⟨h8, u8⟩ := q7
            obtain ⟨W8, P8⟩ := W0.setBh (i := k) (bs := ((s.1 k).set ii ((s.1 k).getD ii 0 ^^^ mk))) (by omega) h8 u8
            have O8 := (cO.rf c F).tr P8
            obtain ⟨B8, eB8, hB8, yB8⟩ := uz_ab B k ((s.1 k).set ii ((s.1 k).getD ii 0 ^^^ mk))
            rw [eB8] at W8
            have nB8 : ∀ z, z ≠ k → B8 z = B z := fun z hz => hB8 z (fun e => hz (List.mem_singleton.mp e))
            refine jr_aload_n hE dX11_bend_49 0 rfl ?_
            refine jr_get hE dX11_bend_50 f11 W8.o0 rfl ?_
            refine jr_iload_n hE dX11_bend_53 1 rfl ?_
            obtain ⟨f9, ja9, ga9⟩ := W8.aR
            refine jr_aald (v := c (270 + 2 * k)) hE dX11_bend_54 ja9 rfl (vp_in_nI (n := k) (by omega) (by decide)) (by rw [nI_clamp (by omega)]; exact ga9 k (by omega)) ?_
            refine jr_iload_n hE dX11_bend_55 2 rfl ?_
            refine jr_kVi (ci := 0) (n := 1) (As := [.int (nI ii)]) (rest := []) hE dX11_bend_56 (fun l => c_X0_get l G (c (270 + 2 * k)) (c (271 + 2 * k)) (bcap k) ii ((s.1 k).set ii ((s.1 k).getD ii 0 ^^^ mk))) gX11_bend_X0_get rfl ((W8.by k (by omega)).ob) rfl (by decide +kernel) ⟨rfl, rfl, by decide, by decide⟩ (by decide) rfl rfl (Nat.le_of_ble_eq_true rfl) (⟨by have q := W8.by k (by omega); rw [show B8 k = ((s.1 k).set ii ((s.1 k).getD ii 0 ^^^ mk)) from yB8] at q; exact q, by rw [List.length_set]; exact hlt⟩) (fun r12 F10 q11 => ?_)
            obtain ⟨eq11, rq11⟩ := q11
            subst eq11 rq11
            have e : stBend s (nI k) (nI ii) (nI mk) = (nI ((s.1 k).getD ii 0 ^^^ mk), setR s k ((s.1 k).set ii ((s.1 k).getD ii 0 ^^^ mk))) := by
              unfold stBend
              rw [if_pos ⟨nI_rowP hk, ⟨hi0, by rw [hrnk]; exact hil⟩, hm1, hm2⟩, hrnk, hrnii, hrnmk]
            exact hR F6 _ _ _ dX11_bend_59 rfl ⟨_, _, _, _, _, _, by rw [e]; exact hI.row W8 hk (fun z hz => (nB8 z hz)) yB8, by rw [e, gD_set hlt], O8⟩
          · refine jr_iconst (v := (-1 : Int32)) hE dX11_bend_36 (by decide) ?_
            have e : stBend s (nI k) i m = (-1, s) := by
              unfold stBend
              rw [if_neg (fun h => c33 ((i32_le (m := 255) (by decide)).mpr h.2.2.2))]
            exact hR F _ _ _ dX11_bend_37 rfl ⟨B, S, P, q, X, v, by rw [e]; exact hI, by rw [e], cO.rf c F⟩

set_option maxHeartbeats 4000000 in
set_option maxRecDepth 100000 in
theorem c_c_copy (l : Launch) (G : Nat → ClassId) (c : Nat → Nat) (B : Nat → List Nat) (S : Nat → Nat) (P : Nat → JP) (q : SS) (X : Nat) (v : Nat → Int32) (s : ST) (r p m : Int32) : jKi l yX11_copy wsX11_copy ({ frames := 5, cells := 0, slots := 0, locals := 108 }) G [.ref (c 0), .int r, .int p, .int m] (fun L F => cI G L F c B S P q X v s) (fun L F ans F1 => ∃ B1 S1 P1 q1 X1 v1, cI G L F1 c B1 S1 P1 q1 X1 v1 (stCopy s r p m).2 ∧ ans = (stCopy s r p m).1 ∧ cO c F F1) := by
  refine jm_ki (cc := cX11_copy) (maxL := 5) (rt := .int) (by decide) rfl (Nat.le_of_ble_eq_true rfl) ?_
  intro E L F hE hR hpre
  have hE : jOk E G _ cX11_copy 5 RX11 wsX11_copy := hE
  have hI := hpre
  obtain ⟨W0, hG, hRw, h0, hen, hwk, h2, hsg, hnc, htd, hse⟩ := id hpre
  have hwk48 := hwk.2
  have hs4 := hsg.1
  have hen4 := hen.1
  have f11 : jFl RX11 wsX11_copy 11 11 0 := ⟨rfl, by decide, by decide +kernel, by decide +kernel⟩
  have f68 : jFl RX11 wsX11_copy 68 0 1 := ⟨rfl, by decide, by decide +kernel, by decide +kernel⟩
  have f18 : jFl RX11 wsX11_copy 18 11 1 := ⟨rfl, by decide, by decide +kernel, by decide +kernel⟩
  refine jr_iload_n hE dX11_copy_0 1 rfl ?_
  refine jr_iload_n hE dX11_copy_1 2 rfl ?_
  refine jr_kSi (n := 2) (As := [.int r, .int p]) (rest := []) hE dX11_copy_2 (fun l => c_c_areRows l G r p) gX11_copy_X11_areRows rfl (by decide +kernel) ⟨rfl, rfl, by decide, by decide⟩ (by decide) rfl rfl (Nat.le_of_ble_eq_true rfl) (trivial) (fun r3 F1 q2 => ?_)
  obtain ⟨eq2, rq2⟩ := q2
  subst eq2 rq2
  refine jr_if_eq (tgt := 20) hE dX11_copy_5 (by decide) (fun c5 => ?_) (fun c5 => ?_)
  · refine jr_iconst (v := (-1 : Int32)) hE dX11_copy_20 (by decide) ?_
    have e : stCopy s r p m = (-1, s) := by
      unfold stCopy
      rw [if_neg (fun h => absurd (b2i_t (p := rowP r ∧ rowP p) ⟨h.1, h.2.1⟩) (by rw [c5]; decide))]
    exact hR F _ _ _ dX11_copy_21 rfl ⟨B, S, P, q, X, v, by rw [e]; exact hI, by rw [e], cO.rf c F⟩
  · have hrr := b2i_1 c5
    have hrk : rowP r := hrr.1
    obtain ⟨k, hk, rfl⟩ := rowP_nI hrk
    have hrnk := nI_rn hk
    have hlk : (s.1 k).length ≤ 100 := by rw [← hRw k hk]; have q := W0.cp k (by omega); rw [bcr (by omega)] at q; exact q
    have hrp1 : rowP p := hrr.2
    obtain ⟨p1, hp1, rfl⟩ := rowP_nI hrp1
    have hrnp1 := nI_rn hp1
    have hlp1 : (s.1 p1).length ≤ 100 := by rw [← hRw p1 hp1]; have q := W0.cp p1 (by omega); rw [bcr (by omega)] at q; exact q
    refine jr_iload_n hE dX11_copy_8 3 rfl ?_
    refine jr_iconst (v := (-1 : Int32)) hE dX11_copy_9 (by decide) ?_
    refine jr_icmp_eq (tgt := 22) hE dX11_copy_10 (by decide) (fun c10 => ?_) (fun c10 => ?_)
    · have hmm : m = -1 ∨ rowP m := .inl c10
      rcases hmm with rfl | hmm
      · have hz9 := 0
        have hmr : -1 ≤ (-1 : Int32).toInt ∧ (-1 : Int32).toInt ≤ 15 := by decide
        have hmL : moreL s (-1 : Int32) = [] := if_pos (by decide)
        refine jr_iload_n hE dX11_copy_22 3 rfl ?_
        refine jr_iconst (v := (-1 : Int32)) hE dX11_copy_23 (by decide) ?_
        refine jr_icmp_ne (tgt := 31) hE dX11_copy_24 (by decide) (fun c_24 => absurd c_24 (fun h => h rfl)) (fun c_24 => ?_)
        refine jr_iconst (v := (0 : Int32)) hE dX11_copy_27 (by decide) ?_
        refine jr_goto (tgt := 40) hE dX11_copy_28 (by decide) ?_
        refine jr_istore (lv' := [(4, .int (0 : Int32)), (0, .ref (c 0)), (1, .int (nI k)), (2, .int (nI p1)), (3, .int (-1 : Int32))]) hE dX11_copy_40 (by decide) rfl ?_
        refine jr_aload_n hE dX11_copy_42 1 rfl ?_
        refine jr_get hE dX11_copy_43 f11 W0.o0 rfl ?_
        refine jr_iload_n hE dX11_copy_46 3 rfl ?_
        obtain ⟨f4, ja4, ga4⟩ := W0.aR
        refine jr_aald (v := c (270 + 2 * p1)) hE dX11_copy_47 ja4 rfl (vp_in_nI (n := p1) (by omega) (by decide)) (by rw [nI_clamp (by omega)]; exact ga4 p1 (by omega)) ?_
        refine jr_get hE dX11_copy_48 f68 (W0.by p1 (by omega)).ob rfl ?_
        rw [show B p1 = (s.1 p1) from (hRw p1 hp1)]
        refine jr_iload hE dX11_copy_51 0 rfl ?_
        refine jr_iadd (z := nI ((s.1 p1).length + ([] : List Nat).length)) hE dX11_copy_53 (by rw [show ([] : List Nat).length = 0 from rfl]; exact nI_add _ 0) ?_
        refine jr_bipush (v := (100 : Int32)) hE dX11_copy_54 (by decide) ?_
        refine jr_icmp_le (tgt := 62) hE dX11_copy_56 (by decide) (fun c56 => ?_) (fun c56 => ?_)
        · have hfit : (s.1 p1).length + ([] : List Nat).length ≤ 100 := nI_leC (m := 100) (by show (s.1 p1).length + 0 < 2 ^ 31; omega) (by decide) c56
          refine jr_aload_n hE dX11_copy_62 1 rfl ?_
          refine jr_get hE dX11_copy_63 f18 W0.o0 rfl ?_
          refine jr_aload_n hE dX11_copy_66 1 rfl ?_
          refine jr_get hE dX11_copy_67 f11 W0.o0 rfl ?_
          refine jr_iload_n hE dX11_copy_70 3 rfl ?_
          obtain ⟨f5, ja5, ga5⟩ := W0.aR
          refine jr_aald (v := c (270 + 2 * p1)) hE dX11_copy_71 ja5 rfl (vp_in_nI (n := p1) (by omega) (by decide)) (by rw [nI_clamp (by omega)]; exact ga5 p1 (by omega)) ?_
          refine jr_kVv (ci := 0) (n := 1) (As := [.ref (c (270 + 2 * p1))]) (rest := []) hE dX11_copy_72 (fun l => c_X0_become l G (c (270 + 2 * 16)) (c (271 + 2 * 16)) (bcap 16) (c (270 + 2 * p1)) (c (271 + 2 * p1)) (bcap p1) (B 16) (s.1 p1)) gX11_copy_X0_become rfl ((W0.by 16 (by decide)).ob) rfl (by decide +kernel) ⟨rfl, rfl, by decide, by decide⟩ (by decide) rfl rfl (Nat.le_of_ble_eq_true rfl) (⟨W0.by 16 (by decide), (by have q := W0.by p1 (by omega); rw [show B p1 = (s.1 p1) from (hRw p1 hp1)] at q; exact q), cnd W0.1 [270 + 2 * 16, 271 + 2 * 16, 270 + 2 * p1, 271 + 2 * p1] (by simp only [List.mem_cons, List.not_mem_nil, or_false]; omega) (by simp only [List.nodup_cons, List.mem_cons, List.not_mem_nil, or_false, not_or, List.nodup_nil, not_false_eq_true, and_true]; omega), by rw [bcr (by omega)]; omega⟩) (fun F6 q7 => ?_)
          obtain ⟨h8, u8⟩ := q7
          obtain ⟨W8, P8⟩ := W0.setB (i := 16) (bs := (s.1 p1)) (by decide) h8 u8
          have O8 := (cO.rf c F).tr P8
          obtain ⟨B8, eB8, hB8, yB8⟩ := uz_ab B 16 (s.1 p1)
          rw [eB8] at W8
          have nB8 : ∀ z, z ≠ 16 → B8 z = B z := fun z hz => hB8 z (fun e => hz (List.mem_singleton.mp e))
          refine jr_iload_n hE dX11_copy_75 4 rfl ?_
          refine jr_iconst (v := (-1 : Int32)) hE dX11_copy_76 (by decide) ?_
          refine jr_icmp_eq (tgt := 93) hE dX11_copy_77 (by decide) (fun c_77 => ?_) (fun c_77 => absurd (rfl) c_77)
          refine jr_aload_n hE dX11_copy_93 1 rfl ?_
          refine jr_iload_n hE dX11_copy_94 2 rfl ?_
          have hJ := hI.upd (k := s.2.2.1) W8 (fun z hz => (nB8 z (by simp only [List.mem_cons, List.not_mem_nil, or_false, not_or] at hz; omega))) (fun z hz => rfl) (fun z hz => rfl) (fun z hz => rfl) hwk.1 (hwk.2)
          refine jr_kVi (ci := 11) (n := 1) (As := [.int (nI k)]) (rest := []) hE dX11_copy_95 (fun l => c_c_answerIn l G c B8 S P q X v k) gX11_copy_X11_answerIn rfl W8.o0 rfl (by decide +kernel) ⟨rfl, rfl, by decide, by decide⟩ (by decide) rfl rfl (Nat.le_of_ble_eq_true rfl) (⟨W8, hk⟩) (fun r11 F9 q10 => ?_)
          obtain ⟨B12, W12, hB12, f12_0, r11e, P12⟩ := q10
          subst r11e
          have O12 := O8.tr P12
          have e : stCopy s (nI k) (nI p1) (-1 : Int32) = (nI ((s.1 p1).length + ([] : List Nat).length), setR s k (s.1 p1 ++ [])) := by
            unfold stCopy
            rw [if_pos ⟨nI_rowP hk, nI_rowP hp1, hmr⟩, hrnp1, hrnk, hmL, if_pos hfit]
          rw [List.append_nil] at e
          exact hR F9 _ _ _ dX11_copy_98 rfl ⟨_, _, _, _, _, _, by rw [e]; exact hJ.row W12 hk (fun z hz => hB12 z (fun q => hz (List.mem_singleton.mp q))) (f12_0.trans yB8), by rw [e, show B8 16 = (s.1 p1) from yB8, show ([] : List Nat).length = 0 from rfl, Nat.add_zero], O12⟩
        · refine jr_bipush (v := (-3 : Int32)) hE dX11_copy_59 (by decide) ?_
          have hno := fun h => c56 (nI_le (b := 100) h (by decide))
          have e : stCopy s (nI k) (nI p1) (-1 : Int32) = (-3, s) := by
            unfold stCopy
            rw [if_pos ⟨nI_rowP hk, nI_rowP hp1, hmr⟩, hrnp1, hmL, if_neg hno]
          exact hR F _ _ _ dX11_copy_61 rfl ⟨B, S, P, q, X, v, by rw [e]; exact hI, by rw [e], cO.rf c F⟩
      · have hz9 := 0
        have hrj : rowP m := hmm
        obtain ⟨j, hj, rfl⟩ := rowP_nI hrj
        have hrnj := nI_rn hj
        have hlj : (s.1 j).length ≤ 100 := by rw [← hRw j hj]; have q := W0.cp j (by omega); rw [bcr (by omega)] at q; exact q
        have hjT : (nI j).toInt = j := nI_toInt (by omega)
        have hjne : ¬ nI j = (-1 : Int32) := fun h => by
          have q := congrArg Int32.toInt h
          rw [hjT, show (-1 : Int32).toInt = -1 by decide] at q
          omega
        have hmr : -1 ≤ (nI j).toInt ∧ (nI j).toInt ≤ 15 := by rw [hjT]; omega
        have hmL : moreL s (nI j) = s.1 j := by
          unfold moreL
          rw [if_neg (by rw [hjT]; omega), hrnj]
        refine jr_iload_n hE dX11_copy_22 3 rfl ?_
        refine jr_iconst (v := (-1 : Int32)) hE dX11_copy_23 (by decide) ?_
        refine jr_icmp_ne (tgt := 31) hE dX11_copy_24 (by decide) (fun c24 => ?_) (fun c24 => ?_)
        · refine jr_aload_n hE dX11_copy_31 0 rfl ?_
          refine jr_get hE dX11_copy_32 f11 W0.o0 rfl ?_
          refine jr_iload_n hE dX11_copy_35 3 rfl ?_
          obtain ⟨f13, ja13, ga13⟩ := W0.aR
          refine jr_aald (v := c (270 + 2 * j)) hE dX11_copy_36 ja13 rfl (vp_in_nI (n := j) (by omega) (by decide)) (by rw [nI_clamp (by omega)]; exact ga13 j (by omega)) ?_
          refine jr_get hE dX11_copy_37 f68 (W0.by j (by omega)).ob rfl ?_
          rw [show B j = (s.1 j) from (hRw j hj)]
          refine jr_istore (lv' := [(4, .int (nI (s.1 j).length)), (0, .ref (c 0)), (1, .int (nI k)), (2, .int (nI p1)), (3, .int (nI j))]) hE dX11_copy_40 (by decide) rfl ?_
          refine jr_aload_n hE dX11_copy_42 1 rfl ?_
          refine jr_get hE dX11_copy_43 f11 W0.o0 rfl ?_
          refine jr_iload_n hE dX11_copy_46 3 rfl ?_
          obtain ⟨f14, ja14, ga14⟩ := W0.aR
          refine jr_aald (v := c (270 + 2 * p1)) hE dX11_copy_47 ja14 rfl (vp_in_nI (n := p1) (by omega) (by decide)) (by rw [nI_clamp (by omega)]; exact ga14 p1 (by omega)) ?_
          refine jr_get hE dX11_copy_48 f68 (W0.by p1 (by omega)).ob rfl ?_
          rw [show B p1 = (s.1 p1) from (hRw p1 hp1)]
          refine jr_iload hE dX11_copy_51 0 rfl ?_
          refine jr_iadd (z := nI ((s.1 p1).length + ((s.1 j).length))) hE dX11_copy_53 (nI_add _ _) ?_
          refine jr_bipush (v := (100 : Int32)) hE dX11_copy_54 (by decide) ?_
          refine jr_icmp_le (tgt := 62) hE dX11_copy_56 (by decide) (fun c56 => ?_) (fun c56 => ?_)
          · have hfit : (s.1 p1).length + (s.1 j).length ≤ 100 := nI_leC (m := 100) (by omega) (by decide) c56
            refine jr_aload_n hE dX11_copy_62 1 rfl ?_
            refine jr_get hE dX11_copy_63 f18 W0.o0 rfl ?_
            refine jr_aload_n hE dX11_copy_66 1 rfl ?_
            refine jr_get hE dX11_copy_67 f11 W0.o0 rfl ?_
            refine jr_iload_n hE dX11_copy_70 3 rfl ?_
            obtain ⟨f15, ja15, ga15⟩ := W0.aR
            refine jr_aald (v := c (270 + 2 * p1)) hE dX11_copy_71 ja15 rfl (vp_in_nI (n := p1) (by omega) (by decide)) (by rw [nI_clamp (by omega)]; exact ga15 p1 (by omega)) ?_
            refine jr_kVv (ci := 0) (n := 1) (As := [.ref (c (270 + 2 * p1))]) (rest := []) hE dX11_copy_72 (fun l => c_X0_become l G (c (270 + 2 * 16)) (c (271 + 2 * 16)) (bcap 16) (c (270 + 2 * p1)) (c (271 + 2 * p1)) (bcap p1) (B 16) (s.1 p1)) gX11_copy_X0_become rfl ((W0.by 16 (by decide)).ob) rfl (by decide +kernel) ⟨rfl, rfl, by decide, by decide⟩ (by decide) rfl rfl (Nat.le_of_ble_eq_true rfl) (⟨W0.by 16 (by decide), (by have q := W0.by p1 (by omega); rw [show B p1 = (s.1 p1) from (hRw p1 hp1)] at q; exact q), cnd W0.1 [270 + 2 * 16, 271 + 2 * 16, 270 + 2 * p1, 271 + 2 * p1] (by simp only [List.mem_cons, List.not_mem_nil, or_false]; omega) (by simp only [List.nodup_cons, List.mem_cons, List.not_mem_nil, or_false, not_or, List.nodup_nil, not_false_eq_true, and_true]; omega), by rw [bcr (by omega)]; omega⟩) (fun F16 q17 => ?_)
            obtain ⟨h18, u18⟩ := q17
            obtain ⟨W18, P18⟩ := W0.setB (i := 16) (bs := (s.1 p1)) (by decide) h18 u18
            have O18 := (cO.rf c F).tr P18
            obtain ⟨B18, eB18, hB18, yB18⟩ := uz_ab B 16 (s.1 p1)
            rw [eB18] at W18
            have nB18 : ∀ z, z ≠ 16 → B18 z = B z := fun z hz => hB18 z (fun e => hz (List.mem_singleton.mp e))
            refine jr_iload_n hE dX11_copy_75 4 rfl ?_
            refine jr_iconst (v := (-1 : Int32)) hE dX11_copy_76 (by decide) ?_
            refine jr_icmp_eq (tgt := 93) hE dX11_copy_77 (by decide) (fun c_77 => absurd c_77 (hjne)) (fun c_77 => ?_)
            refine jr_aload_n hE dX11_copy_80 1 rfl ?_
            refine jr_get hE dX11_copy_81 f18 W18.o0 rfl ?_
            refine jr_aload_n hE dX11_copy_84 1 rfl ?_
            refine jr_get hE dX11_copy_85 f11 W18.o0 rfl ?_
            refine jr_iload_n hE dX11_copy_88 4 rfl ?_
            obtain ⟨f19, ja19, ga19⟩ := W18.aR
            refine jr_aald (v := c (270 + 2 * j)) hE dX11_copy_89 ja19 rfl (vp_in_nI (n := j) (by omega) (by decide)) (by rw [nI_clamp (by omega)]; exact ga19 j (by omega)) ?_
            have hB20 : B18 j = (s.1 j) := (nB18 j (by omega)).trans (hRw j hj)
            refine jr_kVv (ci := 0) (n := 1) (As := [.ref (c (270 + 2 * j))]) (rest := []) hE dX11_copy_90 (fun l => c_X0_addAll l G (c (270 + 2 * 16)) (c (271 + 2 * 16)) (bcap 16) (c (270 + 2 * j)) (c (271 + 2 * j)) (bcap j) (s.1 p1) (s.1 j)) gX11_copy_X0_addAll rfl ((W18.by 16 (by decide)).ob) rfl (by decide +kernel) ⟨rfl, rfl, by decide, by decide⟩ (by decide) rfl rfl (Nat.le_of_ble_eq_true rfl) (⟨(by have q := W18.by 16 (by decide); rw [show B18 16 = (s.1 p1) from yB18] at q; exact q), (by have q := W18.by j (by omega); rw [show B18 j = (s.1 j) from hB20] at q; exact q), cnd W18.1 [270 + 2 * 16, 271 + 2 * 16, 270 + 2 * j, 271 + 2 * j] (by simp only [List.mem_cons, List.not_mem_nil, or_false]; omega) (by simp only [List.nodup_cons, List.mem_cons, List.not_mem_nil, or_false, not_or, List.nodup_nil, not_false_eq_true, and_true]; omega), by rw [bcr (by omega)]; exact hfit⟩) (fun F21 q22 => ?_)
            obtain ⟨h23, u23⟩ := q22
            obtain ⟨W23, P23⟩ := W18.setB (i := 16) (bs := ((s.1 p1) ++ (s.1 j))) (by decide) h23 u23
            have O23 := O18.tr P23
            obtain ⟨B23, eB23, hB23, yB23⟩ := uz_ab B18 16 ((s.1 p1) ++ (s.1 j))
            rw [eB23] at W23
            have nB23 : ∀ z, z ≠ 16 → B23 z = B18 z := fun z hz => hB23 z (fun e => hz (List.mem_singleton.mp e))
            refine jr_aload_n hE dX11_copy_93 1 rfl ?_
            refine jr_iload_n hE dX11_copy_94 2 rfl ?_
            have hJ := hI.upd (k := s.2.2.1) W23 (fun z hz => ((nB23 z (by simp only [List.mem_cons, List.not_mem_nil, or_false, not_or] at hz; omega)).trans (nB18 z (by simp only [List.mem_cons, List.not_mem_nil, or_false, not_or] at hz; omega)))) (fun z hz => rfl) (fun z hz => rfl) (fun z hz => rfl) hwk.1 (hwk.2)
            refine jr_kVi (ci := 11) (n := 1) (As := [.int (nI k)]) (rest := []) hE dX11_copy_95 (fun l => c_c_answerIn l G c B23 S P q X v k) gX11_copy_X11_answerIn rfl W23.o0 rfl (by decide +kernel) ⟨rfl, rfl, by decide, by decide⟩ (by decide) rfl rfl (Nat.le_of_ble_eq_true rfl) (⟨W23, hk⟩) (fun r26 F24 q25 => ?_)
            obtain ⟨B27, W27, hB27, f27_0, r26e, P27⟩ := q25
            subst r26e
            have O27 := O23.tr P27
            have e : stCopy s (nI k) (nI p1) (nI j) = (nI ((s.1 p1).length + ((s.1 j) : List Nat).length), setR s k (s.1 p1 ++ (s.1 j))) := by
              unfold stCopy
              rw [if_pos ⟨nI_rowP hk, nI_rowP hp1, hmr⟩, hrnp1, hrnk, hmL, if_pos hfit]
            exact hR F24 _ _ _ dX11_copy_98 rfl ⟨_, _, _, _, _, _, by rw [e]; exact hJ.row W27 hk (fun z hz => hB27 z (fun q => hz (List.mem_singleton.mp q))) (f27_0.trans yB23), by rw [e, show B23 16 = ((s.1 p1) ++ (s.1 j)) from yB23, List.length_append], O27⟩
          · refine jr_bipush (v := (-3 : Int32)) hE dX11_copy_59 (by decide) ?_
            have hno := fun h => c56 (nI_le (b := 100) h (by decide))
            have e : stCopy s (nI k) (nI p1) (nI j) = (-3, s) := by
              unfold stCopy
              rw [if_pos ⟨nI_rowP hk, nI_rowP hp1, hmr⟩, hrnp1, hmL, if_neg hno]
            exact hR F _ _ _ dX11_copy_61 rfl ⟨B, S, P, q, X, v, by rw [e]; exact hI, by rw [e], cO.rf c F⟩
        · exact absurd c24 hjne
    · refine jr_iload_n hE dX11_copy_13 3 rfl ?_
      refine jr_kSi (n := 1) (As := [.int m]) (rest := []) hE dX11_copy_14 (fun l => c_c_isRow l G m) gX11_copy_X11_isRow rfl (by decide +kernel) ⟨rfl, rfl, by decide, by decide⟩ (by decide) rfl rfl (Nat.le_of_ble_eq_true rfl) (trivial) (fun r30 F28 q29 => ?_)
      obtain ⟨eq29, rq29⟩ := q29
      subst eq29 rq29
      refine jr_if_ne (tgt := 22) hE dX11_copy_17 (by decide) (fun c17 => ?_) (fun c17 => ?_)
      · have hmm : m = -1 ∨ rowP m := .inr (b2i_1 c17)
        rcases hmm with rfl | hmm
        · have hz9 := 0
          have hmr : -1 ≤ (-1 : Int32).toInt ∧ (-1 : Int32).toInt ≤ 15 := by decide
          have hmL : moreL s (-1 : Int32) = [] := if_pos (by decide)
          refine jr_iload_n hE dX11_copy_22 3 rfl ?_
          refine jr_iconst (v := (-1 : Int32)) hE dX11_copy_23 (by decide) ?_
          refine jr_icmp_ne (tgt := 31) hE dX11_copy_24 (by decide) (fun c_24 => absurd c_24 (fun h => h rfl)) (fun c_24 => ?_)
          refine jr_iconst (v := (0 : Int32)) hE dX11_copy_27 (by decide) ?_
          refine jr_goto (tgt := 40) hE dX11_copy_28 (by decide) ?_
          refine jr_istore (lv' := [(4, .int (0 : Int32)), (0, .ref (c 0)), (1, .int (nI k)), (2, .int (nI p1)), (3, .int (-1 : Int32))]) hE dX11_copy_40 (by decide) rfl ?_
          refine jr_aload_n hE dX11_copy_42 1 rfl ?_
          refine jr_get hE dX11_copy_43 f11 W0.o0 rfl ?_
          refine jr_iload_n hE dX11_copy_46 3 rfl ?_
          obtain ⟨f31, ja31, ga31⟩ := W0.aR
          refine jr_aald (v := c (270 + 2 * p1)) hE dX11_copy_47 ja31 rfl (vp_in_nI (n := p1) (by omega) (by decide)) (by rw [nI_clamp (by omega)]; exact ga31 p1 (by omega)) ?_
          refine jr_get hE dX11_copy_48 f68 (W0.by p1 (by omega)).ob rfl ?_
          rw [show B p1 = (s.1 p1) from (hRw p1 hp1)]
          refine jr_iload hE dX11_copy_51 0 rfl ?_
          refine jr_iadd (z := nI ((s.1 p1).length + ([] : List Nat).length)) hE dX11_copy_53 (by rw [show ([] : List Nat).length = 0 from rfl]; exact nI_add _ 0) ?_
          refine jr_bipush (v := (100 : Int32)) hE dX11_copy_54 (by decide) ?_
          refine jr_icmp_le (tgt := 62) hE dX11_copy_56 (by decide) (fun c56 => ?_) (fun c56 => ?_)
          · have hfit : (s.1 p1).length + ([] : List Nat).length ≤ 100 := nI_leC (m := 100) (by show (s.1 p1).length + 0 < 2 ^ 31; omega) (by decide) c56
            refine jr_aload_n hE dX11_copy_62 1 rfl ?_
            refine jr_get hE dX11_copy_63 f18 W0.o0 rfl ?_
            refine jr_aload_n hE dX11_copy_66 1 rfl ?_
            refine jr_get hE dX11_copy_67 f11 W0.o0 rfl ?_
            refine jr_iload_n hE dX11_copy_70 3 rfl ?_
            obtain ⟨f32, ja32, ga32⟩ := W0.aR
            refine jr_aald (v := c (270 + 2 * p1)) hE dX11_copy_71 ja32 rfl (vp_in_nI (n := p1) (by omega) (by decide)) (by rw [nI_clamp (by omega)]; exact ga32 p1 (by omega)) ?_
            refine jr_kVv (ci := 0) (n := 1) (As := [.ref (c (270 + 2 * p1))]) (rest := []) hE dX11_copy_72 (fun l => c_X0_become l G (c (270 + 2 * 16)) (c (271 + 2 * 16)) (bcap 16) (c (270 + 2 * p1)) (c (271 + 2 * p1)) (bcap p1) (B 16) (s.1 p1)) gX11_copy_X0_become rfl ((W0.by 16 (by decide)).ob) rfl (by decide +kernel) ⟨rfl, rfl, by decide, by decide⟩ (by decide) rfl rfl (Nat.le_of_ble_eq_true rfl) (⟨W0.by 16 (by decide), (by have q := W0.by p1 (by omega); rw [show B p1 = (s.1 p1) from (hRw p1 hp1)] at q; exact q), cnd W0.1 [270 + 2 * 16, 271 + 2 * 16, 270 + 2 * p1, 271 + 2 * p1] (by simp only [List.mem_cons, List.not_mem_nil, or_false]; omega) (by simp only [List.nodup_cons, List.mem_cons, List.not_mem_nil, or_false, not_or, List.nodup_nil, not_false_eq_true, and_true]; omega), by rw [bcr (by omega)]; omega⟩) (fun F33 q34 => ?_)
            obtain ⟨h35, u35⟩ := q34
            obtain ⟨W35, P35⟩ := W0.setB (i := 16) (bs := (s.1 p1)) (by decide) h35 u35
            have O35 := (cO.rf c F).tr P35
            obtain ⟨B35, eB35, hB35, yB35⟩ := uz_ab B 16 (s.1 p1)
            rw [eB35] at W35
            have nB35 : ∀ z, z ≠ 16 → B35 z = B z := fun z hz => hB35 z (fun e => hz (List.mem_singleton.mp e))
            refine jr_iload_n hE dX11_copy_75 4 rfl ?_
            refine jr_iconst (v := (-1 : Int32)) hE dX11_copy_76 (by decide) ?_
            refine jr_icmp_eq (tgt := 93) hE dX11_copy_77 (by decide) (fun c_77 => ?_) (fun c_77 => absurd (rfl) c_77)
            refine jr_aload_n hE dX11_copy_93 1 rfl ?_
            refine jr_iload_n hE dX11_copy_94 2 rfl ?_
            have hJ := hI.upd (k := s.2.2.1) W35 (fun z hz => (nB35 z (by simp only [List.mem_cons, List.not_mem_nil, or_false, not_or] at hz; omega))) (fun z hz => rfl) (fun z hz => rfl) (fun z hz => rfl) hwk.1 (hwk.2)
            refine jr_kVi (ci := 11) (n := 1) (As := [.int (nI k)]) (rest := []) hE dX11_copy_95 (fun l => c_c_answerIn l G c B35 S P q X v k) gX11_copy_X11_answerIn rfl W35.o0 rfl (by decide +kernel) ⟨rfl, rfl, by decide, by decide⟩ (by decide) rfl rfl (Nat.le_of_ble_eq_true rfl) (⟨W35, hk⟩) (fun r38 F36 q37 => ?_)
            obtain ⟨B39, W39, hB39, f39_0, r38e, P39⟩ := q37
            subst r38e
            have O39 := O35.tr P39
            have e : stCopy s (nI k) (nI p1) (-1 : Int32) = (nI ((s.1 p1).length + ([] : List Nat).length), setR s k (s.1 p1 ++ [])) := by
              unfold stCopy
              rw [if_pos ⟨nI_rowP hk, nI_rowP hp1, hmr⟩, hrnp1, hrnk, hmL, if_pos hfit]
            rw [List.append_nil] at e
            exact hR F36 _ _ _ dX11_copy_98 rfl ⟨_, _, _, _, _, _, by rw [e]; exact hJ.row W39 hk (fun z hz => hB39 z (fun q => hz (List.mem_singleton.mp q))) (f39_0.trans yB35), by rw [e, show B35 16 = (s.1 p1) from yB35, show ([] : List Nat).length = 0 from rfl, Nat.add_zero], O39⟩
          · refine jr_bipush (v := (-3 : Int32)) hE dX11_copy_59 (by decide) ?_
            have hno := fun h => c56 (nI_le (b := 100) h (by decide))
            have e : stCopy s (nI k) (nI p1) (-1 : Int32) = (-3, s) := by
              unfold stCopy
              rw [if_pos ⟨nI_rowP hk, nI_rowP hp1, hmr⟩, hrnp1, hmL, if_neg hno]
            exact hR F _ _ _ dX11_copy_61 rfl ⟨B, S, P, q, X, v, by rw [e]; exact hI, by rw [e], cO.rf c F⟩
        · have hz9 := 0
          have hrj : rowP m := hmm
          obtain ⟨j, hj, rfl⟩ := rowP_nI hrj
          have hrnj := nI_rn hj
          have hlj : (s.1 j).length ≤ 100 := by rw [← hRw j hj]; have q := W0.cp j (by omega); rw [bcr (by omega)] at q; exact q
          have hjT : (nI j).toInt = j := nI_toInt (by omega)
          have hjne : ¬ nI j = (-1 : Int32) := fun h => by
            have q := congrArg Int32.toInt h
            rw [hjT, show (-1 : Int32).toInt = -1 by decide] at q
            omega
          have hmr : -1 ≤ (nI j).toInt ∧ (nI j).toInt ≤ 15 := by rw [hjT]; omega
          have hmL : moreL s (nI j) = s.1 j := by
            unfold moreL
            rw [if_neg (by rw [hjT]; omega), hrnj]
          refine jr_iload_n hE dX11_copy_22 3 rfl ?_
          refine jr_iconst (v := (-1 : Int32)) hE dX11_copy_23 (by decide) ?_
          refine jr_icmp_ne (tgt := 31) hE dX11_copy_24 (by decide) (fun c24 => ?_) (fun c24 => ?_)
          · refine jr_aload_n hE dX11_copy_31 0 rfl ?_
            refine jr_get hE dX11_copy_32 f11 W0.o0 rfl ?_
            refine jr_iload_n hE dX11_copy_35 3 rfl ?_
            obtain ⟨f40, ja40, ga40⟩ := W0.aR
            refine jr_aald (v := c (270 + 2 * j)) hE dX11_copy_36 ja40 rfl (vp_in_nI (n := j) (by omega) (by decide)) (by rw [nI_clamp (by omega)]; exact ga40 j (by omega)) ?_
            refine jr_get hE dX11_copy_37 f68 (W0.by j (by omega)).ob rfl ?_
            rw [show B j = (s.1 j) from (hRw j hj)]
            refine jr_istore (lv' := [(4, .int (nI (s.1 j).length)), (0, .ref (c 0)), (1, .int (nI k)), (2, .int (nI p1)), (3, .int (nI j))]) hE dX11_copy_40 (by decide) rfl ?_
            refine jr_aload_n hE dX11_copy_42 1 rfl ?_
            refine jr_get hE dX11_copy_43 f11 W0.o0 rfl ?_
            refine jr_iload_n hE dX11_copy_46 3 rfl ?_
            obtain ⟨f41, ja41, ga41⟩ := W0.aR
            refine jr_aald (v := c (270 + 2 * p1)) hE dX11_copy_47 ja41 rfl (vp_in_nI (n := p1) (by omega) (by decide)) (by rw [nI_clamp (by omega)]; exact ga41 p1 (by omega)) ?_
            refine jr_get hE dX11_copy_48 f68 (W0.by p1 (by omega)).ob rfl ?_
            rw [show B p1 = (s.1 p1) from (hRw p1 hp1)]
            refine jr_iload hE dX11_copy_51 0 rfl ?_
            refine jr_iadd (z := nI ((s.1 p1).length + ((s.1 j).length))) hE dX11_copy_53 (nI_add _ _) ?_
            refine jr_bipush (v := (100 : Int32)) hE dX11_copy_54 (by decide) ?_
            refine jr_icmp_le (tgt := 62) hE dX11_copy_56 (by decide) (fun c56 => ?_) (fun c56 => ?_)
            · have hfit : (s.1 p1).length + (s.1 j).length ≤ 100 := nI_leC (m := 100) (by omega) (by decide) c56
              refine jr_aload_n hE dX11_copy_62 1 rfl ?_
              refine jr_get hE dX11_copy_63 f18 W0.o0 rfl ?_
              refine jr_aload_n hE dX11_copy_66 1 rfl ?_
              refine jr_get hE dX11_copy_67 f11 W0.o0 rfl ?_
              refine jr_iload_n hE dX11_copy_70 3 rfl ?_
              obtain ⟨f42, ja42, ga42⟩ := W0.aR
              refine jr_aald (v := c (270 + 2 * p1)) hE dX11_copy_71 ja42 rfl (vp_in_nI (n := p1) (by omega) (by decide)) (by rw [nI_clamp (by omega)]; exact ga42 p1 (by omega)) ?_
              refine jr_kVv (ci := 0) (n := 1) (As := [.ref (c (270 + 2 * p1))]) (rest := []) hE dX11_copy_72 (fun l => c_X0_become l G (c (270 + 2 * 16)) (c (271 + 2 * 16)) (bcap 16) (c (270 + 2 * p1)) (c (271 + 2 * p1)) (bcap p1) (B 16) (s.1 p1)) gX11_copy_X0_become rfl ((W0.by 16 (by decide)).ob) rfl (by decide +kernel) ⟨rfl, rfl, by decide, by decide⟩ (by decide) rfl rfl (Nat.le_of_ble_eq_true rfl) (⟨W0.by 16 (by decide), (by have q := W0.by p1 (by omega); rw [show B p1 = (s.1 p1) from (hRw p1 hp1)] at q; exact q), cnd W0.1 [270 + 2 * 16, 271 + 2 * 16, 270 + 2 * p1, 271 + 2 * p1] (by simp only [List.mem_cons, List.not_mem_nil, or_false]; omega) (by simp only [List.nodup_cons, List.mem_cons, List.not_mem_nil, or_false, not_or, List.nodup_nil, not_false_eq_true, and_true]; omega), by rw [bcr (by omega)]; omega⟩) (fun F43 q44 => ?_)
              obtain ⟨h45, u45⟩ := q44
              obtain ⟨W45, P45⟩ := W0.setB (i := 16) (bs := (s.1 p1)) (by decide) h45 u45
              have O45 := (cO.rf c F).tr P45
              obtain ⟨B45, eB45, hB45, yB45⟩ := uz_ab B 16 (s.1 p1)
              rw [eB45] at W45
              have nB45 : ∀ z, z ≠ 16 → B45 z = B z := fun z hz => hB45 z (fun e => hz (List.mem_singleton.mp e))
              refine jr_iload_n hE dX11_copy_75 4 rfl ?_
              refine jr_iconst (v := (-1 : Int32)) hE dX11_copy_76 (by decide) ?_
              refine jr_icmp_eq (tgt := 93) hE dX11_copy_77 (by decide) (fun c_77 => absurd c_77 (hjne)) (fun c_77 => ?_)
              refine jr_aload_n hE dX11_copy_80 1 rfl ?_
              refine jr_get hE dX11_copy_81 f18 W45.o0 rfl ?_
              refine jr_aload_n hE dX11_copy_84 1 rfl ?_
              refine jr_get hE dX11_copy_85 f11 W45.o0 rfl ?_
              refine jr_iload_n hE dX11_copy_88 4 rfl ?_
              obtain ⟨f46, ja46, ga46⟩ := W45.aR
              refine jr_aald (v := c (270 + 2 * j)) hE dX11_copy_89 ja46 rfl (vp_in_nI (n := j) (by omega) (by decide)) (by rw [nI_clamp (by omega)]; exact ga46 j (by omega)) ?_
              have hB47 : B45 j = (s.1 j) := (nB45 j (by omega)).trans (hRw j hj)
              refine jr_kVv (ci := 0) (n := 1) (As := [.ref (c (270 + 2 * j))]) (rest := []) hE dX11_copy_90 (fun l => c_X0_addAll l G (c (270 + 2 * 16)) (c (271 + 2 * 16)) (bcap 16) (c (270 + 2 * j)) (c (271 + 2 * j)) (bcap j) (s.1 p1) (s.1 j)) gX11_copy_X0_addAll rfl ((W45.by 16 (by decide)).ob) rfl (by decide +kernel) ⟨rfl, rfl, by decide, by decide⟩ (by decide) rfl rfl (Nat.le_of_ble_eq_true rfl) (⟨(by have q := W45.by 16 (by decide); rw [show B45 16 = (s.1 p1) from yB45] at q; exact q), (by have q := W45.by j (by omega); rw [show B45 j = (s.1 j) from hB47] at q; exact q), cnd W45.1 [270 + 2 * 16, 271 + 2 * 16, 270 + 2 * j, 271 + 2 * j] (by simp only [List.mem_cons, List.not_mem_nil, or_false]; omega) (by simp only [List.nodup_cons, List.mem_cons, List.not_mem_nil, or_false, not_or, List.nodup_nil, not_false_eq_true, and_true]; omega), by rw [bcr (by omega)]; exact hfit⟩) (fun F48 q49 => ?_)
              obtain ⟨h50, u50⟩ := q49
              obtain ⟨W50, P50⟩ := W45.setB (i := 16) (bs := ((s.1 p1) ++ (s.1 j))) (by decide) h50 u50
              have O50 := O45.tr P50
              obtain ⟨B50, eB50, hB50, yB50⟩ := uz_ab B45 16 ((s.1 p1) ++ (s.1 j))
              rw [eB50] at W50
              have nB50 : ∀ z, z ≠ 16 → B50 z = B45 z := fun z hz => hB50 z (fun e => hz (List.mem_singleton.mp e))
              refine jr_aload_n hE dX11_copy_93 1 rfl ?_
              refine jr_iload_n hE dX11_copy_94 2 rfl ?_
              have hJ := hI.upd (k := s.2.2.1) W50 (fun z hz => ((nB50 z (by simp only [List.mem_cons, List.not_mem_nil, or_false, not_or] at hz; omega)).trans (nB45 z (by simp only [List.mem_cons, List.not_mem_nil, or_false, not_or] at hz; omega)))) (fun z hz => rfl) (fun z hz => rfl) (fun z hz => rfl) hwk.1 (hwk.2)
              refine jr_kVi (ci := 11) (n := 1) (As := [.int (nI k)]) (rest := []) hE dX11_copy_95 (fun l => c_c_answerIn l G c B50 S P q X v k) gX11_copy_X11_answerIn rfl W50.o0 rfl (by decide +kernel) ⟨rfl, rfl, by decide, by decide⟩ (by decide) rfl rfl (Nat.le_of_ble_eq_true rfl) (⟨W50, hk⟩) (fun r53 F51 q52 => ?_)
              obtain ⟨B54, W54, hB54, f54_0, r53e, P54⟩ := q52
              subst r53e
              have O54 := O50.tr P54
              have e : stCopy s (nI k) (nI p1) (nI j) = (nI ((s.1 p1).length + ((s.1 j) : List Nat).length), setR s k (s.1 p1 ++ (s.1 j))) := by
                unfold stCopy
                rw [if_pos ⟨nI_rowP hk, nI_rowP hp1, hmr⟩, hrnp1, hrnk, hmL, if_pos hfit]
              exact hR F51 _ _ _ dX11_copy_98 rfl ⟨_, _, _, _, _, _, by rw [e]; exact hJ.row W54 hk (fun z hz => hB54 z (fun q => hz (List.mem_singleton.mp q))) (f54_0.trans yB50), by rw [e, show B50 16 = ((s.1 p1) ++ (s.1 j)) from yB50, List.length_append], O54⟩
            · refine jr_bipush (v := (-3 : Int32)) hE dX11_copy_59 (by decide) ?_
              have hno := fun h => c56 (nI_le (b := 100) h (by decide))
              have e : stCopy s (nI k) (nI p1) (nI j) = (-3, s) := by
                unfold stCopy
                rw [if_pos ⟨nI_rowP hk, nI_rowP hp1, hmr⟩, hrnp1, hmL, if_neg hno]
              exact hR F _ _ _ dX11_copy_61 rfl ⟨B, S, P, q, X, v, by rw [e]; exact hI, by rw [e], cO.rf c F⟩
          · exact absurd c24 hjne
      · refine jr_iconst (v := (-1 : Int32)) hE dX11_copy_20 (by decide) ?_
        have e : stCopy s (nI k) (nI p1) m = (-1, s) := by
          unfold stCopy
          rw [if_neg (fun h => absurd (b2i_t (p := rowP m) ⟨by have q := h.2.2.1; rcases Int.lt_or_le m.toInt 0 with g | g; exact absurd (Int32.toInt_inj.mp (by rw [show (-1 : Int32).toInt = -1 by decide]; omega)) c10; exact g, h.2.2.2⟩) (by rw [c17]; decide))]
        exact hR F _ _ _ dX11_copy_21 rfl ⟨B, S, P, q, X, v, by rw [e]; exact hI, by rw [e], cO.rf c F⟩

