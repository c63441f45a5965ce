/-! JointSigns: rows -/
set_option maxHeartbeats 4000000 in
set_option maxRecDepth 100000 in
theorem c_c_clear (l : Launch) (G : Nat → ClassId) (c : Nat → Nat) (B : Nat → List Nat) (S : Nat → Nat) (P : Nat → JP) (q : SS) (X : Nat) (v : Nat → Int32) (s : ST) (r : Int32) : jKi l yX11_clear wsX11_clear ({ frames := 1, cells := 0, slots := 0, locals := 20 }) G [.ref (c 0), .int r] (fun L F => cI G L F c B S P q X v s) (fun L F ans F1 => ∃ B1 S1 P1 q1 X1 v1, cI G L F1 c B1 S1 P1 q1 X1 v1 (stClear s r).2 ∧ ans = (stClear s r).1 ∧ cO c F F1) := by
  refine jm_ki (cc := cX11_clear) (maxL := 3) (rt := .int) (by decide) rfl (Nat.le_of_ble_eq_true rfl) ?_
  intro E L F hE hR hpre
  have hE : jOk E G _ cX11_clear 3 RX11 wsX11_clear := hE
  have hI := hpre
  obtain ⟨W0, hG, hRw, h0, hen, hwk, h2, hsg, hnc, htd, hse⟩ := id hpre
  have hwk48 := hwk.2
  have hs4 := hsg.1
  have hen4 := hen.1
  have f11 : jFl RX11 wsX11_clear 11 11 0 := ⟨rfl, by decide, by decide +kernel, by decide +kernel⟩
  have f68 : jFl RX11 wsX11_clear 68 0 1 := ⟨rfl, by decide, by decide +kernel, by decide +kernel⟩
  refine jr_iload_n hE dX11_clear_0 1 rfl ?_
  refine jr_kSi (n := 1) (As := [.int r]) (rest := []) hE dX11_clear_1 (fun l => c_c_isRow l G r) gX11_clear_X11_isRow rfl (by decide +kernel) ⟨rfl, rfl, by decide, by decide⟩ (by decide) rfl rfl (Nat.le_of_ble_eq_true rfl) (trivial) (fun r3 F1 q2 => ?_)
  obtain ⟨eq2, rq2⟩ := q2
  subst eq2 rq2
  refine jr_if_ne (tgt := 9) hE dX11_clear_4 (by decide) (fun c4 => ?_) (fun c4 => ?_)
  · have hrk : rowP r := b2i_1 c4
    obtain ⟨k, hk, rfl⟩ := rowP_nI hrk
    have hrnk := nI_rn hk
    have hlk : (s.1 k).length ≤ 100 := by rw [← hRw k hk]; have q := W0.cp k (by omega); rw [bcr (by omega)] at q; exact q
    refine jr_aload_n hE dX11_clear_9 0 rfl ?_
    refine jr_get hE dX11_clear_10 f11 W0.o0 rfl ?_
    refine jr_iload_n hE dX11_clear_13 1 rfl ?_
    obtain ⟨f4, ja4, ga4⟩ := W0.aR
    refine jr_aald (v := c (270 + 2 * k)) hE dX11_clear_14 ja4 rfl (vp_in_nI (n := k) (by omega) (by decide)) (by rw [nI_clamp (by omega)]; exact ga4 k (by omega)) ?_
    refine jr_get hE dX11_clear_15 f68 (W0.by k (by omega)).ob rfl ?_
    rw [show B k = (s.1 k) from (hRw k hk)]
    refine jr_istore_n (lv' := [(2, .int (nI (s.1 k).length)), (0, .ref (c 0)), (1, .int (nI k))]) hE dX11_clear_18 (by decide) rfl ?_
    refine jr_aload_n hE dX11_clear_19 1 rfl ?_
    refine jr_get hE dX11_clear_20 f11 W0.o0 rfl ?_
    refine jr_iload_n hE dX11_clear_23 2 rfl ?_
    obtain ⟨f5, ja5, ga5⟩ := W0.aR
    refine jr_aald (v := c (270 + 2 * k)) hE dX11_clear_24 ja5 rfl (vp_in_nI (n := k) (by omega) (by decide)) (by rw [nI_clamp (by omega)]; exact ga5 k (by omega)) ?_
    refine jr_kVv (ci := 0) (n := 0) (As := []) (rest := []) hE dX11_clear_25 (fun l => c_X0_empty l G (c (270 + 2 * k)) (c (271 + 2 * k)) (bcap k) (B k)) gX11_clear_X0_empty rfl ((W0.by k (by omega)).ob) rfl (by decide +kernel) ⟨rfl, rfl, by decide, by decide⟩ (by decide) rfl rfl (Nat.le_of_ble_eq_true rfl) (W0.by k (by omega)) (fun F6 q7 => ?_)
    obtain ⟨h8, u8⟩ := q7
    obtain ⟨W8, P8⟩ := W0.setBo (i := k) (bs := []) (by omega) h8 u8
    have O8 := (cO.rf c F).tr P8
    obtain ⟨B8, eB8, hB8, yB8⟩ := uz_ab B k ([])
    rw [eB8] at W8
    have nB8 : ∀ z, z ≠ k → B8 z = B z := fun z hz => hB8 z (fun e => hz (List.mem_singleton.mp e))
    refine jr_iload_n hE dX11_clear_28 0 rfl ?_
    have e : stClear s (nI k) = (nI (s.1 k).length, setR s k []) := by
      unfold stClear
      rw [if_pos (nI_rowP hk), hrnk]
    exact hR F6 _ _ _ dX11_clear_29 rfl ⟨_, _, _, _, _, _, by rw [e]; exact hI.row W8 hk (fun z hz => (nB8 z hz)) yB8, by rw [e], O8⟩
  · refine jr_iconst (v := (-1 : Int32)) hE dX11_clear_7 (by decide) ?_
    have e : stClear s r = (-1, s) := by
      unfold stClear
      rw [if_neg (fun h => absurd (b2i_t h) (by rw [c4]; decide))]
    exact hR F _ _ _ dX11_clear_8 rfl ⟨B, S, P, q, X, v, by rw [e]; exact hI, by rw [e], cO.rf c F⟩

set_option maxHeartbeats 4000000 in
set_option maxRecDepth 100000 in
theorem c_c_same (l : Launch) (G : Nat → ClassId) (c : Nat → Nat) (B : Nat → List Nat) (S : Nat → Nat) (P : Nat → JP) (q : SS) (X : Nat) (v : Nat → Int32) (s : ST) (r p : Int32) : jKi l yX11_same wsX11_same ({ frames := 2, cells := 0, slots := 0, locals := 44 }) G [.ref (c 0), .int r, .int p] (fun L F => cI G L F c B S P q X v s) (fun L F ans F1 => F = F1 ∧ ans = stSame s r p) := by
  refine jm_ki (cc := cX11_same) (maxL := 3) (rt := .int) (by decide) rfl (Nat.le_of_ble_eq_true rfl) ?_
  intro E L F hE hR hpre
  have hE : jOk E G _ cX11_same 3 RX11 wsX11_same := hE
  have hI := hpre
  obtain ⟨W0, hG, hRw, h0, hen, hwk, h2, hsg, hnc, htd, hse⟩ := id hpre
  have hwk48 := hwk.2
  have hs4 := hsg.1
  have hen4 := hen.1
  have f11 : jFl RX11 wsX11_same 11 11 0 := ⟨rfl, by decide, by decide +kernel, by decide +kernel⟩
  refine jr_iload_n hE dX11_same_0 1 rfl ?_
  refine jr_iload_n hE dX11_same_1 2 rfl ?_
  refine jr_kSi (n := 2) (As := [.int r, .int p]) (rest := []) hE dX11_same_2 (fun l => c_c_areRows l G r p) gX11_same_X11_areRows rfl (by decide +kernel) ⟨rfl, rfl, by decide, by decide⟩ (by decide) rfl rfl (Nat.le_of_ble_eq_true rfl) (trivial) (fun r3 F1 q2 => ?_)
  obtain ⟨eq2, rq2⟩ := q2
  subst eq2 rq2
  refine jr_if_ne (tgt := 10) hE dX11_same_5 (by decide) (fun c5 => ?_) (fun c5 => ?_)
  · have hrr := b2i_1 c5
    have hrk : rowP r := hrr.1
    obtain ⟨k, hk, rfl⟩ := rowP_nI hrk
    have hrnk := nI_rn hk
    have hlk : (s.1 k).length ≤ 100 := by rw [← hRw k hk]; have q := W0.cp k (by omega); rw [bcr (by omega)] at q; exact q
    have hrp1 : rowP p := hrr.2
    obtain ⟨p1, hp1, rfl⟩ := rowP_nI hrp1
    have hrnp1 := nI_rn hp1
    have hlp1 : (s.1 p1).length ≤ 100 := by rw [← hRw p1 hp1]; have q := W0.cp p1 (by omega); rw [bcr (by omega)] at q; exact q
    refine jr_aload_n hE dX11_same_10 0 rfl ?_
    refine jr_get hE dX11_same_11 f11 W0.o0 rfl ?_
    refine jr_iload_n hE dX11_same_14 1 rfl ?_
    obtain ⟨f4, ja4, ga4⟩ := W0.aR
    refine jr_aald (v := c (270 + 2 * k)) hE dX11_same_15 ja4 rfl (vp_in_nI (n := k) (by omega) (by decide)) (by rw [nI_clamp (by omega)]; exact ga4 k (by omega)) ?_
    refine jr_aload_n hE dX11_same_16 0 rfl ?_
    refine jr_get hE dX11_same_17 f11 W0.o0 rfl ?_
    refine jr_iload_n hE dX11_same_20 2 rfl ?_
    obtain ⟨f5, ja5, ga5⟩ := W0.aR
    refine jr_aald (v := c (270 + 2 * p1)) hE dX11_same_21 ja5 rfl (vp_in_nI (n := p1) (by omega) (by decide)) (by rw [nI_clamp (by omega)]; exact ga5 p1 (by omega)) ?_
    refine jr_kVi (ci := 0) (n := 1) (As := [.ref (c (270 + 2 * p1))]) (rest := []) hE dX11_same_22 (fun l => c_X0_isLike l G (c (270 + 2 * k)) (c (271 + 2 * k)) (bcap k) (c (270 + 2 * p1)) (c (271 + 2 * p1)) (bcap p1) (s.1 k) (s.1 p1)) gX11_same_X0_isLike rfl ((W0.by k (by omega)).ob) rfl (by decide +kernel) ⟨rfl, rfl, by decide, by decide⟩ (by decide) rfl rfl (Nat.le_of_ble_eq_true rfl) (⟨(by have q := W0.by k (by omega); rw [show B k = (s.1 k) from (hRw k hk)] at q; exact q), (by have q := W0.by p1 (by omega); rw [show B p1 = (s.1 p1) from (hRw p1 hp1)] at q; exact q)⟩) (fun r8 F6 q7 => ?_)
    obtain ⟨eq7, rq7⟩ := q7
    subst eq7 rq7
    refine jr_if_eq (tgt := 32) hE dX11_same_25 (by decide) (fun c25 => ?_) (fun c25 => ?_)
    · refine jr_iconst (v := (0 : Int32)) hE dX11_same_32 (by decide) ?_
      have e : stSame s (nI k) (nI p1) = 0 := by
        unfold stSame
        rw [if_pos ⟨nI_rowP hk, nI_rowP hp1⟩, hrnk, hrnp1, b2i_f (b2i_0 c25)]
      exact hR F _ _ _ dX11_same_33 rfl ⟨rfl, by rw [e]⟩
    · refine jr_iconst (v := (1 : Int32)) hE dX11_same_28 (by decide) ?_
      refine jr_goto (tgt := 33) hE dX11_same_29 (by decide) ?_
      have e : stSame s (nI k) (nI p1) = 1 := by
        unfold stSame
        rw [if_pos ⟨nI_rowP hk, nI_rowP hp1⟩, hrnk, hrnp1, b2i_t (b2i_1 c25)]
      exact hR F _ _ _ dX11_same_33 rfl ⟨rfl, by rw [e]⟩
  · refine jr_iconst (v := (-1 : Int32)) hE dX11_same_8 (by decide) ?_
    have e : stSame s r p = -1 := by
      unfold stSame
      rw [if_neg (fun h => absurd (b2i_t (p := rowP r ∧ rowP p) h) (by rw [c5]; decide))]
    exact hR F _ _ _ dX11_same_9 rfl ⟨rfl, by rw [e]⟩

set_option maxHeartbeats 4000000 in
set_option maxRecDepth 100000 in
theorem c_c_hash (l : Launch) (G : Nat → ClassId) (c : Nat → Nat) (B : Nat → List Nat) (S : Nat → Nat) (P : Nat → JP) (q : SS) (X : Nat) (v : Nat → Int32) (s : ST) (r t m : Int32) : jKi l yX11_hash wsX11_hash ({ frames := 5, cells := 0, slots := 0, locals := 108 }) G [.ref (c 0), .int r, .int t, .int m] (fun L F => cI G L F c B S P q X v s) (fun L F ans F1 => ∃ B1 S1 P1 q1 X1 v1, cI G L F1 c B1 S1 P1 q1 X1 v1 (stHash s r t m).2 ∧ ans = (stHash s r t m).1 ∧ cO c F F1) := by
  refine jm_ki (cc := cX11_hash) (maxL := 4) (rt := .int) (by decide) rfl (Nat.le_of_ble_eq_true rfl) ?_
  intro E L F hE hR hpre
  have hE : jOk E G _ cX11_hash 4 RX11 wsX11_hash := hE
  have hI := hpre
  obtain ⟨W0, hG, hRw, h0, hen, hwk, h2, hsg, hnc, htd, hse⟩ := id hpre
  have hwk48 := hwk.2
  have hs4 := hsg.1
  have hen4 := hen.1
  have f25 : jFl RX11 wsX11_hash 25 11 2 := ⟨rfl, by decide, by decide +kernel, by decide +kernel⟩
  have f11 : jFl RX11 wsX11_hash 11 11 0 := ⟨rfl, by decide, by decide +kernel, by decide +kernel⟩
  have f18 : jFl RX11 wsX11_hash 18 11 1 := ⟨rfl, by decide, by decide +kernel, by decide +kernel⟩
  refine jr_iload_n hE dX11_hash_0 1 rfl ?_
  refine jr_iload_n hE dX11_hash_1 3 rfl ?_
  refine jr_kSi (n := 2) (As := [.int r, .int m]) (rest := []) hE dX11_hash_2 (fun l => c_c_areRows l G r m) gX11_hash_X11_areRows rfl (by decide +kernel) ⟨rfl, rfl, by decide, by decide⟩ (by decide) rfl rfl (Nat.le_of_ble_eq_true rfl) (trivial) (fun r3 F1 q2 => ?_)
  obtain ⟨eq2, rq2⟩ := q2
  subst eq2 rq2
  refine jr_if_eq (tgt := 19) hE dX11_hash_5 (by decide) (fun c5 => ?_) (fun c5 => ?_)
  · refine jr_iconst (v := (-1 : Int32)) hE dX11_hash_19 (by decide) ?_
    have e : stHash s r t m = (-1, s) := by
      unfold stHash
      rw [if_neg (fun h => absurd (b2i_t (p := rowP r ∧ rowP m) ⟨h.1, h.2.2⟩) (by rw [c5]; decide))]
    exact hR F _ _ _ dX11_hash_20 rfl ⟨B, S, P, q, X, v, by rw [e]; exact hI, by rw [e], cO.rf c F⟩
  · have hrr := b2i_1 c5
    have hrk : rowP r := hrr.1
    obtain ⟨k, hk, rfl⟩ := rowP_nI hrk
    have hrnk := nI_rn hk
    have hlk : (s.1 k).length ≤ 100 := by rw [← hRw k hk]; have q := W0.cp k (by omega); rw [bcr (by omega)] at q; exact q
    have hrk2 : rowP m := hrr.2
    obtain ⟨k2, hk2, rfl⟩ := rowP_nI hrk2
    have hrnk2 := nI_rn hk2
    have hlk2 : (s.1 k2).length ≤ 100 := by rw [← hRw k2 hk2]; have q := W0.cp k2 (by omega); rw [bcr (by omega)] at q; exact q
    refine jr_iload_n hE dX11_hash_8 2 rfl ?_
    refine jr_iconst (v := (-1 : Int32)) hE dX11_hash_9 (by decide) ?_
    refine jr_icmp_lt (tgt := 19) hE dX11_hash_10 (by decide) (fun c10 => ?_) (fun c10 => ?_)
    · refine jr_iconst (v := (-1 : Int32)) hE dX11_hash_19 (by decide) ?_
      have e : stHash s (nI k) t (nI k2) = (-1, s) := by
        unfold stHash
        rw [if_neg (fun h => absurd (Int32.lt_iff_toInt_lt.mp c10) (by rw [show (-1 : Int32).toInt = -1 by decide]; have q := h.2.1.1; omega))]
      exact hR F _ _ _ dX11_hash_20 rfl ⟨B, S, P, q, X, v, by rw [e]; exact hI, by rw [e], cO.rf c F⟩
    · refine jr_iload_n hE dX11_hash_13 2 rfl ?_
      refine jr_bipush (v := (7 : Int32)) hE dX11_hash_14 (by decide) ?_
      refine jr_icmp_le (tgt := 21) hE dX11_hash_16 (by decide) (fun c16 => ?_) (fun c16 => ?_)
      · have ht : -1 ≤ t.toInt ∧ t.toInt ≤ 7 := ⟨by have q := Int32.le_iff_toInt_le.mp (Int32.not_lt.mp c10); rwa [show (-1 : Int32).toInt = -1 by decide] at q, (i32_le (m := 7) (by decide)).mp c16⟩
        rcases Int.lt_or_le t.toInt 0 with hneg | hnn
        · have hte : t = (-1 : Int32) := Int32.toInt_inj.mp (by rw [show (-1 : Int32).toInt = -1 by decide]; omega)
          subst hte
          have hpe : hPre (-1 : Int32) = [] := if_pos (by decide)
          refine jr_aload_n hE dX11_hash_21 0 rfl ?_
          refine jr_get hE dX11_hash_22 f25 W0.o0 rfl ?_
          refine jr_iload_n hE dX11_hash_25 2 rfl ?_
          refine jr_kVv (ci := 9) (n := 1) (As := [.int (-1 : Int32)]) (rest := []) hE dX11_hash_26 (fun l => c_X9_beginN l G (c 3) (c 4) (c 5) (c (270 + 2 * 17)) q) gX11_hash_X9_beginBy rfl W0.sh.1 rfl (by decide +kernel) ⟨rfl, rfl, by decide, by decide⟩ (by decide) rfl rfl (Nat.le_of_ble_eq_true rfl) (W0.beginNpre) (fun F4 q5 => ?_)
          obtain ⟨q6, W6, D6, P6⟩ := W0.beginN q5
          have O6 := (cO.rf c F).tr P6
          have T6 : ∀ b, b ∈ ([]) → b < 256 := (fun b hb => absurd hb (List.not_mem_nil))
          refine jr_aload_n hE dX11_hash_29 0 rfl ?_
          refine jr_get hE dX11_hash_30 f25 W6.o0 rfl ?_
          refine jr_aload_n hE dX11_hash_33 0 rfl ?_
          refine jr_get hE dX11_hash_34 f11 W6.o0 rfl ?_
          refine jr_iload_n hE dX11_hash_37 3 rfl ?_
          obtain ⟨f7, ja7, ga7⟩ := W6.aR
          refine jr_aald (v := c (270 + 2 * k2)) hE dX11_hash_38 ja7 rfl (vp_in_nI (n := k2) (by omega) (by decide)) (by rw [nI_clamp (by omega)]; exact ga7 k2 (by omega)) ?_
          refine jr_kVv (ci := 9) (n := 1) (As := [.ref (c (270 + 2 * k2))]) (rest := []) hE dX11_hash_39 (fun l => c_X9_takeAll l G (c 3) (c 4) (c 5) (c (270 + 2 * 17)) (c (270 + 2 * k2)) (c (271 + 2 * k2)) (bcap k2) q6 (s.1 k2)) gX11_hash_X9_takeAll rfl W6.sh.1 rfl (by decide +kernel) ⟨rfl, rfl, by decide, by decide⟩ (by decide) rfl rfl (Nat.le_of_ble_eq_true rfl) (⟨W6.sh, (by have q := W6.by k2 (by omega); rw [show B k2 = (s.1 k2) from (hRw k2 hk2)] at q; exact q), (W6.shB k2 (by omega) trivial D6 (by (try simp only [List.length_append, List.length_cons, List.length_nil, List.length_take, List.length_drop, sha_len, bex_len, pbE_len, xorL_len, List.length_replicate]); omega)).2.2.1, (W6.shB k2 (by omega) trivial D6 (by (try simp only [List.length_append, List.length_cons, List.length_nil, List.length_take, List.length_drop, sha_len, bex_len, pbE_len, xorL_len, List.length_replicate]); omega)).2.2.2⟩) (fun F8 q9 => ?_)
          have Dq9 := W6.takeA D6 q9
          rw [List.nil_append] at Dq9
          obtain ⟨q10, W10, D10, P10⟩ := Dq9
          have O10 := O6.tr P10
          have T10 : ∀ b, b ∈ (s.1 k2) → b < 256 := (by have q := W6.bB k2 (by omega); rw [show B k2 = (s.1 k2) from (hRw k2 hk2)] at q; exact q)
          refine jr_aload_n hE dX11_hash_42 0 rfl ?_
          refine jr_get hE dX11_hash_43 f25 W10.o0 rfl ?_
          refine jr_aload_n hE dX11_hash_46 0 rfl ?_
          refine jr_get hE dX11_hash_47 f18 W10.o0 rfl ?_
          refine jr_kVv (ci := 9) (n := 1) (As := [.ref (c (270 + 2 * 16))]) (rest := []) hE dX11_hash_50 (fun l => c_X9_finish l G (c 3) (c 4) (c 5) (c (270 + 2 * 17)) (c (270 + 2 * 16)) (c (271 + 2 * 16)) (bcap 16) q10 (B 16)) gX11_hash_X9_finish rfl W10.sh.1 rfl (by decide +kernel) ⟨rfl, rfl, by decide, by decide⟩ (by decide) rfl rfl (Nat.le_of_ble_eq_true rfl) (⟨W10.sh, W10.by 16 (by decide), (W10.shB 16 (by decide) trivial D10 (by (try simp only [List.length_append, List.length_cons, List.length_nil, List.length_take, List.length_drop, sha_len, bex_len, pbE_len, xorL_len, List.length_replicate]); omega)).2.2.1, by decide, (W10.shB 16 (by decide) trivial D10 (by (try simp only [List.length_append, List.length_cons, List.length_nil, List.length_take, List.length_drop, sha_len, bex_len, pbE_len, xorL_len, List.length_replicate]); omega)).2.2.2⟩) (fun F11 q12 => ?_)
          obtain ⟨q13, W13, P13⟩ := W10.finP (i := 16) (by decide) D10 T10 (by (try simp only [List.length_append, List.length_cons, List.length_nil, List.length_take, List.length_drop, sha_len, bex_len, pbE_len, xorL_len, List.length_replicate]); omega) q12
          have O13 := O10.tr P13
          obtain ⟨B13, eB13, hB13, yB13⟩ := uz_ab B 16 (sha ((s.1 k2)))
          rw [eB13] at W13
          have nB13 : ∀ z, z ≠ 16 → B13 z = B z := fun z hz => hB13 z (fun e => hz (List.mem_singleton.mp e))
          refine jr_aload_n hE dX11_hash_53 0 rfl ?_
          refine jr_iload_n hE dX11_hash_54 1 rfl ?_
          have hJ := hI.upd (k := s.2.2.1) W13 (fun z hz => (nB13 z (by simp only [List.mem_cons, List.not_mem_nil, or_false, not_or] at hz; omega))) (fun z hz => rfl) (fun z hz => rfl) (fun z hz => rfl) hwk.1 (hwk.2)
          refine jr_kVi (ci := 11) (n := 1) (As := [.int (nI k)]) (rest := []) hE dX11_hash_55 (fun l => c_c_answerIn l G c B13 S P q13 X v k) gX11_hash_X11_answerIn rfl W13.o0 rfl (by decide +kernel) ⟨rfl, rfl, by decide, by decide⟩ (by decide) rfl rfl (Nat.le_of_ble_eq_true rfl) (⟨W13, hk⟩) (fun r16 F14 q15 => ?_)
          obtain ⟨B17, W17, hB17, f17_0, r16e, P17⟩ := q15
          subst r16e
          have O17 := O13.tr P17
          have e : stHash s (nI k) (-1 : Int32) (nI k2) = (32, setR s k (sha (hPre (-1 : Int32) ++ s.1 k2))) := by
            unfold stHash
            rw [if_pos ⟨nI_rowP hk, ht, nI_rowP hk2⟩, hrnk, hrnk2]
          rw [hpe] at e
          rw [List.nil_append] at e
          exact hR F14 _ _ _ dX11_hash_58 rfl ⟨_, _, _, _, _, _, by rw [e]; exact hJ.row W17 hk (fun z hz => hB17 z (fun q => hz (List.mem_singleton.mp q))) (f17_0.trans yB13), by rw [e, show B13 16 = (sha ((s.1 k2))) from yB13, sha_len]; rfl, O17⟩
        · obtain ⟨tt, htt, hte⟩ := sm_nI (x := t) (m := 7) hnn ht.2 (by decide)
          subst hte
          have htT : (nI tt).toInt = tt := nI_toInt (by omega)
          have hpe : hPre (nI tt) = sha (tgb tt) ++ sha (tgb tt) := by
            unfold hPre
            rw [if_neg (by omega), show rn (nI tt) = tt by unfold rn; rw [htT]; omega]
          refine jr_aload_n hE dX11_hash_21 0 rfl ?_
          refine jr_get hE dX11_hash_22 f25 W0.o0 rfl ?_
          refine jr_iload_n hE dX11_hash_25 2 rfl ?_
          refine jr_kVv (ci := 9) (n := 1) (As := [.int (nI tt)]) (rest := []) hE dX11_hash_26 (fun l => c_X9_beginT l G (c 3) (c 4) (c 5) (c (270 + 2 * 17)) (c (271 + 2 * 17)) (bcap 17) tt q (B 17)) gX11_hash_X9_beginBy rfl W0.sh.1 rfl (by decide +kernel) ⟨rfl, rfl, by decide, by decide⟩ (by decide) rfl rfl (Nat.le_of_ble_eq_true rfl) (W0.beginTpre (i := tt) (by omega)) (fun F18 q19 => ?_)
          obtain ⟨q20, W20, D20, P20⟩ := W0.beginT (i := tt) (by omega) q19
          have O20 := (cO.rf c F).tr P20
          obtain ⟨B20, eB20, hB20, yB20⟩ := uz_ab B 17 (sha (tgb tt))
          rw [eB20] at W20
          have nB20 : ∀ z, z ≠ 17 → B20 z = B z := fun z hz => hB20 z (fun e => hz (List.mem_singleton.mp e))
          have T20 : ∀ b, b ∈ (sha (tgb tt) ++ sha (tgb tt)) → b < 256 := app_lt (sha_lt _) (sha_lt _)
          refine jr_aload_n hE dX11_hash_29 0 rfl ?_
          refine jr_get hE dX11_hash_30 f25 W20.o0 rfl ?_
          refine jr_aload_n hE dX11_hash_33 0 rfl ?_
          refine jr_get hE dX11_hash_34 f11 W20.o0 rfl ?_
          refine jr_iload_n hE dX11_hash_37 3 rfl ?_
          obtain ⟨f21, ja21, ga21⟩ := W20.aR
          refine jr_aald (v := c (270 + 2 * k2)) hE dX11_hash_38 ja21 rfl (vp_in_nI (n := k2) (by omega) (by decide)) (by rw [nI_clamp (by omega)]; exact ga21 k2 (by omega)) ?_
          have hB22 : B20 k2 = (s.1 k2) := (nB20 k2 (by omega)).trans (hRw k2 hk2)
          refine jr_kVv (ci := 9) (n := 1) (As := [.ref (c (270 + 2 * k2))]) (rest := []) hE dX11_hash_39 (fun l => c_X9_takeAll l G (c 3) (c 4) (c 5) (c (270 + 2 * 17)) (c (270 + 2 * k2)) (c (271 + 2 * k2)) (bcap k2) q20 (s.1 k2)) gX11_hash_X9_takeAll rfl W20.sh.1 rfl (by decide +kernel) ⟨rfl, rfl, by decide, by decide⟩ (by decide) rfl rfl (Nat.le_of_ble_eq_true rfl) (⟨W20.sh, (by have q := W20.by k2 (by omega); rw [show B20 k2 = (s.1 k2) from hB22] at q; exact q), (W20.shB k2 (by omega) trivial D20 (by (try simp only [List.length_append, List.length_cons, List.length_nil, List.length_take, List.length_drop, sha_len, bex_len, pbE_len, xorL_len, List.length_replicate]); omega)).2.2.1, (W20.shB k2 (by omega) trivial D20 (by (try simp only [List.length_append, List.length_cons, List.length_nil, List.length_take, List.length_drop, sha_len, bex_len, pbE_len, xorL_len, List.length_replicate]); omega)).2.2.2⟩) (fun F23 q24 => ?_)
          have Dq24 := W20.takeA D20 q24
          obtain ⟨q25, W25, D25, P25⟩ := Dq24
          have O25 := O20.tr P25
          have T25 : ∀ b, b ∈ (sha (tgb tt) ++ sha (tgb tt) ++ (s.1 k2)) → b < 256 := app_lt T20 (by have q := W20.bB k2 (by omega); rw [show B20 k2 = (s.1 k2) from hB22] at q; exact q)
          refine jr_aload_n hE dX11_hash_42 0 rfl ?_
          refine jr_get hE dX11_hash_43 f25 W25.o0 rfl ?_
          refine jr_aload_n hE dX11_hash_46 0 rfl ?_
          refine jr_get hE dX11_hash_47 f18 W25.o0 rfl ?_
          refine jr_kVv (ci := 9) (n := 1) (As := [.ref (c (270 + 2 * 16))]) (rest := []) hE dX11_hash_50 (fun l => c_X9_finish l G (c 3) (c 4) (c 5) (c (270 + 2 * 17)) (c (270 + 2 * 16)) (c (271 + 2 * 16)) (bcap 16) q25 (B20 16)) gX11_hash_X9_finish rfl W25.sh.1 rfl (by decide +kernel) ⟨rfl, rfl, by decide, by decide⟩ (by decide) rfl rfl (Nat.le_of_ble_eq_true rfl) (⟨W25.sh, W25.by 16 (by decide), (W25.shB 16 (by decide) trivial D25 (by (try simp only [List.length_append, List.length_cons, List.length_nil, List.length_take, List.length_drop, sha_len, bex_len, pbE_len, xorL_len, List.length_replicate]); omega)).2.2.1, by decide, (W25.shB 16 (by decide) trivial D25 (by (try simp only [List.length_append, List.length_cons, List.length_nil, List.length_take, List.length_drop, sha_len, bex_len, pbE_len, xorL_len, List.length_replicate]); omega)).2.2.2⟩) (fun F26 q27 => ?_)
          obtain ⟨q28, W28, P28⟩ := W25.finP (i := 16) (by decide) D25 T25 (by (try simp only [List.length_append, List.length_cons, List.length_nil, List.length_take, List.length_drop, sha_len, bex_len, pbE_len, xorL_len, List.length_replicate]); omega) q27
          have O28 := O25.tr P28
          obtain ⟨B28, eB28, hB28, yB28⟩ := uz_ab B20 16 (sha (sha (tgb tt) ++ sha (tgb tt) ++ (s.1 k2)))
          rw [eB28] at W28
          have nB28 : ∀ z, z ≠ 16 → B28 z = B20 z := fun z hz => hB28 z (fun e => hz (List.mem_singleton.mp e))
          refine jr_aload_n hE dX11_hash_53 0 rfl ?_
          refine jr_iload_n hE dX11_hash_54 1 rfl ?_
          have hJ := hI.upd (k := s.2.2.1) W28 (fun z hz => ((nB28 z (by simp only [List.mem_cons, List.not_mem_nil, or_false, not_or] at hz; omega)).trans (nB20 z (by simp only [List.mem_cons, List.not_mem_nil, or_false, not_or] at hz; omega)))) (fun z hz => rfl) (fun z hz => rfl) (fun z hz => rfl) hwk.1 (hwk.2)
          refine jr_kVi (ci := 11) (n := 1) (As := [.int (nI k)]) (rest := []) hE dX11_hash_55 (fun l => c_c_answerIn l G c B28 S P q28 X v k) gX11_hash_X11_answerIn rfl W28.o0 rfl (by decide +kernel) ⟨rfl, rfl, by decide, by decide⟩ (by decide) rfl rfl (Nat.le_of_ble_eq_true rfl) (⟨W28, hk⟩) (fun r31 F29 q30 => ?_)
          obtain ⟨B32, W32, hB32, f32_0, r31e, P32⟩ := q30
          subst r31e
          have O32 := O28.tr P32
          have e : stHash s (nI k) (nI tt) (nI k2) = (32, setR s k (sha (hPre (nI tt) ++ s.1 k2))) := by
            unfold stHash
            rw [if_pos ⟨nI_rowP hk, ht, nI_rowP hk2⟩, hrnk, hrnk2]
          rw [hpe] at e
          exact hR F29 _ _ _ dX11_hash_58 rfl ⟨_, _, _, _, _, _, by rw [e]; exact hJ.row W32 hk (fun z hz => hB32 z (fun q => hz (List.mem_singleton.mp q))) (f32_0.trans yB28), by rw [e, show B28 16 = (sha (sha (tgb tt) ++ sha (tgb tt) ++ (s.1 k2))) from yB28, sha_len]; rfl, O32⟩
      · refine jr_iconst (v := (-1 : Int32)) hE dX11_hash_19 (by decide) ?_
        have e : stHash s (nI k) t (nI k2) = (-1, s) := by
          unfold stHash
          rw [if_neg (fun h => c16 ((i32_le (m := 7) (by decide)).mpr h.2.1.2))]
        exact hR F _ _ _ dX11_hash_20 rfl ⟨B, S, P, q, X, v, by rw [e]; exact hI, by rw [e], cO.rf c F⟩

