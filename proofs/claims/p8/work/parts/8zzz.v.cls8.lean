/-! JointSigns: entry, together, manyHold -/
theorem tgS_lt (R : Nat → List Nat) (b : Nat) : ∀ k, tgS R b k < NN
  | 0 => NN0
  | k + 1 => Nat.mod_lt _ NN0
theorem lN_T {a : Nat} (h : a < 2 ^ 63) : (lN a).toInt = a := by
  unfold lN
  exact Int64.toInt_ofNat_of_lt h

set_option maxHeartbeats 4000000 in
set_option maxRecDepth 100000 in
theorem c_c_entry (l : Launch) (G : Nat → ClassId) (c : Nat → Nat) (B : Nat → List Nat) (S : Nat → Nat) (P : Nat → JP) (q : SS) (X : Nat) (v : Nat → Int32) (s : ST) (r p t : Int32) (x : Int64) : jKi l yX11_entry wsX11_entry ({ frames := 5, cells := 0, slots := 0, locals := 112 }) G [.ref (c 0), .int r, .int p, .int t, .long x] (fun L F => cI G L F c B S P q X v s) (fun L F ans F1 => ∃ B1 S1 P1 q1 X1 v1, cI G L F1 c B1 S1 P1 q1 X1 v1 (stEntry s r p t x).2 ∧ ans = (stEntry s r p t x).1 ∧ cO c F F1) := by
  refine jm_ki (cc := cX11_entry) (maxL := 6) (rt := .int) (by decide) rfl (Nat.le_of_ble_eq_true rfl) ?_
  intro E L F hE hR hpre
  have hE : jOk E G _ cX11_entry 6 RX11 wsX11_entry := hE
  have hI := hpre
  obtain ⟨W0, hG, hRw, h0, hen, hwk, h2, hsg, hnc, htd, hse⟩ := id hpre
  have hwk48 := hwk.2
  have hs4 := hsg.1
  have hen4 := hen.1
  have f56 : jFl RX11 wsX11_entry 56 11 6 := ⟨rfl, by decide, by decide +kernel, by decide +kernel⟩
  have f11 : jFl RX11 wsX11_entry 11 11 0 := ⟨rfl, by decide, by decide +kernel, by decide +kernel⟩
  have f68 : jFl RX11 wsX11_entry 68 0 1 := ⟨rfl, by decide, by decide +kernel, by decide +kernel⟩
  have f52 : jFl RX11 wsX11_entry 52 11 5 := ⟨rfl, by decide, by decide +kernel, by decide +kernel⟩
  refine jr_iload_n hE dX11_entry_0 1 rfl ?_
  refine jr_iload_n hE dX11_entry_1 2 rfl ?_
  refine jr_kSi (n := 2) (As := [.int r, .int p]) (rest := []) hE dX11_entry_2 (fun l => c_c_areRows l G r p) gX11_entry_X11_areRows rfl (by decide +kernel) ⟨rfl, rfl, by decide, by decide⟩ (by decide) rfl rfl (Nat.le_of_ble_eq_true rfl) (trivial) (fun r3 F1 q2 => ?_)
  obtain ⟨eq2, rq2⟩ := q2
  subst eq2 rq2
  refine jr_if_eq (tgt := 42) hE dX11_entry_5 (by decide) (fun c5 => ?_) (fun c5 => ?_)
  · refine jr_iconst (v := (-1 : Int32)) hE dX11_entry_42 (by decide) ?_
    have e : stEntry s r p t x = (-1, s) := by
      unfold stEntry
      rw [if_neg (fun h => absurd (b2i_t (p := rowP r ∧ rowP p) ⟨h.1, h.2.1⟩) (by rw [c5]; decide))]
    exact hR F _ _ _ dX11_entry_43 rfl ⟨B, S, P, q, X, v, by rw [e]; exact hI, by rw [e], cO.rf c F⟩
  · have hrr := b2i_1 c5
    have hrk : rowP r := hrr.1
    obtain ⟨k, hk, rfl⟩ := rowP_nI hrk
    have hrnk := nI_rn hk
    have hlk : (s.1 k).length ≤ 100 := by rw [← hRw k hk]; have q := W0.cp k (by omega); rw [bcr (by omega)] at q; exact q
    have hrp1 : rowP p := hrr.2
    obtain ⟨p1, hp1, rfl⟩ := rowP_nI hrp1
    have hrnp1 := nI_rn hp1
    have hlp1 : (s.1 p1).length ≤ 100 := by rw [← hRw p1 hp1]; have q := W0.cp p1 (by omega); rw [bcr (by omega)] at q; exact q
    refine jr_iload_n hE dX11_entry_8 3 rfl ?_
    refine jr_kSi (n := 1) (As := [.int t]) (rest := []) hE dX11_entry_9 (fun l => c_c_isRow l G t) gX11_entry_X11_isRow rfl (by decide +kernel) ⟨rfl, rfl, by decide, by decide⟩ (by decide) rfl rfl (Nat.le_of_ble_eq_true rfl) (trivial) (fun r6 F4 q5 => ?_)
    obtain ⟨eq5, rq5⟩ := q5
    subst eq5 rq5
    refine jr_if_eq (tgt := 42) hE dX11_entry_12 (by decide) (fun c12 => ?_) (fun c12 => ?_)
    · refine jr_iconst (v := (-1 : Int32)) hE dX11_entry_42 (by decide) ?_
      have e : stEntry s (nI k) (nI p1) t x = (-1, s) := by
        unfold stEntry
        rw [if_neg (fun h => absurd (b2i_t h.2.2.1) (by rw [c12]; decide))]
      exact hR F _ _ _ dX11_entry_43 rfl ⟨B, S, P, q, X, v, by rw [e]; exact hI, by rw [e], cO.rf c F⟩
    · have hrk3 : rowP t := b2i_1 c12
      obtain ⟨k3, hk3, rfl⟩ := rowP_nI hrk3
      have hrnk3 := nI_rn hk3
      have hlk3 : (s.1 k3).length ≤ 100 := by rw [← hRw k3 hk3]; have q := W0.cp k3 (by omega); rw [bcr (by omega)] at q; exact q
      refine jr_lload hE dX11_entry_15 4 rfl ?_
      refine jr_lconst (v := (1 : Int64)) hE dX11_entry_17 (by decide) ?_
      refine jr_lcmp hE dX11_entry_18 ?_
      refine jr_if_lt (tgt := 42) hE dX11_entry_19 (by decide) (fun c19 => ?_) (fun c19 => ?_)
      · refine jr_iconst (v := (-1 : Int32)) hE dX11_entry_42 (by decide) ?_
        have e : stEntry s (nI k) (nI p1) (nI k3) x = (-1, s) := by
          unfold stEntry
          rw [if_neg (fun h => by have q := cmp_lt.mp c19; rw [show (1 : Int64).toInt = 1 by decide] at q; have := h.2.2.2.r; omega)]
        exact hR F _ _ _ dX11_entry_43 rfl ⟨B, S, P, q, X, v, by rw [e]; exact hI, by rw [e], cO.rf c F⟩
      · have hx1 : 1 ≤ x.toInt := by have q := Int.not_lt.mp (fun h => c19 (cmp_lt.mpr h)); rw [show (1 : Int64).toInt = 1 by decide] at q; exact q
        refine jr_lload hE dX11_entry_22 4 rfl ?_
        refine jr_aload_n hE dX11_entry_24 0 rfl ?_
        refine jr_get hE dX11_entry_25 f56 W0.o0 rfl ?_
        rw [show v 0 = (nI s.2.1.length) from h0]
        refine jr_if_ne (tgt := 35) hE dX11_entry_28 (by decide) (fun c28 => ?_) (fun c28 => ?_)
        · have hz0 : ¬ s.2.1.length = 0 := fun h => c28 ((nI_eq (b := 0) (by omega) (by decide)).mpr h)
          refine jr_ldc2 (v := (4611686018427387904 : Int64)) hE dX11_entry_35 (by decide +kernel) ?_
          refine jr_lcmp hE dX11_entry_38 ?_
          refine jr_if_le (tgt := 44) hE dX11_entry_39 (by decide) (fun c39 => ?_) (fun c39 => ?_)
          · have henA : enA s.2.1.length x := ⟨fun q => absurd q hz0, fun _ => ⟨hx1, by have q := Int.not_lt.mp (fun h => absurd (cmp_gt.mpr h) (Int32.not_lt.mpr c39)); rw [show (4611686018427387904 : Int64).toInt = 4611686018427387904 by decide] at q; exact q⟩⟩
            refine jr_aload_n hE dX11_entry_44 0 rfl ?_
            refine jr_get hE dX11_entry_45 f11 W0.o0 rfl ?_
            refine jr_iload_n hE dX11_entry_48 1 rfl ?_
            obtain ⟨fa7, ja7, ga7⟩ := W0.aR
            refine jr_aald (v := c (270 + 2 * k)) hE dX11_entry_49 ja7 rfl (vp_in_nI (n := k) (by omega) (by decide)) (by rw [nI_clamp (by omega)]; exact ga7 k (by omega)) ?_
            refine jr_get hE dX11_entry_50 f68 (W0.by k (by omega)).ob rfl ?_
            rw [show B k = (s.1 k) from (hRw k hk)]
            refine jr_bipush (v := (32 : Int32)) hE dX11_entry_53 (by decide) ?_
            refine jr_icmp_ne (tgt := 86) hE dX11_entry_55 (by decide) (fun c55 => ?_) (fun c55 => ?_)
            · refine jr_bipush (v := (-2 : Int32)) hE dX11_entry_86 (by decide) ?_
              have e : stEntry s (nI k) (nI p1) (nI k3) x = (-2, s) := by
                unfold stEntry
                rw [if_pos ⟨nI_rowP hk, nI_rowP hp1, nI_rowP hk3, henA⟩, hrnk, hrnp1, hrnk3, if_neg (fun h => c55 ((nI_eq (by omega) (by decide)).mpr h.1))]
              exact hR F _ _ _ dX11_entry_88 rfl ⟨B, S, P, q, X, v, by rw [e]; exact hI, by rw [e], cO.rf c F⟩
            · have hl1 : (s.1 k).length = 32 := (nI_eq (by omega) (by decide)).mp c55
              refine jr_aload_n hE dX11_entry_58 0 rfl ?_
              refine jr_get hE dX11_entry_59 f11 W0.o0 rfl ?_
              refine jr_iload_n hE dX11_entry_62 3 rfl ?_
              obtain ⟨fa8, ja8, ga8⟩ := W0.aR
              refine jr_aald (v := c (270 + 2 * k3)) hE dX11_entry_63 ja8 rfl (vp_in_nI (n := k3) (by omega) (by decide)) (by rw [nI_clamp (by omega)]; exact ga8 k3 (by omega)) ?_
              refine jr_get hE dX11_entry_64 f68 (W0.by k3 (by omega)).ob rfl ?_
              rw [show B k3 = (s.1 k3) from (hRw k3 hk3)]
              refine jr_bipush (v := (64 : Int32)) hE dX11_entry_67 (by decide) ?_
              refine jr_icmp_ne (tgt := 86) hE dX11_entry_69 (by decide) (fun c69 => ?_) (fun c69 => ?_)
              · refine jr_bipush (v := (-2 : Int32)) hE dX11_entry_86 (by decide) ?_
                have e : stEntry s (nI k) (nI p1) (nI k3) x = (-2, s) := by
                  unfold stEntry
                  rw [if_pos ⟨nI_rowP hk, nI_rowP hp1, nI_rowP hk3, henA⟩, hrnk, hrnp1, hrnk3, if_neg (fun h => c69 ((nI_eq (by omega) (by decide)).mpr h.2.1))]
                exact hR F _ _ _ dX11_entry_88 rfl ⟨B, S, P, q, X, v, by rw [e]; exact hI, by rw [e], cO.rf c F⟩
              · have hl2 : (s.1 k3).length = 64 := (nI_eq (by omega) (by decide)).mp c69
                refine jr_aload_n hE dX11_entry_72 0 rfl ?_
                refine jr_get hE dX11_entry_73 f11 W0.o0 rfl ?_
                refine jr_iload_n hE dX11_entry_76 2 rfl ?_
                obtain ⟨fa9, ja9, ga9⟩ := W0.aR
                refine jr_aald (v := c (270 + 2 * p1)) hE dX11_entry_77 ja9 rfl (vp_in_nI (n := p1) (by omega) (by decide)) (by rw [nI_clamp (by omega)]; exact ga9 p1 (by omega)) ?_
                refine jr_get hE dX11_entry_78 f68 (W0.by p1 (by omega)).ob rfl ?_
                rw [show B p1 = (s.1 p1) from (hRw p1 hp1)]
                refine jr_bipush (v := (40 : Int32)) hE dX11_entry_81 (by decide) ?_
                refine jr_icmp_le (tgt := 89) hE dX11_entry_83 (by decide) (fun c83 => ?_) (fun c83 => ?_)
                · have hl3 : (s.1 p1).length ≤ 40 := nI_leC (m := 40) (by omega) (by decide) c83
                  refine jr_aload_n hE dX11_entry_89 0 rfl ?_
                  refine jr_get hE dX11_entry_90 f56 W0.o0 rfl ?_
                  rw [show v 0 = (nI s.2.1.length) from h0]
                  refine jr_iconst (v := (4 : Int32)) hE dX11_entry_93 (by decide) ?_
                  refine jr_icmp_lt (tgt := 100) hE dX11_entry_94 (by decide) (fun c94 => ?_) (fun c94 => ?_)
                  · have hlt : s.2.1.length < 4 := Nat.lt_of_not_le (fun h => absurd (nI_le (a := 4) h (by omega)) (Int32.not_le.mpr c94))
                    obtain ⟨a, ha, hxa⟩ : ∃ a, a ≤ 4611686018427387904 ∧ x = lN a := ⟨x.toInt.toNat, by have q := henA.r; omega, (lN_to (by have q := henA.r; omega)).symm⟩
                    subst hxa
                    have haT : (lN a).toInt.toNat = a := by rw [lN_T (by omega)]; rfl
                    refine jr_aload_n hE dX11_entry_100 0 rfl ?_
                    refine jr_get hE dX11_entry_101 f52 W0.o0 rfl ?_
                    refine jr_aload_n hE dX11_entry_104 0 rfl ?_
                    refine jr_get hE dX11_entry_105 f56 W0.o0 rfl ?_
                    rw [show v 0 = (nI s.2.1.length) from h0]
                    obtain ⟨fa10, ja10, ga10⟩ := W0.aE
                    refine jr_aald (v := c (25 + s.2.1.length)) hE dX11_entry_108 ja10 rfl (vp_in_nI (n := s.2.1.length) (by omega) (by decide)) (by rw [nI_clamp (by omega)]; exact ga10 s.2.1.length (by omega)) ?_
                    refine jr_aload_n hE dX11_entry_109 0 rfl ?_
                    refine jr_get hE dX11_entry_110 f11 W0.o0 rfl ?_
                    refine jr_iload_n hE dX11_entry_113 1 rfl ?_
                    obtain ⟨fa11, ja11, ga11⟩ := W0.aR
                    refine jr_aald (v := c (270 + 2 * k)) hE dX11_entry_114 ja11 rfl (vp_in_nI (n := k) (by omega) (by decide)) (by rw [nI_clamp (by omega)]; exact ga11 k (by omega)) ?_
                    refine jr_aload_n hE dX11_entry_115 0 rfl ?_
                    refine jr_get hE dX11_entry_116 f11 W0.o0 rfl ?_
                    refine jr_iload_n hE dX11_entry_119 2 rfl ?_
                    obtain ⟨fa12, ja12, ga12⟩ := W0.aR
                    refine jr_aald (v := c (270 + 2 * p1)) hE dX11_entry_120 ja12 rfl (vp_in_nI (n := p1) (by omega) (by decide)) (by rw [nI_clamp (by omega)]; exact ga12 p1 (by omega)) ?_
                    refine jr_aload_n hE dX11_entry_121 0 rfl ?_
                    refine jr_get hE dX11_entry_122 f11 W0.o0 rfl ?_
                    refine jr_iload_n hE dX11_entry_125 3 rfl ?_
                    obtain ⟨fa13, ja13, ga13⟩ := W0.aR
                    refine jr_aald (v := c (270 + 2 * k3)) hE dX11_entry_126 ja13 rfl (vp_in_nI (n := k3) (by omega) (by decide)) (by rw [nI_clamp (by omega)]; exact ga13 k3 (by omega)) ?_
                    refine jr_lload hE dX11_entry_127 4 rfl ?_
                    refine jr_kVv (ci := 3) (n := 4) (As := [.ref (c (270 + 2 * k)), .ref (c (270 + 2 * p1)), .ref (c (270 + 2 * k3)), .long (lN a)]) (rest := []) hE dX11_entry_129 (fun l => c_e_become l G c B S P q X v s.2.1.length k p1 k3 a) gX11_entry_X3_become rfl (W0.oE s.2.1.length hlt) rfl (by decide +kernel) ⟨rfl, rfl, by decide, by decide⟩ (by decide) rfl rfl (Nat.le_of_ble_eq_true rfl) (⟨W0, hlt, hk, hp1, hk3, (by rw [show B k = s.1 k from (hRw k hk)]; exact hl1), (by rw [show B p1 = s.1 p1 from (hRw p1 hp1)]; exact hl3), (by rw [show B k3 = s.1 k3 from (hRw k3 hk3)]; exact hl2), (by omega)⟩) (fun F14 q15 => ?_)
                    obtain ⟨B16, S16, W16, hB16, hS16, f16_0, f16_1, f16_2, f16_3, P16⟩ := q15
                    have O16 := (cO.rf c F).tr P16
                    refine jr_aload_n hE dX11_entry_132 0 rfl ?_
                    refine jr_dup hE dX11_entry_133 rfl ?_
                    refine jr_get hE dX11_entry_134 f56 W16.o0 rfl ?_
                    rw [show v 0 = (nI s.2.1.length) from h0]
                    refine jr_iconst (v := (1 : Int32)) hE dX11_entry_137 (by decide) ?_
                    refine jr_iadd (z := nI (s.2.1.length + 1)) hE dX11_entry_138 (nI_add _ 1) ?_
                    refine jr_put (ty := .int) hE dX11_entry_139 f56 W16.o0 rfl (by decide +kernel) rfl rfl (Nat.le_of_ble_eq_true rfl) (fun F17 h17 u17 => ?_)
                    obtain ⟨W17, P17⟩ := W16.setV0 (v1 := (uz v 0 (nI (s.2.1.length + 1)))) h17 (fun z hz => uz_n _ _ (jne hz 0 rfl)) u17
                    have O17 := O16.tr P17
                    obtain ⟨v17, ev17, hv17, yv17⟩ := uz_ab v 0 (nI (s.2.1.length + 1))
                    rw [ev17] at W17
                    have nv17 : ∀ z, z ≠ 0 → v17 z = v z := fun z hz => hv17 z (fun e => hz (List.mem_singleton.mp e))
                    refine jr_aload_n hE dX11_entry_142 0 rfl ?_
                    refine jr_get hE dX11_entry_143 f56 W17.o0 rfl ?_
                    rw [show v17 0 = (nI (s.2.1.length + 1)) from yv17]
                    have e : stEntry s (nI k) (nI p1) (nI k3) (lN a) = (nI (s.2.1.length + 1), addE s (s.1 k, s.1 p1, s.1 k3, a)) := by
                      unfold stEntry
                      rw [if_pos ⟨nI_rowP hk, nI_rowP hp1, nI_rowP hk3, henA⟩, hrnk, hrnp1, hrnk3, if_pos ⟨hl1, hl2, hl3⟩, if_neg (by omega), haT]
                    exact hR F17 _ _ _ dX11_entry_146 rfl ⟨_, _, _, _, _, _, by rw [e]; exact hI.en (e := (s.1 k, s.1 p1, s.1 k3, a)) W17 (fun z h1 h2 h3 => (hB16 z (by (try simp only [List.mem_cons, List.not_mem_nil, or_false, not_or] at h1 ⊢); omega))) (fun z hz => (hS16 z (by (try simp only [List.mem_cons, List.not_mem_nil, or_false, not_or] at hz ⊢); omega))) (fun z => rfl) (fun z hz => (nv17 z (by (try simp only [List.mem_cons, List.not_mem_nil, or_false, not_or] at hz); omega))) hlt (by have q := f16_0; rw [show B k = s.1 k from (hRw k hk)] at q; exact q) (by have q := f16_1; rw [show B p1 = s.1 p1 from (hRw p1 hp1)] at q; exact q) (by have q := f16_2; rw [show B k3 = s.1 k3 from (hRw k3 hk3)] at q; exact q) hl1 hl3 hl2 f16_3 (Nat.lt_of_le_of_lt ha (by decide +kernel)) yv17, by rw [e], O17⟩
                  · refine jr_bipush (v := (-3 : Int32)) hE dX11_entry_97 (by decide) ?_
                    have e : stEntry s (nI k) (nI p1) (nI k3) x = (-3, s) := by
                      unfold stEntry
                      rw [if_pos ⟨nI_rowP hk, nI_rowP hp1, nI_rowP hk3, henA⟩, hrnk, hrnp1, hrnk3, if_pos ⟨hl1, hl2, hl3⟩, if_pos (by have q := nI_leC (x := 4) (by decide) (by omega) (Int32.not_lt.mp c94); omega)]
                    exact hR F _ _ _ dX11_entry_99 rfl ⟨B, S, P, q, X, v, by rw [e]; exact hI, by rw [e], cO.rf c F⟩
                · refine jr_bipush (v := (-2 : Int32)) hE dX11_entry_86 (by decide) ?_
                  have e : stEntry s (nI k) (nI p1) (nI k3) x = (-2, s) := by
                    unfold stEntry
                    rw [if_pos ⟨nI_rowP hk, nI_rowP hp1, nI_rowP hk3, henA⟩, hrnk, hrnp1, hrnk3, if_neg (fun h => c83 (nI_le (b := 40) h.2.2 (by decide)))]
                  exact hR F _ _ _ dX11_entry_88 rfl ⟨B, S, P, q, X, v, by rw [e]; exact hI, by rw [e], cO.rf c F⟩
          · refine jr_iconst (v := (-1 : Int32)) hE dX11_entry_42 (by decide) ?_
            have e : stEntry s (nI k) (nI p1) (nI k3) x = (-1, s) := by
              unfold stEntry
              rw [if_neg (fun h => by have q := cmp_gt.mp (Int32.not_le.mp c39); rw [show (4611686018427387904 : Int64).toInt = 4611686018427387904 by decide] at q; have := h.2.2.2.r; omega)]
            exact hR F _ _ _ dX11_entry_43 rfl ⟨B, S, P, q, X, v, by rw [e]; exact hI, by rw [e], cO.rf c F⟩
        · have hz0 : s.2.1.length = 0 := (nI_eq (b := 0) (by omega) (by decide)).mp c28
          refine jr_lconst (v := (1 : Int64)) hE dX11_entry_31 (by decide) ?_
          refine jr_goto (tgt := 38) hE dX11_entry_32 (by decide) ?_
          refine jr_lcmp hE dX11_entry_38 ?_
          refine jr_if_le (tgt := 44) hE dX11_entry_39 (by decide) (fun c39 => ?_) (fun c39 => ?_)
          · have henA : enA s.2.1.length x := ⟨fun _ => Int64.toInt_inj.mp (by have q := Int.not_lt.mp (fun h => absurd (cmp_gt.mpr h) (Int32.not_lt.mpr c39)); rw [show (1 : Int64).toInt = 1 by decide] at q ⊢; omega), fun q => absurd hz0 q⟩
            refine jr_aload_n hE dX11_entry_44 0 rfl ?_
            refine jr_get hE dX11_entry_45 f11 W0.o0 rfl ?_
            refine jr_iload_n hE dX11_entry_48 1 rfl ?_
            obtain ⟨fa18, ja18, ga18⟩ := W0.aR
            refine jr_aald (v := c (270 + 2 * k)) hE dX11_entry_49 ja18 rfl (vp_in_nI (n := k) (by omega) (by decide)) (by rw [nI_clamp (by omega)]; exact ga18 k (by omega)) ?_
            refine jr_get hE dX11_entry_50 f68 (W0.by k (by omega)).ob rfl ?_
            rw [show B k = (s.1 k) from (hRw k hk)]
            refine jr_bipush (v := (32 : Int32)) hE dX11_entry_53 (by decide) ?_
            refine jr_icmp_ne (tgt := 86) hE dX11_entry_55 (by decide) (fun c55 => ?_) (fun c55 => ?_)
            · refine jr_bipush (v := (-2 : Int32)) hE dX11_entry_86 (by decide) ?_
              have e : stEntry s (nI k) (nI p1) (nI k3) x = (-2, s) := by
                unfold stEntry
                rw [if_pos ⟨nI_rowP hk, nI_rowP hp1, nI_rowP hk3, henA⟩, hrnk, hrnp1, hrnk3, if_neg (fun h => c55 ((nI_eq (by omega) (by decide)).mpr h.1))]
              exact hR F _ _ _ dX11_entry_88 rfl ⟨B, S, P, q, X, v, by rw [e]; exact hI, by rw [e], cO.rf c F⟩
            · have hl1 : (s.1 k).length = 32 := (nI_eq (by omega) (by decide)).mp c55
              refine jr_aload_n hE dX11_entry_58 0 rfl ?_
              refine jr_get hE dX11_entry_59 f11 W0.o0 rfl ?_
              refine jr_iload_n hE dX11_entry_62 3 rfl ?_
              obtain ⟨fa19, ja19, ga19⟩ := W0.aR
              refine jr_aald (v := c (270 + 2 * k3)) hE dX11_entry_63 ja19 rfl (vp_in_nI (n := k3) (by omega) (by decide)) (by rw [nI_clamp (by omega)]; exact ga19 k3 (by omega)) ?_
              refine jr_get hE dX11_entry_64 f68 (W0.by k3 (by omega)).ob rfl ?_
              rw [show B k3 = (s.1 k3) from (hRw k3 hk3)]
              refine jr_bipush (v := (64 : Int32)) hE dX11_entry_67 (by decide) ?_
              refine jr_icmp_ne (tgt := 86) hE dX11_entry_69 (by decide) (fun c69 => ?_) (fun c69 => ?_)
              · refine jr_bipush (v := (-2 : Int32)) hE dX11_entry_86 (by decide) ?_
                have e : stEntry s (nI k) (nI p1) (nI k3) x = (-2, s) := by
                  unfold stEntry
                  rw [if_pos ⟨nI_rowP hk, nI_rowP hp1, nI_rowP hk3, henA⟩, hrnk, hrnp1, hrnk3, if_neg (fun h => c69 ((nI_eq (by omega) (by decide)).mpr h.2.1))]
                exact hR F _ _ _ dX11_entry_88 rfl ⟨B, S, P, q, X, v, by rw [e]; exact hI, by rw [e], cO.rf c F⟩
              · have hl2 : (s.1 k3).length = 64 := (nI_eq (by omega) (by decide)).mp c69
                refine jr_aload_n hE dX11_entry_72 0 rfl ?_
                refine jr_get hE dX11_entry_73 f11 W0.o0 rfl ?_
                refine jr_iload_n hE dX11_entry_76 2 rfl ?_
                obtain ⟨fa20, ja20, ga20⟩ := W0.aR
                refine jr_aald (v := c (270 + 2 * p1)) hE dX11_entry_77 ja20 rfl (vp_in_nI (n := p1) (by omega) (by decide)) (by rw [nI_clamp (by omega)]; exact ga20 p1 (by omega)) ?_
                refine jr_get hE dX11_entry_78 f68 (W0.by p1 (by omega)).ob rfl ?_
                rw [show B p1 = (s.1 p1) from (hRw p1 hp1)]
                refine jr_bipush (v := (40 : Int32)) hE dX11_entry_81 (by decide) ?_
                refine jr_icmp_le (tgt := 89) hE dX11_entry_83 (by decide) (fun c83 => ?_) (fun c83 => ?_)
                · have hl3 : (s.1 p1).length ≤ 40 := nI_leC (m := 40) (by omega) (by decide) c83
                  refine jr_aload_n hE dX11_entry_89 0 rfl ?_
                  refine jr_get hE dX11_entry_90 f56 W0.o0 rfl ?_
                  rw [show v 0 = (nI s.2.1.length) from h0]
                  refine jr_iconst (v := (4 : Int32)) hE dX11_entry_93 (by decide) ?_
                  refine jr_icmp_lt (tgt := 100) hE dX11_entry_94 (by decide) (fun c94 => ?_) (fun c94 => ?_)
                  · have hlt : s.2.1.length < 4 := Nat.lt_of_not_le (fun h => absurd (nI_le (a := 4) h (by omega)) (Int32.not_le.mpr c94))
                    obtain ⟨a, ha, hxa⟩ : ∃ a, a ≤ 4611686018427387904 ∧ x = lN a := ⟨x.toInt.toNat, by have q := henA.r; omega, (lN_to (by have q := henA.r; omega)).symm⟩
                    subst hxa
                    have haT : (lN a).toInt.toNat = a := by rw [lN_T (by omega)]; rfl
                    refine jr_aload_n hE dX11_entry_100 0 rfl ?_
                    refine jr_get hE dX11_entry_101 f52 W0.o0 rfl ?_
                    refine jr_aload_n hE dX11_entry_104 0 rfl ?_
                    refine jr_get hE dX11_entry_105 f56 W0.o0 rfl ?_
                    rw [show v 0 = (nI s.2.1.length) from h0]
                    obtain ⟨fa21, ja21, ga21⟩ := W0.aE
                    refine jr_aald (v := c (25 + s.2.1.length)) hE dX11_entry_108 ja21 rfl (vp_in_nI (n := s.2.1.length) (by omega) (by decide)) (by rw [nI_clamp (by omega)]; exact ga21 s.2.1.length (by omega)) ?_
                    refine jr_aload_n hE dX11_entry_109 0 rfl ?_
                    refine jr_get hE dX11_entry_110 f11 W0.o0 rfl ?_
                    refine jr_iload_n hE dX11_entry_113 1 rfl ?_
                    obtain ⟨fa22, ja22, ga22⟩ := W0.aR
                    refine jr_aald (v := c (270 + 2 * k)) hE dX11_entry_114 ja22 rfl (vp_in_nI (n := k) (by omega) (by decide)) (by rw [nI_clamp (by omega)]; exact ga22 k (by omega)) ?_
                    refine jr_aload_n hE dX11_entry_115 0 rfl ?_
                    refine jr_get hE dX11_entry_116 f11 W0.o0 rfl ?_
                    refine jr_iload_n hE dX11_entry_119 2 rfl ?_
                    obtain ⟨fa23, ja23, ga23⟩ := W0.aR
                    refine jr_aald (v := c (270 + 2 * p1)) hE dX11_entry_120 ja23 rfl (vp_in_nI (n := p1) (by omega) (by decide)) (by rw [nI_clamp (by omega)]; exact ga23 p1 (by omega)) ?_
                    refine jr_aload_n hE dX11_entry_121 0 rfl ?_
                    refine jr_get hE dX11_entry_122 f11 W0.o0 rfl ?_
                    refine jr_iload_n hE dX11_entry_125 3 rfl ?_
                    obtain ⟨fa24, ja24, ga24⟩ := W0.aR
                    refine jr_aald (v := c (270 + 2 * k3)) hE dX11_entry_126 ja24 rfl (vp_in_nI (n := k3) (by omega) (by decide)) (by rw [nI_clamp (by omega)]; exact ga24 k3 (by omega)) ?_
                    refine jr_lload hE dX11_entry_127 4 rfl ?_
                    refine jr_kVv (ci := 3) (n := 4) (As := [.ref (c (270 + 2 * k)), .ref (c (270 + 2 * p1)), .ref (c (270 + 2 * k3)), .long (lN a)]) (rest := []) hE dX11_entry_129 (fun l => c_e_become l G c B S P q X v s.2.1.length k p1 k3 a) gX11_entry_X3_become rfl (W0.oE s.2.1.length hlt) rfl (by decide +kernel) ⟨rfl, rfl, by decide, by decide⟩ (by decide) rfl rfl (Nat.le_of_ble_eq_true rfl) (⟨W0, hlt, hk, hp1, hk3, (by rw [show B k = s.1 k from (hRw k hk)]; exact hl1), (by rw [show B p1 = s.1 p1 from (hRw p1 hp1)]; exact hl3), (by rw [show B k3 = s.1 k3 from (hRw k3 hk3)]; exact hl2), (by omega)⟩) (fun F25 q26 => ?_)
                    obtain ⟨B27, S27, W27, hB27, hS27, f27_0, f27_1, f27_2, f27_3, P27⟩ := q26
                    have O27 := (cO.rf c F).tr P27
                    refine jr_aload_n hE dX11_entry_132 0 rfl ?_
                    refine jr_dup hE dX11_entry_133 rfl ?_
                    refine jr_get hE dX11_entry_134 f56 W27.o0 rfl ?_
                    rw [show v 0 = (nI s.2.1.length) from h0]
                    refine jr_iconst (v := (1 : Int32)) hE dX11_entry_137 (by decide) ?_
                    refine jr_iadd (z := nI (s.2.1.length + 1)) hE dX11_entry_138 (nI_add _ 1) ?_
                    refine jr_put (ty := .int) hE dX11_entry_139 f56 W27.o0 rfl (by decide +kernel) rfl rfl (Nat.le_of_ble_eq_true rfl) (fun F28 h28 u28 => ?_)
                    obtain ⟨W28, P28⟩ := W27.setV0 (v1 := (uz v 0 (nI (s.2.1.length + 1)))) h28 (fun z hz => uz_n _ _ (jne hz 0 rfl)) u28
                    have O28 := O27.tr P28
                    obtain ⟨v28, ev28, hv28, yv28⟩ := uz_ab v 0 (nI (s.2.1.length + 1))
                    rw [ev28] at W28
                    have nv28 : ∀ z, z ≠ 0 → v28 z = v z := fun z hz => hv28 z (fun e => hz (List.mem_singleton.mp e))
                    refine jr_aload_n hE dX11_entry_142 0 rfl ?_
                    refine jr_get hE dX11_entry_143 f56 W28.o0 rfl ?_
                    rw [show v28 0 = (nI (s.2.1.length + 1)) from yv28]
                    have e : stEntry s (nI k) (nI p1) (nI k3) (lN a) = (nI (s.2.1.length + 1), addE s (s.1 k, s.1 p1, s.1 k3, a)) := by
                      unfold stEntry
                      rw [if_pos ⟨nI_rowP hk, nI_rowP hp1, nI_rowP hk3, henA⟩, hrnk, hrnp1, hrnk3, if_pos ⟨hl1, hl2, hl3⟩, if_neg (by omega), haT]
                    exact hR F28 _ _ _ dX11_entry_146 rfl ⟨_, _, _, _, _, _, by rw [e]; exact hI.en (e := (s.1 k, s.1 p1, s.1 k3, a)) W28 (fun z h1 h2 h3 => (hB27 z (by (try simp only [List.mem_cons, List.not_mem_nil, or_false, not_or] at h1 ⊢); omega))) (fun z hz => (hS27 z (by (try simp only [List.mem_cons, List.not_mem_nil, or_false, not_or] at hz ⊢); omega))) (fun z => rfl) (fun z hz => (nv28 z (by (try simp only [List.mem_cons, List.not_mem_nil, or_false, not_or] at hz); omega))) hlt (by have q := f27_0; rw [show B k = s.1 k from (hRw k hk)] at q; exact q) (by have q := f27_1; rw [show B p1 = s.1 p1 from (hRw p1 hp1)] at q; exact q) (by have q := f27_2; rw [show B k3 = s.1 k3 from (hRw k3 hk3)] at q; exact q) hl1 hl3 hl2 f27_3 (Nat.lt_of_le_of_lt ha (by decide +kernel)) yv28, by rw [e], O28⟩
                  · refine jr_bipush (v := (-3 : Int32)) hE dX11_entry_97 (by decide) ?_
                    have e : stEntry s (nI k) (nI p1) (nI k3) x = (-3, s) := by
                      unfold stEntry
                      rw [if_pos ⟨nI_rowP hk, nI_rowP hp1, nI_rowP hk3, henA⟩, hrnk, hrnp1, hrnk3, if_pos ⟨hl1, hl2, hl3⟩, if_pos (by have q := nI_leC (x := 4) (by decide) (by omega) (Int32.not_lt.mp c94); omega)]
                    exact hR F _ _ _ dX11_entry_99 rfl ⟨B, S, P, q, X, v, by rw [e]; exact hI, by rw [e], cO.rf c F⟩
                · refine jr_bipush (v := (-2 : Int32)) hE dX11_entry_86 (by decide) ?_
                  have e : stEntry s (nI k) (nI p1) (nI k3) x = (-2, s) := by
                    unfold stEntry
                    rw [if_pos ⟨nI_rowP hk, nI_rowP hp1, nI_rowP hk3, henA⟩, hrnk, hrnp1, hrnk3, if_neg (fun h => c83 (nI_le (b := 40) h.2.2 (by decide)))]
                  exact hR F _ _ _ dX11_entry_88 rfl ⟨B, S, P, q, X, v, by rw [e]; exact hI, by rw [e], cO.rf c F⟩
          · refine jr_iconst (v := (-1 : Int32)) hE dX11_entry_42 (by decide) ?_
            have e : stEntry s (nI k) (nI p1) (nI k3) x = (-1, s) := by
              unfold stEntry
              rw [if_neg (fun h => by have q := cmp_gt.mp (Int32.not_le.mp c39); rw [h.2.2.2.1 hz0] at q; exact absurd q (Int.lt_irrefl _))]
            exact hR F _ _ _ dX11_entry_43 rfl ⟨B, S, P, q, X, v, by rw [e]; exact hI, by rw [e], cO.rf c F⟩

set_option maxHeartbeats 4000000 in
set_option maxRecDepth 100000 in
theorem c_c_together (l : Launch) (G : Nat → ClassId) (c : Nat → Nat) (B : Nat → List Nat) (S : Nat → Nat) (P : Nat → JP) (q : SS) (X : Nat) (v : Nat → Int32) (s : ST) (r f : Int32) : jKi l yX11_together wsX11_together ({ frames := 5, cells := 0, slots := 0, locals := 108 }) G [.ref (c 0), .int r, .int f] (fun L F => cI G L F c B S P q X v s) (fun L F ans F1 => ∃ B1 S1 P1 q1 X1 v1, cI G L F1 c B1 S1 P1 q1 X1 v1 (stTog s r f).2 ∧ ans = (stTog s r f).1 ∧ cO c F F1) := by
  refine jm_ki (cc := cX11_together) (maxL := 4) (rt := .int) (by decide) rfl (Nat.le_of_ble_eq_true rfl) ?_
  intro E L F hE hR hpre
  have hE : jOk E G _ cX11_together 4 RX11 wsX11_together := hE
  have hI := hpre
  obtain ⟨W0, hG, hRw, h0, hen, hwk, h2, hsg, hnc, htd, hse⟩ := id hpre
  have hwk48 := hwk.2
  have hs4 := hsg.1
  have hen4 := hen.1
  have f46 : jFl RX11 wsX11_together 46 11 4 := ⟨rfl, by decide, by decide +kernel, by decide +kernel⟩
  have f167 : jFl RX11 wsX11_together 167 4 0 := ⟨rfl, by decide, by decide +kernel, by decide +kernel⟩
  have f203 : jFl RX11 wsX11_together 203 4 1 := ⟨rfl, by decide, by decide +kernel, by decide +kernel⟩
  have f18 : jFl RX11 wsX11_together 18 11 1 := ⟨rfl, by decide, by decide +kernel, by decide +kernel⟩
  have f11 : jFl RX11 wsX11_together 11 11 0 := ⟨rfl, by decide, by decide +kernel, by decide +kernel⟩
  have f68 : jFl RX11 wsX11_together 68 0 1 := ⟨rfl, by decide, by decide +kernel, by decide +kernel⟩
  refine jr_iload_n hE dX11_together_0 1 rfl ?_
  refine jr_iload_n hE dX11_together_1 2 rfl ?_
  refine jr_kSi (n := 2) (As := [.int r, .int f]) (rest := []) hE dX11_together_2 (fun l => c_c_areRows l G r f) gX11_together_X11_areRows rfl (by decide +kernel) ⟨rfl, rfl, by decide, by decide⟩ (by decide) rfl rfl (Nat.le_of_ble_eq_true rfl) (trivial) (fun r3 F1 q2 => ?_)
  obtain ⟨eq2, rq2⟩ := q2
  subst eq2 rq2
  refine jr_if_eq (tgt := 22) hE dX11_together_5 (by decide) (fun c5 => ?_) (fun c5 => ?_)
  · refine jr_iconst (v := (-1 : Int32)) hE dX11_together_22 (by decide) ?_
    have e : stTog s r f = (-1, s) := by
      unfold stTog
      rw [if_neg (fun h => absurd (b2i_t (p := rowP r ∧ rowP f) ⟨h.1, h.2.1⟩) (by rw [c5]; decide))]
    exact hR F _ _ _ dX11_together_23 rfl ⟨B, S, P, q, X, v, by rw [e]; exact hI, by rw [e], cO.rf c F⟩
  · have hrr := b2i_1 c5
    have hrk : rowP r := hrr.1
    obtain ⟨k, hk, rfl⟩ := rowP_nI hrk
    have hrnk := nI_rn hk
    have hlk : (s.1 k).length ≤ 100 := by rw [← hRw k hk]; have q := W0.cp k (by omega); rw [bcr (by omega)] at q; exact q
    have hrk2 : rowP f := hrr.2
    obtain ⟨k2, hk2, rfl⟩ := rowP_nI hrk2
    have hrnk2 := nI_rn hk2
    have hlk2 : (s.1 k2).length ≤ 100 := by rw [← hRw k2 hk2]; have q := W0.cp k2 (by omega); rw [bcr (by omega)] at q; exact q
    refine jr_iload_n hE dX11_together_8 2 rfl ?_
    refine jr_aload_n hE dX11_together_9 0 rfl ?_
    refine jr_get hE dX11_together_10 f46 W0.o0 rfl ?_
    refine jr_get hE dX11_together_13 f167 W0.o7 rfl ?_
    rw [show v 2 = (nI s.2.2.2.1.length) from h2]
    refine jr_iadd (z := nI (k2 + s.2.2.2.1.length)) hE dX11_together_16 (nI_add _ _) ?_
    refine jr_bipush (v := (16 : Int32)) hE dX11_together_17 (by decide) ?_
    refine jr_icmp_le (tgt := 24) hE dX11_together_19 (by decide) (fun c19 => ?_) (fun c19 => ?_)
    · have hfit0 : k2 + s.2.2.2.1.length ≤ 16 := nI_leC (m := 16) (by omega) (by decide) c19
      have hfit : rn (nI k2) + s.2.2.2.1.length ≤ 16 := by rw [hrnk2]; exact hfit0
      rcases hsn : s.2.2.2.2.2.2 with _ | t
      · have hz9 := 0
        refine jr_aload_n hE dX11_together_24 0 rfl ?_
        refine jr_get hE dX11_together_25 f46 W0.o0 rfl ?_
        refine jr_get hE dX11_together_28 f203 W0.o7 rfl ?_
        rw [show v 3 = (0 : Int32) from (hse.1 hsn)]
        refine jr_if_ne (tgt := 37) hE dX11_together_31 (by decide) (fun c31 => ?_) (fun c31 => ?_)
        · exact absurd rfl c31
        · refine jr_bipush (v := (-2 : Int32)) hE dX11_together_34 (by decide) ?_
          have e : stTog s (nI k) (nI k2) = (-2, s) := stTog_n ⟨nI_rowP hk, nI_rowP hk2, hfit⟩ hsn
          exact hR F _ _ _ dX11_together_36 rfl ⟨B, S, P, q, X, v, by rw [e]; exact hI, by rw [e], cO.rf c F⟩
      · have hz9 := 0
        obtain ⟨b1, b2, b3, b4, b5, b6, b7, b8, b9, lb, le, hT, hJ⟩ := hse.2 t hsn
        refine jr_aload_n hE dX11_together_24 0 rfl ?_
        refine jr_get hE dX11_together_25 f46 W0.o0 rfl ?_
        refine jr_get hE dX11_together_28 f203 W0.o7 rfl ?_
        rw [show v 3 = (1 : Int32) from b1]
        refine jr_if_ne (tgt := 37) hE dX11_together_31 (by decide) (fun c31 => ?_) (fun c31 => ?_)
        · refine jr_aload_n hE dX11_together_37 0 rfl ?_
          refine jr_get hE dX11_together_38 f46 W0.o0 rfl ?_
          refine jr_kVv (ci := 4) (n := 0) (As := []) (rest := []) hE dX11_together_41 (fun l => c_g_beginSum l G c B S P q X v ) gX11_together_X4_beginSum rfl W0.o7 rfl (by decide +kernel) ⟨rfl, rfl, by decide, by decide⟩ (by decide) rfl rfl (Nat.le_of_ble_eq_true rfl) (W0) (fun F4 q5 => ?_)
          obtain ⟨S6, W6, hS6, f6_0, P6⟩ := q5
          have O6 := (cO.rf c F).tr P6
          refine jr_iload_n hE dX11_together_44 2 rfl ?_
          refine jr_istore_n (lv' := [(3, .int (nI k2)), (0, .ref (c 0)), (1, .int (nI k)), (2, .int (nI k2))]) hE dX11_together_45 (by decide) rfl ?_
          have loop : ∀ (r0 i : Nat) (F4 : Nat → va_E) (S4 : Nat → Nat), i + r0 = k2 + s.2.2.2.1.length → CW G L F4 c B S4 P q X v → k2 ≤ i → (∀ z, z ∉ [7, 9] → S4 z = S z) → S4 9 = tgS s.1 k2 (i - k2) → tgP s.1 k2 (i - k2) → cO c F F4 → J E L F4 0 0 46 [(3, .int (nI i)), (0, .ref (c 0)), (1, .int (nI k)), (2, .int (nI k2))] [] := by
            intro r0
            induction r0 with
            | zero =>
              intro i F4 S4 hi W4 hge hSf h9 hTg O4
              have hiN : k2 + s.2.2.2.1.length = i := by omega
              subst hiN
              rw [Nat.add_sub_cancel_left] at hTg
              refine jr_iload_n hE dX11_together_46 0 rfl ?_
              refine jr_iload_n hE dX11_together_47 3 rfl ?_
              refine jr_aload_n hE dX11_together_48 1 rfl ?_
              refine jr_get hE dX11_together_49 f46 W4.o0 rfl ?_
              refine jr_get hE dX11_together_52 f167 W4.o7 rfl ?_
              rw [show v 2 = (nI s.2.2.2.1.length) from h2]
              refine jr_iadd (z := nI (k2 + s.2.2.2.1.length)) hE dX11_together_55 (nI_add _ _) ?_
              refine jr_icmp_ge (tgt := 111) hE dX11_together_56 (by decide) (fun c_56 => ?_) (fun c_56 => absurd (nI_le (by omega) (by omega)) c_56)
              refine jr_aload_n hE dX11_together_111 1 rfl ?_
              refine jr_get hE dX11_together_112 f46 W4.o0 rfl ?_
              refine jr_aload_n hE dX11_together_115 1 rfl ?_
              refine jr_get hE dX11_together_116 f18 W4.o0 rfl ?_
              refine jr_kVv (ci := 4) (n := 1) (As := [.ref (c (270 + 2 * 16))]) (rest := []) hE dX11_together_119 (fun l => c_g_tellSum l G c B S4 P q X v ) gX11_together_X4_tellSum rfl W4.o7 rfl (by decide +kernel) ⟨rfl, rfl, by decide, by decide⟩ (by decide) rfl rfl (Nat.le_of_ble_eq_true rfl) (⟨W4, (by rw [b6]; exact bex_len _ _)⟩) (fun F7 q8 => ?_)
              obtain ⟨B9, W9, hB9, f9_0, P9⟩ := q8
              have O9 := O4.tr P9
              refine jr_aload_n hE dX11_together_122 1 rfl ?_
              refine jr_iload_n hE dX11_together_123 2 rfl ?_
              have hJ := hI.upd (k := s.2.2.1) W9 (fun z hz => (hB9 z (by simp only [List.mem_cons, List.not_mem_nil, or_false, not_or] at hz ⊢; omega))) (fun z hz => (hSf z (by simp only [List.mem_cons, List.not_mem_nil, or_false, not_or] at hz ⊢; omega))) (fun z hz => rfl) (fun z hz => rfl) hwk.1 (hwk.2)
              refine jr_kVi (ci := 11) (n := 1) (As := [.int (nI k)]) (rest := []) hE dX11_together_124 (fun l => c_c_answerIn l G c B9 S4 P q X v k) gX11_together_X11_answerIn rfl W9.o0 rfl (by decide +kernel) ⟨rfl, rfl, by decide, by decide⟩ (by decide) rfl rfl (Nat.le_of_ble_eq_true rfl) (⟨W9, hk⟩) (fun r12 F10 q11 => ?_)
              obtain ⟨B13, W13, hB13, f13_0, r12e, P13⟩ := q11
              subst r12e
              have O13 := O9.tr P13
              have e : stTog s (nI k) (nI k2) = (64, setR s k (bex t.2.2.2.1 32 ++ bex (tgS s.1 k2 s.2.2.2.1.length) 32)) := by
                rw [stTog_s ⟨nI_rowP hk, nI_rowP hk2, hfit⟩ hsn, hrnk2, if_pos hTg, hrnk]
              exact hR F10 _ _ _ dX11_together_127 rfl ⟨_, _, _, _, _, _, by rw [e]; exact hJ.row W13 hk (fun z hz => hB13 z (fun q => hz (List.mem_singleton.mp q))) (f13_0.trans (by have q := f9_0; rw [show B 25 = bex t.2.2.2.1 32 from b6, show S4 9 = (tgS s.1 k2 ((k2 + s.2.2.2.1.length) - k2)) from h9, Nat.add_sub_cancel_left] at q; exact q)), by rw [e, show B9 16 = (bex t.2.2.2.1 32 ++ bex (tgS s.1 k2 s.2.2.2.1.length) 32) from (by have q := f9_0; rw [show B 25 = bex t.2.2.2.1 32 from b6, show S4 9 = (tgS s.1 k2 ((k2 + s.2.2.2.1.length) - k2)) from h9, Nat.add_sub_cancel_left] at q; exact q), List.length_append, bex_len, bex_len]; rfl, O13⟩
            | succ r0 ih =>
              intro i F4 S4 hi W4 hge hSf h9 hTg O4
              have hli : (s.1 i).length ≤ 100 := by rw [← hRw i (by omega)]; have q := W0.cp i (by omega); rw [bcr (by omega)] at q; exact q
              refine jr_iload_n hE dX11_together_46 0 rfl ?_
              refine jr_iload_n hE dX11_together_47 3 rfl ?_
              refine jr_aload_n hE dX11_together_48 1 rfl ?_
              refine jr_get hE dX11_together_49 f46 W4.o0 rfl ?_
              refine jr_get hE dX11_together_52 f167 W4.o7 rfl ?_
              rw [show v 2 = (nI s.2.2.2.1.length) from h2]
              refine jr_iadd (z := nI (k2 + s.2.2.2.1.length)) hE dX11_together_55 (nI_add _ _) ?_
              refine jr_icmp_ge (tgt := 111) hE dX11_together_56 (by decide) (fun c_56 => absurd c_56 (nI_ge (by omega) (by omega))) (fun c_56 => ?_)
              refine jr_iload_n hE dX11_together_59 0 rfl ?_
              refine jr_bipush (v := (16 : Int32)) hE dX11_together_60 (by decide) ?_
              refine jr_icmp_ge (tgt := 111) hE dX11_together_62 (by decide) (fun c_62 => absurd c_62 (nI_ge (b := 16) (by omega) (by omega))) (fun c_62 => ?_)
              refine jr_aload_n hE dX11_together_65 1 rfl ?_
              refine jr_get hE dX11_together_66 f11 W4.o0 rfl ?_
              refine jr_iload_n hE dX11_together_69 0 rfl ?_
              obtain ⟨fa14, ja14, ga14⟩ := W4.aR
              refine jr_aald (v := c (270 + 2 * i)) hE dX11_together_70 ja14 rfl (vp_in_nI (n := i) (by omega) (by decide)) (by rw [nI_clamp (by omega)]; exact ga14 i (by omega)) ?_
              refine jr_get hE dX11_together_71 f68 (W4.by i (by omega)).ob rfl ?_
              rw [show B i = (s.1 i) from (hRw i (by omega))]
              refine jr_bipush (v := (32 : Int32)) hE dX11_together_74 (by decide) ?_
              refine jr_icmp_ne (tgt := 95) hE dX11_together_76 (by decide) (fun c76 => ?_) (fun c76 => ?_)
              · refine jr_bipush (v := (-2 : Int32)) hE dX11_together_95 (by decide) ?_
                have e : stTog s (nI k) (nI k2) = (-2, s) := by
                  rw [stTog_s ⟨nI_rowP hk, nI_rowP hk2, hfit⟩ hsn, hrnk2, if_neg (fun h => by have q := h (i - k2) (by omega); rw [show k2 + (i - k2) = i by omega] at q; exact c76 ((nI_eq (by omega) (by decide)).mpr q.1))]
                exact hR F4 _ _ _ dX11_together_97 rfl ⟨_, _, _, _, _, _, by rw [e]; exact hI.upd (k := s.2.2.1) W4 (fun z hz => rfl) (fun z hz => (hSf z (by simp only [List.mem_cons, List.not_mem_nil, or_false, not_or] at hz ⊢; omega))) (fun z hz => rfl) (fun z hz => rfl) hwk.1 (hwk.2), by rw [e], O4⟩
              · have hl32 : (s.1 i).length = 32 := (nI_eq (by omega) (by decide)).mp c76
                refine jr_aload_n hE dX11_together_79 1 rfl ?_
                refine jr_get hE dX11_together_80 f46 W4.o0 rfl ?_
                refine jr_aload_n hE dX11_together_83 1 rfl ?_
                refine jr_get hE dX11_together_84 f11 W4.o0 rfl ?_
                refine jr_iload_n hE dX11_together_87 0 rfl ?_
                obtain ⟨fa15, ja15, ga15⟩ := W4.aR
                refine jr_aald (v := c (270 + 2 * i)) hE dX11_together_88 ja15 rfl (vp_in_nI (n := i) (by omega) (by decide)) (by rw [nI_clamp (by omega)]; exact ga15 i (by omega)) ?_
                refine jr_kVi (ci := 4) (n := 1) (As := [.ref (c (270 + 2 * i))]) (rest := []) hE dX11_together_89 (fun l => c_g_takePart l G c B S4 P q X v i) gX11_together_X4_takePart rfl W4.o7 rfl (by decide +kernel) ⟨rfl, rfl, by decide, by decide⟩ (by decide) rfl rfl (Nat.le_of_ble_eq_true rfl) (⟨W4, (by omega), (by rw [show B i = s.1 i from (hRw i (by omega))]; exact hl32)⟩) (fun r18 F16 q17 => ?_)
                obtain ⟨S19, W19, hS19, f19_0, r18e, P19⟩ := q17
                subst r18e
                have O19 := O4.tr P19
                refine jr_if_ne (tgt := 98) hE dX11_together_92 (by decide) (fun c92 => ?_) (fun c92 => ?_)
                · have hlt : bnum (s.1 i) < NN := by have q := b2i_1 (p := bnum (B i) < NN) c92; rw [show B i = s.1 i from (hRw i (by omega))] at q; exact q
                  refine jr_aload_n hE dX11_together_98 1 rfl ?_
                  refine jr_get hE dX11_together_99 f46 W19.o0 rfl ?_
                  have hS20 : S19 9 = (tgS s.1 k2 (i - k2)) := (hS19 9 (by decide)).trans h9
                  refine jr_kVv (ci := 4) (n := 0) (As := []) (rest := []) hE dX11_together_102 (fun l => c_g_addToSum l G c B S19 P q X v ) gX11_together_X4_addToSum rfl W19.o7 rfl (by decide +kernel) ⟨rfl, rfl, by decide, by decide⟩ (by decide) rfl rfl (Nat.le_of_ble_eq_true rfl) (⟨W19, (by rw [show S19 7 = (bnum (s.1 i)) from (by have q := f19_0; rw [show B i = s.1 i from (hRw i (by omega))] at q; exact q)]; exact hlt), (by rw [show S19 9 = (tgS s.1 k2 (i - k2)) from hS20]; exact tgS_lt _ _ _)⟩) (fun F21 q22 => ?_)
                  obtain ⟨S23, W23, hS23, f23_0, P23⟩ := q22
                  have O23 := O19.tr P23
                  refine jr_iinc (v := nI (i + 1)) (lv' := [(3, .int (nI (i + 1))), (0, .ref (c 0)), (1, .int (nI k)), (2, .int (nI k2))]) hE dX11_together_105 0 rfl (nI_1 _) (by decide) rfl ?_
                  refine jr_goto (tgt := 46) hE dX11_together_108 (by decide) ?_
                  refine jr_lv (lv' := [(3, .int (nI (i + 1))), (0, .ref (c 0)), (1, .int (nI k)), (2, .int (nI k2))]) [0, 1, 2, 3] rfl ?_
                  exact ih (i + 1) F21 S23 (by omega) W23 (by omega) (fun z hz => ((hS23 z (by simp only [List.mem_cons, List.not_mem_nil, or_false, not_or] at hz ⊢; omega)).trans ((hS19 z (by simp only [List.mem_cons, List.not_mem_nil, or_false, not_or] at hz ⊢; omega)).trans (hSf z (by simp only [List.mem_cons, List.not_mem_nil, or_false, not_or] at hz ⊢; omega))))) (by rw [show i + 1 - k2 = (i - k2) + 1 by omega]; have q := (by have q := f23_0; rw [show S19 9 = (tgS s.1 k2 (i - k2)) from hS20, show S19 7 = (bnum (s.1 i)) from (by have q := f19_0; rw [show B i = s.1 i from (hRw i (by omega))] at q; exact q)] at q; exact q); show _ = (tgS s.1 k2 (i - k2) + bnum (s.1 (k2 + (i - k2)))) % NN; rw [show k2 + (i - k2) = i by omega]; exact q) (fun j hj => by
                    by_cases e : j < i - k2
                    · exact hTg j e
                    · rw [show k2 + j = i by omega]; exact ⟨hl32, hlt⟩) O23
                · refine jr_bipush (v := (-2 : Int32)) hE dX11_together_95 (by decide) ?_
                  have e : stTog s (nI k) (nI k2) = (-2, s) := by
                    rw [stTog_s ⟨nI_rowP hk, nI_rowP hk2, hfit⟩ hsn, hrnk2, if_neg (fun h => by have q := h (i - k2) (by omega); rw [show k2 + (i - k2) = i by omega] at q; exact b2i_0 (p := bnum (B i) < NN) c92 (by rw [show B i = s.1 i from (hRw i (by omega))]; exact q.2))]
                  exact hR F16 _ _ _ dX11_together_97 rfl ⟨_, _, _, _, _, _, by rw [e]; exact hI.upd (k := s.2.2.1) W19 (fun z hz => rfl) (fun z hz => ((hS19 z (by simp only [List.mem_cons, List.not_mem_nil, or_false, not_or] at hz ⊢; omega)).trans (hSf z (by simp only [List.mem_cons, List.not_mem_nil, or_false, not_or] at hz ⊢; omega)))) (fun z hz => rfl) (fun z hz => rfl) hwk.1 (hwk.2), by rw [e], O19⟩
          exact loop s.2.2.2.1.length k2 F4 S6 (by omega) W6 (Nat.le_refl _) (fun z hz => (hS6 z (by simp only [List.mem_cons, List.not_mem_nil, or_false, not_or] at hz ⊢; omega))) (by rw [Nat.sub_self]; exact f6_0) (by rw [Nat.sub_self]; exact fun j hj => absurd hj (Nat.not_lt_zero j)) O6
        · exact absurd c31 (by decide)
    · refine jr_iconst (v := (-1 : Int32)) hE dX11_together_22 (by decide) ?_
      have e : stTog s (nI k) (nI k2) = (-1, s) := by
        unfold stTog
        rw [if_neg (fun h => by have q := h.2.2; rw [hrnk2] at q; exact c19 (nI_le (b := 16) q (by decide)))]
      exact hR F _ _ _ dX11_together_23 rfl ⟨B, S, P, q, X, v, by rw [e]; exact hI, by rw [e], cO.rf c F⟩

