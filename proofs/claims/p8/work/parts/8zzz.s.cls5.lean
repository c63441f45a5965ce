/-! JointSigns: part, partHolds -/
theorem cI.nt {G : Nat → ClassId} {L : List Nat} {F : Nat → va_E} {c : Nat → Nat} {B : Nat → List Nat} {S : Nat → Nat} {P : Nat → JP} {q : SS} {X : Nat} {v : Nat → Int32} {s : ST} {u : Nat} (h : cI G L F c B S P q X v s) (hu : u < 4) (hT : s.2.2.2.2.2.1 u ≠ none) : ntOK (s.2.2.2.2.1 u) (s.2.2.2.2.2.1 u) = true ↔ ((s.2.2.2.2.1 u).isSome = true ∧ B (39 + 3 * u) = B (40 + 3 * u)) := by
  obtain ⟨l, hl⟩ := Option.ne_none_iff_exists'.mp hT
  obtain ⟨_, _, _, _, _, _, _, _, hnc, htd, _⟩ := h
  have n1 := (hnc u hu).2.2
  have t1 := ((htd u hu).2.2 l hl).1
  rw [hl, t1]
  rcases e : s.2.2.2.2.1 u with _ | a
  · exact ⟨fun h => absurd h (by intro q; cases q), fun h => absurd h.1 (by intro q; cases q)⟩
  · have n2 := (n1 a e).2.2.1
    rw [n2]
    show (a.2.2 == l) = true ↔ _
    rw [beq_iff_eq]
    exact ⟨fun h => ⟨rfl, h⟩, fun h => h.2⟩

set_option maxHeartbeats 4000000 in
set_option maxRecDepth 100000 in
theorem c_c_part (l : Launch) (G : Nat → ClassId) (c : Nat → Nat) (B : Nat → List Nat) (S : Nat → Nat) (P : Nat → JP) (q : SS) (X : Nat) (v : Nat → Int32) (s : ST) (r j p : Int32) : jKi l yX11_part wsX11_part ({ frames := 6, cells := 0, slots := 0, locals := 168 }) G [.ref (c 0), .int r, .int j, .int p] (fun L F => cI G L F c B S P q X v s) (fun L F ans F1 => ∃ B1 S1 P1 q1 X1 v1, cI G L F1 c B1 S1 P1 q1 X1 v1 (stPart s r j p).2 ∧ ans = (stPart s r j p).1 ∧ cO c F F1) := by
  refine jm_ki (cc := cX11_part) (maxL := 4) (rt := .int) (by decide) rfl (Nat.le_of_ble_eq_true rfl) ?_
  intro E L F hE hR hpre
  have hE : jOk E G _ cX11_part 4 RX11 wsX11_part := hE
  have hI := hpre
  obtain ⟨W0, hG, hRw, h0, hen, hwk, h2, hsg, hnc, htd, hse⟩ := id hpre
  have hwk48 := hwk.2
  have hs4 := hsg.1
  have hen4 := hen.1
  have f46 : jFl RX11 wsX11_part 46 11 4 := ⟨rfl, by decide, by decide +kernel, by decide +kernel⟩
  have f203 : jFl RX11 wsX11_part 203 4 1 := ⟨rfl, by decide, by decide +kernel, by decide +kernel⟩
  have f37 : jFl RX11 wsX11_part 37 11 3 := ⟨rfl, by decide, by decide +kernel, by decide +kernel⟩
  have f11 : jFl RX11 wsX11_part 11 11 0 := ⟨rfl, by decide, by decide +kernel, by decide +kernel⟩
  have f60 : jFl RX11 wsX11_part 60 11 7 := ⟨rfl, by decide, by decide +kernel, by decide +kernel⟩
  have f18 : jFl RX11 wsX11_part 18 11 1 := ⟨rfl, by decide, by decide +kernel, by decide +kernel⟩
  refine jr_iload_n hE dX11_part_0 1 rfl ?_
  refine jr_iload_n hE dX11_part_1 3 rfl ?_
  refine jr_kSi (n := 2) (As := [.int r, .int p]) (rest := []) hE dX11_part_2 (fun l => c_c_areRows l G r p) gX11_part_X11_areRows rfl (by decide +kernel) ⟨rfl, rfl, by decide, by decide⟩ (by decide) rfl rfl (Nat.le_of_ble_eq_true rfl) (trivial) (fun r3 F1 q2 => ?_)
  obtain ⟨eq2, rq2⟩ := q2
  subst eq2 rq2
  refine jr_if_eq (tgt := 19) hE dX11_part_5 (by decide) (fun c5 => ?_) (fun c5 => ?_)
  · refine jr_iconst (v := (-1 : Int32)) hE dX11_part_19 (by decide) ?_
    have e : stPart s r j p = (-1, s) := by
      unfold stPart
      rw [if_neg (fun h => absurd (b2i_t (p := rowP r ∧ rowP p) ⟨h.1, h.2.2⟩) (by rw [c5]; decide))]
    exact hR F _ _ _ dX11_part_20 rfl ⟨B, S, P, q, X, v, by rw [e]; exact hI, by rw [e], cO.rf c F⟩
  · have hrr := b2i_1 c5
    have hrk : rowP r := hrr.1
    obtain ⟨k, hk, rfl⟩ := rowP_nI hrk
    have hrnk := nI_rn hk
    have hlk : (s.1 k).length ≤ 100 := by rw [← hRw k hk]; have q := W0.cp k (by omega); rw [bcr (by omega)] at q; exact q
    have hrp1 : rowP p := hrr.2
    obtain ⟨p1, hp1, rfl⟩ := rowP_nI hrp1
    have hrnp1 := nI_rn hp1
    have hlp1 : (s.1 p1).length ≤ 100 := by rw [← hRw p1 hp1]; have q := W0.cp p1 (by omega); rw [bcr (by omega)] at q; exact q
    refine jr_aload_n hE dX11_part_8 0 rfl ?_
    refine jr_get hE dX11_part_9 f46 W0.o0 rfl ?_
    refine jr_iload_n hE dX11_part_12 2 rfl ?_
    refine jr_kVi (ci := 4) (n := 1) (As := [.int j]) (rest := []) hE dX11_part_13 (fun l => c_g_hasMember l G c B S P q X v j s.2.2.2.1.length) gX11_part_X4_hasMember rfl W0.o7 rfl (by decide +kernel) ⟨rfl, rfl, by decide, by decide⟩ (by decide) rfl rfl (Nat.le_of_ble_eq_true rfl) (⟨W0, h2, hs4⟩) (fun r6 F4 q5 => ?_)
    obtain ⟨eq5, rq5⟩ := q5
    subst eq5 rq5
    refine jr_if_ne (tgt := 21) hE dX11_part_16 (by decide) (fun c16 => ?_) (fun c16 => ?_)
    · have hmu := b2i_1 c16
      obtain ⟨u, hu, rfl⟩ := mem_nI hs4 hmu
      have hrnu : rn (nI u) = u := rn_n (by omega)
      have hu4 : u < 4 := by omega
      rcases hsn : s.2.2.2.2.2.2 with _ | t
      · have hz9 := 0
        refine jr_aload_n hE dX11_part_21 0 rfl ?_
        refine jr_get hE dX11_part_22 f46 W0.o0 rfl ?_
        refine jr_get hE dX11_part_25 f203 W0.o7 rfl ?_
        rw [show v 3 = (0 : Int32) from (hse.1 hsn)]
        refine jr_if_eq (tgt := 58) hE dX11_part_28 (by decide) (fun c_28 => ?_) (fun c_28 => absurd (rfl) c_28)
        refine jr_bipush (v := (-2 : Int32)) hE dX11_part_58 (by decide) ?_
        have e : stPart s (nI k) (nI u) (nI p1) = (-2, s) := stPart_n ⟨nI_rowP hk, hmu, nI_rowP hp1⟩ hsn
        exact hR F _ _ _ dX11_part_60 rfl ⟨B, S, P, q, X, v, by rw [e]; exact hI, by rw [e], cO.rf c F⟩
      · have hz9 := 0
        obtain ⟨b1, b2, b3, b4, b5, b6, b7, b8, b9, lb, le, hT, hJ⟩ := hse.2 t hsn
        have hTu := hT u hu
        refine jr_aload_n hE dX11_part_21 0 rfl ?_
        refine jr_get hE dX11_part_22 f46 W0.o0 rfl ?_
        refine jr_get hE dX11_part_25 f203 W0.o7 rfl ?_
        rw [show v 3 = (1 : Int32) from b1]
        refine jr_if_eq (tgt := 58) hE dX11_part_28 (by decide) (fun c_28 => absurd c_28 (by decide)) (fun c_28 => ?_)
        refine jr_aload_n hE dX11_part_31 0 rfl ?_
        refine jr_get hE dX11_part_32 f37 W0.o0 rfl ?_
        refine jr_aload_n hE dX11_part_35 0 rfl ?_
        refine jr_get hE dX11_part_36 f11 W0.o0 rfl ?_
        refine jr_iload_n hE dX11_part_39 3 rfl ?_
        obtain ⟨f7, ja7, ga7⟩ := W0.aR
        refine jr_aald (v := c (270 + 2 * p1)) hE dX11_part_40 ja7 rfl (vp_in_nI (n := p1) (by omega) (by decide)) (by rw [nI_clamp (by omega)]; exact ga7 p1 (by omega)) ?_
        refine jr_kVi (ci := 10) (n := 1) (As := [.ref (c (270 + 2 * p1))]) (rest := []) hE dX11_part_41 (fun l => c_s_takeSecret l G c B S P q X v p1) gX11_part_X10_takeSecret rfl W0.o6 rfl (by decide +kernel) ⟨rfl, rfl, by decide, by decide⟩ (by decide) rfl rfl (Nat.le_of_ble_eq_true rfl) (⟨W0, by omega⟩) (fun r10 F8 q9 => ?_)
        obtain ⟨S11, W11, hS11, f11_0, r10e, P11⟩ := q9
        subst r10e
        have O11 := (cO.rf c F).tr P11
        refine jr_if_eq (tgt := 58) hE dX11_part_44 (by decide) (fun c44 => ?_) (fun c44 => ?_)
        · refine jr_bipush (v := (-2 : Int32)) hE dX11_part_58 (by decide) ?_
          have e : stPart s (nI k) (nI u) (nI p1) = (-2, s) := by
            rw [stPart_s ⟨nI_rowP hk, hmu, nI_rowP hp1⟩ hsn, hrnk, hrnu, hrnp1]
            unfold stPart1
            rw [if_neg (fun h => (fun h => absurd (b2i_t (p := secOK (B p1)) (by rw [show B p1 = s.1 p1 from (hRw p1 hp1)]; exact h)) (by rw [c44]; decide)) h.1)]
          exact hR F8 _ _ _ dX11_part_60 rfl ⟨_, _, _, _, _, _, by rw [e]; exact hI.upd (k := s.2.2.1) W11 (fun z hz => rfl) (fun z hz => (hS11 z (by simp only [List.mem_cons, List.not_mem_nil, or_false, not_or] at hz ⊢; omega))) (fun z hz => rfl) (fun z hz => rfl) hwk.1 (hwk.2), by rw [e], O11⟩
        · have hs : secOK (s.1 p1) := by have q := b2i_1 c44; rw [show B p1 = s.1 p1 from (hRw p1 hp1)] at q; exact q
          obtain ⟨d, hd⟩ : ∃ d, d = bnum (s.1 p1) := ⟨_, rfl⟩
          have hS0 : S11 0 = d := by have q := f11_0; rw [show B p1 = s.1 p1 from (hRw p1 hp1)] at q; rw [hd]; exact q hs.1
          have hd0 : d ≠ 0 := by rw [hd]; exact hs.2.1
          have hdN : d < NN := by rw [hd]; exact hs.2.2
          refine jr_aload_n hE dX11_part_47 0 rfl ?_
          refine jr_get hE dX11_part_48 f46 W11.o0 rfl ?_
          refine jr_iload_n hE dX11_part_51 2 rfl ?_
          refine jr_kVi (ci := 4) (n := 1) (As := [.int (nI u)]) (rest := []) hE dX11_part_52 (fun l => c_g_hasToldNonce l G c B S11 P q X v u s.2.2.2.1.length (s.2.2.2.2.1 u).isSome) gX11_part_X4_hasToldNonce rfl W11.o7 rfl (by decide +kernel) ⟨rfl, rfl, by decide, by decide⟩ (by decide) rfl rfl (Nat.le_of_ble_eq_true rfl) (⟨W11, h2, hu, hs4, (hnc u hu4).2.1⟩) (fun r14 F12 q13 => ?_)
          obtain ⟨eq13, rq13⟩ := q13
          subst eq13 rq13
          refine jr_if_ne (tgt := 61) hE dX11_part_55 (by decide) (fun c55 => ?_) (fun c55 => ?_)
          · have hnt := b2i_1 c55
            have hntk := (hI.nt hu4 hTu).mpr hnt
            refine jr_aload_n hE dX11_part_61 0 rfl ?_
            refine jr_iconst (v := (1 : Int32)) hE dX11_part_62 (by decide) ?_
            refine jr_kVi (ci := 11) (n := 1) (As := [.int (1 : Int32)]) (rest := []) hE dX11_part_63 (fun l => c_c_wouldPass l G c B S11 P q X v s.2.2.1 1) gX11_part_X11_wouldPass rfl W11.o0 rfl (by decide +kernel) ⟨rfl, rfl, by decide, by decide⟩ (by decide) rfl rfl (Nat.le_of_ble_eq_true rfl) (⟨W11, hwk.1, by omega, by omega⟩) (fun r17 F15 q16 => ?_)
            obtain ⟨eq16, rq16⟩ := q16
            subst eq16 rq16
            refine jr_if_eq (tgt := 72) hE dX11_part_66 (by decide) (fun c66 => ?_) (fun c66 => ?_)
            · have hw48 : ¬ 48 < s.2.2.1 + 1 := b2i_0 c66
              refine jr_aload_n hE dX11_part_72 0 rfl ?_
              refine jr_dup hE dX11_part_73 rfl ?_
              refine jr_get hE dX11_part_74 f60 W11.o0 rfl ?_
              rw [show v 1 = (nI s.2.2.1) from hwk.1]
              refine jr_iconst (v := (1 : Int32)) hE dX11_part_77 (by decide) ?_
              refine jr_iadd (z := nI (s.2.2.1 + 1)) hE dX11_part_78 (nI_add _ 1) ?_
              refine jr_put (ty := .int) hE dX11_part_79 f60 W11.o0 rfl (by decide +kernel) rfl rfl (Nat.le_of_ble_eq_true rfl) (fun F18 h18 u18 => ?_)
              obtain ⟨W18, P18⟩ := W11.setV0 (v1 := (uz v 1 (nI (s.2.2.1 + 1)))) h18 (fun z hz => uz_n _ _ (jne hz 1 rfl)) u18
              have O18 := O11.tr P18
              obtain ⟨v18, ev18, hv18, yv18⟩ := uz_ab v 1 (nI (s.2.2.1 + 1))
              rw [ev18] at W18
              have nv18 : ∀ z, z ≠ 1 → v18 z = v z := fun z hz => hv18 z (fun e => hz (List.mem_singleton.mp e))
              refine jr_aload_n hE dX11_part_82 0 rfl ?_
              refine jr_get hE dX11_part_83 f37 W18.o0 rfl ?_
              refine jr_kVv (ci := 10) (n := 0) (As := []) (rest := []) hE dX11_part_86 (fun l => c_s_findOwn l G c B S11 P q X v18 ) gX11_part_X10_findOwn rfl W18.o6 rfl (by decide +kernel) ⟨rfl, rfl, by decide, by decide⟩ (by decide) rfl rfl (Nat.le_of_ble_eq_true rfl) (⟨W18, hG, (by rw [show S11 0 = d from hS0]; exact hdN)⟩) (fun F19 q20 => ?_)
              obtain ⟨B21, Pf21, W21, hB21, hPf21, f21_0, P21⟩ := q20
              have O21 := O18.tr P21
              refine jr_aload_n hE dX11_part_89 0 rfl ?_
              refine jr_get hE dX11_part_90 f46 W21.o0 rfl ?_
              refine jr_iload_n hE dX11_part_93 2 rfl ?_
              have hv22 : v18 2 = (nI s.2.2.2.1.length) := (nv18 2 (by decide)).trans h2
              have hB23 : B21 (38 + 3 * u) = (s.2.2.2.1.getD u []) := (hB21 (38 + 3 * u) (by simp only [List.mem_cons, List.not_mem_nil, or_false, not_or]; omega)).trans ((hsg.2 u hu).1)
              refine jr_kVi (ci := 4) (n := 1) (As := [.int (nI u)]) (rest := []) hE dX11_part_94 (fun l => c_g_isOwn l G c B21 S11 Pf21 q X v18 u s.2.2.2.1.length) gX11_part_X4_isOwn rfl W21.o7 rfl (by decide +kernel) ⟨rfl, rfl, by decide, by decide⟩ (by decide) rfl rfl (Nat.le_of_ble_eq_true rfl) (⟨W21, hv22, hu, hs4⟩) (fun r26 F24 q25 => ?_)
              obtain ⟨eq25, rq25⟩ := q25
              subst eq25 rq25
              refine jr_if_ne (tgt := 103) hE dX11_part_97 (by decide) (fun c97 => ?_) (fun c97 => ?_)
              · have hown : pbE (emul PP d GE) = s.2.2.2.1.getD u [] := by have q := b2i_1 (p := B21 (38 + 3 * u) = B21 18) c97; rw [show B21 (38 + 3 * u) = s.2.2.2.1.getD u [] from hB23, show B21 18 = pbE (emul PP d GE) from (by have q := f21_0; rw [show S11 0 = d from hS0] at q; exact q)] at q; exact q.symm
                obtain ⟨a, ha⟩ := Option.isSome_iff_exists.mp hnt.1
                obtain ⟨n1, n2, n3, n4, n5⟩ := (hnc u hu4).2.2 a ha
                have hnn : ncN s u = a := by unfold ncN; rw [ha]; rfl
                have hval : bex (ptV s t u d) 32 = bex ((ngN t.2.2.2.2 ((t.2.1 * a.2.1 % NN + a.1) % NN) + ngN (oQ s) (t.2.2.1 * wKs s.2.2.2.1 u % NN) * d % NN) % NN) 32 := by
                  unfold ptV
                  rw [hnn, Nat.mul_comm a.2.1, Nat.add_comm a.1]
                refine jr_aload_n hE dX11_part_103 0 rfl ?_
                refine jr_get hE dX11_part_104 f46 W21.o0 rfl ?_
                refine jr_iload_n hE dX11_part_107 2 rfl ?_
                refine jr_aload_n hE dX11_part_108 0 rfl ?_
                refine jr_get hE dX11_part_109 f18 W21.o0 rfl ?_
                have hv27 : v18 4 = (bi (oQ s)) := (nv18 4 (by decide)).trans b8
                have hv28 : v18 5 = (bi t.2.2.2.2) := (nv18 5 (by decide)).trans b7
                have hS29 : S11 5 = t.2.1 := (hS11 5 (by decide)).trans b4
                have hS30 : S11 6 = t.2.2.1 := (hS11 6 (by decide)).trans b5
                have hS31 : S11 (18 + 3 * u) = (wKs s.2.2.2.1 u) := (hS11 (18 + 3 * u) (by simp only [List.mem_cons, List.not_mem_nil, or_false, not_or]; omega)).trans (b9 u hu)
                have hS32 : S11 (19 + 3 * u) = a.1 := (hS11 (19 + 3 * u) (by simp only [List.mem_cons, List.not_mem_nil, or_false, not_or]; omega)).trans n1
                have hS33 : S11 (20 + 3 * u) = a.2.1 := (hS11 (20 + 3 * u) (by simp only [List.mem_cons, List.not_mem_nil, or_false, not_or]; omega)).trans n2
                refine jr_kVv (ci := 4) (n := 2) (As := [.int (nI u), .ref (c (270 + 2 * 16))]) (rest := []) hE dX11_part_112 (fun l => c_g_makePart l G c B21 S11 Pf21 q X v18 u s.2.2.2.1.length (oQ s) t.2.2.2.2) gX11_part_X4_makePart rfl W21.o7 rfl (by decide +kernel) ⟨rfl, rfl, by decide, by decide⟩ (by decide) rfl rfl (Nat.le_of_ble_eq_true rfl) (⟨W21, hv22, hu, hs4, hv27, hv28, (by rw [show S11 0 = d from hS0]; exact hdN), (by rw [show S11 5 = t.2.1 from hS29]; exact lb), (by rw [show S11 6 = t.2.2.1 from hS30]; exact le), (by rw [show S11 (18 + 3 * u) = (wKs s.2.2.2.1 u) from hS31]; exact wKs_lt _ _), (by rw [show S11 (19 + 3 * u) = a.1 from hS32]; exact n4), (by rw [show S11 (20 + 3 * u) = a.2.1 from hS33]; exact n5)⟩) (fun F34 q35 => ?_)
                obtain ⟨B36, S36, v36, W36, hB36, hS36, hv36, f36_0, f36_1, P36⟩ := q35
                have O36 := O21.tr P36
                have g36 := f36_0
                rw [show S11 0 = d from hS0, show S11 5 = t.2.1 from hS29, show S11 6 = t.2.2.1 from hS30, show S11 (18 + 3 * u) = (wKs s.2.2.2.1 u) from hS31, show S11 (19 + 3 * u) = a.1 from hS32, show S11 (20 + 3 * u) = a.2.1 from hS33] at g36
                refine jr_aload_n hE dX11_part_115 0 rfl ?_
                refine jr_iload_n hE dX11_part_116 1 rfl ?_
                have hv37 : v36 1 = (nI (s.2.2.1 + 1)) := (hv36 1 (by simp only [List.mem_cons, List.not_mem_nil, or_false, not_or]; omega)).trans yv18
                have hv38 : v36 4 = (bi (oQ s)) := (hv36 4 (by simp only [List.mem_cons, List.not_mem_nil, or_false, not_or]; omega)).trans hv27
                have hNew : ncC B36 S36 v36 (fun x => if x = u then none else s.2.2.2.2.1 x) s.2.2.2.1.length := by
                  intro x1 hx1
                  show (s.2.2.2.1.length ≤ x1 → (if x1 = u then none else s.2.2.2.2.1 x1) = none) ∧ v36 (6 + 2 * x1) = bi (if x1 = u then none else s.2.2.2.2.1 x1).isSome ∧ ∀ y, (if x1 = u then none else s.2.2.2.2.1 x1) = some y → S36 (19 + 3 * x1) = y.1 ∧ S36 (20 + 3 * x1) = y.2.1 ∧ B36 (39 + 3 * x1) = y.2.2 ∧ y.1 < NN ∧ y.2.1 < NN
                  by_cases e : x1 = u
                  · rw [if_pos e, e]
                    exact ⟨fun _ => rfl, f36_1, fun y hy => by cases hy⟩
                  · rw [if_neg e]
                    have q := hnc x1 hx1
                    rw [show v36 (6 + 2 * x1) = v (6 + 2 * x1) from ((hv36 (6 + 2 * x1) (by simp only [List.mem_cons, List.not_mem_nil, or_false, not_or]; omega)).trans (nv18 (6 + 2 * x1) (by omega))), show S36 (19 + 3 * x1) = S (19 + 3 * x1) from ((hS36 (19 + 3 * x1) (by simp only [List.mem_cons, List.not_mem_nil, or_false, not_or]; omega)).trans (hS11 (19 + 3 * x1) (by simp only [List.mem_cons, List.not_mem_nil, or_false, not_or]; omega))), show S36 (20 + 3 * x1) = S (20 + 3 * x1) from ((hS36 (20 + 3 * x1) (by simp only [List.mem_cons, List.not_mem_nil, or_false, not_or]; omega)).trans (hS11 (20 + 3 * x1) (by simp only [List.mem_cons, List.not_mem_nil, or_false, not_or]; omega))), show B36 (39 + 3 * x1) = B (39 + 3 * x1) from ((hB36 (39 + 3 * x1) (by simp only [List.mem_cons, List.not_mem_nil, or_false, not_or]; omega)).trans (hB21 (39 + 3 * x1) (by simp only [List.mem_cons, List.not_mem_nil, or_false, not_or]; omega)))]
                    exact q
                have hJ := hI.nc (k := s.2.2.1 + 1) W36 (fun z hz => ((hB36 z (by (try simp only [List.mem_cons, List.not_mem_nil, or_false, not_or] at hz ⊢); omega)).trans (hB21 z (by (try simp only [List.mem_cons, List.not_mem_nil, or_false, not_or] at hz ⊢); omega)))) (fun z hz => ((hS36 z (by (try simp only [List.mem_cons, List.not_mem_nil, or_false, not_or] at hz ⊢); omega)).trans (hS11 z (by (try simp only [List.mem_cons, List.not_mem_nil, or_false, not_or] at hz ⊢); omega)))) (fun z hz => (hPf21 z (by (try simp only [List.mem_cons, List.not_mem_nil, or_false, not_or] at hz ⊢); omega))) (fun z hz => ((hv36 z (by (try simp only [List.mem_cons, List.not_mem_nil, or_false, not_or] at hz ⊢); omega)).trans (nv18 z (by (try simp only [List.mem_cons, List.not_mem_nil, or_false, not_or] at hz); omega)))) hv37 (by omega) hNew (fun _ => ⟨fun x1 hx1 => (((hS36 (18 + 3 * x1) (by simp only [List.mem_cons, List.not_mem_nil, or_false, not_or]; omega)).trans (hS11 (18 + 3 * x1) (by simp only [List.mem_cons, List.not_mem_nil, or_false, not_or]; omega)))).trans (b9 x1 hx1), hv38⟩)
                refine jr_kVi (ci := 11) (n := 1) (As := [.int (nI k)]) (rest := []) hE dX11_part_117 (fun l => c_c_answerIn l G c B36 S36 Pf21 q X v36 k) gX11_part_X11_answerIn rfl W36.o0 rfl (by decide +kernel) ⟨rfl, rfl, by decide, by decide⟩ (by decide) rfl rfl (Nat.le_of_ble_eq_true rfl) (⟨W36, hk⟩) (fun r41 F39 q40 => ?_)
                obtain ⟨B42, W42, hB42, f42_0, r41e, P42⟩ := q40
                subst r41e
                have O42 := O36.tr P42
                have e : stPart s (nI k) (nI u) (nI p1) = (32, setN (setK (setR s k (bex (ptV s t u d) 32)) (s.2.2.1 + 1)) (fun x => if x = u then none else s.2.2.2.2.1 x)) := by
                  rw [stPart_s ⟨nI_rowP hk, hmu, nI_rowP hp1⟩ hsn, hrnk, hrnu, hrnp1]
                  unfold stPart1
                  rw [if_pos ⟨hs, hntk⟩, if_neg hw48, if_pos (by rw [← hd]; exact hown), ← hd]
                exact hR F39 _ _ _ dX11_part_120 rfl ⟨_, _, _, _, _, _, by rw [e]; exact hJ.row W42 hk (fun z hz => hB42 z (fun q => hz (List.mem_singleton.mp q))) (f42_0.trans (g36.trans hval.symm)), by rw [e, show B36 16 = (bex (ptV s t u d) 32) from (g36.trans hval.symm), bex_len]; rfl, O42⟩
              · refine jr_bipush (v := (-2 : Int32)) hE dX11_part_100 (by decide) ?_
                have hown : ¬ pbE (emul PP d GE) = s.2.2.2.1.getD u [] := fun h => b2i_0 (p := B21 (38 + 3 * u) = B21 18) c97 (by rw [show B21 (38 + 3 * u) = s.2.2.2.1.getD u [] from hB23, show B21 18 = pbE (emul PP d GE) from (by have q := f21_0; rw [show S11 0 = d from hS0] at q; exact q)]; exact h.symm)
                have e : stPart s (nI k) (nI u) (nI p1) = (-2, setK s (s.2.2.1 + 1)) := by
                  rw [stPart_s ⟨nI_rowP hk, hmu, nI_rowP hp1⟩ hsn, hrnk, hrnu, hrnp1]
                  unfold stPart1
                  rw [if_pos ⟨hs, hntk⟩, if_neg hw48, if_neg (by rw [← hd]; exact hown)]
                exact hR F19 _ _ _ dX11_part_102 rfl ⟨_, _, _, _, _, _, by rw [e]; exact hI.upd (k := s.2.2.1 + 1) W21 (fun z hz => (hB21 z (by simp only [List.mem_cons, List.not_mem_nil, or_false, not_or] at hz ⊢; omega))) (fun z hz => (hS11 z (by simp only [List.mem_cons, List.not_mem_nil, or_false, not_or] at hz ⊢; omega))) (fun z hz => (hPf21 z (by simp only [List.mem_cons, List.not_mem_nil, or_false, not_or] at hz ⊢; omega))) (fun z hz => (nv18 z hz)) yv18 (by omega), by rw [e], O21⟩
            · refine jr_bipush (v := (-5 : Int32)) hE dX11_part_69 (by decide) ?_
              have e : stPart s (nI k) (nI u) (nI p1) = (-5, s) := by
                rw [stPart_s ⟨nI_rowP hk, hmu, nI_rowP hp1⟩ hsn, hrnk, hrnu, hrnp1]
                unfold stPart1
                rw [if_pos ⟨hs, hntk⟩, if_pos (b2i_1 (p := 48 < s.2.2.1 + 1) c66)]
              exact hR F8 _ _ _ dX11_part_71 rfl ⟨_, _, _, _, _, _, by rw [e]; exact hI.upd (k := s.2.2.1) W11 (fun z hz => rfl) (fun z hz => (hS11 z (by simp only [List.mem_cons, List.not_mem_nil, or_false, not_or] at hz ⊢; omega))) (fun z hz => rfl) (fun z hz => rfl) hwk.1 (hwk.2), by rw [e], O11⟩
          · refine jr_bipush (v := (-2 : Int32)) hE dX11_part_58 (by decide) ?_
            have e : stPart s (nI k) (nI u) (nI p1) = (-2, s) := by
              rw [stPart_s ⟨nI_rowP hk, hmu, nI_rowP hp1⟩ hsn, hrnk, hrnu, hrnp1]
              unfold stPart1
              rw [if_neg (fun h => b2i_0 c55 ((hI.nt hu4 hTu).mp h.2))]
            exact hR F8 _ _ _ dX11_part_60 rfl ⟨_, _, _, _, _, _, by rw [e]; exact hI.upd (k := s.2.2.1) W11 (fun z hz => rfl) (fun z hz => (hS11 z (by simp only [List.mem_cons, List.not_mem_nil, or_false, not_or] at hz ⊢; omega))) (fun z hz => rfl) (fun z hz => rfl) hwk.1 (hwk.2), by rw [e], O11⟩
    · refine jr_iconst (v := (-1 : Int32)) hE dX11_part_19 (by decide) ?_
      have e : stPart s (nI k) j (nI p1) = (-1, s) := by
        unfold stPart
        rw [if_neg (fun h => absurd (b2i_t h.2.1) (by rw [c16]; decide))]
      exact hR F _ _ _ dX11_part_20 rfl ⟨B, S, P, q, X, v, by rw [e]; exact hI, by rw [e], cO.rf c F⟩

set_option maxHeartbeats 4000000 in
set_option maxRecDepth 100000 in
theorem c_c_partHolds (l : Launch) (G : Nat → ClassId) (c : Nat → Nat) (B : Nat → List Nat) (S : Nat → Nat) (P : Nat → JP) (q : SS) (X : Nat) (v : Nat → Int32) (s : ST) (j r : Int32) : jKi l yX11_partHolds wsX11_partHolds ({ frames := 6, cells := 0, slots := 0, locals := 170 }) G [.ref (c 0), .int j, .int r] (fun L F => cI G L F c B S P q X v s) (fun L F ans F1 => ∃ B1 S1 P1 q1 X1 v1, cI G L F1 c B1 S1 P1 q1 X1 v1 (stPH s j r).2 ∧ ans = (stPH s j r).1 ∧ cO c F F1) := by
  refine jm_ki (cc := cX11_partHolds) (maxL := 3) (rt := .int) (by decide) rfl (Nat.le_of_ble_eq_true rfl) ?_
  intro E L F hE hR hpre
  have hE : jOk E G _ cX11_partHolds 3 RX11 wsX11_partHolds := hE
  have hI := hpre
  obtain ⟨W0, hG, hRw, h0, hen, hwk, h2, hsg, hnc, htd, hse⟩ := id hpre
  have hwk48 := hwk.2
  have hs4 := hsg.1
  have hen4 := hen.1
  have f46 : jFl RX11 wsX11_partHolds 46 11 4 := ⟨rfl, by decide, by decide +kernel, by decide +kernel⟩
  have f203 : jFl RX11 wsX11_partHolds 203 4 1 := ⟨rfl, by decide, by decide +kernel, by decide +kernel⟩
  have f11 : jFl RX11 wsX11_partHolds 11 11 0 := ⟨rfl, by decide, by decide +kernel, by decide +kernel⟩
  have f68 : jFl RX11 wsX11_partHolds 68 0 1 := ⟨rfl, by decide, by decide +kernel, by decide +kernel⟩
  have f60 : jFl RX11 wsX11_partHolds 60 11 7 := ⟨rfl, by decide, by decide +kernel, by decide +kernel⟩
  refine jr_iload_n hE dX11_partHolds_0 2 rfl ?_
  refine jr_kSi (n := 1) (As := [.int r]) (rest := []) hE dX11_partHolds_1 (fun l => c_c_isRow l G r) gX11_partHolds_X11_isRow rfl (by decide +kernel) ⟨rfl, rfl, by decide, by decide⟩ (by decide) rfl rfl (Nat.le_of_ble_eq_true rfl) (trivial) (fun r3 F1 q2 => ?_)
  obtain ⟨eq2, rq2⟩ := q2
  subst eq2 rq2
  refine jr_if_eq (tgt := 18) hE dX11_partHolds_4 (by decide) (fun c4 => ?_) (fun c4 => ?_)
  · refine jr_iconst (v := (-1 : Int32)) hE dX11_partHolds_18 (by decide) ?_
    have e : stPH s j r = (-1, s) := by
      unfold stPH
      rw [if_neg (fun h => absurd (b2i_t h.2) (by rw [c4]; decide))]
    exact hR F _ _ _ dX11_partHolds_19 rfl ⟨B, S, P, q, X, v, by rw [e]; exact hI, by rw [e], cO.rf c F⟩
  · have hrk : rowP r := b2i_1 c4
    obtain ⟨k, hk, rfl⟩ := rowP_nI hrk
    have hrnk := nI_rn hk
    have hlk : (s.1 k).length ≤ 100 := by rw [← hRw k hk]; have q := W0.cp k (by omega); rw [bcr (by omega)] at q; exact q
    refine jr_aload_n hE dX11_partHolds_7 0 rfl ?_
    refine jr_get hE dX11_partHolds_8 f46 W0.o0 rfl ?_
    refine jr_iload_n hE dX11_partHolds_11 1 rfl ?_
    refine jr_kVi (ci := 4) (n := 1) (As := [.int j]) (rest := []) hE dX11_partHolds_12 (fun l => c_g_hasMember l G c B S P q X v j s.2.2.2.1.length) gX11_partHolds_X4_hasMember rfl W0.o7 rfl (by decide +kernel) ⟨rfl, rfl, by decide, by decide⟩ (by decide) rfl rfl (Nat.le_of_ble_eq_true rfl) (⟨W0, h2, hs4⟩) (fun r6 F4 q5 => ?_)
    obtain ⟨eq5, rq5⟩ := q5
    subst eq5 rq5
    refine jr_if_ne (tgt := 20) hE dX11_partHolds_15 (by decide) (fun c15 => ?_) (fun c15 => ?_)
    · have hmu := b2i_1 c15
      obtain ⟨u, hu, rfl⟩ := mem_nI hs4 hmu
      have hrnu : rn (nI u) = u := rn_n (by omega)
      have hu4 : u < 4 := by omega
      rcases hsn : s.2.2.2.2.2.2 with _ | t
      · have hz9 := 0
        refine jr_aload_n hE dX11_partHolds_20 0 rfl ?_
        refine jr_get hE dX11_partHolds_21 f46 W0.o0 rfl ?_
        refine jr_get hE dX11_partHolds_24 f203 W0.o7 rfl ?_
        rw [show v 3 = (0 : Int32) from (hse.1 hsn)]
        refine jr_if_eq (tgt := 44) hE dX11_partHolds_27 (by decide) (fun c_27 => ?_) (fun c_27 => absurd (rfl) c_27)
        refine jr_bipush (v := (-2 : Int32)) hE dX11_partHolds_44 (by decide) ?_
        have e : stPH s (nI u) (nI k) = (-2, s) := stPH_n ⟨hmu, nI_rowP hk⟩ hsn
        exact hR F _ _ _ dX11_partHolds_46 rfl ⟨B, S, P, q, X, v, by rw [e]; exact hI, by rw [e], cO.rf c F⟩
      · have hz9 := 0
        obtain ⟨b1, b2, b3, b4, b5, b6, b7, b8, b9, lb, le, hT, hJ⟩ := hse.2 t hsn
        have hTu := hT u hu
        refine jr_aload_n hE dX11_partHolds_20 0 rfl ?_
        refine jr_get hE dX11_partHolds_21 f46 W0.o0 rfl ?_
        refine jr_get hE dX11_partHolds_24 f203 W0.o7 rfl ?_
        rw [show v 3 = (1 : Int32) from b1]
        refine jr_if_eq (tgt := 44) hE dX11_partHolds_27 (by decide) (fun c_27 => absurd c_27 (by decide)) (fun c_27 => ?_)
        refine jr_aload_n hE dX11_partHolds_30 0 rfl ?_
        refine jr_get hE dX11_partHolds_31 f11 W0.o0 rfl ?_
        refine jr_iload_n hE dX11_partHolds_34 2 rfl ?_
        obtain ⟨f7, ja7, ga7⟩ := W0.aR
        refine jr_aald (v := c (270 + 2 * k)) hE dX11_partHolds_35 ja7 rfl (vp_in_nI (n := k) (by omega) (by decide)) (by rw [nI_clamp (by omega)]; exact ga7 k (by omega)) ?_
        refine jr_get hE dX11_partHolds_36 f68 (W0.by k (by omega)).ob rfl ?_
        rw [show B k = (s.1 k) from (hRw k hk)]
        refine jr_bipush (v := (32 : Int32)) hE dX11_partHolds_39 (by decide) ?_
        refine jr_icmp_eq (tgt := 47) hE dX11_partHolds_41 (by decide) (fun c41 => ?_) (fun c41 => ?_)
        · have hl32 : (s.1 k).length = 32 := (nI_eq (by omega) (by decide)).mp c41
          refine jr_aload_n hE dX11_partHolds_47 0 rfl ?_
          refine jr_get hE dX11_partHolds_48 f46 W0.o0 rfl ?_
          refine jr_aload_n hE dX11_partHolds_51 0 rfl ?_
          refine jr_get hE dX11_partHolds_52 f11 W0.o0 rfl ?_
          refine jr_iload_n hE dX11_partHolds_55 2 rfl ?_
          obtain ⟨f8, ja8, ga8⟩ := W0.aR
          refine jr_aald (v := c (270 + 2 * k)) hE dX11_partHolds_56 ja8 rfl (vp_in_nI (n := k) (by omega) (by decide)) (by rw [nI_clamp (by omega)]; exact ga8 k (by omega)) ?_
          refine jr_kVi (ci := 4) (n := 1) (As := [.ref (c (270 + 2 * k))]) (rest := []) hE dX11_partHolds_57 (fun l => c_g_takePart l G c B S P q X v k) gX11_partHolds_X4_takePart rfl W0.o7 rfl (by decide +kernel) ⟨rfl, rfl, by decide, by decide⟩ (by decide) rfl rfl (Nat.le_of_ble_eq_true rfl) (⟨W0, hk, (by rw [show B k = s.1 k from (hRw k hk)]; exact hl32)⟩) (fun r11 F9 q10 => ?_)
          obtain ⟨S12, W12, hS12, f12_0, r11e, P12⟩ := q10
          subst r11e
          have O12 := (cO.rf c F).tr P12
          refine jr_if_ne (tgt := 65) hE dX11_partHolds_60 (by decide) (fun c60 => ?_) (fun c60 => ?_)
          · have hlt : bnum (s.1 k) < NN := by have q := b2i_1 (p := bnum (B k) < NN) c60; rw [show B k = s.1 k from (hRw k hk)] at q; exact q
            refine jr_aload_n hE dX11_partHolds_65 0 rfl ?_
            refine jr_iconst (v := (3 : Int32)) hE dX11_partHolds_66 (by decide) ?_
            refine jr_kVi (ci := 11) (n := 1) (As := [.int (3 : Int32)]) (rest := []) hE dX11_partHolds_67 (fun l => c_c_wouldPass l G c B S12 P q X v s.2.2.1 3) gX11_partHolds_X11_wouldPass rfl W12.o0 rfl (by decide +kernel) ⟨rfl, rfl, by decide, by decide⟩ (by decide) rfl rfl (Nat.le_of_ble_eq_true rfl) (⟨W12, hwk.1, by omega, by omega⟩) (fun r15 F13 q14 => ?_)
            obtain ⟨eq14, rq14⟩ := q14
            subst eq14 rq14
            refine jr_if_eq (tgt := 76) hE dX11_partHolds_70 (by decide) (fun c70 => ?_) (fun c70 => ?_)
            · have hw48 : ¬ 48 < s.2.2.1 + 3 := b2i_0 c70
              obtain ⟨lo, hlo⟩ := Option.ne_none_iff_exists'.mp hTu
              obtain ⟨y1, y2, y3⟩ := (htd u hu4).2.2 lo hlo
              have hLo : tdL s u = lo := by unfold tdL; rw [hlo]; rfl
              refine jr_aload_n hE dX11_partHolds_76 0 rfl ?_
              refine jr_dup hE dX11_partHolds_77 rfl ?_
              refine jr_get hE dX11_partHolds_78 f60 W12.o0 rfl ?_
              rw [show v 1 = (nI s.2.2.1) from hwk.1]
              refine jr_iconst (v := (3 : Int32)) hE dX11_partHolds_81 (by decide) ?_
              refine jr_iadd (z := nI (s.2.2.1 + 3)) hE dX11_partHolds_82 (nI_add _ 3) ?_
              refine jr_put (ty := .int) hE dX11_partHolds_83 f60 W12.o0 rfl (by decide +kernel) rfl rfl (Nat.le_of_ble_eq_true rfl) (fun F16 h16 u16 => ?_)
              obtain ⟨W16, P16⟩ := W12.setV0 (v1 := (uz v 1 (nI (s.2.2.1 + 3)))) h16 (fun z hz => uz_n _ _ (jne hz 1 rfl)) u16
              have O16 := O12.tr P16
              obtain ⟨v16, ev16, hv16, yv16⟩ := uz_ab v 1 (nI (s.2.2.1 + 3))
              rw [ev16] at W16
              have nv16 : ∀ z, z ≠ 1 → v16 z = v z := fun z hz => hv16 z (fun e => hz (List.mem_singleton.mp e))
              refine jr_aload_n hE dX11_partHolds_86 0 rfl ?_
              refine jr_get hE dX11_partHolds_87 f46 W16.o0 rfl ?_
              refine jr_iload_n hE dX11_partHolds_90 1 rfl ?_
              have hv17 : v16 2 = (nI s.2.2.2.1.length) := (nv16 2 (by decide)).trans h2
              have hv18 : v16 4 = (bi (oQ s)) := (nv16 4 (by decide)).trans b8
              have hv19 : v16 5 = (bi t.2.2.2.2) := (nv16 5 (by decide)).trans b7
              have hS20 : S12 5 = t.2.1 := (hS12 5 (by decide)).trans b4
              have hS21 : S12 6 = t.2.2.1 := (hS12 6 (by decide)).trans b5
              have hS22 : S12 (18 + 3 * u) = (wKs s.2.2.2.1 u) := (hS12 (18 + 3 * u) (by simp only [List.mem_cons, List.not_mem_nil, or_false, not_or]; omega)).trans (b9 u hu)
              refine jr_kVi (ci := 4) (n := 1) (As := [.int (nI u)]) (rest := []) hE dX11_partHolds_91 (fun l => c_g_judgePart l G c B S12 P q X v16 u s.2.2.2.1.length (oQ s) t.2.2.2.2 (pKs (s.2.2.2.1.getD u [])) (tdE0 lo) (tdE1 lo)) gX11_partHolds_X4_judgePart rfl W16.o7 rfl (by decide +kernel) ⟨rfl, rfl, by decide, by decide⟩ (by decide) rfl rfl (Nat.le_of_ble_eq_true rfl) (⟨W16, hv17, hu, hs4, hv18, hv19, (by rw [show S12 5 = t.2.1 from hS20]; exact lb), (by rw [show S12 6 = t.2.2.1 from hS21]; exact le), (by rw [show S12 7 = (bnum (s.1 k)) from (by have q := f12_0; rw [show B k = s.1 k from (hRw k hk)] at q; exact q)]; exact hlt), (by rw [show S12 (18 + 3 * u) = (wKs s.2.2.2.1 u) from hS22]; exact wKs_lt _ _), hG, (by rw [show P (29 + 3 * u) = P (29 + 3 * u) from rfl]; exact (hsg.2 u hu).2.2), (by rw [show P (30 + 3 * u) = P (30 + 3 * u) from rfl]; exact y2), (by rw [show P (31 + 3 * u) = P (31 + 3 * u) from rfl]; exact y3)⟩) (fun r25 F23 q24 => ?_)
              obtain ⟨S26, Pf26, W26, hS26, hPf26, r25e, P26⟩ := q24
              subst r25e
              have O26 := O16.tr P26
              refine jr_if_eq (tgt := 101) hE dX11_partHolds_94 (by decide) (fun c94 => ?_) (fun c94 => ?_)
              · refine jr_iconst (v := (0 : Int32)) hE dX11_partHolds_101 (by decide) ?_
                have hiff : (emul PP (S12 7) GE = (eadd PP (ngE t.2.2.2.2 (eadd PP (emul PP (S12 5) (tdE1 lo)) (tdE0 lo))) (emul PP (ngN (oQ s) (S12 6 * S12 (18 + 3 * u) % NN)) (pKs (s.2.2.2.1.getD u []))))) ↔ (emul PP (bnum (s.1 k)) GE = phR s t u) := by
                  unfold phR
                  rw [hLo, show S12 5 = t.2.1 from hS20, show S12 6 = t.2.2.1 from hS21, show S12 7 = (bnum (s.1 k)) from (by have q := f12_0; rw [show B k = s.1 k from (hRw k hk)] at q; exact q), show S12 (18 + 3 * u) = (wKs s.2.2.2.1 u) from hS22]
                have hb : b2i (emul PP (bnum (s.1 k)) GE = phR s t u) = 0 := b2i_f (fun h => b2i_0 c94 (hiff.mpr h))
                have e : stPH s (nI u) (nI k) = (0, setK s (s.2.2.1 + 3)) := by
                  rw [stPH_s ⟨hmu, nI_rowP hk⟩ hsn, hrnk, hrnu]
                  unfold stPH1
                  rw [if_pos hl32, if_pos hlt, if_neg hw48, hb]
                exact hR F23 _ _ _ dX11_partHolds_102 rfl ⟨_, _, _, _, _, _, by rw [e]; exact hI.upd (k := s.2.2.1 + 3) W26 (fun z hz => rfl) (fun z hz => ((hS26 z (by simp only [List.mem_cons, List.not_mem_nil, or_false, not_or] at hz ⊢; omega)).trans (hS12 z (by simp only [List.mem_cons, List.not_mem_nil, or_false, not_or] at hz ⊢; omega)))) (fun z hz => (hPf26 z (by simp only [List.mem_cons, List.not_mem_nil, or_false, not_or] at hz ⊢; omega))) (fun z hz => (nv16 z hz)) yv16 (by omega), by rw [e], O26⟩
              · refine jr_iconst (v := (1 : Int32)) hE dX11_partHolds_97 (by decide) ?_
                refine jr_goto (tgt := 102) hE dX11_partHolds_98 (by decide) ?_
                have hiff : (emul PP (S12 7) GE = (eadd PP (ngE t.2.2.2.2 (eadd PP (emul PP (S12 5) (tdE1 lo)) (tdE0 lo))) (emul PP (ngN (oQ s) (S12 6 * S12 (18 + 3 * u) % NN)) (pKs (s.2.2.2.1.getD u []))))) ↔ (emul PP (bnum (s.1 k)) GE = phR s t u) := by
                  unfold phR
                  rw [hLo, show S12 5 = t.2.1 from hS20, show S12 6 = t.2.2.1 from hS21, show S12 7 = (bnum (s.1 k)) from (by have q := f12_0; rw [show B k = s.1 k from (hRw k hk)] at q; exact q), show S12 (18 + 3 * u) = (wKs s.2.2.2.1 u) from hS22]
                have hb : b2i (emul PP (bnum (s.1 k)) GE = phR s t u) = 1 := b2i_t (hiff.mp (b2i_1 c94))
                have e : stPH s (nI u) (nI k) = (1, setK s (s.2.2.1 + 3)) := by
                  rw [stPH_s ⟨hmu, nI_rowP hk⟩ hsn, hrnk, hrnu]
                  unfold stPH1
                  rw [if_pos hl32, if_pos hlt, if_neg hw48, hb]
                exact hR F23 _ _ _ dX11_partHolds_102 rfl ⟨_, _, _, _, _, _, by rw [e]; exact hI.upd (k := s.2.2.1 + 3) W26 (fun z hz => rfl) (fun z hz => ((hS26 z (by simp only [List.mem_cons, List.not_mem_nil, or_false, not_or] at hz ⊢; omega)).trans (hS12 z (by simp only [List.mem_cons, List.not_mem_nil, or_false, not_or] at hz ⊢; omega)))) (fun z hz => (hPf26 z (by simp only [List.mem_cons, List.not_mem_nil, or_false, not_or] at hz ⊢; omega))) (fun z hz => (nv16 z hz)) yv16 (by omega), by rw [e], O26⟩
            · refine jr_bipush (v := (-5 : Int32)) hE dX11_partHolds_73 (by decide) ?_
              have e : stPH s (nI u) (nI k) = (-5, s) := by
                rw [stPH_s ⟨hmu, nI_rowP hk⟩ hsn, hrnk, hrnu]
                unfold stPH1
                rw [if_pos hl32, if_pos hlt, if_pos (b2i_1 (p := 48 < s.2.2.1 + 3) c70)]
              exact hR F9 _ _ _ dX11_partHolds_75 rfl ⟨_, _, _, _, _, _, by rw [e]; exact hI.upd (k := s.2.2.1) W12 (fun z hz => rfl) (fun z hz => (hS12 z (by simp only [List.mem_cons, List.not_mem_nil, or_false, not_or] at hz ⊢; omega))) (fun z hz => rfl) (fun z hz => rfl) hwk.1 (hwk.2), by rw [e], O12⟩
          · refine jr_iconst (v := (0 : Int32)) hE dX11_partHolds_63 (by decide) ?_
            have e : stPH s (nI u) (nI k) = (0, s) := by
              rw [stPH_s ⟨hmu, nI_rowP hk⟩ hsn, hrnk, hrnu]
              unfold stPH1
              rw [if_pos hl32, if_neg (fun h => b2i_0 (p := bnum (B k) < NN) c60 (by rw [show B k = s.1 k from (hRw k hk)]; exact h))]
            exact hR F9 _ _ _ dX11_partHolds_64 rfl ⟨_, _, _, _, _, _, by rw [e]; exact hI.upd (k := s.2.2.1) W12 (fun z hz => rfl) (fun z hz => (hS12 z (by simp only [List.mem_cons, List.not_mem_nil, or_false, not_or] at hz ⊢; omega))) (fun z hz => rfl) (fun z hz => rfl) hwk.1 (hwk.2), by rw [e], O12⟩
        · refine jr_bipush (v := (-2 : Int32)) hE dX11_partHolds_44 (by decide) ?_
          have e : stPH s (nI u) (nI k) = (-2, s) := by
            rw [stPH_s ⟨hmu, nI_rowP hk⟩ hsn, hrnk, hrnu]
            unfold stPH1
            rw [if_neg (fun h => c41 ((nI_eq (by omega) (by decide)).mpr h))]
          exact hR F _ _ _ dX11_partHolds_46 rfl ⟨B, S, P, q, X, v, by rw [e]; exact hI, by rw [e], cO.rf c F⟩
    · refine jr_iconst (v := (-1 : Int32)) hE dX11_partHolds_18 (by decide) ?_
      have e : stPH s j (nI k) = (-1, s) := by
        unfold stPH
        rw [if_neg (fun h => absurd (b2i_t h.1) (by rw [c15]; decide))]
      exact hR F _ _ _ dX11_partHolds_19 rfl ⟨B, S, P, q, X, v, by rw [e]; exact hI, by rw [e], cO.rf c F⟩

