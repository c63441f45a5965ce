/-! JointSigns: one signer -/
set_option maxHeartbeats 4000000 in
set_option maxRecDepth 100000 in
theorem c_c_key (l : Launch) (G : Nat → ClassId) (c : Nat → Nat) (B : Nat → List Nat) (S : Nat → Nat) (P : Nat → JP) (q : SS) (X : Nat) (v : Nat → Int32) (s : ST) (r p f : Int32) : jKi l yX11_key wsX11_key ({ frames := 6, cells := 0, slots := 0, locals := 168 }) G [.ref (c 0), .int r, .int p, .int f] (fun L F => cI G L F c B S P q X v s) (fun L F ans F1 => ∃ B1 S1 P1 q1 X1 v1, cI G L F1 c B1 S1 P1 q1 X1 v1 (stKey s r p f).2 ∧ ans = (stKey s r p f).1 ∧ cO c F F1) := by
  refine jm_ki (cc := cX11_key) (maxL := 4) (rt := .int) (by decide) rfl (Nat.le_of_ble_eq_true rfl) ?_
  intro E L F hE hR hpre
  have hE : jOk E G _ cX11_key 4 RX11 wsX11_key := hE
  have hI := hpre
  obtain ⟨W0, hG, hRw, h0, hen, hwk, h2, hsg, hnc, htd, hse⟩ := id hpre
  have hwk48 := hwk.2
  have hs4 := hsg.1
  have hen4 := hen.1
  have f37 : jFl RX11 wsX11_key 37 11 3 := ⟨rfl, by decide, by decide +kernel, by decide +kernel⟩
  have f11 : jFl RX11 wsX11_key 11 11 0 := ⟨rfl, by decide, by decide +kernel, by decide +kernel⟩
  have f60 : jFl RX11 wsX11_key 60 11 7 := ⟨rfl, by decide, by decide +kernel, by decide +kernel⟩
  have f18 : jFl RX11 wsX11_key 18 11 1 := ⟨rfl, by decide, by decide +kernel, by decide +kernel⟩
  have f122 : jFl RX11 wsX11_key 122 10 2 := ⟨rfl, by decide, by decide +kernel, by decide +kernel⟩
  refine jr_iload_n hE dX11_key_0 1 rfl ?_
  refine jr_iload_n hE dX11_key_1 2 rfl ?_
  refine jr_kSi (n := 2) (As := [.int r, .int p]) (rest := []) hE dX11_key_2 (fun l => c_c_areRows l G r p) gX11_key_X11_areRows rfl (by decide +kernel) ⟨rfl, rfl, by decide, by decide⟩ (by decide) rfl rfl (Nat.le_of_ble_eq_true rfl) (trivial) (fun r3 F1 q2 => ?_)
  obtain ⟨eq2, rq2⟩ := q2
  subst eq2 rq2
  refine jr_if_eq (tgt := 17) hE dX11_key_5 (by decide) (fun c5 => ?_) (fun c5 => ?_)
  · refine jr_iconst (v := (-1 : Int32)) hE dX11_key_17 (by decide) ?_
    have e : stKey s r p f = (-1, s) := by
      unfold stKey
      rw [if_neg (fun h => absurd (b2i_t (p := rowP r ∧ rowP p) ⟨h.1, h.2.1⟩) (by rw [c5]; decide))]
    exact hR F _ _ _ dX11_key_18 rfl ⟨B, S, P, q, X, v, by rw [e]; exact hI, by rw [e], cO.rf c F⟩
  · have hrr := b2i_1 c5
    have hrk : rowP r := hrr.1
    obtain ⟨k, hk, rfl⟩ := rowP_nI hrk
    have hrnk := nI_rn hk
    have hlk : (s.1 k).length ≤ 100 := by rw [← hRw k hk]; have q := W0.cp k (by omega); rw [bcr (by omega)] at q; exact q
    have hrp1 : rowP p := hrr.2
    obtain ⟨p1, hp1, rfl⟩ := rowP_nI hrp1
    have hrnp1 := nI_rn hp1
    have hlp1 : (s.1 p1).length ≤ 100 := by rw [← hRw p1 hp1]; have q := W0.cp p1 (by omega); rw [bcr (by omega)] at q; exact q
    refine jr_iload_n hE dX11_key_8 3 rfl ?_
    refine jr_if_lt (tgt := 17) hE dX11_key_9 (by decide) (fun c9 => ?_) (fun c9 => ?_)
    · refine jr_iconst (v := (-1 : Int32)) hE dX11_key_17 (by decide) ?_
      have e : stKey s (nI k) (nI p1) f = (-1, s) := by
        unfold stKey
        rw [if_neg (fun h => absurd (i32_0.mp c9) (by have q := h.2.2.1; omega))]
      exact hR F _ _ _ dX11_key_18 rfl ⟨B, S, P, q, X, v, by rw [e]; exact hI, by rw [e], cO.rf c F⟩
    · refine jr_iload_n hE dX11_key_12 3 rfl ?_
      refine jr_iconst (v := (1 : Int32)) hE dX11_key_13 (by decide) ?_
      refine jr_icmp_le (tgt := 19) hE dX11_key_14 (by decide) (fun c14 => ?_) (fun c14 => ?_)
      · have hf : 0 ≤ f.toInt ∧ f.toInt ≤ 1 := ⟨Int.not_lt.mp (fun h => c9 (i32_0.mpr h)), (i32_le (m := 1) (by decide)).mp c14⟩
        refine jr_aload_n hE dX11_key_19 0 rfl ?_
        refine jr_get hE dX11_key_20 f37 W0.o0 rfl ?_
        refine jr_aload_n hE dX11_key_23 0 rfl ?_
        refine jr_get hE dX11_key_24 f11 W0.o0 rfl ?_
        refine jr_iload_n hE dX11_key_27 2 rfl ?_
        obtain ⟨f4, ja4, ga4⟩ := W0.aR
        refine jr_aald (v := c (270 + 2 * p1)) hE dX11_key_28 ja4 rfl (vp_in_nI (n := p1) (by omega) (by decide)) (by rw [nI_clamp (by omega)]; exact ga4 p1 (by omega)) ?_
        refine jr_kVi (ci := 10) (n := 1) (As := [.ref (c (270 + 2 * p1))]) (rest := []) hE dX11_key_29 (fun l => c_s_takeSecret l G c B S P q X v p1) gX11_key_X10_takeSecret rfl W0.o6 rfl (by decide +kernel) ⟨rfl, rfl, by decide, by decide⟩ (by decide) rfl rfl (Nat.le_of_ble_eq_true rfl) (⟨W0, by omega⟩) (fun r7 F5 q6 => ?_)
        obtain ⟨S8, W8, hS8, f8_0, r7e, P8⟩ := q6
        subst r7e
        have O8 := (cO.rf c F).tr P8
        refine jr_if_ne (tgt := 38) hE dX11_key_32 (by decide) (fun c32 => ?_) (fun c32 => ?_)
        · have hs : secOK (s.1 p1) := by have q := b2i_1 c32; rw [show B p1 = s.1 p1 from (hRw p1 hp1)] at q; exact q
          obtain ⟨d, hd⟩ : ∃ d, d = bnum (s.1 p1) := ⟨_, rfl⟩
          have hS0 : S8 0 = d := by have q := f8_0; rw [show B p1 = s.1 p1 from (hRw p1 hp1)] at q; rw [hd]; exact q hs.1
          have hd0 : d ≠ 0 := by rw [hd]; exact hs.2.1
          have hdN : d < NN := by rw [hd]; exact hs.2.2
          refine jr_aload_n hE dX11_key_38 0 rfl ?_
          refine jr_iconst (v := (1 : Int32)) hE dX11_key_39 (by decide) ?_
          refine jr_kVi (ci := 11) (n := 1) (As := [.int (1 : Int32)]) (rest := []) hE dX11_key_40 (fun l => c_c_wouldPass l G c B S8 P q X v s.2.2.1 1) gX11_key_X11_wouldPass rfl W8.o0 rfl (by decide +kernel) ⟨rfl, rfl, by decide, by decide⟩ (by decide) rfl rfl (Nat.le_of_ble_eq_true rfl) (⟨W8, hwk.1, by omega, by omega⟩) (fun r11 F9 q10 => ?_)
          obtain ⟨eq10, rq10⟩ := q10
          subst eq10 rq10
          refine jr_if_eq (tgt := 49) hE dX11_key_43 (by decide) (fun c43 => ?_) (fun c43 => ?_)
          · have hw48 : ¬ 48 < s.2.2.1 + 1 := fun h => absurd (b2i_t h) (by rw [c43]; decide)
            have hf01 : f = 0 ∨ f = 1 := by
              rcases Int.lt_or_le f.toInt 1 with h | h
              · exact .inl (Int32.toInt_inj.mp (by rw [show (0 : Int32).toInt = 0 by decide]; omega))
              · exact .inr (Int32.toInt_inj.mp (by rw [show (1 : Int32).toInt = 1 by decide]; omega))
            rcases hf01 with rfl | rfl
            · have hz9 := 0
              refine jr_aload_n hE dX11_key_49 0 rfl ?_
              refine jr_dup hE dX11_key_50 rfl ?_
              refine jr_get hE dX11_key_51 f60 W8.o0 rfl ?_
              rw [show v 1 = (nI s.2.2.1) from hwk.1]
              refine jr_iconst (v := (1 : Int32)) hE dX11_key_54 (by decide) ?_
              refine jr_iadd (z := nI (s.2.2.1 + 1)) hE dX11_key_55 (nI_add _ 1) ?_
              refine jr_put (ty := .int) hE dX11_key_56 f60 W8.o0 rfl (by decide +kernel) rfl rfl (Nat.le_of_ble_eq_true rfl) (fun F12 h12 u12 => ?_)
              obtain ⟨W12, P12⟩ := W8.setV0 (v1 := (uz v 1 (nI (s.2.2.1 + 1)))) h12 (fun z hz => uz_n _ _ (jne hz 1 rfl)) u12
              have O12 := O8.tr P12
              obtain ⟨v12, ev12, hv12, yv12⟩ := uz_ab v 1 (nI (s.2.2.1 + 1))
              rw [ev12] at W12
              have nv12 : ∀ z, z ≠ 1 → v12 z = v z := fun z hz => hv12 z (fun e => hz (List.mem_singleton.mp e))
              refine jr_aload_n hE dX11_key_59 0 rfl ?_
              refine jr_get hE dX11_key_60 f37 W12.o0 rfl ?_
              refine jr_kVv (ci := 10) (n := 0) (As := []) (rest := []) hE dX11_key_63 (fun l => c_s_findOwn l G c B S8 P q X v12 ) gX11_key_X10_findOwn rfl W12.o6 rfl (by decide +kernel) ⟨rfl, rfl, by decide, by decide⟩ (by decide) rfl rfl (Nat.le_of_ble_eq_true rfl) (⟨W12, hG, (by rw [show S8 0 = d from hS0]; exact hdN)⟩) (fun F13 q14 => ?_)
              obtain ⟨B15, Pf15, W15, hB15, hPf15, f15_0, P15⟩ := q14
              have O15 := O12.tr P15
              refine jr_aload_n hE dX11_key_66 0 rfl ?_
              refine jr_get hE dX11_key_67 f18 W15.o0 rfl ?_
              refine jr_kVv (ci := 0) (n := 0) (As := []) (rest := []) hE dX11_key_70 (fun l => c_X0_empty l G (c (270 + 2 * 16)) (c (271 + 2 * 16)) (bcap 16) (B15 16)) gX11_key_X0_empty rfl ((W15.by 16 (by decide)).ob) rfl (by decide +kernel) ⟨rfl, rfl, by decide, by decide⟩ (by decide) rfl rfl (Nat.le_of_ble_eq_true rfl) (W15.by 16 (by decide)) (fun F16 q17 => ?_)
              obtain ⟨h18, u18⟩ := q17
              obtain ⟨W18, P18⟩ := W15.setBo (i := 16) (bs := []) (by decide) h18 u18
              have O18 := O15.tr P18
              obtain ⟨B18, eB18, hB18, yB18⟩ := uz_ab B15 16 ([])
              rw [eB18] at W18
              have nB18 : ∀ z, z ≠ 16 → B18 z = B15 z := fun z hz => hB18 z (fun e => hz (List.mem_singleton.mp e))
              refine jr_aload_n hE dX11_key_73 0 rfl ?_
              refine jr_get hE dX11_key_74 f18 W18.o0 rfl ?_
              refine jr_aload_n hE dX11_key_77 0 rfl ?_
              refine jr_get hE dX11_key_78 f37 W18.o0 rfl ?_
              refine jr_get hE dX11_key_81 f122 W18.o6 rfl ?_
              refine jr_iconst (v := (1 : Int32)) hE dX11_key_84 (by decide) ?_
              refine jr_iload_n hE dX11_key_85 3 rfl ?_
              refine jr_isub (z := nI 1) hE dX11_key_86 (by decide) ?_
              refine jr_bipush (v := (32 : Int32)) hE dX11_key_87 (by decide) ?_
              refine jr_iload_n hE dX11_key_89 3 rfl ?_
              refine jr_iadd (z := nI 32) hE dX11_key_90 (by decide) ?_
              have hB19 : B18 18 = (pbE (emul PP d GE)) := (nB18 18 (by decide)).trans (by have q := f15_0; rw [show S8 0 = d from hS0] at q; exact q)
              refine jr_kVv (ci := 0) (n := 3) (As := [.ref (c (270 + 2 * 18)), .int (nI 1), .int (nI 32)]) (rest := []) hE dX11_key_91 (fun l => c_X0_addPart l G (c (270 + 2 * 16)) (c (271 + 2 * 16)) (bcap 16) (c (270 + 2 * 18)) (c (271 + 2 * 18)) (bcap 18) 1 32 ([]) (pbE (emul PP d GE))) gX11_key_X0_addPart rfl ((W18.by 16 (by decide)).ob) rfl (by decide +kernel) ⟨rfl, rfl, by decide, by decide⟩ (by decide) rfl rfl (Nat.le_of_ble_eq_true rfl) (⟨(by have q := W18.by 16 (by decide); rw [show B18 16 = [] from yB18] at q; exact q), (by have q := W18.by 18 (by decide); rw [show B18 18 = (pbE (emul PP d GE)) from hB19] at q; exact q), cnd W18.1 [270 + 2 * 16, 271 + 2 * 16, 270 + 2 * 18, 271 + 2 * 18] (by decide) (by decide), by rw [bcr (by decide)]; decide, by rw [pbE_len]; decide⟩) (fun F20 q21 => ?_)
              rw [List.nil_append] at q21
              obtain ⟨h22, u22⟩ := q21
              obtain ⟨W22, P22⟩ := W18.setB (i := 16) (bs := (((pbE (emul PP d GE)).drop 1).take 32)) (by decide) h22 u22
              have O22 := O18.tr P22
              obtain ⟨B22, eB22, hB22, yB22⟩ := uz_ab B18 16 (((pbE (emul PP d GE)).drop 1).take 32)
              rw [eB22] at W22
              have nB22 : ∀ z, z ≠ 16 → B22 z = B18 z := fun z hz => hB22 z (fun e => hz (List.mem_singleton.mp e))
              refine jr_aload_n hE dX11_key_94 0 rfl ?_
              refine jr_iload_n hE dX11_key_95 1 rfl ?_
              have hJ := hI.upd (k := s.2.2.1 + 1) W22 (fun z hz => ((nB22 z (by simp only [List.mem_cons, List.not_mem_nil, or_false, not_or] at hz; omega)).trans ((nB18 z (by simp only [List.mem_cons, List.not_mem_nil, or_false, not_or] at hz; omega)).trans (hB15 z (by simp only [List.mem_cons, List.not_mem_nil, or_false, not_or] at hz ⊢; omega))))) (fun z hz => (hS8 z (by simp only [List.mem_cons, List.not_mem_nil, or_false, not_or] at hz ⊢; omega))) (fun z hz => (hPf15 z (by simp only [List.mem_cons, List.not_mem_nil, or_false, not_or] at hz ⊢; omega))) (fun z hz => (nv12 z hz)) yv12 (by omega)
              refine jr_kVi (ci := 11) (n := 1) (As := [.int (nI k)]) (rest := []) hE dX11_key_96 (fun l => c_c_answerIn l G c B22 S8 Pf15 q X v12 k) gX11_key_X11_answerIn rfl W22.o0 rfl (by decide +kernel) ⟨rfl, rfl, by decide, by decide⟩ (by decide) rfl rfl (Nat.le_of_ble_eq_true rfl) (⟨W22, hk⟩) (fun r25 F23 q24 => ?_)
              obtain ⟨B26, W26, hB26, f26_0, r25e, P26⟩ := q24
              subst r25e
              have O26 := O22.tr P26
              have hL : ((pbE (emul PP d GE)).drop 1).take 32 = (pbE (emul PP d GE)).drop 1 := dt1 (by rw [pbE_len])
              have e : stKey s (nI k) (nI p1) (0 : Int32) = (32, setK (setR s k ((pbE (emul PP d GE)).drop 1)) (s.2.2.1 + 1)) := by
                unfold stKey
                rw [if_pos ⟨nI_rowP hk, nI_rowP hp1, hf⟩, hrnp1, hrnk, if_pos hs, if_neg hw48, if_pos rfl, ← hd]
              rw [← hL] at e
              exact hR F23 _ _ _ dX11_key_99 rfl ⟨_, _, _, _, _, _, by rw [e]; exact hJ.row W26 hk (fun z hz => hB26 z (fun q => hz (List.mem_singleton.mp q))) (f26_0.trans yB22), by rw [e, show B22 16 = (((pbE (emul PP d GE)).drop 1).take 32) from yB22, hL, List.length_drop, pbE_len]; rfl, O26⟩
            · have hz9 := 0
              refine jr_aload_n hE dX11_key_49 0 rfl ?_
              refine jr_dup hE dX11_key_50 rfl ?_
              refine jr_get hE dX11_key_51 f60 W8.o0 rfl ?_
              rw [show v 1 = (nI s.2.2.1) from hwk.1]
              refine jr_iconst (v := (1 : Int32)) hE dX11_key_54 (by decide) ?_
              refine jr_iadd (z := nI (s.2.2.1 + 1)) hE dX11_key_55 (nI_add _ 1) ?_
              refine jr_put (ty := .int) hE dX11_key_56 f60 W8.o0 rfl (by decide +kernel) rfl rfl (Nat.le_of_ble_eq_true rfl) (fun F27 h27 u27 => ?_)
              obtain ⟨W27, P27⟩ := W8.setV0 (v1 := (uz v 1 (nI (s.2.2.1 + 1)))) h27 (fun z hz => uz_n _ _ (jne hz 1 rfl)) u27
              have O27 := O8.tr P27
              obtain ⟨v27, ev27, hv27, yv27⟩ := uz_ab v 1 (nI (s.2.2.1 + 1))
              rw [ev27] at W27
              have nv27 : ∀ z, z ≠ 1 → v27 z = v z := fun z hz => hv27 z (fun e => hz (List.mem_singleton.mp e))
              refine jr_aload_n hE dX11_key_59 0 rfl ?_
              refine jr_get hE dX11_key_60 f37 W27.o0 rfl ?_
              refine jr_kVv (ci := 10) (n := 0) (As := []) (rest := []) hE dX11_key_63 (fun l => c_s_findOwn l G c B S8 P q X v27 ) gX11_key_X10_findOwn rfl W27.o6 rfl (by decide +kernel) ⟨rfl, rfl, by decide, by decide⟩ (by decide) rfl rfl (Nat.le_of_ble_eq_true rfl) (⟨W27, hG, (by rw [show S8 0 = d from hS0]; exact hdN)⟩) (fun F28 q29 => ?_)
              obtain ⟨B30, Pf30, W30, hB30, hPf30, f30_0, P30⟩ := q29
              have O30 := O27.tr P30
              refine jr_aload_n hE dX11_key_66 0 rfl ?_
              refine jr_get hE dX11_key_67 f18 W30.o0 rfl ?_
              refine jr_kVv (ci := 0) (n := 0) (As := []) (rest := []) hE dX11_key_70 (fun l => c_X0_empty l G (c (270 + 2 * 16)) (c (271 + 2 * 16)) (bcap 16) (B30 16)) gX11_key_X0_empty rfl ((W30.by 16 (by decide)).ob) rfl (by decide +kernel) ⟨rfl, rfl, by decide, by decide⟩ (by decide) rfl rfl (Nat.le_of_ble_eq_true rfl) (W30.by 16 (by decide)) (fun F31 q32 => ?_)
              obtain ⟨h33, u33⟩ := q32
              obtain ⟨W33, P33⟩ := W30.setBo (i := 16) (bs := []) (by decide) h33 u33
              have O33 := O30.tr P33
              obtain ⟨B33, eB33, hB33, yB33⟩ := uz_ab B30 16 ([])
              rw [eB33] at W33
              have nB33 : ∀ z, z ≠ 16 → B33 z = B30 z := fun z hz => hB33 z (fun e => hz (List.mem_singleton.mp e))
              refine jr_aload_n hE dX11_key_73 0 rfl ?_
              refine jr_get hE dX11_key_74 f18 W33.o0 rfl ?_
              refine jr_aload_n hE dX11_key_77 0 rfl ?_
              refine jr_get hE dX11_key_78 f37 W33.o0 rfl ?_
              refine jr_get hE dX11_key_81 f122 W33.o6 rfl ?_
              refine jr_iconst (v := (1 : Int32)) hE dX11_key_84 (by decide) ?_
              refine jr_iload_n hE dX11_key_85 3 rfl ?_
              refine jr_isub (z := nI 0) hE dX11_key_86 (by decide) ?_
              refine jr_bipush (v := (32 : Int32)) hE dX11_key_87 (by decide) ?_
              refine jr_iload_n hE dX11_key_89 3 rfl ?_
              refine jr_iadd (z := nI 33) hE dX11_key_90 (by decide) ?_
              have hB34 : B33 18 = (pbE (emul PP d GE)) := (nB33 18 (by decide)).trans (by have q := f30_0; rw [show S8 0 = d from hS0] at q; exact q)
              refine jr_kVv (ci := 0) (n := 3) (As := [.ref (c (270 + 2 * 18)), .int (nI 0), .int (nI 33)]) (rest := []) hE dX11_key_91 (fun l => c_X0_addPart l G (c (270 + 2 * 16)) (c (271 + 2 * 16)) (bcap 16) (c (270 + 2 * 18)) (c (271 + 2 * 18)) (bcap 18) 0 33 ([]) (pbE (emul PP d GE))) gX11_key_X0_addPart rfl ((W33.by 16 (by decide)).ob) rfl (by decide +kernel) ⟨rfl, rfl, by decide, by decide⟩ (by decide) rfl rfl (Nat.le_of_ble_eq_true rfl) (⟨(by have q := W33.by 16 (by decide); rw [show B33 16 = [] from yB33] at q; exact q), (by have q := W33.by 18 (by decide); rw [show B33 18 = (pbE (emul PP d GE)) from hB34] at q; exact q), cnd W33.1 [270 + 2 * 16, 271 + 2 * 16, 270 + 2 * 18, 271 + 2 * 18] (by decide) (by decide), by rw [bcr (by decide)]; decide, by rw [pbE_len]; decide⟩) (fun F35 q36 => ?_)
              rw [List.nil_append] at q36
              obtain ⟨h37, u37⟩ := q36
              obtain ⟨W37, P37⟩ := W33.setB (i := 16) (bs := (((pbE (emul PP d GE)).drop 0).take 33)) (by decide) h37 u37
              have O37 := O33.tr P37
              obtain ⟨B37, eB37, hB37, yB37⟩ := uz_ab B33 16 (((pbE (emul PP d GE)).drop 0).take 33)
              rw [eB37] at W37
              have nB37 : ∀ z, z ≠ 16 → B37 z = B33 z := fun z hz => hB37 z (fun e => hz (List.mem_singleton.mp e))
              refine jr_aload_n hE dX11_key_94 0 rfl ?_
              refine jr_iload_n hE dX11_key_95 1 rfl ?_
              have hJ := hI.upd (k := s.2.2.1 + 1) W37 (fun z hz => ((nB37 z (by simp only [List.mem_cons, List.not_mem_nil, or_false, not_or] at hz; omega)).trans ((nB33 z (by simp only [List.mem_cons, List.not_mem_nil, or_false, not_or] at hz; omega)).trans (hB30 z (by simp only [List.mem_cons, List.not_mem_nil, or_false, not_or] at hz ⊢; omega))))) (fun z hz => (hS8 z (by simp only [List.mem_cons, List.not_mem_nil, or_false, not_or] at hz ⊢; omega))) (fun z hz => (hPf30 z (by simp only [List.mem_cons, List.not_mem_nil, or_false, not_or] at hz ⊢; omega))) (fun z hz => (nv27 z hz)) yv27 (by omega)
              refine jr_kVi (ci := 11) (n := 1) (As := [.int (nI k)]) (rest := []) hE dX11_key_96 (fun l => c_c_answerIn l G c B37 S8 Pf30 q X v27 k) gX11_key_X11_answerIn rfl W37.o0 rfl (by decide +kernel) ⟨rfl, rfl, by decide, by decide⟩ (by decide) rfl rfl (Nat.le_of_ble_eq_true rfl) (⟨W37, hk⟩) (fun r40 F38 q39 => ?_)
              obtain ⟨B41, W41, hB41, f41_0, r40e, P41⟩ := q39
              subst r40e
              have O41 := O37.tr P41
              have hL : ((pbE (emul PP d GE)).drop 0).take 33 = pbE (emul PP d GE) := dt0 (pbE_len _)
              have e : stKey s (nI k) (nI p1) (1 : Int32) = (33, setK (setR s k (pbE (emul PP d GE))) (s.2.2.1 + 1)) := by
                unfold stKey
                rw [if_pos ⟨nI_rowP hk, nI_rowP hp1, hf⟩, hrnp1, hrnk, if_pos hs, if_neg hw48, if_neg (by decide), ← hd]
              rw [← hL] at e
              exact hR F38 _ _ _ dX11_key_99 rfl ⟨_, _, _, _, _, _, by rw [e]; exact hJ.row W41 hk (fun z hz => hB41 z (fun q => hz (List.mem_singleton.mp q))) (f41_0.trans yB37), by rw [e, show B37 16 = (((pbE (emul PP d GE)).drop 0).take 33) from yB37, hL, pbE_len]; rfl, O41⟩
          · refine jr_bipush (v := (-5 : Int32)) hE dX11_key_46 (by decide) ?_
            have e : stKey s (nI k) (nI p1) f = (-5, s) := by
              unfold stKey
              rw [if_pos ⟨nI_rowP hk, nI_rowP hp1, hf⟩, hrnp1, if_pos hs, if_pos (b2i_1 (p := 48 < s.2.2.1 + 1) c43)]
            exact hR F5 _ _ _ dX11_key_48 rfl ⟨_, _, _, _, _, _, by rw [e]; exact hI.upd (k := s.2.2.1) W8 (fun z hz => rfl) (fun z hz => (hS8 z (by simp only [List.mem_cons, List.not_mem_nil, or_false, not_or] at hz ⊢; omega))) (fun z hz => rfl) (fun z hz => rfl) hwk.1 (hwk.2), by rw [e], O8⟩
        · refine jr_bipush (v := (-2 : Int32)) hE dX11_key_35 (by decide) ?_
          have e : stKey s (nI k) (nI p1) f = (-2, s) := by
            unfold stKey
            rw [if_pos ⟨nI_rowP hk, nI_rowP hp1, hf⟩, hrnp1, if_neg (fun h => absurd (b2i_t (p := secOK (B p1)) (by rw [show B p1 = s.1 p1 from (hRw p1 hp1)]; exact h)) (by rw [c32]; decide))]
          exact hR F5 _ _ _ dX11_key_37 rfl ⟨_, _, _, _, _, _, by rw [e]; exact hI.upd (k := s.2.2.1) W8 (fun z hz => rfl) (fun z hz => (hS8 z (by simp only [List.mem_cons, List.not_mem_nil, or_false, not_or] at hz ⊢; omega))) (fun z hz => rfl) (fun z hz => rfl) hwk.1 (hwk.2), by rw [e], O8⟩
      · refine jr_iconst (v := (-1 : Int32)) hE dX11_key_17 (by decide) ?_
        have e : stKey s (nI k) (nI p1) f = (-1, s) := by
          unfold stKey
          rw [if_neg (fun h => c14 ((i32_le (m := 1) (by decide)).mpr h.2.2.2))]
        exact hR F _ _ _ dX11_key_18 rfl ⟨B, S, P, q, X, v, by rw [e]; exact hI, by rw [e], cO.rf c F⟩

theorem sgL_len (d : Nat) (m f : List Nat) : (sgL d m f).length = 64 := by
  unfold sgL
  simp only [List.length_append, bex_len]
set_option maxHeartbeats 4000000 in
set_option maxRecDepth 100000 in
theorem c_c_sign (l : Launch) (G : Nat → ClassId) (c : Nat → Nat) (B : Nat → List Nat) (S : Nat → Nat) (P : Nat → JP) (q : SS) (X : Nat) (v : Nat → Int32) (s : ST) (r p m t : Int32) : jKi l yX11_sign wsX11_sign ({ frames := 7, cells := 0, slots := 0, locals := 170 }) G [.ref (c 0), .int r, .int p, .int m, .int t] (fun L F => cI G L F c B S P q X v s) (fun L F ans F1 => ∃ B1 S1 P1 q1 X1 v1, cI G L F1 c B1 S1 P1 q1 X1 v1 (stSign s r p m t).2 ∧ ans = (stSign s r p m t).1 ∧ cO c F F1) := by
  refine jm_ki (cc := cX11_sign) (maxL := 5) (rt := .int) (by decide) rfl (Nat.le_of_ble_eq_true rfl) ?_
  intro E L F hE hR hpre
  have hE : jOk E G _ cX11_sign 5 RX11 wsX11_sign := hE
  have hI := hpre
  obtain ⟨W0, hG, hRw, h0, hen, hwk, h2, hsg, hnc, htd, hse⟩ := id hpre
  have hwk48 := hwk.2
  have hs4 := hsg.1
  have hen4 := hen.1
  have f37 : jFl RX11 wsX11_sign 37 11 3 := ⟨rfl, by decide, by decide +kernel, by decide +kernel⟩
  have f11 : jFl RX11 wsX11_sign 11 11 0 := ⟨rfl, by decide, by decide +kernel, by decide +kernel⟩
  have f68 : jFl RX11 wsX11_sign 68 0 1 := ⟨rfl, by decide, by decide +kernel, by decide +kernel⟩
  have f60 : jFl RX11 wsX11_sign 60 11 7 := ⟨rfl, by decide, by decide +kernel, by decide +kernel⟩
  have f18 : jFl RX11 wsX11_sign 18 11 1 := ⟨rfl, by decide, by decide +kernel, by decide +kernel⟩
  refine jr_iload_n hE dX11_sign_0 1 rfl ?_
  refine jr_iload_n hE dX11_sign_1 2 rfl ?_
  refine jr_kSi (n := 2) (As := [.int r, .int p]) (rest := []) hE dX11_sign_2 (fun l => c_c_areRows l G r p) gX11_sign_X11_areRows rfl (by decide +kernel) ⟨rfl, rfl, by decide, by decide⟩ (by decide) rfl rfl (Nat.le_of_ble_eq_true rfl) (trivial) (fun r3 F1 q2 => ?_)
  obtain ⟨eq2, rq2⟩ := q2
  subst eq2 rq2
  refine jr_if_eq (tgt := 17) hE dX11_sign_5 (by decide) (fun c5 => ?_) (fun c5 => ?_)
  · refine jr_iconst (v := (-1 : Int32)) hE dX11_sign_17 (by decide) ?_
    have e : stSign s r p m t = (-1, s) := by
      unfold stSign
      rw [if_neg (fun h => absurd (b2i_t (p := rowP r ∧ rowP p) ⟨h.1, h.2.1⟩) (by rw [c5]; decide))]
    exact hR F _ _ _ dX11_sign_18 rfl ⟨B, S, P, q, X, v, by rw [e]; exact hI, by rw [e], cO.rf c F⟩
  · have hrr := b2i_1 c5
    have hrk : rowP r := hrr.1
    obtain ⟨k, hk, rfl⟩ := rowP_nI hrk
    have hrnk := nI_rn hk
    have hlk : (s.1 k).length ≤ 100 := by rw [← hRw k hk]; have q := W0.cp k (by omega); rw [bcr (by omega)] at q; exact q
    have hrp1 : rowP p := hrr.2
    obtain ⟨p1, hp1, rfl⟩ := rowP_nI hrp1
    have hrnp1 := nI_rn hp1
    have hlp1 : (s.1 p1).length ≤ 100 := by rw [← hRw p1 hp1]; have q := W0.cp p1 (by omega); rw [bcr (by omega)] at q; exact q
    refine jr_iload_n hE dX11_sign_8 3 rfl ?_
    refine jr_iload hE dX11_sign_9 4 rfl ?_
    refine jr_kSi (n := 2) (As := [.int m, .int t]) (rest := []) hE dX11_sign_11 (fun l => c_c_areRows l G m t) gX11_sign_X11_areRows rfl (by decide +kernel) ⟨rfl, rfl, by decide, by decide⟩ (by decide) rfl rfl (Nat.le_of_ble_eq_true rfl) (trivial) (fun r6 F4 q5 => ?_)
    obtain ⟨eq5, rq5⟩ := q5
    subst eq5 rq5
    refine jr_if_ne (tgt := 19) hE dX11_sign_14 (by decide) (fun c14 => ?_) (fun c14 => ?_)
    · have hrs := b2i_1 c14
      have hrb : rowP m := hrs.1
      obtain ⟨b, hb, rfl⟩ := rowP_nI hrb
      have hrnb := nI_rn hb
      have hlb : (s.1 b).length ≤ 100 := by rw [← hRw b hb]; have q := W0.cp b (by omega); rw [bcr (by omega)] at q; exact q
      have hrj : rowP t := hrs.2
      obtain ⟨j, hj, rfl⟩ := rowP_nI hrj
      have hrnj := nI_rn hj
      have hlj : (s.1 j).length ≤ 100 := by rw [← hRw j hj]; have q := W0.cp j (by omega); rw [bcr (by omega)] at q; exact q
      refine jr_aload_n hE dX11_sign_19 0 rfl ?_
      refine jr_get hE dX11_sign_20 f37 W0.o0 rfl ?_
      refine jr_aload_n hE dX11_sign_23 0 rfl ?_
      refine jr_get hE dX11_sign_24 f11 W0.o0 rfl ?_
      refine jr_iload_n hE dX11_sign_27 2 rfl ?_
      obtain ⟨f7, ja7, ga7⟩ := W0.aR
      refine jr_aald (v := c (270 + 2 * p1)) hE dX11_sign_28 ja7 rfl (vp_in_nI (n := p1) (by omega) (by decide)) (by rw [nI_clamp (by omega)]; exact ga7 p1 (by omega)) ?_
      refine jr_kVi (ci := 10) (n := 1) (As := [.ref (c (270 + 2 * p1))]) (rest := []) hE dX11_sign_29 (fun l => c_s_takeSecret l G c B S P q X v p1) gX11_sign_X10_takeSecret rfl W0.o6 rfl (by decide +kernel) ⟨rfl, rfl, by decide, by decide⟩ (by decide) rfl rfl (Nat.le_of_ble_eq_true rfl) (⟨W0, by omega⟩) (fun r10 F8 q9 => ?_)
      obtain ⟨S11, W11, hS11, f11_0, r10e, P11⟩ := q9
      subst r10e
      have O11 := (cO.rf c F).tr P11
      refine jr_if_eq (tgt := 50) hE dX11_sign_32 (by decide) (fun c32 => ?_) (fun c32 => ?_)
      · refine jr_bipush (v := (-2 : Int32)) hE dX11_sign_50 (by decide) ?_
        have e : stSign s (nI k) (nI p1) (nI b) (nI j) = (-2, s) := by
          unfold stSign
          rw [if_pos ⟨nI_rowP hk, nI_rowP hp1, nI_rowP hb, nI_rowP hj⟩, hrnp1, hrnj, if_neg (fun h => (fun h => absurd (b2i_t (p := secOK (B p1)) (by rw [show B p1 = s.1 p1 from (hRw p1 hp1)]; exact h)) (by rw [c32]; decide)) h.1)]
        exact hR F8 _ _ _ dX11_sign_52 rfl ⟨_, _, _, _, _, _, by rw [e]; exact hI.upd (k := s.2.2.1) W11 (fun z hz => rfl) (fun z hz => (hS11 z (by simp only [List.mem_cons, List.not_mem_nil, or_false, not_or] at hz ⊢; omega))) (fun z hz => rfl) (fun z hz => rfl) hwk.1 (hwk.2), by rw [e], O11⟩
      · have hs : secOK (s.1 p1) := by have q := b2i_1 c32; rw [show B p1 = s.1 p1 from (hRw p1 hp1)] at q; exact q
        obtain ⟨d, hd⟩ : ∃ d, d = bnum (s.1 p1) := ⟨_, rfl⟩
        have hS0 : S11 0 = d := by have q := f11_0; rw [show B p1 = s.1 p1 from (hRw p1 hp1)] at q; rw [hd]; exact q hs.1
        have hd0 : d ≠ 0 := by rw [hd]; exact hs.2.1
        have hdN : d < NN := by rw [hd]; exact hs.2.2
        refine jr_aload_n hE dX11_sign_35 0 rfl ?_
        refine jr_get hE dX11_sign_36 f11 W11.o0 rfl ?_
        refine jr_iload hE dX11_sign_39 4 rfl ?_
        obtain ⟨f12, ja12, ga12⟩ := W11.aR
        refine jr_aald (v := c (270 + 2 * j)) hE dX11_sign_41 ja12 rfl (vp_in_nI (n := j) (by omega) (by decide)) (by rw [nI_clamp (by omega)]; exact ga12 j (by omega)) ?_
        refine jr_get hE dX11_sign_42 f68 (W11.by j (by omega)).ob rfl ?_
        rw [show B j = (s.1 j) from (hRw j hj)]
        refine jr_bipush (v := (32 : Int32)) hE dX11_sign_45 (by decide) ?_
        refine jr_icmp_eq (tgt := 53) hE dX11_sign_47 (by decide) (fun c47 => ?_) (fun c47 => ?_)
        · have hlen : (s.1 j).length = 32 := (nI_eq (by omega) (by decide)).mp c47
          refine jr_aload_n hE dX11_sign_53 0 rfl ?_
          refine jr_iconst (v := (2 : Int32)) hE dX11_sign_54 (by decide) ?_
          refine jr_kVi (ci := 11) (n := 1) (As := [.int (2 : Int32)]) (rest := []) hE dX11_sign_55 (fun l => c_c_wouldPass l G c B S11 P q X v s.2.2.1 2) gX11_sign_X11_wouldPass rfl W11.o0 rfl (by decide +kernel) ⟨rfl, rfl, by decide, by decide⟩ (by decide) rfl rfl (Nat.le_of_ble_eq_true rfl) (⟨W11, hwk.1, by omega, by omega⟩) (fun r15 F13 q14 => ?_)
          obtain ⟨eq14, rq14⟩ := q14
          subst eq14 rq14
          refine jr_if_eq (tgt := 64) hE dX11_sign_58 (by decide) (fun c58 => ?_) (fun c58 => ?_)
          · have hw48 : ¬ 48 < s.2.2.1 + 2 := fun h => absurd (b2i_t h) (by rw [c58]; decide)
            refine jr_aload_n hE dX11_sign_64 0 rfl ?_
            refine jr_dup hE dX11_sign_65 rfl ?_
            refine jr_get hE dX11_sign_66 f60 W11.o0 rfl ?_
            rw [show v 1 = (nI s.2.2.1) from hwk.1]
            refine jr_iconst (v := (2 : Int32)) hE dX11_sign_69 (by decide) ?_
            refine jr_iadd (z := nI (s.2.2.1 + 2)) hE dX11_sign_70 (nI_add _ 2) ?_
            refine jr_put (ty := .int) hE dX11_sign_71 f60 W11.o0 rfl (by decide +kernel) rfl rfl (Nat.le_of_ble_eq_true rfl) (fun F16 h16 u16 => ?_)
            obtain ⟨W16, P16⟩ := W11.setV0 (v1 := (uz v 1 (nI (s.2.2.1 + 2)))) h16 (fun z hz => uz_n _ _ (jne hz 1 rfl)) u16
            have O16 := O11.tr P16
            obtain ⟨v16, ev16, hv16, yv16⟩ := uz_ab v 1 (nI (s.2.2.1 + 2))
            rw [ev16] at W16
            have nv16 : ∀ z, z ≠ 1 → v16 z = v z := fun z hz => hv16 z (fun e => hz (List.mem_singleton.mp e))
            refine jr_aload_n hE dX11_sign_74 0 rfl ?_
            refine jr_get hE dX11_sign_75 f37 W16.o0 rfl ?_
            refine jr_kVv (ci := 10) (n := 0) (As := []) (rest := []) hE dX11_sign_78 (fun l => c_s_findOwn l G c B S11 P q X v16 ) gX11_sign_X10_findOwn rfl W16.o6 rfl (by decide +kernel) ⟨rfl, rfl, by decide, by decide⟩ (by decide) rfl rfl (Nat.le_of_ble_eq_true rfl) (⟨W16, hG, (by rw [show S11 0 = d from hS0]; exact hdN)⟩) (fun F17 q18 => ?_)
            obtain ⟨B19, Pf19, W19, hB19, hPf19, f19_0, P19⟩ := q18
            have O19 := O16.tr P19
            refine jr_aload_n hE dX11_sign_81 0 rfl ?_
            refine jr_get hE dX11_sign_82 f37 W19.o0 rfl ?_
            refine jr_aload_n hE dX11_sign_85 0 rfl ?_
            refine jr_get hE dX11_sign_86 f11 W19.o0 rfl ?_
            refine jr_iload_n hE dX11_sign_89 3 rfl ?_
            obtain ⟨f20, ja20, ga20⟩ := W19.aR
            refine jr_aald (v := c (270 + 2 * b)) hE dX11_sign_90 ja20 rfl (vp_in_nI (n := b) (by omega) (by decide)) (by rw [nI_clamp (by omega)]; exact ga20 b (by omega)) ?_
            refine jr_aload_n hE dX11_sign_91 0 rfl ?_
            refine jr_get hE dX11_sign_92 f11 W19.o0 rfl ?_
            refine jr_iload hE dX11_sign_95 4 rfl ?_
            obtain ⟨f21, ja21, ga21⟩ := W19.aR
            refine jr_aald (v := c (270 + 2 * j)) hE dX11_sign_97 ja21 rfl (vp_in_nI (n := j) (by omega) (by decide)) (by rw [nI_clamp (by omega)]; exact ga21 j (by omega)) ?_
            have hB22 : B19 b = (s.1 b) := (hB19 b (by simp only [List.mem_cons, List.not_mem_nil, or_false, not_or]; omega)).trans (hRw b hb)
            have hB23 : B19 j = (s.1 j) := (hB19 j (by simp only [List.mem_cons, List.not_mem_nil, or_false, not_or]; omega)).trans (hRw j hj)
            refine jr_kVi (ci := 10) (n := 2) (As := [.ref (c (270 + 2 * b)), .ref (c (270 + 2 * j))]) (rest := []) hE dX11_sign_98 (fun l => c_s_drawNonce l G c B19 S11 Pf19 q X v16 b j) gX11_sign_X10_drawNonce rfl W19.o6 rfl (by decide +kernel) ⟨rfl, rfl, by decide, by decide⟩ (by decide) rfl rfl (Nat.le_of_ble_eq_true rfl) (⟨W19, by omega, by omega, (by rw [show B19 b = s.1 b from hB22]; exact hlb), (by rw [show B19 j = s.1 j from hB23]; exact hlj), (by rw [show S11 0 = d from hS0]; exact (by have q := f19_0; rw [show S11 0 = d from hS0] at q; exact q)), (by rw [show S11 0 = d from hS0]; exact emulG_ne hd0 hdN), (by rw [show S11 0 = d from hS0]; exact hdN)⟩) (fun r26 F24 q25 => ?_)
            obtain ⟨B27, S27, q27, W27, hB27, hS27, f27_0, f27_1, r26e, P27⟩ := q25
            subst r26e
            have O27 := O19.tr P27
            refine jr_if_ne (tgt := 107) hE dX11_sign_101 (by decide) (fun c101 => ?_) (fun c101 => ?_)
            · have hK0 : (sgK d (s.1 b) (s.1 j)) ≠ 0 := by have q := b2i_1 c101; rw [show S11 0 = d from hS0, show B19 b = s.1 b from hB22, show B19 j = s.1 j from hB23] at q; exact q
              refine jr_aload_n hE dX11_sign_107 0 rfl ?_
              refine jr_get hE dX11_sign_108 f37 W27.o0 rfl ?_
              refine jr_aload_n hE dX11_sign_111 0 rfl ?_
              refine jr_get hE dX11_sign_112 f11 W27.o0 rfl ?_
              refine jr_iload_n hE dX11_sign_115 3 rfl ?_
              obtain ⟨f28, ja28, ga28⟩ := W27.aR
              refine jr_aald (v := c (270 + 2 * b)) hE dX11_sign_116 ja28 rfl (vp_in_nI (n := b) (by omega) (by decide)) (by rw [nI_clamp (by omega)]; exact ga28 b (by omega)) ?_
              refine jr_aload_n hE dX11_sign_117 0 rfl ?_
              refine jr_get hE dX11_sign_118 f18 W27.o0 rfl ?_
              have hB29 : B27 b = (s.1 b) := (hB27 b (by simp only [List.mem_cons, List.not_mem_nil, or_false, not_or]; omega)).trans hB22
              have hB30 : B27 18 = (pbE (emul PP d GE)) := (hB27 18 (by decide)).trans (by have q := f19_0; rw [show S11 0 = d from hS0] at q; exact q)
              have hp31 : rep (Pf19 16) GE := by rw [show Pf19 16 = P 16 from (hPf19 16 (by decide))]; exact hG
              refine jr_kVv (ci := 10) (n := 2) (As := [.ref (c (270 + 2 * b)), .ref (c (270 + 2 * 16))]) (rest := []) hE dX11_sign_121 (fun l => c_s_makeSignature l G c B27 S27 Pf19 q27 X v16 b d) gX11_sign_X10_makeSignature rfl W27.o6 rfl (by decide +kernel) ⟨rfl, rfl, by decide, by decide⟩ (by decide) rfl rfl (Nat.le_of_ble_eq_true rfl) (⟨W27, by omega, (by rw [show B27 b = s.1 b from hB29]; exact hlb), hB30, emulG_ne hd0 hdN, (by rw [show S27 0 = sgD d from (by have q := f27_0; rw [show S11 0 = d from hS0] at q; exact q)]; exact ngN_lt hdN), (by rw [show S27 1 = (sgK d (s.1 b) (s.1 j)) from (by have q := f27_1; rw [show S11 0 = d from hS0, show B19 b = s.1 b from hB22, show B19 j = s.1 j from hB23] at q; exact q)]; exact Nat.mod_lt _ NN0), (by rw [show S27 1 = (sgK d (s.1 b) (s.1 j)) from (by have q := f27_1; rw [show S11 0 = d from hS0, show B19 b = s.1 b from hB22, show B19 j = s.1 j from hB23] at q; exact q)]; exact emulG_ne hK0 (Nat.mod_lt _ NN0)), hp31⟩) (fun F32 q33 => ?_)
              obtain ⟨B34, S34, Pf34, q34, W34, hB34, hS34, hPf34, f34_0, P34⟩ := q33
              have O34 := O27.tr P34
              refine jr_aload_n hE dX11_sign_124 0 rfl ?_
              refine jr_iload_n hE dX11_sign_125 1 rfl ?_
              have hJ := hI.upd (k := s.2.2.1 + 2) W34 (fun z hz => ((hB34 z (by simp only [List.mem_cons, List.not_mem_nil, or_false, not_or] at hz ⊢; omega)).trans ((hB27 z (by simp only [List.mem_cons, List.not_mem_nil, or_false, not_or] at hz ⊢; omega)).trans (hB19 z (by simp only [List.mem_cons, List.not_mem_nil, or_false, not_or] at hz ⊢; omega))))) (fun z hz => ((hS34 z (by simp only [List.mem_cons, List.not_mem_nil, or_false, not_or] at hz ⊢; omega)).trans ((hS27 z (by simp only [List.mem_cons, List.not_mem_nil, or_false, not_or] at hz ⊢; omega)).trans (hS11 z (by simp only [List.mem_cons, List.not_mem_nil, or_false, not_or] at hz ⊢; omega))))) (fun z hz => ((hPf34 z (by simp only [List.mem_cons, List.not_mem_nil, or_false, not_or] at hz ⊢; omega)).trans (hPf19 z (by simp only [List.mem_cons, List.not_mem_nil, or_false, not_or] at hz ⊢; omega)))) (fun z hz => (nv16 z hz)) yv16 (by omega)
              refine jr_kVi (ci := 11) (n := 1) (As := [.int (nI k)]) (rest := []) hE dX11_sign_126 (fun l => c_c_answerIn l G c B34 S34 Pf34 q34 X v16 k) gX11_sign_X11_answerIn rfl W34.o0 rfl (by decide +kernel) ⟨rfl, rfl, by decide, by decide⟩ (by decide) rfl rfl (Nat.le_of_ble_eq_true rfl) (⟨W34, hk⟩) (fun r37 F35 q36 => ?_)
              obtain ⟨B38, W38, hB38, f38_0, r37e, P38⟩ := q36
              subst r37e
              have O38 := O34.tr P38
              have e : stSign s (nI k) (nI p1) (nI b) (nI j) = (64, setK (setR s k (sgL d (s.1 b) (s.1 j))) (s.2.2.1 + 2)) := by
                unfold stSign
                rw [if_pos ⟨nI_rowP hk, nI_rowP hp1, nI_rowP hb, nI_rowP hj⟩, hrnp1, hrnj, if_pos ⟨hs, hlen⟩, if_neg hw48, hrnb, ← hd, if_neg hK0, hrnk]
              exact hR F35 _ _ _ dX11_sign_129 rfl ⟨_, _, _, _, _, _, by rw [e]; exact hJ.row W38 hk (fun z hz => hB38 z (fun q => hz (List.mem_singleton.mp q))) (f38_0.trans (by have q := f34_0; rw [show S27 0 = sgD d from (by have q := f27_0; rw [show S11 0 = d from hS0] at q; exact q), show S27 1 = (sgK d (s.1 b) (s.1 j)) from (by have q := f27_1; rw [show S11 0 = d from hS0, show B19 b = s.1 b from hB22, show B19 j = s.1 j from hB23] at q; exact q), show B27 b = s.1 b from hB29] at q; exact q)), by rw [e, show B34 16 = (sgL d (s.1 b) (s.1 j)) from (by have q := f34_0; rw [show S27 0 = sgD d from (by have q := f27_0; rw [show S11 0 = d from hS0] at q; exact q), show S27 1 = (sgK d (s.1 b) (s.1 j)) from (by have q := f27_1; rw [show S11 0 = d from hS0, show B19 b = s.1 b from hB22, show B19 j = s.1 j from hB23] at q; exact q), show B27 b = s.1 b from hB29] at q; exact q), sgL_len]; rfl, O38⟩
            · have hK0 : (sgK d (s.1 b) (s.1 j)) = 0 := Classical.byContradiction (fun h => by have q := b2i_0 c101; rw [show S11 0 = d from hS0, show B19 b = s.1 b from hB22, show B19 j = s.1 j from hB23] at q; exact q h)
              refine jr_bipush (v := (-2 : Int32)) hE dX11_sign_104 (by decide) ?_
              have e : stSign s (nI k) (nI p1) (nI b) (nI j) = (-2, setK s (s.2.2.1 + 2)) := by
                unfold stSign
                rw [if_pos ⟨nI_rowP hk, nI_rowP hp1, nI_rowP hb, nI_rowP hj⟩, hrnp1, hrnj, if_pos ⟨hs, hlen⟩, if_neg hw48, hrnb, ← hd, if_pos hK0]
              exact hR F24 _ _ _ dX11_sign_106 rfl ⟨_, _, _, _, _, _, by rw [e]; exact hI.upd (k := s.2.2.1 + 2) W27 (fun z hz => ((hB27 z (by simp only [List.mem_cons, List.not_mem_nil, or_false, not_or] at hz ⊢; omega)).trans (hB19 z (by simp only [List.mem_cons, List.not_mem_nil, or_false, not_or] at hz ⊢; omega)))) (fun z hz => ((hS27 z (by simp only [List.mem_cons, List.not_mem_nil, or_false, not_or] at hz ⊢; omega)).trans (hS11 z (by simp only [List.mem_cons, List.not_mem_nil, or_false, not_or] at hz ⊢; omega)))) (fun z hz => (hPf19 z (by simp only [List.mem_cons, List.not_mem_nil, or_false, not_or] at hz ⊢; omega))) (fun z hz => (nv16 z hz)) yv16 (by omega), by rw [e], O27⟩
          · refine jr_bipush (v := (-5 : Int32)) hE dX11_sign_61 (by decide) ?_
            have e : stSign s (nI k) (nI p1) (nI b) (nI j) = (-5, s) := by
              unfold stSign
              rw [if_pos ⟨nI_rowP hk, nI_rowP hp1, nI_rowP hb, nI_rowP hj⟩, hrnp1, hrnj, if_pos ⟨hs, hlen⟩, if_pos (b2i_1 (p := 48 < s.2.2.1 + 2) c58)]
            exact hR F8 _ _ _ dX11_sign_63 rfl ⟨_, _, _, _, _, _, by rw [e]; exact hI.upd (k := s.2.2.1) W11 (fun z hz => rfl) (fun z hz => (hS11 z (by simp only [List.mem_cons, List.not_mem_nil, or_false, not_or] at hz ⊢; omega))) (fun z hz => rfl) (fun z hz => rfl) hwk.1 (hwk.2), by rw [e], O11⟩
        · refine jr_bipush (v := (-2 : Int32)) hE dX11_sign_50 (by decide) ?_
          have e : stSign s (nI k) (nI p1) (nI b) (nI j) = (-2, s) := by
            unfold stSign
            rw [if_pos ⟨nI_rowP hk, nI_rowP hp1, nI_rowP hb, nI_rowP hj⟩, hrnp1, hrnj, if_neg (fun h => c47 ((nI_eq (by omega) (by decide)).mpr h.2))]
          exact hR F8 _ _ _ dX11_sign_52 rfl ⟨_, _, _, _, _, _, by rw [e]; exact hI.upd (k := s.2.2.1) W11 (fun z hz => rfl) (fun z hz => (hS11 z (by simp only [List.mem_cons, List.not_mem_nil, or_false, not_or] at hz ⊢; omega))) (fun z hz => rfl) (fun z hz => rfl) hwk.1 (hwk.2), by rw [e], O11⟩
    · refine jr_iconst (v := (-1 : Int32)) hE dX11_sign_17 (by decide) ?_
      have e : stSign s (nI k) (nI p1) m t = (-1, s) := by
        unfold stSign
        rw [if_neg (fun h => absurd (b2i_t h.2.2) (by rw [c14]; decide))]
      exact hR F _ _ _ dX11_sign_18 rfl ⟨B, S, P, q, X, v, by rw [e]; exact hI, by rw [e], cO.rf c F⟩

set_option maxHeartbeats 4000000 in
set_option maxRecDepth 100000 in
theorem c_c_holds (l : Launch) (G : Nat → ClassId) (c : Nat → Nat) (B : Nat → List Nat) (S : Nat → Nat) (P : Nat → JP) (q : SS) (X : Nat) (v : Nat → Int32) (s : ST) (r m t : Int32) : jKi l yX11_holds wsX11_holds ({ frames := 7, cells := 0, slots := 0, locals := 171 }) G [.ref (c 0), .int r, .int m, .int t] (fun L F => cI G L F c B S P q X v s) (fun L F ans F1 => ∃ B1 S1 P1 q1 X1 v1, cI G L F1 c B1 S1 P1 q1 X1 v1 (stHolds s r m t).2 ∧ ans = (stHolds s r m t).1 ∧ cO c F F1) := by
  refine jm_ki (cc := cX11_holds) (maxL := 4) (rt := .int) (by decide) rfl (Nat.le_of_ble_eq_true rfl) ?_
  intro E L F hE hR hpre
  have hE : jOk E G _ cX11_holds 4 RX11 wsX11_holds := hE
  have hI := hpre
  obtain ⟨W0, hG, hRw, h0, hen, hwk, h2, hsg, hnc, htd, hse⟩ := id hpre
  have hwk48 := hwk.2
  have hs4 := hsg.1
  have hen4 := hen.1
  have f37 : jFl RX11 wsX11_holds 37 11 3 := ⟨rfl, by decide, by decide +kernel, by decide +kernel⟩
  have f11 : jFl RX11 wsX11_holds 11 11 0 := ⟨rfl, by decide, by decide +kernel, by decide +kernel⟩
  have f60 : jFl RX11 wsX11_holds 60 11 7 := ⟨rfl, by decide, by decide +kernel, by decide +kernel⟩
  refine jr_iload_n hE dX11_holds_0 1 rfl ?_
  refine jr_iload_n hE dX11_holds_1 2 rfl ?_
  refine jr_kSi (n := 2) (As := [.int r, .int m]) (rest := []) hE dX11_holds_2 (fun l => c_c_areRows l G r m) gX11_holds_X11_areRows rfl (by decide +kernel) ⟨rfl, rfl, by decide, by decide⟩ (by decide) rfl rfl (Nat.le_of_ble_eq_true rfl) (trivial) (fun r3 F1 q2 => ?_)
  obtain ⟨eq2, rq2⟩ := q2
  subst eq2 rq2
  refine jr_if_eq (tgt := 15) hE dX11_holds_5 (by decide) (fun c5 => ?_) (fun c5 => ?_)
  · refine jr_iconst (v := (-1 : Int32)) hE dX11_holds_15 (by decide) ?_
    have e : stHolds s r m t = (-1, s) := by
      unfold stHolds
      rw [if_neg (fun h => absurd (b2i_t (p := rowP r ∧ rowP m) ⟨h.1, h.2.1⟩) (by rw [c5]; decide))]
    exact hR F _ _ _ dX11_holds_16 rfl ⟨B, S, P, q, X, v, by rw [e]; exact hI, by rw [e], cO.rf c F⟩
  · have hrr := b2i_1 c5
    have hrk : rowP r := hrr.1
    obtain ⟨k, hk, rfl⟩ := rowP_nI hrk
    have hrnk := nI_rn hk
    have hlk : (s.1 k).length ≤ 100 := by rw [← hRw k hk]; have q := W0.cp k (by omega); rw [bcr (by omega)] at q; exact q
    have hrb : rowP m := hrr.2
    obtain ⟨b, hb, rfl⟩ := rowP_nI hrb
    have hrnb := nI_rn hb
    have hlb : (s.1 b).length ≤ 100 := by rw [← hRw b hb]; have q := W0.cp b (by omega); rw [bcr (by omega)] at q; exact q
    refine jr_iload_n hE dX11_holds_8 3 rfl ?_
    refine jr_kSi (n := 1) (As := [.int t]) (rest := []) hE dX11_holds_9 (fun l => c_c_isRow l G t) gX11_holds_X11_isRow rfl (by decide +kernel) ⟨rfl, rfl, by decide, by decide⟩ (by decide) rfl rfl (Nat.le_of_ble_eq_true rfl) (trivial) (fun r6 F4 q5 => ?_)
    obtain ⟨eq5, rq5⟩ := q5
    subst eq5 rq5
    refine jr_if_ne (tgt := 17) hE dX11_holds_12 (by decide) (fun c12 => ?_) (fun c12 => ?_)
    · have hrj : rowP t := b2i_1 c12
      obtain ⟨j, hj, rfl⟩ := rowP_nI hrj
      have hrnj := nI_rn hj
      have hlj : (s.1 j).length ≤ 100 := by rw [← hRw j hj]; have q := W0.cp j (by omega); rw [bcr (by omega)] at q; exact q
      refine jr_aload_n hE dX11_holds_17 0 rfl ?_
      refine jr_get hE dX11_holds_18 f37 W0.o0 rfl ?_
      refine jr_aload_n hE dX11_holds_21 0 rfl ?_
      refine jr_get hE dX11_holds_22 f11 W0.o0 rfl ?_
      refine jr_iload_n hE dX11_holds_25 1 rfl ?_
      obtain ⟨f7, ja7, ga7⟩ := W0.aR
      refine jr_aald (v := c (270 + 2 * k)) hE dX11_holds_26 ja7 rfl (vp_in_nI (n := k) (by omega) (by decide)) (by rw [nI_clamp (by omega)]; exact ga7 k (by omega)) ?_
      refine jr_aload_n hE dX11_holds_27 0 rfl ?_
      refine jr_get hE dX11_holds_28 f11 W0.o0 rfl ?_
      refine jr_iload_n hE dX11_holds_31 3 rfl ?_
      obtain ⟨f8, ja8, ga8⟩ := W0.aR
      refine jr_aald (v := c (270 + 2 * j)) hE dX11_holds_32 ja8 rfl (vp_in_nI (n := j) (by omega) (by decide)) (by rw [nI_clamp (by omega)]; exact ga8 j (by omega)) ?_
      refine jr_kVi (ci := 10) (n := 2) (As := [.ref (c (270 + 2 * k)), .ref (c (270 + 2 * j))]) (rest := []) hE dX11_holds_33 (fun l => c_s_canJudge l G c B S P q X v k j) gX11_holds_X10_canJudge rfl W0.o6 rfl (by decide +kernel) ⟨rfl, rfl, by decide, by decide⟩ (by decide) rfl rfl (Nat.le_of_ble_eq_true rfl) (⟨W0, hk, hj⟩) (fun r11 F9 q10 => ?_)
      obtain ⟨S12, Pf12, X12, W12, hS12, hPf12, f12_0, r11e, P12⟩ := q10
      subst r11e
      have O12 := (cO.rf c F).tr P12
      refine jr_if_ne (tgt := 41) hE dX11_holds_36 (by decide) (fun c36 => ?_) (fun c36 => ?_)
      · have hok : hoOK (s.1 k) (s.1 j) := by have q := b2i_1 c36; rw [show B k = s.1 k from (hRw k hk), show B j = s.1 j from (hRw j hj)] at q; exact q
        have hcj := f12_0
        rw [show B k = s.1 k from (hRw k hk), show B j = s.1 j from (hRw j hj)] at hcj
        obtain ⟨hj1, hj2, hj3⟩ := hcj hok
        refine jr_aload_n hE dX11_holds_41 0 rfl ?_
        refine jr_iconst (v := (2 : Int32)) hE dX11_holds_42 (by decide) ?_
        refine jr_kVi (ci := 11) (n := 1) (As := [.int (2 : Int32)]) (rest := []) hE dX11_holds_43 (fun l => c_c_wouldPass l G c B S12 Pf12 q X12 v s.2.2.1 2) gX11_holds_X11_wouldPass rfl W12.o0 rfl (by decide +kernel) ⟨rfl, rfl, by decide, by decide⟩ (by decide) rfl rfl (Nat.le_of_ble_eq_true rfl) (⟨W12, hwk.1, by omega, by omega⟩) (fun r15 F13 q14 => ?_)
        obtain ⟨eq14, rq14⟩ := q14
        subst eq14 rq14
        refine jr_if_eq (tgt := 52) hE dX11_holds_46 (by decide) (fun c46 => ?_) (fun c46 => ?_)
        · have hw48 : ¬ 48 < s.2.2.1 + 2 := fun h => absurd (b2i_t h) (by rw [c46]; decide)
          refine jr_aload_n hE dX11_holds_52 0 rfl ?_
          refine jr_dup hE dX11_holds_53 rfl ?_
          refine jr_get hE dX11_holds_54 f60 W12.o0 rfl ?_
          rw [show v 1 = (nI s.2.2.1) from hwk.1]
          refine jr_iconst (v := (2 : Int32)) hE dX11_holds_57 (by decide) ?_
          refine jr_iadd (z := nI (s.2.2.1 + 2)) hE dX11_holds_58 (nI_add _ 2) ?_
          refine jr_put (ty := .int) hE dX11_holds_59 f60 W12.o0 rfl (by decide +kernel) rfl rfl (Nat.le_of_ble_eq_true rfl) (fun F16 h16 u16 => ?_)
          obtain ⟨W16, P16⟩ := W12.setV0 (v1 := (uz v 1 (nI (s.2.2.1 + 2)))) h16 (fun z hz => uz_n _ _ (jne hz 1 rfl)) u16
          have O16 := O12.tr P16
          obtain ⟨v16, ev16, hv16, yv16⟩ := uz_ab v 1 (nI (s.2.2.1 + 2))
          rw [ev16] at W16
          have nv16 : ∀ z, z ≠ 1 → v16 z = v z := fun z hz => hv16 z (fun e => hz (List.mem_singleton.mp e))
          refine jr_aload_n hE dX11_holds_62 0 rfl ?_
          refine jr_get hE dX11_holds_63 f37 W16.o0 rfl ?_
          refine jr_aload_n hE dX11_holds_66 0 rfl ?_
          refine jr_get hE dX11_holds_67 f11 W16.o0 rfl ?_
          refine jr_iload_n hE dX11_holds_70 1 rfl ?_
          obtain ⟨f17, ja17, ga17⟩ := W16.aR
          refine jr_aald (v := c (270 + 2 * k)) hE dX11_holds_71 ja17 rfl (vp_in_nI (n := k) (by omega) (by decide)) (by rw [nI_clamp (by omega)]; exact ga17 k (by omega)) ?_
          refine jr_aload_n hE dX11_holds_72 0 rfl ?_
          refine jr_get hE dX11_holds_73 f11 W16.o0 rfl ?_
          refine jr_iload_n hE dX11_holds_76 2 rfl ?_
          obtain ⟨f18, ja18, ga18⟩ := W16.aR
          refine jr_aald (v := c (270 + 2 * b)) hE dX11_holds_77 ja18 rfl (vp_in_nI (n := b) (by omega) (by decide)) (by rw [nI_clamp (by omega)]; exact ga18 b (by omega)) ?_
          refine jr_aload_n hE dX11_holds_78 0 rfl ?_
          refine jr_get hE dX11_holds_79 f11 W16.o0 rfl ?_
          refine jr_iload_n hE dX11_holds_82 3 rfl ?_
          obtain ⟨f19, ja19, ga19⟩ := W16.aR
          refine jr_aald (v := c (270 + 2 * j)) hE dX11_holds_83 ja19 rfl (vp_in_nI (n := j) (by omega) (by decide)) (by rw [nI_clamp (by omega)]; exact ga19 j (by omega)) ?_
          have hp20 : rep (Pf12 16) GE := by rw [show Pf12 16 = P 16 from (hPf12 16 (by decide))]; exact hG
          have WJ21 : CW G L F16 c B S12 Pf12 q (bnum ((B j).take 32)) v16 := by rw [show B j = s.1 j from (hRw j hj), ← hj2]; exact W16
          refine jr_kVi (ci := 10) (n := 3) (As := [.ref (c (270 + 2 * k)), .ref (c (270 + 2 * b)), .ref (c (270 + 2 * j))]) (rest := []) hE dX11_holds_84 (fun l => c_s_judge l G c B S12 Pf12 q v16 k b j) gX11_holds_X10_judge rfl W16.o6 rfl (by decide +kernel) ⟨rfl, rfl, by decide, by decide⟩ (by decide) rfl rfl (Nat.le_of_ble_eq_true rfl) (⟨WJ21, hk, hb, hj, (by rw [show B k = s.1 k from (hRw k hk)]; exact hok.1), (by rw [show B j = s.1 j from (hRw j hj)]; exact hok.2.1), (by rw [show B b = s.1 b from (hRw b hb)]; exact hlb), (by rw [show B k = s.1 k from (hRw k hk)]; exact hok.2.2.1), (by rw [show B k = s.1 k from (hRw k hk)]; exact hj1), (by rw [show B j = s.1 j from (hRw j hj)]; exact hok.2.2.2.1), (by rw [show B j = s.1 j from (hRw j hj)]; exact hj3), (by rw [show B j = s.1 j from (hRw j hj)]; exact hok.2.2.2.2), hp20⟩) (fun r24 F22 q23 => ?_)
          obtain ⟨B25, S25, Pf25, q25, W25, hB25, hS25, hPf25, r24e, P25⟩ := q23
          subst r24e
          have O25 := O16.tr P25
          refine jr_if_eq (tgt := 94) hE dX11_holds_87 (by decide) (fun c87 => ?_) (fun c87 => ?_)
          · refine jr_iconst (v := (0 : Int32)) hE dX11_holds_94 (by decide) ?_
            have hho : b2i (hoP (bnum (s.1 k)) (bnum ((s.1 j).take 32)) (bnum ((s.1 j).drop 32)) (s.1 b)) = 0 := b2i_f (fun h => b2i_0 c87 (by rw [show B k = s.1 k from (hRw k hk), show B j = s.1 j from (hRw j hj), show B b = s.1 b from (hRw b hb)]; exact h))
            have e : stHolds s (nI k) (nI b) (nI j) = (0, setK s (s.2.2.1 + 2)) := by
              unfold stHolds
              rw [if_pos ⟨nI_rowP hk, nI_rowP hb, nI_rowP hj⟩, hrnk, hrnj, hrnb, if_pos hok, if_neg hw48, hho]
            exact hR F22 _ _ _ dX11_holds_95 rfl ⟨_, _, _, _, _, _, by rw [e]; exact hI.upd (k := s.2.2.1 + 2) W25 (fun z hz => (hB25 z (by simp only [List.mem_cons, List.not_mem_nil, or_false, not_or] at hz ⊢; omega))) (fun z hz => ((hS25 z (by simp only [List.mem_cons, List.not_mem_nil, or_false, not_or] at hz ⊢; omega)).trans (hS12 z (by simp only [List.mem_cons, List.not_mem_nil, or_false, not_or] at hz ⊢; omega)))) (fun z hz => ((hPf25 z (by simp only [List.mem_cons, List.not_mem_nil, or_false, not_or] at hz ⊢; omega)).trans (hPf12 z (by simp only [List.mem_cons, List.not_mem_nil, or_false, not_or] at hz ⊢; omega)))) (fun z hz => (nv16 z hz)) yv16 (by omega), by rw [e], O25⟩
          · refine jr_iconst (v := (1 : Int32)) hE dX11_holds_90 (by decide) ?_
            refine jr_goto (tgt := 95) hE dX11_holds_91 (by decide) ?_
            have hho : b2i (hoP (bnum (s.1 k)) (bnum ((s.1 j).take 32)) (bnum ((s.1 j).drop 32)) (s.1 b)) = 1 := b2i_t (by have q := b2i_1 c87; rw [show B k = s.1 k from (hRw k hk), show B j = s.1 j from (hRw j hj), show B b = s.1 b from (hRw b hb)] at q; exact q)
            have e : stHolds s (nI k) (nI b) (nI j) = (1, setK s (s.2.2.1 + 2)) := by
              unfold stHolds
              rw [if_pos ⟨nI_rowP hk, nI_rowP hb, nI_rowP hj⟩, hrnk, hrnj, hrnb, if_pos hok, if_neg hw48, hho]
            exact hR F22 _ _ _ dX11_holds_95 rfl ⟨_, _, _, _, _, _, by rw [e]; exact hI.upd (k := s.2.2.1 + 2) W25 (fun z hz => (hB25 z (by simp only [List.mem_cons, List.not_mem_nil, or_false, not_or] at hz ⊢; omega))) (fun z hz => ((hS25 z (by simp only [List.mem_cons, List.not_mem_nil, or_false, not_or] at hz ⊢; omega)).trans (hS12 z (by simp only [List.mem_cons, List.not_mem_nil, or_false, not_or] at hz ⊢; omega)))) (fun z hz => ((hPf25 z (by simp only [List.mem_cons, List.not_mem_nil, or_false, not_or] at hz ⊢; omega)).trans (hPf12 z (by simp only [List.mem_cons, List.not_mem_nil, or_false, not_or] at hz ⊢; omega)))) (fun z hz => (nv16 z hz)) yv16 (by omega), by rw [e], O25⟩
        · refine jr_bipush (v := (-5 : Int32)) hE dX11_holds_49 (by decide) ?_
          have e : stHolds s (nI k) (nI b) (nI j) = (-5, s) := by
            unfold stHolds
            rw [if_pos ⟨nI_rowP hk, nI_rowP hb, nI_rowP hj⟩, hrnk, hrnj, if_pos hok, if_pos (b2i_1 (p := 48 < s.2.2.1 + 2) c46)]
          exact hR F9 _ _ _ dX11_holds_51 rfl ⟨_, _, _, _, _, _, by rw [e]; exact hI.upd (k := s.2.2.1) W12 (fun z hz => rfl) (fun z hz => (hS12 z (by simp only [List.mem_cons, List.not_mem_nil, or_false, not_or] at hz ⊢; omega))) (fun z hz => (hPf12 z (by simp only [List.mem_cons, List.not_mem_nil, or_false, not_or] at hz ⊢; omega))) (fun z hz => rfl) hwk.1 (hwk.2), by rw [e], O12⟩
      · refine jr_iconst (v := (0 : Int32)) hE dX11_holds_39 (by decide) ?_
        have e : stHolds s (nI k) (nI b) (nI j) = (0, s) := by
          unfold stHolds
          rw [if_pos ⟨nI_rowP hk, nI_rowP hb, nI_rowP hj⟩, hrnk, hrnj, if_neg (fun h => absurd (b2i_t (p := hoOK (B k) (B j)) (by rw [show B k = s.1 k from (hRw k hk), show B j = s.1 j from (hRw j hj)]; exact h)) (by rw [c36]; decide))]
        exact hR F9 _ _ _ dX11_holds_40 rfl ⟨_, _, _, _, _, _, by rw [e]; exact hI.upd (k := s.2.2.1) W12 (fun z hz => rfl) (fun z hz => (hS12 z (by simp only [List.mem_cons, List.not_mem_nil, or_false, not_or] at hz ⊢; omega))) (fun z hz => (hPf12 z (by simp only [List.mem_cons, List.not_mem_nil, or_false, not_or] at hz ⊢; omega))) (fun z hz => rfl) hwk.1 (hwk.2), by rw [e], O12⟩
    · refine jr_iconst (v := (-1 : Int32)) hE dX11_holds_15 (by decide) ?_
      have e : stHolds s (nI k) (nI b) t = (-1, s) := by
        unfold stHolds
        rw [if_neg (fun h => absurd (b2i_t h.2.2) (by rw [c12]; decide))]
      exact hR F _ _ _ dX11_holds_16 rfl ⟨B, S, P, q, X, v, by rw [e]; exact hI, by rw [e], cO.rf c F⟩

