/-! THE REFERENCE'S signer -/
theorem rd_of {f : Nat → Int32} {t : Nat} {l : List Nat} (h : bl f t 33 = l) : bt f t = l.getD 0 0 ∧ bnum (bl f (t + 1) 32) = bnum (l.drop 1) := ⟨by rw [← h, bl_get f t 33 0 (by decide), Nat.add_zero], by rw [bl_drop h 1 32 rfl]⟩
def addS (s : ST) (l : List Nat) : ST := (s.1, (s.2.1, s.2.2.1, s.2.2.2.1 ++ [l], fun _ => none, fun _ => none, none))
abbrev sgOK (l : List Nat) : Prop := l.length = 33 ∧ rdX (l.getD 0 0) (bnum (l.drop 1))
noncomputable def stSigner (s : ST) (r : Int32) : Int32 × ST := if rowP r then (if sgOK (s.1 (rn r)) then (if s.2.2.2.1.length = 4 then (-3, s) else (nI (s.2.2.2.1.length + 1), addS s (s.1 (rn r)))) else (-2, s)) else (-1, s)
theorem sgI.snoc {v v' : Nat → Int32} {w w' : Nat → Nat → Int32} {Sg : List (List Nat)} {l : List Nat} (h : sgI v w Sg) (hl : sgOK l) (hb : ∀ b, b ∈ l → b < 256) (h17 : w' 17 = wrt (w 17) (33 * Sg.length) l) (h16 : v' 16 = nI (Sg.length + 1)) (h4 : Sg.length < 4) : sgI v' w' (Sg ++ [l]) := by
  obtain ⟨a1, a2, a3, a4⟩ := h
  have hlen := hl.1
  have hnew : bl (w' 17) (33 * Sg.length) 33 = l := by
    rw [h17]
    have q := bl_wrt (w 17) (33 * Sg.length) l (fun b h => Nat.lt_trans (hb b h) (by decide))
    rwa [hlen] at q
  have hold : ∀ j, j < Sg.length → ∀ i, i < 33 → w' 17 (33 * j + i) = w 17 (33 * j + i) := fun j hj i hi => by
    rw [h17]
    exact wrt_out _ _ _ (by omega)
  refine ⟨by rw [h16, List.length_append]; rfl, by rw [List.length_append]; show _ + 1 ≤ 4; omega, fun i hi => ?_, fun j hj => ?_⟩
  · rw [List.length_append] at hi
    have hi' : i < 33 * (Sg.length + 1) := hi
    rw [Nat.zero_add]
    by_cases q : i < 33 * Sg.length
    · have e := a3 i q
      rw [Nat.zero_add] at e
      have e2 := hold (i / 33) (by omega) (i % 33) (by omega)
      rw [show 33 * (i / 33) + i % 33 = i by omega] at e2
      unfold bt at e ⊢
      rwa [e2]
    · have e := bB_of hnew hb (i - 33 * Sg.length) (by omega)
      rwa [show 33 * Sg.length + (i - 33 * Sg.length) = i by omega] at e
  · rw [List.length_append] at hj
    have hj' : j < Sg.length + 1 := hj
    by_cases q : j < Sg.length
    · obtain ⟨b1, b2⟩ := a4 j q
      have e1 : bl (w' 17) (33 * j) 33 = bl (w 17) (33 * j) 33 := bl_cg (fun i hi => hold j q i hi)
      refine ⟨by rw [e1, b1, List.getElem_append_left q], ?_⟩
      have r1 := rd_of (e1.trans b1)
      have r2 := rd_of b1
      unfold fK vK at b2 ⊢
      rw [r1.1, r1.2]
      rwa [r2.1, r2.2] at b2
    · have e : j = Sg.length := by omega
      subst e
      refine ⟨by rw [hnew, List.getElem_append_right (Nat.le_refl _)]; simp, ?_⟩
      have r1 := rd_of hnew
      unfold fK vK
      rw [r1.1, r1.2]
      exact hl.2
theorem mI.sg {G : Nat → ClassId} {L : List Nat} {F F1 : Nat → va_E} {o : Nat} {a : Nat → Nat} {v v' : Nat → Int32} {n n' : Nat → Option Nat} {g : Nat → Nat → Int64} {w w' : Nat → Nat → Int32} {s : ST} {l : List Nat} (h : mI G L F o a v n g w s) (M : MW G L F1 o a v' n' g w') (h24 : v' 24 = 0) (h16 : v' 16 = nI (s.2.2.2.1.length + 1)) (hv : ∀ k, k ∈ [10, 31] → v' k = v k) (hn : ∀ k, k ∈ [0, 1, 4, 5, 6, 7, 26, 27, 28, 32, 33, 48] → n' k = n k) (hw : ∀ k, k ∈ [8, 9, 50, 51, 52, 11, 12, 13, 14] → w' k = w k) (h18 : ∀ t, t < 4 → w' 18 t = 0 ∧ w' 22 t = 0) (h17 : w' 17 = wrt (w 17) (33 * s.2.2.2.1.length) l) (hl : sgOK l) (hb : ∀ b, b ∈ l → b < 256) (h4 : s.2.2.2.1.length < 4) : mI G L F1 o a v' n' g w' (addS s l) := by
  obtain ⟨_, a2, a3, a4, a5, a6, hen, hwk, hsg, hnc, htd, hse⟩ := h
  refine ⟨M, a2.fr (hn 0 (by decide)) (hn 1 (by decide)) (hn 32 (by decide)) (hn 33 (by decide)), a3.fr (hn 4 (by decide)) (hn 5 (by decide)) (hn 6 (by decide)) (hn 7 (by decide)) (hn 48 (by decide)), a4.fr (hw 50 (by decide)) (hw 51 (by decide)), a5.fr (hw 52 (by decide)), fun r hr => ?_, ⟨?_, ?_, hsg.snoc hl hb h17 h16 h4, fun j hj => ⟨fun _ => rfl, (h18 j hj).1⟩, fun j hj => ⟨fun _ => rfl, (h18 j hj).2⟩, h24⟩⟩
  · rw [hw 8 (by decide), hw 9 (by decide)]
    exact a6 r hr
  · unfold enI at *
    rw [hv 10 (by decide), hw 11 (by decide), hw 12 (by decide), hw 13 (by decide), hw 14 (by decide)]
    exact hen
  · rw [hv 31 (by decide)]
    exact hwk

set_option maxHeartbeats 4000000 in
set_option maxRecDepth 100000 in
theorem c_m_signer (l : Launch) (G : Nat → ClassId) (o : Nat) (a : Nat → Nat) (v : Nat → Int32) (n : Nat → Option Nat) (g : Nat → Nat → Int64) (w : Nat → Nat → Int32) (s : ST) (r : Int32) : jKi l yX12_signer wsX12_signer ({ frames := 6, cells := 0, slots := 0, locals := 154 }) G [.ref o, .int r] (fun L F => mI G L F o a v n g w s) (fun L F q F1 => ∃ v' n' g' w', mI G L F1 o a v' n' g' w' (stSigner s r).2 ∧ q = (stSigner s r).1 ∧ mO o a F F1) := by
  refine jm_ki (cc := cX12_signer) (maxL := 3) (rt := .int) (by decide) rfl (Nat.le_of_ble_eq_true rfl) ?_
  intro E L F hE hR hpre
  have hE : jOk E G _ cX12_signer 3 RX12 wsX12_signer := hE
  have hI := hpre
  obtain ⟨M0, hK, hC, htg, hrd, hRW, hpI⟩ := id hpre
  have hwk48 := hpI.2.1.2
  have hs4 := hpI.2.2.1.2.1
  have f96 : jFl RX12 wsX12_signer 96 12 8 := ⟨rfl, by decide, by decide +kernel, by decide +kernel⟩
  have f100 : jFl RX12 wsX12_signer 100 12 9 := ⟨rfl, by decide, by decide +kernel, by decide +kernel⟩
  have f533 : jFl RX12 wsX12_signer 533 12 16 := ⟨rfl, by decide, by decide +kernel, by decide +kernel⟩
  have f118 : jFl RX12 wsX12_signer 118 12 17 := ⟨rfl, by decide, by decide +kernel, by decide +kernel⟩
  refine jr_iload_n hE dX12_signer_0 1 rfl ?_
  refine jr_kSi (n := 1) (As := [.int r]) (rest := []) hE dX12_signer_1 (fun l => c_m_isRow l G r) gX12_signer_X12_isRow rfl (by decide +kernel) ⟨rfl, rfl, by decide, by decide⟩ (by decide) rfl rfl (Nat.le_of_ble_eq_true rfl) (trivial) (fun r3 F1 q2 => ?_)
  obtain ⟨eq2, rq2⟩ := q2
  subst eq2 rq2
  refine jr_if_ne (tgt := 9) hE dX12_signer_4 (by decide) (fun c4 => ?_) (fun c4 => ?_)
  · have hrk : rowP r := b2i_1 c4
    obtain ⟨k, hk, rfl⟩ := rowP_nI hrk
    obtain ⟨z1k, z2k, z3k, z4k⟩ := hRW k hk
    have hrnk := nI_rn hk
    refine jr_aload_n hE dX12_signer_9 0 rfl ?_
    refine jr_get hE dX12_signer_10 f96 M0.ob rfl ?_
    refine jr_iload_n hE dX12_signer_13 1 rfl ?_
    refine jr_iald (v := nI (s.1 k).length) hE dX12_signer_14 (M0.I (k := 8) (N := 16) (by decide)) (vp_in_nI (by omega) (by decide)) (by rw [nI_clamp (by omega)]; exact z1k) ?_
    refine jr_bipush (v := (33 : Int32)) hE dX12_signer_15 (by decide) ?_
    refine jr_icmp_ne (tgt := 35) hE dX12_signer_17 (by decide) (fun c17 => ?_) (fun c17 => ?_)
    · refine jr_bipush (v := (-2 : Int32)) hE dX12_signer_35 (by decide) ?_
      have hvF : ∀ z, z ∉ [999] → v z = v z := (fun z hz => rfl)
      have hnF : ∀ z, z ∉ [999] → n z = n z := (fun z hz => rfl)
      have hwF : ∀ z, z ∉ [999] → w z = w z := (fun z hz => rfl)
      have e : stSigner s (nI k) = (-2, s) := by
        unfold stSigner
        rw [if_pos (nI_rowP hk), hrnk, if_neg (fun h => c17 ((nI_eq (by omega) (by decide)).mpr h.1))]
      exact hR F _ _ _ dX12_signer_37 rfl ⟨_, _, _, _, by rw [e]; exact hI.keep (c := s.2.2.1) M0 hpI.2.1.1 (hpI.2.1.2) (fun z hz => hvF z (jdj rfl hz)) (fun z hz => hnF z (jdj rfl hz)) (fun z hz => hwF z (jdj rfl hz)), by rw [e], (mO.rf o a F)⟩
    · have hlk : (s.1 k).length = 33 := (nI_eq (by omega) (by decide)).mp c17
      have z5k : bl (w 9) (100 * k) 33 = s.1 k := by have q := z2k; rw [hlk] at q; exact q
      have hrk := rd_of z5k
      refine jr_aload_n hE dX12_signer_20 0 rfl ?_
      refine jr_aload_n hE dX12_signer_21 0 rfl ?_
      refine jr_get hE dX12_signer_22 f100 M0.ob rfl ?_
      refine jr_bipush (v := (100 : Int32)) hE dX12_signer_25 (by decide) ?_
      refine jr_iload_n hE dX12_signer_27 1 rfl ?_
      refine jr_imul (z := nI (100 * k)) hE dX12_signer_28 (pk_mul 100 k) ?_
      refine jr_kVi (ci := 12) (n := 2) (As := [.ref (a 9), .int (nI (100 * k))]) (rest := []) hE dX12_signer_29 (fun l => c_m_reads l G o a v n g w 9 (100 * k) 1600 ((s.1 k).getD 0 0) (bnum ((s.1 k).drop 1))) gX12_signer_X12_reads rfl M0.ob rfl (by decide +kernel) ⟨rfl, rfl, by decide, by decide⟩ (by decide) rfl rfl (Nat.le_of_ble_eq_true rfl) (⟨M0, hK, hC, by decide, by omega, by decide, bB_of z5k z4k, hrk.1.symm, hrk.2.symm⟩) (fun r7 F5 q6 => ?_)
      obtain ⟨n8, M8, hf8, hq8, rfl, P8⟩ := q6
      have O8 := (mO.rf o a F).tr P8
      refine jr_if_ne (tgt := 38) hE dX12_signer_32 (by decide) (fun c32 => ?_) (fun c32 => ?_)
      · have hok : sgOK (s.1 k) := ⟨hlk, b2i_1 c32⟩
        refine jr_aload_n hE dX12_signer_38 0 rfl ?_
        refine jr_get hE dX12_signer_39 f533 M8.ob rfl ?_
        rw [hpI.2.2.1.1]
        refine jr_iconst (v := (4 : Int32)) hE dX12_signer_42 (by decide) ?_
        refine jr_icmp_ne (tgt := 49) hE dX12_signer_43 (by decide) (fun c43 => ?_) (fun c43 => ?_)
        · have hs4 := hpI.2.2.1.2.1
          have h4 : ¬ s.2.2.2.1.length = 4 := fun h => c43 ((nI_eq (by omega) (by decide)).mpr h)
          refine jr_iconst (v := (0 : Int32)) hE dX12_signer_49 (by decide) ?_
          refine jr_istore_n (lv' := [(2, .int (0 : Int32)), (0, .ref o), (1, .int (nI k))]) hE dX12_signer_50 (by decide) rfl ?_
          have U9 : (∀ (F1 : Nat → va_E) (f : Nat → Int32), MW G L F1 o a v n8 g (uz w 17 f) → f = wrt (w 17) (33 * s.2.2.2.1.length) (bl (w 9) (100 * k) 33) → mO o a F5 F1 → J E L F1 0 0 88 [(2, .int (nI 33)), (0, .ref o), (1, .int (nI k))] []) → J E L F5 0 0 51 [(2, .int (0 : Int32)), (0, .ref o), (1, .int (nI k))] [] := by
            intro cont
            have loop : ∀ (r0 i : Nat) (F4 : Nat → va_E) (f : Nat → Int32), i + r0 = 33 → MW G L F4 o a v n8 g (uz w 17 f) → f = wrt (w 17) (33 * s.2.2.2.1.length) (bl (w 9) (100 * k) i) → mO o a F5 F4 → J E L F4 0 0 51 [(2, .int (nI i)), (0, .ref o), (1, .int (nI k))] [] := by
              intro r0
              induction r0 with
              | zero =>
                intro i F4 f hi H4 hf O4
                have hwf : ∀ z, z ∉ [17] → (uz w 17 f) z = w z := fun z hz => uz_n _ _ (jne hz 0 rfl)
                refine jr_iload_n hE dX12_signer_51 0 rfl ?_
                refine jr_bipush (v := (33 : Int32)) hE dX12_signer_52 (by decide) ?_
                refine jr_icmp_ge (tgt := 88) hE dX12_signer_54 (by decide) (fun c_54 => ?_) (fun c_54 => absurd (nI_le (a := 33) (by omega) (by omega)) c_54)
                have hiN : i = 33 := by omega
                subst hiN
                exact cont F4 f H4 hf O4
              | succ r0 ih =>
                intro i F4 f hi H4 hf O4
                have hwf : ∀ z, z ∉ [17] → (uz w 17 f) z = w z := fun z hz => uz_n _ _ (jne hz 0 rfl)
                refine jr_iload_n hE dX12_signer_51 0 rfl ?_
                refine jr_bipush (v := (33 : Int32)) hE dX12_signer_52 (by decide) ?_
                refine jr_icmp_ge (tgt := 88) hE dX12_signer_54 (by decide) (fun c_54 => absurd c_54 (nI_ge (b := 33) (by omega) (by omega))) (fun c_54 => ?_)
                refine jr_aload_n hE dX12_signer_57 1 rfl ?_
                refine jr_get hE dX12_signer_58 f118 H4.ob rfl ?_
                refine jr_bipush (v := (33 : Int32)) hE dX12_signer_61 (by decide) ?_
                refine jr_aload_n hE dX12_signer_63 1 rfl ?_
                refine jr_get hE dX12_signer_64 f533 H4.ob rfl ?_
                rw [hpI.2.2.1.1]
                refine jr_imul (z := nI (33 * s.2.2.2.1.length)) hE dX12_signer_67 (pk_mul 33 s.2.2.2.1.length) ?_
                refine jr_iload_n hE dX12_signer_68 0 rfl ?_
                refine jr_iadd (z := nI (33 * s.2.2.2.1.length + i)) hE dX12_signer_69 (nI_add _ _) ?_
                refine jr_aload_n hE dX12_signer_70 1 rfl ?_
                refine jr_get hE dX12_signer_71 f100 H4.ob rfl ?_
                refine jr_bipush (v := (100 : Int32)) hE dX12_signer_74 (by decide) ?_
                refine jr_iload_n hE dX12_signer_76 2 rfl ?_
                refine jr_imul (z := nI (100 * k)) hE dX12_signer_77 (pk_mul 100 k) ?_
                refine jr_iload_n hE dX12_signer_78 0 rfl ?_
                refine jr_iadd (z := nI (100 * k + i)) hE dX12_signer_79 (nI_add _ _) ?_
                refine jr_iald (v := w 9 (100 * k + i)) hE dX12_signer_80 (H4.I (k := 9) (N := 1600) (by decide)) (vp_in_nI (by omega) (by decide)) (by rw [nI_clamp (by omega)]; rfl) ?_
                refine jr_iast hE dX12_signer_81 (H4.I (k := 17) (N := 132) (by decide)) (vp_in_nI (by omega) (by decide)) (fun F10 g11 u12 => ?_)
                have H13 := H4.setI (k := 17) (N := 132) (by decide) g11 u12
                have O14 := O4.st (k := 17) (by decide) (by decide) u12
                rw [uz_uz, uz_s] at H13
                refine jr_iinc (v := nI (i + 1)) (lv' := [(2, .int (nI (i + 1))), (0, .ref o), (1, .int (nI k))]) hE dX12_signer_82 0 rfl (nI_1 _) (by decide) rfl ?_
                refine jr_goto (tgt := 51) hE dX12_signer_85 (by decide) ?_
                refine jr_lv (lv' := [(2, .int (nI (i + 1))), (0, .ref o), (1, .int (nI k))]) [0, 1, 2] rfl ?_
                exact ih (i + 1) F10 _ (by omega) H13 (by
                  rw [bl_s]
                  exact wrt_snoc hf (bl_len _ _ _) (bt_nI _ _) (by omega)) O14
            exact loop 33 0 F5 (w 17) (by omega) (by rw [uz_id]; exact M8) (by rw [show bl (w 9) (100 * k) 0 = [] from rfl, wrt_nil]) (mO.rf o a F5)
          refine U9 (fun F9 f9 M9 hf9 P9 => ?_)
          have O9 := O8.tr P9
          obtain ⟨w9, e9, hw9, hx9⟩ := uz_ab w 17 f9
          rw [e9] at M9
          rw [hf9] at hx9
          refine jr_aload_n hE dX12_signer_88 1 rfl ?_
          refine jr_dup hE dX12_signer_89 rfl ?_
          refine jr_get hE dX12_signer_90 f533 M9.ob rfl ?_
          rw [hpI.2.2.1.1]
          refine jr_iconst (v := (1 : Int32)) hE dX12_signer_93 (by decide) ?_
          refine jr_iadd (z := nI (s.2.2.2.1.length + 1)) hE dX12_signer_94 (nI_add _ 1) ?_
          refine jr_put (ty := .int) hE dX12_signer_95 f533 M9.ob rfl (by decide +kernel) rfl rfl (Nat.le_of_ble_eq_true rfl) (fun F15 g16 u17 => ?_)
          have H18 := M9.setV (v' := uz v 16 (nI (s.2.2.2.1.length + 1))) g16 u17
          have O19 := O9.so u17
          obtain ⟨v20, e20, hvv20, hvx20⟩ := uz_ab v 16 (nI (s.2.2.2.1.length + 1))
          rw [e20] at H18
          refine jr_aload_n hE dX12_signer_98 1 rfl ?_
          refine jr_iconst (v := (0 : Int32)) hE dX12_signer_99 (by decide) ?_
          refine jr_kVv (ci := 12) (n := 1) (As := [.int (0 : Int32)]) (rest := []) hE dX12_signer_100 (fun l => c_m_forget l G o a v20 n8 g w9 false) gX12_signer_X12_forget rfl H18.ob rfl (by decide +kernel) ⟨rfl, rfl, by decide, by decide⟩ (by decide) rfl rfl (Nat.le_of_ble_eq_true rfl) (H18) (fun F21 q22 => ?_)
          obtain ⟨v23, w23, M23, h24, h16, hvv23, hz23, hw23, P23⟩ := q22
          have O23 := O19.tr P23
          have h16 : v23 16 = (nI (s.2.2.2.1.length + 1)) := h16.trans hvx20
          refine jr_aload_n hE dX12_signer_103 1 rfl ?_
          refine jr_get hE dX12_signer_104 f533 M23.ob rfl ?_
          rw [h16]
          have hvF : ∀ z, z ∉ [16, 24] → v23 z = v z := (fun z hz => ((hvv23 z (jne hz 0 rfl) (jne hz 1 rfl)).trans (hvv20 z (jnsub (V := [16]) hz [0] rfl))))
          have hnF : ∀ z, z ∉ [35, 36, 40, 41, 42, 43, 49] → n8 z = n z := (fun z hz => (hf8 z (jnsub (V := [40, 41, 42, 43, 35, 36, 49]) hz [2, 3, 4, 5, 0, 1, 6] rfl)))
          have hwF : ∀ z, z ∉ [17, 18, 22] → w23 z = w z := (fun z hz => ((hw23 z (jne hz 1 rfl) (jne hz 2 rfl)).trans (hw9 z (jnsub (V := [17]) hz [0] rfl))))
          have e : stSigner s (nI k) = (nI (s.2.2.2.1.length + 1), addS s (s.1 k)) := by
            unfold stSigner
            rw [if_pos (nI_rowP hk), hrnk, if_pos hok, if_neg h4]
          have h17 : w23 17 = wrt (w 17) (33 * s.2.2.2.1.length) (s.1 k) := by
            rw [show w23 17 = w9 17 from (hw23 17 (by decide) (by decide)), hx9, z5k]
          exact hR F21 _ _ _ dX12_signer_107 rfl ⟨_, _, _, _, by rw [e]; exact hI.sg M23 h24 h16 (fun z hz => hvF z (jdj rfl hz)) (fun z hz => hnF z (jdj rfl hz)) (fun z hz => hwF z (jdj rfl hz)) hz23 h17 hok z4k (by have := hpI.2.2.1.2.1; omega), by rw [e], O23⟩
        · refine jr_bipush (v := (-3 : Int32)) hE dX12_signer_46 (by decide) ?_
          have hvF : ∀ z, z ∉ [999] → v z = v z := (fun z hz => rfl)
          have hnF : ∀ z, z ∉ [35, 36, 40, 41, 42, 43, 49] → n8 z = n z := (fun z hz => (hf8 z (jnsub (V := [40, 41, 42, 43, 35, 36, 49]) hz [2, 3, 4, 5, 0, 1, 6] rfl)))
          have hwF : ∀ z, z ∉ [999] → w z = w z := (fun z hz => rfl)
          have e : stSigner s (nI k) = (-3, s) := by
            unfold stSigner
            rw [if_pos (nI_rowP hk), hrnk, if_pos hok, if_pos ((nI_eq (by have := hpI.2.2.1.2.1; omega) (by decide)).mp c43)]
          exact hR F5 _ _ _ dX12_signer_48 rfl ⟨_, _, _, _, by rw [e]; exact hI.keep (c := s.2.2.1) M8 hpI.2.1.1 (hpI.2.1.2) (fun z hz => hvF z (jdj rfl hz)) (fun z hz => hnF z (jdj rfl hz)) (fun z hz => hwF z (jdj rfl hz)), by rw [e], O8⟩
      · refine jr_bipush (v := (-2 : Int32)) hE dX12_signer_35 (by decide) ?_
        have hvF : ∀ z, z ∉ [999] → v z = v z := (fun z hz => rfl)
        have hnF : ∀ z, z ∉ [35, 36, 40, 41, 42, 43, 49] → n8 z = n z := (fun z hz => (hf8 z (jnsub (V := [40, 41, 42, 43, 35, 36, 49]) hz [2, 3, 4, 5, 0, 1, 6] rfl)))
        have hwF : ∀ z, z ∉ [999] → w z = w z := (fun z hz => rfl)
        have e : stSigner s (nI k) = (-2, s) := by
          unfold stSigner
          rw [if_pos (nI_rowP hk), hrnk, if_neg (fun h => absurd (b2i_t h.2) (by rw [c32]; decide))]
        exact hR F5 _ _ _ dX12_signer_37 rfl ⟨_, _, _, _, by rw [e]; exact hI.keep (c := s.2.2.1) M8 hpI.2.1.1 (hpI.2.1.2) (fun z hz => hvF z (jdj rfl hz)) (fun z hz => hnF z (jdj rfl hz)) (fun z hz => hwF z (jdj rfl hz)), by rw [e], O8⟩
  · refine jr_iconst (v := (-1 : Int32)) hE dX12_signer_7 (by decide) ?_
    have e : stSigner s r = (-1, s) := by
      unfold stSigner
      rw [if_neg (fun h => absurd (b2i_t h) (by rw [c4]; decide))]
    exact hR F _ _ _ dX12_signer_8 rfl ⟨v, n, g, w, by rw [e]; exact hI, by rw [e], mO.rf o a F⟩

