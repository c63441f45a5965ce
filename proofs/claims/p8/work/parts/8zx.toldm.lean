/-! THE REFERENCE'S told -/
abbrev tdOK (l : List Nat) : Prop := l.length = 66 ∧ rdX (l.getD 0 0) (bnum ((l.take 33).drop 1)) ∧ rdX (l.getD 33 0) (bnum (l.drop 34))
def setT (s : ST) (j : Nat) (l : List Nat) : ST := (s.1, (s.2.1, s.2.2.1, s.2.2.2.1, s.2.2.2.2.1, fun t => if t = j then some l else s.2.2.2.2.2.1 t, none))
noncomputable def stTold (s : ST) (j r : Int32) : Int32 × ST := if (0 ≤ j.toInt ∧ j.toInt < s.2.2.2.1.length) ∧ rowP r then (if tdOK (s.1 (rn r)) then (1, setT s (rn j) (s.1 (rn r))) else (-2, s)) else (-1, s)
/-- the two points of 66 bytes -/
theorem td_of {f : Nat → Int32} {t : Nat} {l : List Nat} (h : bl f t 66 = l) : bt f t = l.getD 0 0 ∧ bnum (bl f (t + 1) 32) = bnum ((l.take 33).drop 1) ∧ bt f (t + 33) = l.getD 33 0 ∧ bnum (bl f (t + 33 + 1) 32) = bnum (l.drop 34) := by
  have h1 := rd_of (bl_take h 33 (by decide))
  have h2 := rd_of (bl_drop h 33 33 rfl)
  refine ⟨by rw [← h, bl_get f t 66 0 (by decide), Nat.add_zero], h1.2, by rw [← h, bl_get f t 66 33 (by decide)], ?_⟩
  rw [h2.2, List.drop_drop]
theorem tdI.set {w w' : Nat → Nat → Int32} {Td : Nat → Option (List Nat)} {m j : Nat} {l : List Nat} (h : tdI w Td m) (hj : j < m) (hm : m ≤ 4) (hl : tdOK l) (hb : ∀ b, b ∈ l → b < 256) (h22 : w' 22 = upd (w 22) j 1) (h23 : w' 23 = wrt (w 23) (66 * j) l) : tdI w' (fun t => if t = j then some l else Td t) m := by
  intro t ht
  dsimp only
  by_cases e : t = j
  · subst e
    have hnew : bl (w' 23) (66 * t) 66 = l := by
      rw [h23]
      have q := bl_wrt (w 23) (66 * t) l (fun b h => Nat.lt_trans (hb b h) (by decide))
      rwa [hl.1] at q
    have q := td_of hnew
    rw [if_pos rfl]
    refine ⟨fun q => absurd q (by omega), by rw [h22]; exact if_pos rfl, hnew, bB_of hnew hb, ?_, ?_⟩
    · unfold fT vT
      rw [Nat.mul_zero, Nat.add_zero, q.1, q.2.1]
      exact hl.2.1
    · unfold fT vT
      rw [Nat.mul_one, q.2.2.1, q.2.2.2]
      exact hl.2.2
  · rw [if_neg e]
    have q := h t ht
    refine ⟨q.1, ?_⟩
    have e2 : ∀ i, i < 66 → w' 23 (66 * t + i) = w 23 (66 * t + i) := fun i hi => by
      rw [h23]
      exact wrt_out _ _ _ (by have := hl.1; omega)
    have e1 : w' 22 t = w 22 t := by rw [h22]; exact if_neg e
    have q2 := q.2
    revert q2
    cases Td t with
    | none => intro q2; exact e1.trans q2
    | some u =>
      rintro ⟨b1, b2, b3, b4, b5⟩
      have e3 : bl (w' 23) (66 * t) 66 = bl (w 23) (66 * t) 66 := bl_cg e2
      have r1 := td_of (e3.trans b2)
      have r2 := td_of b2
      refine ⟨e1.trans b1, e3.trans b2, fun i hi => by unfold bt; rw [e2 i hi]; exact b3 i hi, ?_, ?_⟩
      · unfold fT vT at b4 ⊢
        rw [Nat.mul_zero, Nat.add_zero] at b4 ⊢
        rw [r1.1, r1.2.1]
        rwa [r2.1, r2.2.1] at b4
      · unfold fT vT at b5 ⊢
        rw [Nat.mul_one] at b5 ⊢
        rw [r1.2.2.1, r1.2.2.2]
        rwa [r2.2.2.1, r2.2.2.2] at b5
theorem mI.td {G : Nat → ClassId} {L : List Nat} {F F1 : Nat → va_E} {o : Nat} {a : Nat → Nat} {v v' : Nat → Int32} {n n' : Nat → Option Nat} {g : Nat → Nat → Int64} {w w' : Nat → Nat → Int32} {s : ST} {j : Nat} {l : List Nat} (h : mI G L F o a v n g w s) (M : MW G L F1 o a v' n' g w') (h24 : v' 24 = 0) (hv : ∀ k, k ∈ [10, 16, 31] → v' k = v k) (hn : ∀ k, k ∈ [0, 1, 4, 5, 6, 7, 26, 27, 28, 32, 33, 48] → n' k = n k) (hw : ∀ k, k ∈ [8, 9, 50, 51, 52, 11, 12, 13, 14, 17, 18, 21] → w' k = w k) (hj : j < s.2.2.2.1.length) (hl : tdOK l) (hb : ∀ b, b ∈ l → b < 256) (h22 : w' 22 = upd (w 22) j 1) (h23 : w' 23 = wrt (w 23) (66 * j) l) : mI G L F1 o a v' n' g w' (setT s j l) := by
  obtain ⟨_, a2, a3, a4, a5, a6, hen, hwk, hsg, hnc, htd, hse⟩ := h
  have hs4 := hsg.2.1
  refine ⟨M, a2.fr (hn 0 (by decide)) (hn 1 (by decide)) (hn 32 (by decide)) (hn 33 (by decide)), a3.fr (hn 4 (by decide)) (hn 5 (by decide)) (hn 6 (by decide)) (hn 7 (by decide)) (hn 48 (by decide)), a4.fr (hw 50 (by decide)) (hw 51 (by decide)), a5.fr (hw 52 (by decide)), fun r hr => ?_, ⟨?_, ?_, ?_, ?_, htd.set hj hs4 hl hb h22 h23, h24⟩⟩
  · rw [hw 8 (by decide), hw 9 (by decide)]
    exact a6 r hr
  · unfold enI at *
    rw [hv 10 (by decide), hw 11 (by decide), hw 12 (by decide), hw 13 (by decide), hw 14 (by decide)]
    exact hen
  · rw [hv 31 (by decide)]
    exact hwk
  · unfold sgI at *
    rw [hv 16 (by decide), hw 17 (by decide)]
    exact hsg
  · unfold ncI at *
    rw [hw 18 (by decide), hw 21 (by decide)]
    exact hnc
theorem bB1' {f : Nat → Int32} {t N : Nat} (h : bB f t N) (a m : Nat) (hm : a + m ≤ N) : bB f (t + a) m := fun i hi => by
  rw [Nat.add_assoc]
  exact h (a + i) (by omega)

set_option maxHeartbeats 4000000 in
set_option maxRecDepth 100000 in
theorem c_m_told (l : Launch) (G : Nat → ClassId) (o : Nat) (a : Nat → Nat) (v : Nat → Int32) (n : Nat → Option Nat) (g : Nat → Nat → Int64) (w : Nat → Nat → Int32) (s : ST) (j r : Int32) : jKi l yX12_told wsX12_told ({ frames := 6, cells := 0, slots := 0, locals := 154 }) G [.ref o, .int j, .int r] (fun L F => mI G L F o a v n g w s) (fun L F q F1 => ∃ v' n' g' w', mI G L F1 o a v' n' g' w' (stTold s j r).2 ∧ q = (stTold s j r).1 ∧ mO o a F F1) := by
  refine jm_ki (cc := cX12_told) (maxL := 4) (rt := .int) (by decide) rfl (Nat.le_of_ble_eq_true rfl) ?_
  intro E L F hE hR hpre
  have hE : jOk E G _ cX12_told 4 RX12 wsX12_told := hE
  have hI := hpre
  obtain ⟨M0, hK, hC, htg, hrd, hRW, hpI⟩ := id hpre
  have hwk48 := hpI.2.1.2
  have hs4 := hpI.2.2.1.2.1
  have f96 : jFl RX12 wsX12_told 96 12 8 := ⟨rfl, by decide, by decide +kernel, by decide +kernel⟩
  have f100 : jFl RX12 wsX12_told 100 12 9 := ⟨rfl, by decide, by decide +kernel, by decide +kernel⟩
  have f137 : jFl RX12 wsX12_told 137 12 23 := ⟨rfl, by decide, by decide +kernel, by decide +kernel⟩
  have f134 : jFl RX12 wsX12_told 134 12 22 := ⟨rfl, by decide, by decide +kernel, by decide +kernel⟩
  have f529 : jFl RX12 wsX12_told 529 12 24 := ⟨rfl, by decide, by decide +kernel, by decide +kernel⟩
  refine jr_aload_n hE dX12_told_0 0 rfl ?_
  refine jr_iload_n hE dX12_told_1 1 rfl ?_
  refine jr_kVi (ci := 12) (n := 1) (As := [.int j]) (rest := []) hE dX12_told_2 (fun l => c_m_isSigner l G o a v n g w j s.2.2.2.1.length) gX12_told_X12_isSigner rfl M0.ob rfl (by decide +kernel) ⟨rfl, rfl, by decide, by decide⟩ (by decide) rfl rfl (Nat.le_of_ble_eq_true rfl) (⟨M0, hpI.2.2.1.1, hpI.2.2.1.2.1⟩) (fun r3 F1 q2 => ?_)
  obtain ⟨eq2, rq2⟩ := q2
  subst eq2 rq2
  refine jr_if_eq (tgt := 15) hE dX12_told_5 (by decide) (fun c5 => ?_) (fun c5 => ?_)
  · refine jr_iconst (v := (-1 : Int32)) hE dX12_told_15 (by decide) ?_
    have e : stTold s j r = (-1, s) := by
      unfold stTold
      rw [if_neg (fun h => absurd (b2i_t h.1) (by rw [c5]; decide))]
    exact hR F _ _ _ dX12_told_16 rfl ⟨v, n, g, w, by rw [e]; exact hI, by rw [e], mO.rf o a F⟩
  · have hru := b2i_1 c5
    obtain ⟨u, hu, rfl⟩ := sgn_nI hru hpI.2.2.1.2.1
    have hrnu : rn (nI u) = u := nI_rn (by have := hpI.2.2.1.2.1; omega)
    have hu4u : u < 4 := Nat.lt_of_lt_of_le hu hpI.2.2.1.2.1
    have hsuu : 0 ≤ (nI u).toInt ∧ (nI u).toInt < s.2.2.2.1.length := by rw [nI_toInt (by omega)]; omega
    refine jr_iload_n hE dX12_told_8 2 rfl ?_
    refine jr_kSi (n := 1) (As := [.int r]) (rest := []) hE dX12_told_9 (fun l => c_m_isRow l G r) gX12_told_X12_isRow rfl (by decide +kernel) ⟨rfl, rfl, by decide, by decide⟩ (by decide) rfl rfl (Nat.le_of_ble_eq_true rfl) (trivial) (fun r6 F4 q5 => ?_)
    obtain ⟨eq5, rq5⟩ := q5
    subst eq5 rq5
    refine jr_if_ne (tgt := 17) hE dX12_told_12 (by decide) (fun c12 => ?_) (fun c12 => ?_)
    · have hrb : rowP r := b2i_1 c12
      obtain ⟨b, hb, rfl⟩ := rowP_nI hrb
      obtain ⟨z1b, z2b, z3b, z4b⟩ := hRW b hb
      have hrnb := nI_rn hb
      refine jr_aload_n hE dX12_told_17 0 rfl ?_
      refine jr_get hE dX12_told_18 f96 M0.ob rfl ?_
      refine jr_iload_n hE dX12_told_21 2 rfl ?_
      refine jr_iald (v := nI (s.1 b).length) hE dX12_told_22 (M0.I (k := 8) (N := 16) (by decide)) (vp_in_nI (by omega) (by decide)) (by rw [nI_clamp (by omega)]; exact z1b) ?_
      refine jr_bipush (v := (66 : Int32)) hE dX12_told_23 (by decide) ?_
      refine jr_icmp_ne (tgt := 61) hE dX12_told_25 (by decide) (fun c25 => ?_) (fun c25 => ?_)
      · refine jr_bipush (v := (-2 : Int32)) hE dX12_told_61 (by decide) ?_
        have hvF : ∀ z, z ∉ [999] → v z = v z := (fun z hz => rfl)
        have hnF : ∀ z, z ∉ [999] → n z = n z := (fun z hz => rfl)
        have hwF : ∀ z, z ∉ [999] → w z = w z := (fun z hz => rfl)
        have e : stTold s (nI u) (nI b) = (-2, s) := by
          unfold stTold
          rw [if_pos ⟨hsuu, nI_rowP hb⟩, hrnb, if_neg (fun h => c25 ((nI_eq (by omega) (by decide)).mpr h.1))]
        exact hR F _ _ _ dX12_told_63 rfl ⟨_, _, _, _, by rw [e]; exact hI.keep (c := s.2.2.1) M0 hpI.2.1.1 (hpI.2.1.2) (fun z hz => hvF z (jdj rfl hz)) (fun z hz => hnF z (jdj rfl hz)) (fun z hz => hwF z (jdj rfl hz)), by rw [e], (mO.rf o a F)⟩
      · have hlb : (s.1 b).length = 66 := (nI_eq (by omega) (by decide)).mp c25
        have z5b : bl (w 9) (100 * b) 66 = s.1 b := by have q := z2b; rw [hlb] at q; exact q
        have htd := td_of z5b
        have hB6 := bB_of z5b z4b
        refine jr_aload_n hE dX12_told_28 0 rfl ?_
        refine jr_aload_n hE dX12_told_29 0 rfl ?_
        refine jr_get hE dX12_told_30 f100 M0.ob rfl ?_
        refine jr_bipush (v := (100 : Int32)) hE dX12_told_33 (by decide) ?_
        refine jr_iload_n hE dX12_told_35 2 rfl ?_
        refine jr_imul (z := nI (100 * b)) hE dX12_told_36 (pk_mul 100 b) ?_
        refine jr_kVi (ci := 12) (n := 2) (As := [.ref (a 9), .int (nI (100 * b))]) (rest := []) hE dX12_told_37 (fun l => c_m_reads l G o a v n g w 9 (100 * b) 1600 ((s.1 b).getD 0 0) (bnum (((s.1 b).take 33).drop 1))) gX12_told_X12_reads rfl M0.ob rfl (by decide +kernel) ⟨rfl, rfl, by decide, by decide⟩ (by decide) rfl rfl (Nat.le_of_ble_eq_true rfl) (⟨M0, hK, hC, by decide, by omega, by decide, (bB1' hB6 0 33 (by decide)), htd.1.symm, htd.2.1.symm⟩) (fun r10 F8 q9 => ?_)
        obtain ⟨n11, M11, hf11, hq11, rfl, P11⟩ := q9
        have O11 := (mO.rf o a F).tr P11
        refine jr_if_eq (tgt := 61) hE dX12_told_40 (by decide) (fun c40 => ?_) (fun c40 => ?_)
        · refine jr_bipush (v := (-2 : Int32)) hE dX12_told_61 (by decide) ?_
          have hvF : ∀ z, z ∉ [999] → v z = v z := (fun z hz => rfl)
          have hnF : ∀ z, z ∉ [35, 36, 40, 41, 42, 43, 49] → n11 z = n z := (fun z hz => (hf11 z (jnsub (V := [40, 41, 42, 43, 35, 36, 49]) hz [2, 3, 4, 5, 0, 1, 6] rfl)))
          have hwF : ∀ z, z ∉ [999] → w z = w z := (fun z hz => rfl)
          have e : stTold s (nI u) (nI b) = (-2, s) := by
            unfold stTold
            rw [if_pos ⟨hsuu, nI_rowP hb⟩, hrnb, if_neg (fun h => absurd (b2i_t h.2.1) (by rw [c40]; decide))]
          exact hR F8 _ _ _ dX12_told_63 rfl ⟨_, _, _, _, by rw [e]; exact hI.keep (c := s.2.2.1) M11 hpI.2.1.1 (hpI.2.1.2) (fun z hz => hvF z (jdj rfl hz)) (fun z hz => hnF z (jdj rfl hz)) (fun z hz => hwF z (jdj rfl hz)), by rw [e], O11⟩
        · refine jr_aload_n hE dX12_told_43 0 rfl ?_
          refine jr_aload_n hE dX12_told_44 0 rfl ?_
          refine jr_get hE dX12_told_45 f100 M11.ob rfl ?_
          refine jr_bipush (v := (100 : Int32)) hE dX12_told_48 (by decide) ?_
          refine jr_iload_n hE dX12_told_50 2 rfl ?_
          refine jr_imul (z := nI (100 * b)) hE dX12_told_51 (pk_mul 100 b) ?_
          refine jr_bipush (v := (33 : Int32)) hE dX12_told_52 (by decide) ?_
          refine jr_iadd (z := nI (100 * b + 33)) hE dX12_told_54 (nI_add _ 33) ?_
          have hK13 : mK n11 g := hK.fr (hf11 0 (by decide)) (hf11 1 (by decide)) (hf11 32 (by decide)) (hf11 33 (by decide))
          have hC14 : mC n11 := hC.fr (hf11 4 (by decide)) (hf11 5 (by decide)) (hf11 6 (by decide)) (hf11 7 (by decide)) (hf11 48 (by decide))
          refine jr_kVi (ci := 12) (n := 2) (As := [.ref (a 9), .int (nI (100 * b + 33))]) (rest := []) hE dX12_told_55 (fun l => c_m_reads l G o a v n11 g w 9 (100 * b + 33) 1600 ((s.1 b).getD 33 0) (bnum ((s.1 b).drop 34))) gX12_told_X12_reads rfl M11.ob rfl (by decide +kernel) ⟨rfl, rfl, by decide, by decide⟩ (by decide) rfl rfl (Nat.le_of_ble_eq_true rfl) (⟨M11, hK13, hC14, by decide, by omega, by decide, (bB1' hB6 33 33 (by decide)), htd.2.2.1.symm, htd.2.2.2.symm⟩) (fun r17 F15 q16 => ?_)
          obtain ⟨n18, M18, hf18, hq18, rfl, P18⟩ := q16
          have O18 := O11.tr P18
          refine jr_if_ne (tgt := 64) hE dX12_told_58 (by decide) (fun c58 => ?_) (fun c58 => ?_)
          · have hok : tdOK (s.1 b) := ⟨hlb, b2i_1 c40, b2i_1 c58⟩
            refine jr_iconst (v := (0 : Int32)) hE dX12_told_64 (by decide) ?_
            refine jr_istore_n (lv' := [(3, .int (0 : Int32)), (0, .ref o), (1, .int (nI u)), (2, .int (nI b))]) hE dX12_told_65 (by decide) rfl ?_
            have U19 : (∀ (F1 : Nat → va_E) (f : Nat → Int32), MW G L F1 o a v n18 g (uz w 23 f) → f = wrt (w 23) (66 * u) (bl (w 9) (100 * b) 66) → mO o a F15 F1 → J E L F1 0 0 100 [(3, .int (nI 66)), (0, .ref o), (1, .int (nI u)), (2, .int (nI b))] []) → J E L F15 0 0 66 [(3, .int (0 : Int32)), (0, .ref o), (1, .int (nI u)), (2, .int (nI b))] [] := by
              intro cont
              have loop : ∀ (r0 i : Nat) (F4 : Nat → va_E) (f : Nat → Int32), i + r0 = 66 → MW G L F4 o a v n18 g (uz w 23 f) → f = wrt (w 23) (66 * u) (bl (w 9) (100 * b) i) → mO o a F15 F4 → J E L F4 0 0 66 [(3, .int (nI i)), (0, .ref o), (1, .int (nI u)), (2, .int (nI b))] [] := by
                intro r0
                induction r0 with
                | zero =>
                  intro i F4 f hi H4 hf O4
                  have hwf : ∀ z, z ∉ [23] → (uz w 23 f) z = w z := fun z hz => uz_n _ _ (jne hz 0 rfl)
                  refine jr_iload_n hE dX12_told_66 0 rfl ?_
                  refine jr_bipush (v := (66 : Int32)) hE dX12_told_67 (by decide) ?_
                  refine jr_icmp_ge (tgt := 100) hE dX12_told_69 (by decide) (fun c_69 => ?_) (fun c_69 => absurd (nI_le (a := 66) (by omega) (by omega)) c_69)
                  have hiN : i = 66 := by omega
                  subst hiN
                  exact cont F4 f H4 hf O4
                | succ r0 ih =>
                  intro i F4 f hi H4 hf O4
                  have hwf : ∀ z, z ∉ [23] → (uz w 23 f) z = w z := fun z hz => uz_n _ _ (jne hz 0 rfl)
                  refine jr_iload_n hE dX12_told_66 0 rfl ?_
                  refine jr_bipush (v := (66 : Int32)) hE dX12_told_67 (by decide) ?_
                  refine jr_icmp_ge (tgt := 100) hE dX12_told_69 (by decide) (fun c_69 => absurd c_69 (nI_ge (b := 66) (by omega) (by omega))) (fun c_69 => ?_)
                  refine jr_aload_n hE dX12_told_72 1 rfl ?_
                  refine jr_get hE dX12_told_73 f137 H4.ob rfl ?_
                  refine jr_bipush (v := (66 : Int32)) hE dX12_told_76 (by decide) ?_
                  refine jr_iload_n hE dX12_told_78 2 rfl ?_
                  refine jr_imul (z := nI (66 * u)) hE dX12_told_79 (pk_mul 66 u) ?_
                  refine jr_iload_n hE dX12_told_80 0 rfl ?_
                  refine jr_iadd (z := nI (66 * u + i)) hE dX12_told_81 (nI_add _ _) ?_
                  refine jr_aload_n hE dX12_told_82 1 rfl ?_
                  refine jr_get hE dX12_told_83 f100 H4.ob rfl ?_
                  refine jr_bipush (v := (100 : Int32)) hE dX12_told_86 (by decide) ?_
                  refine jr_iload_n hE dX12_told_88 3 rfl ?_
                  refine jr_imul (z := nI (100 * b)) hE dX12_told_89 (pk_mul 100 b) ?_
                  refine jr_iload_n hE dX12_told_90 0 rfl ?_
                  refine jr_iadd (z := nI (100 * b + i)) hE dX12_told_91 (nI_add _ _) ?_
                  refine jr_iald (v := w 9 (100 * b + i)) hE dX12_told_92 (H4.I (k := 9) (N := 1600) (by decide)) (vp_in_nI (by omega) (by decide)) (by rw [nI_clamp (by omega)]; rfl) ?_
                  refine jr_iast hE dX12_told_93 (H4.I (k := 23) (N := 264) (by decide)) (vp_in_nI (by omega) (by decide)) (fun F20 g21 u22 => ?_)
                  have H23 := H4.setI (k := 23) (N := 264) (by decide) g21 u22
                  have O24 := O4.st (k := 23) (by decide) (by decide) u22
                  rw [uz_uz, uz_s] at H23
                  refine jr_iinc (v := nI (i + 1)) (lv' := [(3, .int (nI (i + 1))), (0, .ref o), (1, .int (nI u)), (2, .int (nI b))]) hE dX12_told_94 0 rfl (nI_1 _) (by decide) rfl ?_
                  refine jr_goto (tgt := 66) hE dX12_told_97 (by decide) ?_
                  refine jr_lv (lv' := [(3, .int (nI (i + 1))), (0, .ref o), (1, .int (nI u)), (2, .int (nI b))]) [0, 1, 2, 3] rfl ?_
                  exact ih (i + 1) F20 _ (by omega) H23 (by
                    rw [bl_s]
                    exact wrt_snoc hf (bl_len _ _ _) (bt_nI _ _) (by omega)) O24
              exact loop 66 0 F15 (w 23) (by omega) (by rw [uz_id]; exact M18) (by rw [show bl (w 9) (100 * b) 0 = [] from rfl, wrt_nil]) (mO.rf o a F15)
            refine U19 (fun F19 f19 M19 hf19 P19 => ?_)
            have O19 := O18.tr P19
            obtain ⟨w19, e19, hw19, hx19⟩ := uz_ab w 23 f19
            rw [e19] at M19
            rw [hf19] at hx19
            refine jr_aload_n hE dX12_told_100 1 rfl ?_
            refine jr_get hE dX12_told_101 f134 M19.ob rfl ?_
            refine jr_iload_n hE dX12_told_104 2 rfl ?_
            refine jr_iconst (v := (1 : Int32)) hE dX12_told_105 (by decide) ?_
            refine jr_zast hE dX12_told_106 (M19.Z (k := 22) (N := 4) (by decide)) (vp_in_nI (by omega) (by decide)) (fun F25 g26 u27 => ?_)
            have H28 := M19.setZ (k := 22) (N := 4) (by decide) g26 u27
            have O29 := O19.st (k := 22) (by decide) (by decide) u27
            obtain ⟨w30, e30, hw30, hx30⟩ := uz_ab w19 22 (upd (w19 22) (nI u).toNatClampNeg (vp_nar .boolean (1 : Int32)))
            rw [e30] at H28
            rw [nI_clamp (by omega), nar1] at hx30
            rw [show w19 22 = w 22 from (hw19 22 (by decide))] at hx30
            
            refine jr_aload_n hE dX12_told_107 1 rfl ?_
            refine jr_iconst (v := (0 : Int32)) hE dX12_told_108 (by decide) ?_
            refine jr_put (ty := .boolean) hE dX12_told_109 f529 H28.ob rfl (by decide +kernel) rfl rfl (Nat.le_of_ble_eq_true rfl) (fun F31 g32 u33 => ?_)
            have H34 := H28.setV (v' := uz v 24 (0 : Int32)) g32 u33
            have O35 := O29.so u33
            obtain ⟨v36, e36, hvv36, hvx36⟩ := uz_ab v 24 (0 : Int32)
            rw [e36] at H34
            refine jr_iconst (v := (1 : Int32)) hE dX12_told_112 (by decide) ?_
            have hvF : ∀ z, z ∉ [24] → v36 z = v z := (fun z hz => (hvv36 z (jnsub (V := [24]) hz [0] rfl)))
            have hnF : ∀ z, z ∉ [35, 36, 40, 41, 42, 43, 49] → n18 z = n z := (fun z hz => ((hf18 z (jnsub (V := [40, 41, 42, 43, 35, 36, 49]) hz [2, 3, 4, 5, 0, 1, 6] rfl)).trans (hf11 z (jnsub (V := [40, 41, 42, 43, 35, 36, 49]) hz [2, 3, 4, 5, 0, 1, 6] rfl))))
            have hwF : ∀ z, z ∉ [22, 23] → w30 z = w z := (fun z hz => ((hw30 z (jnsub (V := [22]) hz [0] rfl)).trans (hw19 z (jnsub (V := [23]) hz [1] rfl))))
            have e : stTold s (nI u) (nI b) = (1, setT s u (s.1 b)) := by
              unfold stTold
              rw [if_pos ⟨hsuu, nI_rowP hb⟩, hrnb, if_pos hok, hrnu]
            have h23 : w30 23 = wrt (w 23) (66 * u) (s.1 b) := by
              rw [show w30 23 = w19 23 from (hw30 23 (by decide)), hx19, z5b]
            have h22 : w30 22 = upd (w 22) u 1 := hx30
            exact hR F31 _ _ _ dX12_told_113 rfl ⟨_, _, _, _, by rw [e]; exact hI.td H34 hvx36 (fun z hz => hvF z (jdj rfl hz)) (fun z hz => hnF z (jdj rfl hz)) (fun z hz => hwF z (jdj rfl hz)) hu hok z4b h22 h23, by rw [e], O35⟩
          · refine jr_bipush (v := (-2 : Int32)) hE dX12_told_61 (by decide) ?_
            have hvF : ∀ z, z ∉ [999] → v z = v z := (fun z hz => rfl)
            have hnF : ∀ z, z ∉ [35, 36, 40, 41, 42, 43, 49] → n18 z = n z := (fun z hz => ((hf18 z (jnsub (V := [40, 41, 42, 43, 35, 36, 49]) hz [2, 3, 4, 5, 0, 1, 6] rfl)).trans (hf11 z (jnsub (V := [40, 41, 42, 43, 35, 36, 49]) hz [2, 3, 4, 5, 0, 1, 6] rfl))))
            have hwF : ∀ z, z ∉ [999] → w z = w z := (fun z hz => rfl)
            have e : stTold s (nI u) (nI b) = (-2, s) := by
              unfold stTold
              rw [if_pos ⟨hsuu, nI_rowP hb⟩, hrnb, if_neg (fun h => absurd (b2i_t h.2.2) (by rw [c58]; decide))]
            exact hR F15 _ _ _ dX12_told_63 rfl ⟨_, _, _, _, by rw [e]; exact hI.keep (c := s.2.2.1) M18 hpI.2.1.1 (hpI.2.1.2) (fun z hz => hvF z (jdj rfl hz)) (fun z hz => hnF z (jdj rfl hz)) (fun z hz => hwF z (jdj rfl hz)), by rw [e], O18⟩
    · refine jr_iconst (v := (-1 : Int32)) hE dX12_told_15 (by decide) ?_
      have e : stTold s (nI u) r = (-1, s) := by
        unfold stTold
        rw [if_neg (fun h => absurd (b2i_t h.2) (by rw [c12]; decide))]
      exact hR F _ _ _ dX12_told_16 rfl ⟨v, n, g, w, by rw [e]; exact hI, by rw [e], mO.rf o a F⟩

