/-! THE REFERENCE'S nonce -/
def noK (A B : List Nat) (jx : Nat) (C : List Nat) (wh : Nat) : Nat := bnum (sha ((sha (tgb 6) ++ sha (tgb 6) ++ A ++ [33] ++ B ++ [32] ++ bex jx 32 ++ [1]) ++ List.replicate 7 0 ++ [C.length] ++ C ++ List.replicate 4 0 ++ [wh])) % NN
theorem noK_eq (A B : List Nat) (jx : Nat) (C : List Nat) (wh : Nat) : noK A B jx C wh = bnum (sha ((sha (tgb 6) ++ sha (tgb 6) ++ A ++ [33] ++ B ++ [32] ++ bex jx 32 ++ [1]) ++ List.replicate 7 0 ++ [C.length] ++ C ++ List.replicate 4 0 ++ [wh])) % NN := rfl
noncomputable def noN (s : ST) (d : Nat) (z m : List Nat) (wh : Nat) : Nat := noK (xorL (bex d 32) (sha (sha (tgb 5) ++ sha (tgb 5) ++ z))) (pbE (emul PP d GE)) (exE (qSs s.2.2.2.1 s.2.2.2.1.length)) m wh
noncomputable def noL (s : ST) (d : Nat) (z m : List Nat) : List Nat := pbE (emul PP (noN s d z m 0) GE) ++ pbE (emul PP (noN s d z m 1) GE)
noncomputable def stNo1 (s : ST) (k u p j b : Nat) : Int32 × ST := if secOK (s.1 p) ∧ (s.1 j).length = 32 ∧ (s.1 b).length ≤ 40 then (if 48 < s.2.2.1 + (3 + s.2.2.2.1.length) then (-5, s) else if pbE (emul PP (bnum (s.1 p)) GE) = s.2.2.2.1.getD u [] then (if qSs s.2.2.2.1 s.2.2.2.1.length = none ∨ noN s (bnum (s.1 p)) (s.1 j) (s.1 b) 0 = 0 ∨ noN s (bnum (s.1 p)) (s.1 j) (s.1 b) 1 = 0 then (-2, setK s (s.2.2.1 + 1 + s.2.2.2.1.length)) else (66, setN (setK (setR s k (noL s (bnum (s.1 p)) (s.1 j) (s.1 b))) (s.2.2.1 + 1 + s.2.2.2.1.length + 2)) (fun t => if t = u then some (noN s (bnum (s.1 p)) (s.1 j) (s.1 b) 0, noN s (bnum (s.1 p)) (s.1 j) (s.1 b) 1, noL s (bnum (s.1 p)) (s.1 j) (s.1 b)) else s.2.2.2.2.1 t))) else (-2, setK s (s.2.2.1 + 1))) else (-2, s)
noncomputable def stNonce (s : ST) (r x c y m : Int32) : Int32 × ST := if rowP r ∧ (0 ≤ x.toInt ∧ x.toInt < s.2.2.2.1.length) ∧ rowP c ∧ rowP y ∧ rowP m then stNo1 s (rn r) (rn x) (rn c) (rn y) (rn m) else (-1, s)
theorem mN_of {x : Nat} {f : Nat → Int64} (h : ∃ g, mN g x) (e : ∀ i, i < 8 → f i = lN (x / 2 ^ (32 * i) % 2 ^ 32)) : mN f x := by
  obtain ⟨g, hg⟩ := h
  exact hg.cg (fun i hi => (e i hi).trans (hg.dig i hi).symm)
theorem MW.mn {G : Nat → ClassId} {L : List Nat} {F : Nat → va_E} {o : Nat} {a : Nat → Nat} {v : Nat → Int32} {n : Nat → Option Nat} {g : Nat → Nat → Int64} {w : Nat → Nat → Int32} (M : MW G L F o a v n g w) {k x : Nat} (h : n k = some x) : ∃ g, mN g x := by
  obtain ⟨s, _, hn, _⟩ := M
  exact ⟨_, hn k x h⟩
theorem ncI.put {g g' : Nat → Nat → Int64} {w w' : Nat → Nat → Int32} {Nc : Nat → Option SNo} {m j KA KB : Nat} {l : List Nat} (h : ncI g w Nc m) (hj : j < m) (h18 : w' 18 = upd (w 18) j 1) (h21 : w' 21 = wrt (w 21) (66 * j) l) (hl : l.length = 66) (hb : ∀ b, b ∈ l → b < 256) (ho : ∀ t, (t < 8 * j ∨ 8 * j + 8 ≤ t) → g' 19 t = g 19 t ∧ g' 20 t = g 20 t) (hA : mN (fun i => g' 19 (8 * j + i)) KA) (hB : mN (fun i => g' 20 (8 * j + i)) KB) (lA : KA < NN) (lB : KB < NN) : ncI g' w' (fun t => if t = j then some (KA, KB, l) else Nc t) m := by
  intro t ht
  dsimp only
  by_cases e : t = j
  · rw [if_pos e]
    subst e
    exact ⟨fun q => absurd q (by omega), by rw [h18]; exact if_pos rfl, hA, hB, by rw [h21]; exact bl_wr hl hb, lA, lB⟩
  · rw [if_neg e]
    have q := h t ht
    refine ⟨q.1, ?_⟩
    have e1 : w' 18 t = w 18 t := by rw [h18]; exact if_neg e
    have q2 := q.2
    revert q2
    cases Nc t with
    | none => intro q2; exact e1.trans q2
    | some x =>
      rintro ⟨b1, b2, b3, b4, b5⟩
      refine ⟨e1.trans b1, b2.cg (fun i hi => (ho _ (by omega)).1), b3.cg (fun i hi => (ho _ (by omega)).2), ?_, b5⟩
      rw [h21, bl_wrt_out _ _ _ _ _ (by omega)]
      exact b4

set_option maxHeartbeats 4000000 in
set_option maxRecDepth 100000 in
theorem c_m_nonce (l : Launch) (G : Nat → ClassId) (o : Nat) (a : Nat → Nat) (v : Nat → Int32) (n : Nat → Option Nat) (g : Nat → Nat → Int64) (w : Nat → Nat → Int32) (s : ST) (r x c y m : Int32) : jKi l yX12_nonce wsX12_nonce ({ frames := 8, cells := 0, slots := 0, locals := 195 }) G [.ref o, .int r, .int x, .int c, .int y, .int m] (fun L F => mI G L F o a v n g w s) (fun L F q F1 => ∃ v' n' g' w', mI G L F1 o a v' n' g' w' (stNonce s r x c y m).2 ∧ q = (stNonce s r x c y m).1 ∧ mO o a F F1) := by
  refine jm_ki (cc := cX12_nonce) (maxL := 7) (rt := .int) (by decide) rfl (Nat.le_of_ble_eq_true rfl) ?_
  intro E L F hE hR hpre
  have hE : jOk E G _ cX12_nonce 7 RX12 wsX12_nonce := hE
  have hI := hpre
  obtain ⟨M0, hK, hC, htg, hrd, hRW, hpI⟩ := id hpre
  have hwk48 := hpI.2.1.2
  have hs4 := hpI.2.2.1.2.1
  have hqS := hpI.2.2.1.qSe _ (Nat.le_refl _)
  have hqSon := hpI.2.2.1.on
  have f96 : jFl RX12 wsX12_nonce 96 12 8 := ⟨rfl, by decide, by decide +kernel, by decide +kernel⟩
  have f533 : jFl RX12 wsX12_nonce 533 12 16 := ⟨rfl, by decide, by decide +kernel, by decide +kernel⟩
  have f311 : jFl RX12 wsX12_nonce 311 12 64 := ⟨rfl, by decide, by decide +kernel, by decide +kernel⟩
  have f314 : jFl RX12 wsX12_nonce 314 12 65 := ⟨rfl, by decide, by decide +kernel, by decide +kernel⟩
  have f478 : jFl RX12 wsX12_nonce 478 12 31 := ⟨rfl, by decide, by decide +kernel, by decide +kernel⟩
  have f302 : jFl RX12 wsX12_nonce 302 12 61 := ⟨rfl, by decide, by decide +kernel, by decide +kernel⟩
  have f125 : jFl RX12 wsX12_nonce 125 12 19 := ⟨rfl, by decide, by decide +kernel, by decide +kernel⟩
  have f128 : jFl RX12 wsX12_nonce 128 12 20 := ⟨rfl, by decide, by decide +kernel, by decide +kernel⟩
  have f131 : jFl RX12 wsX12_nonce 131 12 21 := ⟨rfl, by decide, by decide +kernel, by decide +kernel⟩
  have f121 : jFl RX12 wsX12_nonce 121 12 18 := ⟨rfl, by decide, by decide +kernel, by decide +kernel⟩
  refine jr_iload_n hE dX12_nonce_0 1 rfl ?_
  refine jr_kSi (n := 1) (As := [.int r]) (rest := []) hE dX12_nonce_1 (fun l => c_m_isRow l G r) gX12_nonce_X12_isRow rfl (by decide +kernel) ⟨rfl, rfl, by decide, by decide⟩ (by decide) rfl rfl (Nat.le_of_ble_eq_true rfl) (trivial) (fun r3 F1 q2 => ?_)
  obtain ⟨eq2, rq2⟩ := q2
  subst eq2 rq2
  refine jr_if_eq (tgt := 38) hE dX12_nonce_4 (by decide) (fun c4 => ?_) (fun c4 => ?_)
  · refine jr_iconst (v := (-1 : Int32)) hE dX12_nonce_38 (by decide) ?_
    have e : stNonce s r x c y m = (-1, s) := by
      unfold stNonce
      rw [if_neg (fun h => absurd (b2i_t h.1) (by rw [c4]; decide))]
    exact hR F _ _ _ dX12_nonce_39 rfl ⟨v, n, g, w, by rw [e]; exact hI, by rw [e], mO.rf o a F⟩
  · have hrk : rowP r := b2i_1 c4
    obtain ⟨k, hk, rfl⟩ := rowP_nI hrk
    obtain ⟨z1k, z2k, z3k, z4k⟩ := hRW k hk
    have hrnk := nI_rn hk
    refine jr_aload_n hE dX12_nonce_7 0 rfl ?_
    refine jr_iload_n hE dX12_nonce_8 2 rfl ?_
    refine jr_kVi (ci := 12) (n := 1) (As := [.int x]) (rest := []) hE dX12_nonce_9 (fun l => c_m_isSigner l G o a v n g w x s.2.2.2.1.length) gX12_nonce_X12_isSigner rfl M0.ob rfl (by decide +kernel) ⟨rfl, rfl, by decide, by decide⟩ (by decide) rfl rfl (Nat.le_of_ble_eq_true rfl) (⟨M0, hpI.2.2.1.1, hpI.2.2.1.2.1⟩) (fun r6 F4 q5 => ?_)
    obtain ⟨eq5, rq5⟩ := q5
    subst eq5 rq5
    refine jr_if_eq (tgt := 38) hE dX12_nonce_12 (by decide) (fun c12 => ?_) (fun c12 => ?_)
    · refine jr_iconst (v := (-1 : Int32)) hE dX12_nonce_38 (by decide) ?_
      have e : stNonce s (nI k) x c y m = (-1, s) := by
        unfold stNonce
        rw [if_neg (fun h => absurd (b2i_t h.2.1) (by rw [c12]; decide))]
      exact hR F _ _ _ dX12_nonce_39 rfl ⟨v, n, g, w, by rw [e]; exact hI, by rw [e], mO.rf o a F⟩
    · have hru := b2i_1 c12
      obtain ⟨u, hu, rfl⟩ := sgn_nI hru hpI.2.2.1.2.1
      have hrnu : rn (nI u) = u := nI_rn (by have := hpI.2.2.1.2.1; omega)
      have hu4u : u < 4 := Nat.lt_of_lt_of_le hu hpI.2.2.1.2.1
      have hsuu : 0 ≤ (nI u).toInt ∧ (nI u).toInt < s.2.2.2.1.length := by rw [nI_toInt (by omega)]; omega
      refine jr_iload_n hE dX12_nonce_15 3 rfl ?_
      refine jr_kSi (n := 1) (As := [.int c]) (rest := []) hE dX12_nonce_16 (fun l => c_m_isRow l G c) gX12_nonce_X12_isRow rfl (by decide +kernel) ⟨rfl, rfl, by decide, by decide⟩ (by decide) rfl rfl (Nat.le_of_ble_eq_true rfl) (trivial) (fun r9 F7 q8 => ?_)
      obtain ⟨eq8, rq8⟩ := q8
      subst eq8 rq8
      refine jr_if_eq (tgt := 38) hE dX12_nonce_19 (by decide) (fun c19 => ?_) (fun c19 => ?_)
      · refine jr_iconst (v := (-1 : Int32)) hE dX12_nonce_38 (by decide) ?_
        have e : stNonce s (nI k) (nI u) c y m = (-1, s) := by
          unfold stNonce
          rw [if_neg (fun h => absurd (b2i_t h.2.2.1) (by rw [c19]; decide))]
        exact hR F _ _ _ dX12_nonce_39 rfl ⟨v, n, g, w, by rw [e]; exact hI, by rw [e], mO.rf o a F⟩
      · have hrp : rowP c := b2i_1 c19
        obtain ⟨p, hp, rfl⟩ := rowP_nI hrp
        obtain ⟨z1p, z2p, z3p, z4p⟩ := hRW p hp
        have hrnp := nI_rn hp
        refine jr_iload hE dX12_nonce_22 4 rfl ?_
        refine jr_kSi (n := 1) (As := [.int y]) (rest := []) hE dX12_nonce_24 (fun l => c_m_isRow l G y) gX12_nonce_X12_isRow rfl (by decide +kernel) ⟨rfl, rfl, by decide, by decide⟩ (by decide) rfl rfl (Nat.le_of_ble_eq_true rfl) (trivial) (fun r12 F10 q11 => ?_)
        obtain ⟨eq11, rq11⟩ := q11
        subst eq11 rq11
        refine jr_if_eq (tgt := 38) hE dX12_nonce_27 (by decide) (fun c27 => ?_) (fun c27 => ?_)
        · refine jr_iconst (v := (-1 : Int32)) hE dX12_nonce_38 (by decide) ?_
          have e : stNonce s (nI k) (nI u) (nI p) y m = (-1, s) := by
            unfold stNonce
            rw [if_neg (fun h => absurd (b2i_t h.2.2.2.1) (by rw [c27]; decide))]
          exact hR F _ _ _ dX12_nonce_39 rfl ⟨v, n, g, w, by rw [e]; exact hI, by rw [e], mO.rf o a F⟩
        · have hrj : rowP y := b2i_1 c27
          obtain ⟨j, hj, rfl⟩ := rowP_nI hrj
          obtain ⟨z1j, z2j, z3j, z4j⟩ := hRW j hj
          have hrnj := nI_rn hj
          refine jr_iload hE dX12_nonce_30 5 rfl ?_
          refine jr_kSi (n := 1) (As := [.int m]) (rest := []) hE dX12_nonce_32 (fun l => c_m_isRow l G m) gX12_nonce_X12_isRow rfl (by decide +kernel) ⟨rfl, rfl, by decide, by decide⟩ (by decide) rfl rfl (Nat.le_of_ble_eq_true rfl) (trivial) (fun r15 F13 q14 => ?_)
          obtain ⟨eq14, rq14⟩ := q14
          subst eq14 rq14
          refine jr_if_ne (tgt := 40) hE dX12_nonce_35 (by decide) (fun c35 => ?_) (fun c35 => ?_)
          · have hrb : rowP m := b2i_1 c35
            obtain ⟨b, hb, rfl⟩ := rowP_nI hrb
            obtain ⟨z1b, z2b, z3b, z4b⟩ := hRW b hb
            have hrnb := nI_rn hb
            refine jr_aload_n hE dX12_nonce_40 0 rfl ?_
            refine jr_iload_n hE dX12_nonce_41 3 rfl ?_
            refine jr_kVi (ci := 12) (n := 1) (As := [.int (nI p)]) (rest := []) hE dX12_nonce_42 (fun l => c_m_isSecret l G o a v n g w p (s.1 p).length) gX12_nonce_X12_isSecret rfl M0.ob rfl (by decide +kernel) ⟨rfl, rfl, by decide, by decide⟩ (by decide) rfl rfl (Nat.le_of_ble_eq_true rfl) (⟨M0, hK, hp, z1p, z3p, fun h => by rw [← h]; exact bB_of z2p z4p⟩) (fun r19 F17 q18 => ?_)
            obtain ⟨n20, M20, hf20, hd20, r19e, P20⟩ := q18
            rw [secI z2p] at r19e
            subst r19e
            have O20 := (mO.rf o a F).tr P20
            refine jr_if_eq (tgt := 72) hE dX12_nonce_45 (by decide) (fun c45 => ?_) (fun c45 => ?_)
            · refine jr_bipush (v := (-2 : Int32)) hE dX12_nonce_72 (by decide) ?_
              have hvF : ∀ z, z ∉ [999] → v z = v z := (fun z hz => rfl)
              have hnF : ∀ z, z ∉ [62] → n20 z = n z := (fun z hz => (hf20 z (jnsub (V := [62]) hz [0] rfl)))
              have hwF : ∀ z, z ∉ [999] → w z = w z := (fun z hz => rfl)
              have e : stNonce s (nI k) (nI u) (nI p) (nI j) (nI b) = (-2, s) := by
                unfold stNonce
                rw [if_pos ⟨nI_rowP hk, hsuu, nI_rowP hp, nI_rowP hj, nI_rowP hb⟩, hrnk, hrnu, hrnp, hrnj, hrnb]
                unfold stNo1
                rw [if_neg (fun h => absurd (b2i_t h.1) (by rw [c45]; decide))]
              exact hR F17 _ _ _ dX12_nonce_74 rfl ⟨_, _, _, _, by rw [e]; exact hI.keep (c := s.2.2.1) M20 hpI.2.1.1 (hpI.2.1.2) (fun z hz => hvF z (jdj rfl hz)) (fun z hz => hnF z (jdj rfl hz)) (fun z hz => hwF z (jdj rfl hz)), by rw [e], O20⟩
            · have hs := b2i_1 c45
              have hS22 : n20 62 = some (bnum (s.1 p)) := sec_get hd20 z2p hs.1
              obtain ⟨d, hd⟩ : ∃ d, d = (bnum (s.1 p)) := ⟨_, rfl⟩
              rw [← hd] at hS22
              refine jr_aload_n hE dX12_nonce_48 0 rfl ?_
              refine jr_get hE dX12_nonce_49 f96 M20.ob rfl ?_
              refine jr_iload hE dX12_nonce_52 4 rfl ?_
              refine jr_iald (v := nI (s.1 j).length) hE dX12_nonce_54 (M20.I (k := 8) (N := 16) (by decide)) (vp_in_nI (by omega) (by decide)) (by rw [nI_clamp (by omega)]; exact z1j) ?_
              refine jr_bipush (v := (32 : Int32)) hE dX12_nonce_55 (by decide) ?_
              refine jr_icmp_ne (tgt := 72) hE dX12_nonce_57 (by decide) (fun c57 => ?_) (fun c57 => ?_)
              · refine jr_bipush (v := (-2 : Int32)) hE dX12_nonce_72 (by decide) ?_
                have hvF : ∀ z, z ∉ [999] → v z = v z := (fun z hz => rfl)
                have hnF : ∀ z, z ∉ [62] → n20 z = n z := (fun z hz => (hf20 z (jnsub (V := [62]) hz [0] rfl)))
                have hwF : ∀ z, z ∉ [999] → w z = w z := (fun z hz => rfl)
                have e : stNonce s (nI k) (nI u) (nI p) (nI j) (nI b) = (-2, s) := by
                  unfold stNonce
                  rw [if_pos ⟨nI_rowP hk, hsuu, nI_rowP hp, nI_rowP hj, nI_rowP hb⟩, hrnk, hrnu, hrnp, hrnj, hrnb]
                  unfold stNo1
                  rw [if_neg (fun h => c57 ((nI_eq (by omega) (by decide)).mpr h.2.1))]
                exact hR F17 _ _ _ dX12_nonce_74 rfl ⟨_, _, _, _, by rw [e]; exact hI.keep (c := s.2.2.1) M20 hpI.2.1.1 (hpI.2.1.2) (fun z hz => hvF z (jdj rfl hz)) (fun z hz => hnF z (jdj rfl hz)) (fun z hz => hwF z (jdj rfl hz)), by rw [e], O20⟩
              · refine jr_aload_n hE dX12_nonce_60 0 rfl ?_
                refine jr_get hE dX12_nonce_61 f96 M20.ob rfl ?_
                refine jr_iload hE dX12_nonce_64 5 rfl ?_
                refine jr_iald (v := nI (s.1 b).length) hE dX12_nonce_66 (M20.I (k := 8) (N := 16) (by decide)) (vp_in_nI (by omega) (by decide)) (by rw [nI_clamp (by omega)]; exact z1b) ?_
                refine jr_bipush (v := (40 : Int32)) hE dX12_nonce_67 (by decide) ?_
                refine jr_icmp_le (tgt := 75) hE dX12_nonce_69 (by decide) (fun c69 => ?_) (fun c69 => ?_)
                · have hok : secOK (s.1 p) ∧ (s.1 j).length = 32 ∧ (s.1 b).length ≤ 40 := ⟨hs, (nI_eq (by omega) (by decide)).mp c57, nI_leC (by omega) (by decide) c69⟩
                  have hlb40 := hok.2.2
                  have z5j : bl (w 9) (100 * j) 32 = s.1 j := by have q := z2j; rw [hok.2.1] at q; exact q
                  refine jr_aload_n hE dX12_nonce_75 0 rfl ?_
                  refine jr_iconst (v := (3 : Int32)) hE dX12_nonce_76 (by decide) ?_
                  refine jr_aload_n hE dX12_nonce_77 0 rfl ?_
                  refine jr_get hE dX12_nonce_78 f533 M20.ob rfl ?_
                  rw [hpI.2.2.1.1]
                  refine jr_iadd (z := nI (3 + s.2.2.2.1.length)) hE dX12_nonce_81 (nI_add 3 _) ?_
                  refine jr_kVi (ci := 12) (n := 1) (As := [.int (nI (3 + s.2.2.2.1.length))]) (rest := []) hE dX12_nonce_82 (fun l => c_m_isSpent l G o a v n20 g w s.2.2.1 (3 + s.2.2.2.1.length)) gX12_nonce_X12_isSpent rfl M20.ob rfl (by decide +kernel) ⟨rfl, rfl, by decide, by decide⟩ (by decide) rfl rfl (Nat.le_of_ble_eq_true rfl) (⟨M20, hpI.2.1.1, by omega, by omega⟩) (fun r26 F24 q25 => ?_)
                  obtain ⟨eq25, rq25⟩ := q25
                  subst eq25 rq25
                  refine jr_if_eq (tgt := 91) hE dX12_nonce_85 (by decide) (fun c85 => ?_) (fun c85 => ?_)
                  · have hw48 : ¬ 48 < s.2.2.1 + (3 + s.2.2.2.1.length) := fun h => absurd (b2i_t h) (by rw [c85]; decide)
                    refine jr_aload_n hE dX12_nonce_91 0 rfl ?_
                    refine jr_iload_n hE dX12_nonce_92 2 rfl ?_
                    have hK27 : mK n20 g := hK.fr (hf20 0 (by decide)) (hf20 1 (by decide)) (hf20 32 (by decide)) (hf20 33 (by decide))
                    have hC28 : mC n20 := hC.fr (hf20 4 (by decide)) (hf20 5 (by decide)) (hf20 6 (by decide)) (hf20 7 (by decide)) (hf20 48 (by decide))
                    refine jr_kVi (ci := 12) (n := 1) (As := [.int (nI u)]) (rest := []) hE dX12_nonce_93 (fun l => c_m_isOf l G o a v n20 g w u s.2.2.1 d) gX12_nonce_X12_isOf rfl M20.ob rfl (by decide +kernel) ⟨rfl, rfl, by decide, by decide⟩ (by decide) rfl rfl (Nat.le_of_ble_eq_true rfl) (⟨M20, hK27, hC28, hpI.2.1.1, hS22, hu4u⟩) (fun r31 F29 q30 => ?_)
                    obtain ⟨n32, v32, w32, M32, hf32, h3132, hvv32, hw32, ho32, r31e, P32⟩ := q30
                    have O32 := O20.tr P32
                    rw [(hpI.2.2.1.2.2.2 u hu).1] at r31e
                    subst r31e
                    refine jr_if_eq (tgt := 106) hE dX12_nonce_96 (by decide) (fun c96 => ?_) (fun c96 => ?_)
                    · refine jr_bipush (v := (-2 : Int32)) hE dX12_nonce_106 (by decide) ?_
                      have hvF : ∀ z, z ∉ [31] → v32 z = v z := (fun z hz => (hvv32 z (jne hz 0 rfl)))
                      have hnF : ∀ z, z ∉ [34, 35, 36, 37, 38, 39, 40, 41, 42, 43, 44, 45, 46, 47, 62] → n32 z = n z := (fun z hz => ((hf32 z (jnsub (V := [34, 35, 36, 37, 38, 39, 40, 41, 42, 43, 44, 45, 46, 47]) hz [0, 1, 2, 3, 4, 5, 6, 7, 8, 9, 10, 11, 12, 13] rfl)).trans (hf20 z (jnsub (V := [62]) hz [14] rfl))))
                      have hwF : ∀ z, z ∉ [79] → w32 z = w z := (fun z hz => (hw32 z (jne hz 0 rfl)))
                      have e : stNonce s (nI k) (nI u) (nI p) (nI j) (nI b) = (-2, setK s (s.2.2.1 + 1)) := by
                        unfold stNonce
                        rw [if_pos ⟨nI_rowP hk, hsuu, nI_rowP hp, nI_rowP hj, nI_rowP hb⟩, hrnk, hrnu, hrnp, hrnj, hrnb]
                        unfold stNo1
                        rw [if_pos hok, if_neg hw48, ← hd, if_neg (fun h => absurd (b2i_t (by rw [gD_in [] hu] at h; exact h)) (by rw [c96]; decide))]
                      exact hR F29 _ _ _ dX12_nonce_108 rfl ⟨_, _, _, _, by rw [e]; exact hI.keep (c := s.2.2.1 + 1) M32 h3132 (by omega) (fun z hz => hvF z (jdj rfl hz)) (fun z hz => hnF z (jdj rfl hz)) (fun z hz => hwF z (jdj rfl hz)), by rw [e], O32⟩
                    · have hof : pbE (emul PP d GE) = s.2.2.2.1.getD u [] := by rw [gD_in [] hu]; exact b2i_1 c96
                      refine jr_aload_n hE dX12_nonce_99 0 rfl ?_
                      have hV34 : v32 16 = (nI s.2.2.2.1.length) := (hvv32 16 (by decide)).trans hpI.2.2.1.1
                      have hK35 : mK n32 g := hK27.fr (hf32 0 (by decide)) (hf32 1 (by decide)) (hf32 32 (by decide)) (hf32 33 (by decide))
                      have hC36 : mC n32 := hC28.fr (hf32 4 (by decide)) (hf32 5 (by decide)) (hf32 6 (by decide)) (hf32 7 (by decide)) (hf32 48 (by decide))
                      have hT37 : tgOK w32 := htg.fr (hw32 50 (by decide)) (hw32 51 (by decide))
                      have hD38 : rdOK w32 := hrd.fr (hw32 52 (by decide))
                      refine jr_kVi (ci := 12) (n := 0) (As := []) (rest := []) hE dX12_nonce_100 (fun l => c_m_join l G o a v32 n32 g w32 (s.2.2.1 + 1) s.2.2.2.1.length) gX12_nonce_X12_join rfl M32.ob rfl (by decide +kernel) ⟨rfl, rfl, by decide, by decide⟩ (by decide) rfl rfl (Nat.le_of_ble_eq_true rfl) (⟨M32, hK35, hC36, hT37, hD38, h3132, hV34, hpI.2.2.1.2.1, by rw [show w32 17 = w 17 from (hw32 17 (by decide))]; exact hpI.2.2.1.2.2.1, by rw [show w32 17 = w 17 from (hw32 17 (by decide))]; exact fun t ht => (hpI.2.2.1.2.2.2 t ht).2⟩) (fun r41 F39 q40 => ?_)
                      obtain ⟨n42, v42, w42, M42, hf42, h3142, hvv42, hw42, hs42, h7742, hod42, r41e, P42⟩ := q40
                      have O42 := O32.tr P42
                      rw [show w32 17 = w 17 from (hw32 17 (by decide))] at hs42
                      rw [show w32 17 = w 17 from (hw32 17 (by decide))] at hod42
                      rw [show w32 17 = w 17 from (hw32 17 (by decide))] at r41e
                      rw [hqS] at hs42
                      rw [hqS] at hod42
                      rw [hqS] at r41e
                      subst r41e
                      refine jr_if_ne (tgt := 109) hE dX12_nonce_103 (by decide) (fun c103 => ?_) (fun c103 => ?_)
                      · have hQ : (qSs s.2.2.2.1 s.2.2.2.1.length) ≠ none := b2i_1 c103
                        have hxy43 := hs42.xy hQ
                        have hj43 : n42 77 = some (exE (qSs s.2.2.2.1 s.2.2.2.1.length)) := h7742.trans hxy43.1
                        have ho43 : v42 78 = b2i (eyN (qSs s.2.2.2.1 s.2.2.2.1.length) % 2 = 1) := by
                          obtain ⟨xy, hxy⟩ := Option.ne_none_iff_exists'.mp hQ
                          rw [hod42 xy.1 xy.2 hxy, hxy]
                          rfl
                        refine jr_aload_n hE dX12_nonce_109 0 rfl ?_
                        refine jr_iconst (v := (5 : Int32)) hE dX12_nonce_110 (by decide) ?_
                        refine jr_iload hE dX12_nonce_111 4 rfl ?_
                        have hN44 : n42 62 = some d := ((hf42 62 (by decide)).trans (hf32 62 (by decide))).trans hS22
                        have hC45 : bl (w42 9) (100 * j) 32 = s.1 j := by
                          rw [show w42 9 = w 9 from ((hw42 9 (by decide)).trans (hw32 9 (by decide)))]
                          exact z5j
                        have hT46 : tgOK w42 := hT37.fr (hw42 50 (by decide)) (hw42 51 (by decide))
                        have hD47 : rdOK w42 := hD38.fr (hw42 52 (by decide))
                        refine jr_kVv (ci := 12) (n := 2) (As := [.int (5 : Int32), .int (nI j)]) (rest := []) hE dX12_nonce_113 (fun l => c_m_mix l G o a v42 n42 g w42 5 j d) gX12_nonce_X12_mix rfl M42.ob rfl (by decide +kernel) ⟨rfl, rfl, by decide, by decide⟩ (by decide) rfl rfl (Nat.le_of_ble_eq_true rfl) (⟨M42, by decide, hT46, hD47, by omega, hN44, bB_of hC45 z4j⟩) (fun F48 q49 => ?_)
                        obtain ⟨v50, w50, M50, hvv50, hw50, hm50, P50⟩ := q49
                        rw [hC45] at hm50
                        have O50 := O42.tr P50
                        refine jr_aload_n hE dX12_nonce_116 0 rfl ?_
                        refine jr_aload_n hE dX12_nonce_117 0 rfl ?_
                        refine jr_get hE dX12_nonce_118 f311 M50.ob rfl ?_
                        refine jr_iload hE dX12_nonce_121 5 rfl ?_
                        refine jr_iconst (v := (0 : Int32)) hE dX12_nonce_123 (by decide) ?_
                        have hK51 : mK n42 g := hK35.fr (hf42 0 (by decide)) (hf42 1 (by decide)) (hf42 32 (by decide)) (hf42 33 (by decide))
                        have hT52 : tgOK w50 := hT46.fr (hw50 50 (by decide)) (hw50 51 (by decide))
                        have hD53 : rdOK w50 := hD47.fr (hw50 52 (by decide))
                        have hC54 : bl (w50 79) 0 33 = pbE (emul PP d GE) := by
                          rw [show w50 79 = w32 79 from ((hw50 79 (by decide)).trans (hw42 79 (by decide)))]
                          exact ho32
                        have hC55 : bl (w50 9) (100 * b) ((s.1 b).length) = s.1 b := by
                          rw [show w50 9 = w 9 from ((hw50 9 (by decide)).trans ((hw42 9 (by decide)).trans (hw32 9 (by decide))))]
                          exact z2b
                        refine jr_kVv (ci := 12) (n := 3) (As := [.ref (a 64), .int (nI b), .int (0 : Int32)]) (rest := []) hE dX12_nonce_124 (fun l => c_m_makeNonce l G o a v50 n42 g w50 64 b 0 (s.1 b).length (exE (qSs s.2.2.2.1 s.2.2.2.1.length))) gX12_nonce_X12_makeNonce rfl M50.ob rfl (by decide +kernel) ⟨rfl, rfl, by decide, by decide⟩ (by decide) rfl rfl (Nat.le_of_ble_eq_true rfl) (⟨M50, hK51, hT52, hD53, by decide, hb, (congrFun ((hw50 8 (by decide)).trans ((hw42 8 (by decide)).trans (hw32 8 (by decide)))) b).trans z1b, by omega, by decide, hj43, bB_of hm50 (xorL_lt (bex_lt _ _) (sha_lt _)), bB_of hC54 (pbE_lt _), bB_of hC55 z4b⟩) (fun F56 q57 => ?_)
                        obtain ⟨v58, w58, M58, hvv58, hw58, P58⟩ := q57
                        rw [hm50, hC54, hC55, ← noK_eq] at M58
                        have O58 := O50.tr P58
                        obtain ⟨KA, eKA⟩ : ∃ x, x = noK (xorL (bex d 32) (sha (sha (tgb 5) ++ sha (tgb 5) ++ s.1 j))) (pbE (emul PP d GE)) (exE (qSs s.2.2.2.1 s.2.2.2.1.length)) (s.1 b) 0 := ⟨_, rfl⟩
                        rw [← eKA] at M58
                        obtain ⟨n58, e58, hf58, hv58⟩ := uz_ab n42 64 (some KA)
                        rw [e58] at M58
                        refine jr_aload_n hE dX12_nonce_127 0 rfl ?_
                        refine jr_aload_n hE dX12_nonce_128 0 rfl ?_
                        refine jr_get hE dX12_nonce_129 f314 M58.ob rfl ?_
                        refine jr_iload hE dX12_nonce_132 5 rfl ?_
                        refine jr_iconst (v := (1 : Int32)) hE dX12_nonce_134 (by decide) ?_
                        have hK59 : mK n58 g := hK51.fr (hf58 0 (by decide)) (hf58 1 (by decide)) (hf58 32 (by decide)) (hf58 33 (by decide))
                        have hT60 : tgOK w58 := hT52.fr (hw58 50 (by decide)) (hw58 51 (by decide))
                        have hD61 : rdOK w58 := hD53.fr (hw58 52 (by decide))
                        have hN62 : n58 77 = some (exE (qSs s.2.2.2.1 s.2.2.2.1.length)) := (hf58 77 (by decide)).trans hj43
                        have hC63 : bl (w58 67) 0 32 = xorL (bex d 32) (sha (sha (tgb 5) ++ sha (tgb 5) ++ s.1 j)) := by
                          rw [show w58 67 = w50 67 from (hw58 67 (by decide))]
                          exact hm50
                        have hC64 : bl (w58 79) 0 33 = pbE (emul PP d GE) := by
                          rw [show w58 79 = w50 79 from (hw58 79 (by decide))]
                          exact hC54
                        have hC65 : bl (w58 9) (100 * b) ((s.1 b).length) = s.1 b := by
                          rw [show w58 9 = w50 9 from (hw58 9 (by decide))]
                          exact hC55
                        refine jr_kVv (ci := 12) (n := 3) (As := [.ref (a 65), .int (nI b), .int (1 : Int32)]) (rest := []) hE dX12_nonce_135 (fun l => c_m_makeNonce l G o a v58 n58 g w58 65 b 1 (s.1 b).length (exE (qSs s.2.2.2.1 s.2.2.2.1.length))) gX12_nonce_X12_makeNonce rfl M58.ob rfl (by decide +kernel) ⟨rfl, rfl, by decide, by decide⟩ (by decide) rfl rfl (Nat.le_of_ble_eq_true rfl) (⟨M58, hK59, hT60, hD61, by decide, hb, (congrFun ((hw58 8 (by decide)).trans ((hw50 8 (by decide)).trans ((hw42 8 (by decide)).trans (hw32 8 (by decide))))) b).trans z1b, by omega, by decide, hN62, bB_of hC63 (xorL_lt (bex_lt _ _) (sha_lt _)), bB_of hC64 (pbE_lt _), bB_of hC65 z4b⟩) (fun F66 q67 => ?_)
                        obtain ⟨v68, w68, M68, hvv68, hw68, P68⟩ := q67
                        rw [hC63, hC64, hC65, ← noK_eq] at M68
                        have O68 := O58.tr P68
                        obtain ⟨KB, eKB⟩ : ∃ x, x = noK (xorL (bex d 32) (sha (sha (tgb 5) ++ sha (tgb 5) ++ s.1 j))) (pbE (emul PP d GE)) (exE (qSs s.2.2.2.1 s.2.2.2.1.length)) (s.1 b) 1 := ⟨_, rfl⟩
                        rw [← eKB] at M68
                        obtain ⟨n68, e68, hf68, hv68⟩ := uz_ab n58 65 (some KB)
                        rw [e68] at M68
                        have eKA0 : noN s d (s.1 j) (s.1 b) 0 = KA := by rw [eKA]; rfl
                        have eKB0 : noN s d (s.1 j) (s.1 b) 1 = KB := by rw [eKB]; rfl
                        have hKA : KA < NN := by rw [eKA]; exact Nat.mod_lt _ NN0
                        have hKB : KB < NN := by rw [eKB]; exact Nat.mod_lt _ NN0
                        refine jr_aload_n hE dX12_nonce_138 0 rfl ?_
                        refine jr_get hE dX12_nonce_139 f311 M68.ob rfl ?_
                        have hN69 : n68 64 = some KA := (hf68 64 (by decide)).trans hv58
                        refine jr_kSi (n := 1) (As := [.ref (a 64)]) (rest := []) hE dX12_nonce_142 (fun l => c_m_isNull l G o a v68 n68 g w68 64 KA) gX12_nonce_X12_isNull rfl (by decide +kernel) ⟨rfl, rfl, by decide, by decide⟩ (by decide) rfl rfl (Nat.le_of_ble_eq_true rfl) (⟨M68, by decide, hN69⟩) (fun r72 F70 q71 => ?_)
                        obtain ⟨eq71, rq71⟩ := q71
                        subst eq71 rq71
                        refine jr_if_ne (tgt := 158) hE dX12_nonce_145 (by decide) (fun c145 => ?_) (fun c145 => ?_)
                        · refine jr_bipush (v := (-2 : Int32)) hE dX12_nonce_158 (by decide) ?_
                          have hV73 : v68 31 = (nI ((s.2.2.1 + 1) + s.2.2.2.1.length)) := ((hvv68 31 (by decide)).trans ((hvv58 31 (by decide)).trans (hvv50 31 (by decide)))).trans h3142
                          have hvF : ∀ z, z ∉ [31, 57, 78] → v68 z = v z := (fun z hz => ((hvv68 z (jne hz 1 rfl)).trans ((hvv58 z (jne hz 1 rfl)).trans ((hvv50 z (jne hz 1 rfl)).trans ((hvv42 z (jne hz 0 rfl) (jne hz 1 rfl) (jne hz 2 rfl)).trans (hvv32 z (jne hz 0 rfl)))))))
                          have hnF : ∀ z, z ∉ [34, 35, 36, 37, 38, 39, 40, 41, 42, 43, 44, 45, 46, 47, 49, 62, 64, 65, 68, 69, 70, 76, 77] → n68 z = n z := (fun z hz => ((hf68 z (jnsub (V := [65]) hz [17] rfl)).trans ((hf58 z (jnsub (V := [64]) hz [16] rfl)).trans ((hf42 z (jnsub (V := [34, 35, 36, 37, 38, 39, 40, 41, 42, 43, 44, 45, 46, 47, 49, 68, 69, 70, 76, 77]) hz [0, 1, 2, 3, 4, 5, 6, 7, 8, 9, 10, 11, 12, 13, 14, 18, 19, 20, 21, 22] rfl)).trans ((hf32 z (jnsub (V := [34, 35, 36, 37, 38, 39, 40, 41, 42, 43, 44, 45, 46, 47]) hz [0, 1, 2, 3, 4, 5, 6, 7, 8, 9, 10, 11, 12, 13] rfl)).trans (hf20 z (jnsub (V := [62]) hz [15] rfl)))))))
                          have hwF : ∀ z, z ∉ [53, 54, 55, 56, 58, 59, 67, 75, 79] → w68 z = w z := (fun z hz => ((hw68 z (jnsub (V := [53, 54, 55, 56, 58, 59]) hz [0, 1, 2, 3, 4, 5] rfl)).trans ((hw58 z (jnsub (V := [53, 54, 55, 56, 58, 59]) hz [0, 1, 2, 3, 4, 5] rfl)).trans ((hw50 z (jnsub (V := [53, 54, 55, 56, 58, 59, 67]) hz [0, 1, 2, 3, 4, 5, 6] rfl)).trans ((hw42 z (jnsub (V := [53, 54, 55, 56, 58, 59, 75]) hz [0, 1, 2, 3, 4, 5, 7] rfl)).trans (hw32 z (jne hz 8 rfl)))))))
                          have e : stNonce s (nI k) (nI u) (nI p) (nI j) (nI b) = (-2, setK s (s.2.2.1 + 1 + s.2.2.2.1.length)) := by
                            unfold stNonce
                            rw [if_pos ⟨nI_rowP hk, hsuu, nI_rowP hp, nI_rowP hj, nI_rowP hb⟩, hrnk, hrnu, hrnp, hrnj, hrnb]
                            unfold stNo1
                            rw [if_pos hok, if_neg hw48, ← hd, if_pos hof, if_pos (Or.inr (Or.inl (eKA0.trans (b2i_1 (p := KA = 0) c145))))]
                          exact hR F66 _ _ _ dX12_nonce_160 rfl ⟨_, _, _, _, by rw [e]; exact hI.keep (c := s.2.2.1 + 1 + s.2.2.2.1.length) M68 hV73 (by omega) (fun z hz => hvF z (jdj rfl hz)) (fun z hz => hnF z (jdj rfl hz)) (fun z hz => hwF z (jdj rfl hz)), by rw [e], O68⟩
                        · refine jr_aload_n hE dX12_nonce_148 0 rfl ?_
                          refine jr_get hE dX12_nonce_149 f314 M68.ob rfl ?_
                          refine jr_kSi (n := 1) (As := [.ref (a 65)]) (rest := []) hE dX12_nonce_152 (fun l => c_m_isNull l G o a v68 n68 g w68 65 KB) gX12_nonce_X12_isNull rfl (by decide +kernel) ⟨rfl, rfl, by decide, by decide⟩ (by decide) rfl rfl (Nat.le_of_ble_eq_true rfl) (⟨M68, by decide, hv68⟩) (fun r77 F75 q76 => ?_)
                          obtain ⟨eq76, rq76⟩ := q76
                          subst eq76 rq76
                          refine jr_if_eq (tgt := 161) hE dX12_nonce_155 (by decide) (fun c155 => ?_) (fun c155 => ?_)
                          · have hnz : ¬ ((qSs s.2.2.2.1 s.2.2.2.1.length) = none ∨ noN s d (s.1 j) (s.1 b) 0 = 0 ∨ noN s d (s.1 j) (s.1 b) 1 = 0) := by
                              rw [eKA0, eKB0]
                              rintro (q | q | q)
                              · exact hQ q
                              · exact b2i_0 c145 q
                              · exact absurd (b2i_t q) (by rw [c155]; decide)
                            refine jr_aload_n hE dX12_nonce_161 0 rfl ?_
                            refine jr_dup hE dX12_nonce_162 rfl ?_
                            have hV78 : v68 31 = (nI ((s.2.2.1 + 1) + s.2.2.2.1.length)) := ((hvv68 31 (by decide)).trans ((hvv58 31 (by decide)).trans (hvv50 31 (by decide)))).trans h3142
                            refine jr_get hE dX12_nonce_163 f478 M68.ob rfl ?_
                            rw [hV78]
                            refine jr_iconst (v := (2 : Int32)) hE dX12_nonce_166 (by decide) ?_
                            refine jr_iadd (z := nI ((s.2.2.1 + 1) + s.2.2.2.1.length + 2)) hE dX12_nonce_167 (nI_add _ 2) ?_
                            refine jr_put (ty := .int) hE dX12_nonce_168 f478 M68.ob rfl (by decide +kernel) rfl rfl (Nat.le_of_ble_eq_true rfl) (fun F79 g80 u81 => ?_)
                            have H82 := M68.setV (v' := uz v68 31 (nI ((s.2.2.1 + 1) + s.2.2.2.1.length + 2))) g80 u81
                            have O83 := O68.so u81
                            obtain ⟨v84, e84, hvv84, hvx84⟩ := uz_ab v68 31 (nI ((s.2.2.1 + 1) + s.2.2.2.1.length + 2))
                            rw [e84] at H82
                            refine jr_aload_n hE dX12_nonce_171 0 rfl ?_
                            have hC85 : mC n68 := hC36.fr ((hf68 4 (by decide)).trans ((hf58 4 (by decide)).trans (hf42 4 (by decide)))) ((hf68 5 (by decide)).trans ((hf58 5 (by decide)).trans (hf42 5 (by decide)))) ((hf68 6 (by decide)).trans ((hf58 6 (by decide)).trans (hf42 6 (by decide)))) ((hf68 7 (by decide)).trans ((hf58 7 (by decide)).trans (hf42 7 (by decide)))) ((hf68 48 (by decide)).trans ((hf58 48 (by decide)).trans (hf42 48 (by decide))))
                            refine jr_kVv (ci := 12) (n := 0) (As := []) (rest := []) hE dX12_nonce_172 (fun l => c_m_generator l G o a v84 n68 g w68) gX12_nonce_X12_generator rfl H82.ob rfl (by decide +kernel) ⟨rfl, rfl, by decide, by decide⟩ (by decide) rfl rfl (Nat.le_of_ble_eq_true rfl) (⟨H82, hC85⟩) (fun F86 q87 => ?_)
                            obtain ⟨n88, M88, hf88, hq88, P88⟩ := q87
                            have O88 := O83.tr P88
                            refine jr_aload_n hE dX12_nonce_175 0 rfl ?_
                            refine jr_aload_n hE dX12_nonce_176 0 rfl ?_
                            refine jr_get hE dX12_nonce_177 f311 M88.ob rfl ?_
                            have hN89 : n88 64 = some KA := (hf88 64 (by decide)).trans hN69
                            have hK90 : mK n88 g := hK59.fr ((hf88 0 (by decide)).trans (hf68 0 (by decide))) ((hf88 1 (by decide)).trans (hf68 1 (by decide))) ((hf88 32 (by decide)).trans (hf68 32 (by decide))) ((hf88 33 (by decide)).trans (hf68 33 (by decide)))
                            have hC91 : mC n88 := hC85.fr (hf88 4 (by decide)) (hf88 5 (by decide)) (hf88 6 (by decide)) (hf88 7 (by decide)) (hf88 48 (by decide))
                            refine jr_kVv (ci := 12) (n := 1) (As := [.ref (a 64)]) (rest := []) hE dX12_nonce_180 (fun l => c_m_multiply l G o a v84 n88 g w68 64 KA GE) gX12_nonce_X12_multiply rfl M88.ob rfl (by decide +kernel) ⟨rfl, rfl, by decide, by decide⟩ (by decide) rfl rfl (Nat.le_of_ble_eq_true rfl) (⟨M88, hK90, hC91.1, by decide, by decide, hN89, hq88⟩) (fun F92 q93 => ?_)
                            obtain ⟨n94, M94, hf94, hp94, P94⟩ := q93
                            have O94 := O88.tr P94
                            refine jr_aload_n hE dX12_nonce_183 0 rfl ?_
                            refine jr_aload_n hE dX12_nonce_184 0 rfl ?_
                            refine jr_get hE dX12_nonce_185 f302 M94.ob rfl ?_
                            refine jr_iconst (v := (0 : Int32)) hE dX12_nonce_188 (by decide) ?_
                            refine jr_kVv (ci := 12) (n := 2) (As := [.ref (a 61), .int (0 : Int32)]) (rest := []) hE dX12_nonce_189 (fun l => c_m_tells l G o a v84 n94 g w68 61 0 66 (emul PP KA GE)) gX12_nonce_X12_tells rfl M94.ob rfl (by decide +kernel) ⟨rfl, rfl, by decide, by decide⟩ (by decide) rfl rfl (Nat.le_of_ble_eq_true rfl) (⟨M94, hp94, by decide, by decide, by decide⟩) (fun F95 q96 => ?_)
                            obtain ⟨M97, P97⟩ := q96
                            have O97 := O94.tr P97
                            obtain ⟨w97, e97, hw97, hx97⟩ := uz_ab w68 61 (wrt (w68 61) 0 (pbE (emul PP KA GE)))
                            rw [e97] at M97
                            have ho97 : bl (w97 61) 0 33 = pbE (emul PP KA GE) := by rw [hx97]; exact bl_w0 (pbE_len _) (pbE_lt _)
                            refine jr_aload_n hE dX12_nonce_192 0 rfl ?_
                            have hC98 : mC n94 := hC91.fr (hf94 4 (by decide)) (hf94 5 (by decide)) (hf94 6 (by decide)) (hf94 7 (by decide)) (hf94 48 (by decide))
                            refine jr_kVv (ci := 12) (n := 0) (As := []) (rest := []) hE dX12_nonce_193 (fun l => c_m_generator l G o a v84 n94 g w97) gX12_nonce_X12_generator rfl M97.ob rfl (by decide +kernel) ⟨rfl, rfl, by decide, by decide⟩ (by decide) rfl rfl (Nat.le_of_ble_eq_true rfl) (⟨M97, hC98⟩) (fun F99 q100 => ?_)
                            obtain ⟨n101, M101, hf101, hq101, P101⟩ := q100
                            have O101 := O97.tr P101
                            refine jr_aload_n hE dX12_nonce_196 0 rfl ?_
                            refine jr_aload_n hE dX12_nonce_197 0 rfl ?_
                            refine jr_get hE dX12_nonce_198 f314 M101.ob rfl ?_
                            have hN102 : n101 65 = some KB := ((hf101 65 (by decide)).trans ((hf94 65 (by decide)).trans (hf88 65 (by decide)))).trans hv68
                            have hK103 : mK n101 g := hK90.fr ((hf101 0 (by decide)).trans (hf94 0 (by decide))) ((hf101 1 (by decide)).trans (hf94 1 (by decide))) ((hf101 32 (by decide)).trans (hf94 32 (by decide))) ((hf101 33 (by decide)).trans (hf94 33 (by decide)))
                            have hC104 : mC n101 := hC98.fr (hf101 4 (by decide)) (hf101 5 (by decide)) (hf101 6 (by decide)) (hf101 7 (by decide)) (hf101 48 (by decide))
                            refine jr_kVv (ci := 12) (n := 1) (As := [.ref (a 65)]) (rest := []) hE dX12_nonce_201 (fun l => c_m_multiply l G o a v84 n101 g w97 65 KB GE) gX12_nonce_X12_multiply rfl M101.ob rfl (by decide +kernel) ⟨rfl, rfl, by decide, by decide⟩ (by decide) rfl rfl (Nat.le_of_ble_eq_true rfl) (⟨M101, hK103, hC104.1, by decide, by decide, hN102, hq101⟩) (fun F105 q106 => ?_)
                            obtain ⟨n107, M107, hf107, hp107, P107⟩ := q106
                            have O107 := O101.tr P107
                            refine jr_aload_n hE dX12_nonce_204 0 rfl ?_
                            refine jr_aload_n hE dX12_nonce_205 0 rfl ?_
                            refine jr_get hE dX12_nonce_206 f302 M107.ob rfl ?_
                            refine jr_bipush (v := (33 : Int32)) hE dX12_nonce_209 (by decide) ?_
                            refine jr_kVv (ci := 12) (n := 2) (As := [.ref (a 61), .int (33 : Int32)]) (rest := []) hE dX12_nonce_211 (fun l => c_m_tells l G o a v84 n107 g w97 61 33 66 (emul PP KB GE)) gX12_nonce_X12_tells rfl M107.ob rfl (by decide +kernel) ⟨rfl, rfl, by decide, by decide⟩ (by decide) rfl rfl (Nat.le_of_ble_eq_true rfl) (⟨M107, hp107, by decide, by decide, by decide⟩) (fun F108 q109 => ?_)
                            obtain ⟨M110, P110⟩ := q109
                            have O110 := O107.tr P110
                            obtain ⟨w110, e110, hw110, hx110⟩ := uz_ab w97 61 (wrt (w97 61) 33 (pbE (emul PP KB GE)))
                            rw [e110] at M110
                            have ho110 : bl (w110 61) 0 66 = pbE (emul PP KA GE) ++ pbE (emul PP KB GE) := by rw [hx110]; exact bl_ext ho97 (pbE_len _) (pbE_lt _) rfl
                            refine jr_iconst (v := (0 : Int32)) hE dX12_nonce_214 (by decide) ?_
                            refine jr_istore (lv' := [(6, .int (0 : Int32)), (0, .ref o), (1, .int (nI k)), (2, .int (nI u)), (3, .int (nI p)), (4, .int (nI j)), (5, .int (nI b))]) hE dX12_nonce_215 (by decide) rfl ?_
                            have hN112 : n107 64 = some KA := ((hf107 64 (by decide)).trans ((hf101 64 (by decide)).trans (hf94 64 (by decide)))).trans hN89
                            have hN113 : n107 65 = some KB := (hf107 65 (by decide)).trans hN102
                            have U111 : (∀ (F1 : Nat → va_E) (n2 : Nat → Option Nat) (f h : Nat → Int64), MW G L F1 o a v84 n2 (uz (uz g 19 f) 20 h) w110 → (∀ z, z ∉ [19, 20] → n2 z = n107 z) → (∀ t, t < 8 → f (8 * u + t) = lN (KA / 2 ^ (32 * t) % 2 ^ 32) ∧ h (8 * u + t) = lN (KB / 2 ^ (32 * t) % 2 ^ 32)) → (∀ t, (t < 8 * u ∨ 8 * u + 8 ≤ t) → f t = g 19 t ∧ h t = g 20 t) → mO o a F108 F1 → J E L F1 0 0 268 [(6, .int (nI 8)), (0, .ref o), (1, .int (nI k)), (2, .int (nI u)), (3, .int (nI p)), (4, .int (nI j)), (5, .int (nI b))] []) → J E L F108 0 0 217 [(6, .int (0 : Int32)), (0, .ref o), (1, .int (nI k)), (2, .int (nI u)), (3, .int (nI p)), (4, .int (nI j)), (5, .int (nI b))] [] := by
                              intro cont
                              have loop : ∀ (r0 i : Nat) (F4 : Nat → va_E) (n2 : Nat → Option Nat) (f h : Nat → Int64), i + r0 = 8 → MW G L F4 o a v84 n2 (uz (uz g 19 f) 20 h) w110 → (∀ z, z ∉ [19, 20] → n2 z = n107 z) → (∀ t, t < i → f (8 * u + t) = lN (KA / 2 ^ (32 * t) % 2 ^ 32) ∧ h (8 * u + t) = lN (KB / 2 ^ (32 * t) % 2 ^ 32)) → (∀ t, (t < 8 * u ∨ 8 * u + 8 ≤ t) → f t = g 19 t ∧ h t = g 20 t) → mO o a F108 F4 → J E L F4 0 0 217 [(6, .int (nI i)), (0, .ref o), (1, .int (nI k)), (2, .int (nI u)), (3, .int (nI p)), (4, .int (nI j)), (5, .int (nI b))] [] := by
                                intro r0
                                induction r0 with
                                | zero =>
                                  intro i F4 n2 f h hi H4 hnf hdg hou O4
                                  refine jr_iload hE dX12_nonce_217 0 rfl ?_
                                  refine jr_bipush (v := (8 : Int32)) hE dX12_nonce_219 (by decide) ?_
                                  refine jr_icmp_ge (tgt := 268) hE dX12_nonce_221 (by decide) (fun c_221 => ?_) (fun c_221 => absurd (nI_le (a := 8) (by omega) (by omega)) c_221)
                                  have hiN : i = 8 := by omega
                                  subst hiN
                                  exact cont F4 n2 f h H4 hnf hdg hou O4
                                | succ r0 ih =>
                                  intro i F4 n2 f h hi H4 hnf hdg hou O4
                                  refine jr_iload hE dX12_nonce_217 0 rfl ?_
                                  refine jr_bipush (v := (8 : Int32)) hE dX12_nonce_219 (by decide) ?_
                                  refine jr_icmp_ge (tgt := 268) hE dX12_nonce_221 (by decide) (fun c_221 => absurd c_221 (nI_ge (b := 8) (by omega) (by omega))) (fun c_221 => ?_)
                                  refine jr_aload_n hE dX12_nonce_224 1 rfl ?_
                                  refine jr_get hE dX12_nonce_225 f125 H4.ob rfl ?_
                                  refine jr_bipush (v := (8 : Int32)) hE dX12_nonce_228 (by decide) ?_
                                  refine jr_iload_n hE dX12_nonce_230 3 rfl ?_
                                  refine jr_imul (z := nI (8 * u)) hE dX12_nonce_231 (pk_mul 8 u) ?_
                                  refine jr_iload hE dX12_nonce_232 0 rfl ?_
                                  refine jr_iadd (z := nI (8 * u + i)) hE dX12_nonce_234 (nI_add _ _) ?_
                                  refine jr_aload_n hE dX12_nonce_235 1 rfl ?_
                                  refine jr_get hE dX12_nonce_236 f311 H4.ob rfl ?_
                                  refine jr_iload hE dX12_nonce_239 0 rfl ?_
                                  have hN114 : n2 64 = some KA := (hnf 64 (by decide)).trans hN112
                                  obtain ⟨f115, jf115, ef115⟩ := H4.ld (k := 64) (by decide) (x := KA) hN114
                                  refine jr_lald (v := lN (KA / 2 ^ (32 * i) % 2 ^ 32)) hE dX12_nonce_241 jf115 (vp_in_nI (by omega) (by decide)) (by rw [nI_clamp (by omega)]; exact ef115 i (by omega)) ?_
                                  refine jr_last hE dX12_nonce_242 (H4.L (k := 19) (N := 32) (by decide) (by decide)) (vp_in_nI (by omega) (by decide)) (fun F116 h116 u116 => ?_)
                                  have M116 := H4.setL (k := 19) (N := 32) (by decide) (by decide) h116 u116
                                  have O116 := O4.st (k := 19) (by decide) (by decide) u116
                                  rw [uz_cm (uz g 19 f) (k := 20) (j := 19) h _ (by decide), uz_uz, nI_clamp (by omega)] at M116
                                  have M116 : MW G L F116 o a v84 (uz n2 19 none) (uz (uz g 19 (vp_updL f (8 * u + i) (lN (KA / 2 ^ (32 * i) % 2 ^ 32)))) 20 h) w110 := M116
                                  obtain ⟨n116, e116, hf116, hv116⟩ := uz_ab n2 19 none
                                  rw [e116] at M116
                                  refine jr_aload_n hE dX12_nonce_243 1 rfl ?_
                                  refine jr_get hE dX12_nonce_244 f128 M116.ob rfl ?_
                                  refine jr_bipush (v := (8 : Int32)) hE dX12_nonce_247 (by decide) ?_
                                  refine jr_iload_n hE dX12_nonce_249 3 rfl ?_
                                  refine jr_imul (z := nI (8 * u)) hE dX12_nonce_250 (pk_mul 8 u) ?_
                                  refine jr_iload hE dX12_nonce_251 0 rfl ?_
                                  refine jr_iadd (z := nI (8 * u + i)) hE dX12_nonce_253 (nI_add _ _) ?_
                                  refine jr_aload_n hE dX12_nonce_254 1 rfl ?_
                                  refine jr_get hE dX12_nonce_255 f314 M116.ob rfl ?_
                                  refine jr_iload hE dX12_nonce_258 0 rfl ?_
                                  have hN117 : n116 65 = some KB := ((hf116 65 (by decide)).trans (hnf 65 (by decide))).trans hN113
                                  obtain ⟨f118, jf118, ef118⟩ := M116.ld (k := 65) (by decide) (x := KB) hN117
                                  refine jr_lald (v := lN (KB / 2 ^ (32 * i) % 2 ^ 32)) hE dX12_nonce_260 jf118 (vp_in_nI (by omega) (by decide)) (by rw [nI_clamp (by omega)]; exact ef118 i (by omega)) ?_
                                  refine jr_last hE dX12_nonce_261 (M116.L (k := 20) (N := 32) (by decide) (by decide)) (vp_in_nI (by omega) (by decide)) (fun F119 h119 u119 => ?_)
                                  have M119 := M116.setL (k := 20) (N := 32) (by decide) (by decide) h119 u119
                                  have O119 := O116.st (k := 20) (by decide) (by decide) u119
                                  rw [uz_uz, nI_clamp (by omega)] at M119
                                  have M119 : MW G L F119 o a v84 (uz n116 20 none) (uz (uz g 19 (vp_updL f (8 * u + i) (lN (KA / 2 ^ (32 * i) % 2 ^ 32)))) 20 (vp_updL h (8 * u + i) (lN (KB / 2 ^ (32 * i) % 2 ^ 32)))) w110 := M119
                                  obtain ⟨n119, e119, hf119, hv119⟩ := uz_ab n116 20 none
                                  rw [e119] at M119
                                  refine jr_iinc (v := nI (i + 1)) (lv' := [(6, .int (nI (i + 1))), (0, .ref o), (1, .int (nI k)), (2, .int (nI u)), (3, .int (nI p)), (4, .int (nI j)), (5, .int (nI b))]) hE dX12_nonce_262 0 rfl (nI_1 _) (by decide) rfl ?_
                                  refine jr_goto (tgt := 217) hE dX12_nonce_265 (by decide) ?_
                                  refine jr_lv (lv' := [(6, .int (nI (i + 1))), (0, .ref o), (1, .int (nI k)), (2, .int (nI u)), (3, .int (nI p)), (4, .int (nI j)), (5, .int (nI b))]) [0, 1, 2, 3, 4, 5, 6] rfl ?_
                                  exact ih (i + 1) F119 n119 _ _ (by omega) M119 (fun z hz => ((hf119 z (jnsub (V := [20]) hz [1] rfl)).trans ((hf116 z (jnsub (V := [19]) hz [0] rfl)).trans (hnf z (jnsub (V := [19, 20]) hz [0, 1] rfl))))) (fun t ht => by
                                    unfold vp_updL
                                    by_cases e : t = i
                                    · rw [if_pos (by omega), if_pos (by omega), e]
                                      exact ⟨rfl, rfl⟩
                                    · rw [if_neg (by omega), if_neg (by omega)]; exact hdg t (by omega)) (fun t ht => by
                                    unfold vp_updL
                                    rw [if_neg (by omega), if_neg (by omega)]
                                    exact hou t ht) O119
                              exact loop 8 0 F108 n107 (g 19) (g 20) (by omega) (by rw [uz_id, uz_id]; exact M110) (fun z hz => rfl) (fun t ht => absurd ht (Nat.not_lt_zero t)) (fun t ht => ⟨rfl, rfl⟩) (mO.rf o a F108)
                            refine U111 (fun F111 n111 f111 h111 M111 hu111 hdg hou P111 => ?_)
                            have O111 := O110.tr P111
                            obtain ⟨g111, eg111⟩ : ∃ g2, g2 = uz (uz g 19 f111) 20 h111 := ⟨_, rfl⟩
                            rw [← eg111] at M111
                            have hg19 : g111 19 = f111 := by rw [eg111]; exact (uz_n _ _ (by decide)).trans (uz_s _ _ _)
                            have hg20 : g111 20 = h111 := by rw [eg111]; exact uz_s _ _ _
                            have hgo : ∀ z, z ∉ [19, 20] → g111 z = g z := fun z hz => by rw [eg111]; exact (uz_n _ _ (jne hz 1 rfl)).trans (uz_n _ _ (jne hz 0 rfl))
                            have hKg111 : mK n111 g111 := hK.frg ((hu111 0 (by decide)).trans ((hf107 0 (by decide)).trans ((hf101 0 (by decide)).trans ((hf94 0 (by decide)).trans ((hf88 0 (by decide)).trans ((hf68 0 (by decide)).trans ((hf58 0 (by decide)).trans ((hf42 0 (by decide)).trans ((hf32 0 (by decide)).trans (hf20 0 (by decide))))))))))) ((hu111 1 (by decide)).trans ((hf107 1 (by decide)).trans ((hf101 1 (by decide)).trans ((hf94 1 (by decide)).trans ((hf88 1 (by decide)).trans ((hf68 1 (by decide)).trans ((hf58 1 (by decide)).trans ((hf42 1 (by decide)).trans ((hf32 1 (by decide)).trans (hf20 1 (by decide))))))))))) ((hu111 32 (by decide)).trans ((hf107 32 (by decide)).trans ((hf101 32 (by decide)).trans ((hf94 32 (by decide)).trans ((hf88 32 (by decide)).trans ((hf68 32 (by decide)).trans ((hf58 32 (by decide)).trans ((hf42 32 (by decide)).trans ((hf32 32 (by decide)).trans (hf20 32 (by decide))))))))))) ((hu111 33 (by decide)).trans ((hf107 33 (by decide)).trans ((hf101 33 (by decide)).trans ((hf94 33 (by decide)).trans ((hf88 33 (by decide)).trans ((hf68 33 (by decide)).trans ((hf58 33 (by decide)).trans ((hf42 33 (by decide)).trans ((hf32 33 (by decide)).trans (hf20 33 (by decide))))))))))) (hgo 2 (by decide)) (hgo 3 (by decide))
                            have hN120 : n111 64 = some KA := (hu111 64 (by decide)).trans hN112
                            have hmA := mN_of (f := fun i => g111 19 (8 * u + i)) (M111.mn hN120) (fun i hi => by rw [hg19]; exact (hdg i hi).1)
                            have hN121 : n111 65 = some KB := (hu111 65 (by decide)).trans hN113
                            have hmB := mN_of (f := fun i => g111 20 (8 * u + i)) (M111.mn hN121) (fun i hi => by rw [hg20]; exact (hdg i hi).2)
                            have hgO : ∀ t, (t < 8 * u ∨ 8 * u + 8 ≤ t) → g111 19 t = g 19 t ∧ g111 20 t = g 20 t := fun t ht => by rw [hg19, hg20]; exact hou t ht
                            refine jr_iconst (v := (0 : Int32)) hE dX12_nonce_268 (by decide) ?_
                            refine jr_istore (lv' := [(6, .int (0 : Int32)), (0, .ref o), (1, .int (nI k)), (2, .int (nI u)), (3, .int (nI p)), (4, .int (nI j)), (5, .int (nI b))]) hE dX12_nonce_269 (by decide) rfl ?_
                            have U122 : (∀ (F1 : Nat → va_E) (f : Nat → Int32), MW G L F1 o a v84 n111 g111 (uz w110 21 f) → f = wrt (w110 21) (66 * u) (bl (w110 61) 0 66) → mO o a F111 F1 → J E L F1 0 0 303 [(6, .int (nI 66)), (0, .ref o), (1, .int (nI k)), (2, .int (nI u)), (3, .int (nI p)), (4, .int (nI j)), (5, .int (nI b))] []) → J E L F111 0 0 271 [(6, .int (0 : Int32)), (0, .ref o), (1, .int (nI k)), (2, .int (nI u)), (3, .int (nI p)), (4, .int (nI j)), (5, .int (nI b))] [] := by
                              intro cont
                              have loop : ∀ (r0 i : Nat) (F4 : Nat → va_E) (f : Nat → Int32), i + r0 = 66 → MW G L F4 o a v84 n111 g111 (uz w110 21 f) → f = wrt (w110 21) (66 * u) (bl (w110 61) 0 i) → mO o a F111 F4 → J E L F4 0 0 271 [(6, .int (nI i)), (0, .ref o), (1, .int (nI k)), (2, .int (nI u)), (3, .int (nI p)), (4, .int (nI j)), (5, .int (nI b))] [] := by
                                intro r0
                                induction r0 with
                                | zero =>
                                  intro i F4 f hi H4 hf O4
                                  have hwf : ∀ z, z ∉ [21] → (uz w110 21 f) z = w110 z := fun z hz => uz_n _ _ (jne hz 0 rfl)
                                  refine jr_iload hE dX12_nonce_271 0 rfl ?_
                                  refine jr_bipush (v := (66 : Int32)) hE dX12_nonce_273 (by decide) ?_
                                  refine jr_icmp_ge (tgt := 303) hE dX12_nonce_275 (by decide) (fun c_275 => ?_) (fun c_275 => absurd (nI_le (a := 66) (by omega) (by omega)) c_275)
                                  have hiN : i = 66 := by omega
                                  subst hiN
                                  exact cont F4 f H4 hf O4
                                | succ r0 ih =>
                                  intro i F4 f hi H4 hf O4
                                  have hwf : ∀ z, z ∉ [21] → (uz w110 21 f) z = w110 z := fun z hz => uz_n _ _ (jne hz 0 rfl)
                                  refine jr_iload hE dX12_nonce_271 0 rfl ?_
                                  refine jr_bipush (v := (66 : Int32)) hE dX12_nonce_273 (by decide) ?_
                                  refine jr_icmp_ge (tgt := 303) hE dX12_nonce_275 (by decide) (fun c_275 => absurd c_275 (nI_ge (b := 66) (by omega) (by omega))) (fun c_275 => ?_)
                                  refine jr_aload_n hE dX12_nonce_278 1 rfl ?_
                                  refine jr_get hE dX12_nonce_279 f131 H4.ob rfl ?_
                                  refine jr_bipush (v := (66 : Int32)) hE dX12_nonce_282 (by decide) ?_
                                  refine jr_iload_n hE dX12_nonce_284 3 rfl ?_
                                  refine jr_imul (z := nI (66 * u)) hE dX12_nonce_285 (pk_mul 66 u) ?_
                                  refine jr_iload hE dX12_nonce_286 0 rfl ?_
                                  refine jr_iadd (z := nI (66 * u + i)) hE dX12_nonce_288 (nI_add _ _) ?_
                                  refine jr_aload_n hE dX12_nonce_289 1 rfl ?_
                                  refine jr_get hE dX12_nonce_290 f302 H4.ob rfl ?_
                                  refine jr_iload hE dX12_nonce_293 0 rfl ?_
                                  refine jr_iald (v := w110 61 (0 + i)) hE dX12_nonce_295 (H4.I (k := 61) (N := 66) (by decide)) (vp_in_nI (by omega) (by decide)) (by rw [nI_clamp (by omega), Nat.zero_add]; rfl) ?_
                                  refine jr_iast hE dX12_nonce_296 (H4.I (k := 21) (N := 264) (by decide)) (vp_in_nI (by omega) (by decide)) (fun F123 g124 u125 => ?_)
                                  have H126 := H4.setI (k := 21) (N := 264) (by decide) g124 u125
                                  have O127 := O4.st (k := 21) (by decide) (by decide) u125
                                  rw [uz_uz, uz_s] at H126
                                  refine jr_iinc (v := nI (i + 1)) (lv' := [(6, .int (nI (i + 1))), (0, .ref o), (1, .int (nI k)), (2, .int (nI u)), (3, .int (nI p)), (4, .int (nI j)), (5, .int (nI b))]) hE dX12_nonce_297 0 rfl (nI_1 _) (by decide) rfl ?_
                                  refine jr_goto (tgt := 271) hE dX12_nonce_300 (by decide) ?_
                                  refine jr_lv (lv' := [(6, .int (nI (i + 1))), (0, .ref o), (1, .int (nI k)), (2, .int (nI u)), (3, .int (nI p)), (4, .int (nI j)), (5, .int (nI b))]) [0, 1, 2, 3, 4, 5, 6] rfl ?_
                                  exact ih (i + 1) F123 _ (by omega) H126 (by
                                    rw [bl_s]
                                    exact wrt_snoc hf (bl_len _ _ _) (bt_nI _ _) (by omega)) O127
                              exact loop 66 0 F111 (w110 21) (by omega) (by rw [uz_id]; exact M111) (by rw [show bl (w110 61) 0 0 = [] from rfl, wrt_nil]) (mO.rf o a F111)
                            refine U122 (fun F122 f122 M122 hf122 P122 => ?_)
                            have O122 := O111.tr P122
                            obtain ⟨w122, e122, hw122, hx122⟩ := uz_ab w110 21 f122
                            rw [e122] at M122
                            rw [hf122] at hx122
                            refine jr_aload_n hE dX12_nonce_303 1 rfl ?_
                            refine jr_get hE dX12_nonce_304 f121 M122.ob rfl ?_
                            refine jr_iload_n hE dX12_nonce_307 3 rfl ?_
                            refine jr_iconst (v := (1 : Int32)) hE dX12_nonce_308 (by decide) ?_
                            refine jr_zast hE dX12_nonce_309 (M122.Z (k := 18) (N := 4) (by decide)) (vp_in_nI (by omega) (by decide)) (fun F128 g129 u130 => ?_)
                            have H131 := M122.setZ (k := 18) (N := 4) (by decide) g129 u130
                            have O132 := O122.st (k := 18) (by decide) (by decide) u130
                            obtain ⟨w133, e133, hw133, hx133⟩ := uz_ab w122 18 (upd (w122 18) (nI u).toNatClampNeg (vp_nar .boolean (1 : Int32)))
                            rw [e133] at H131
                            rw [nI_clamp (by omega), nar1] at hx133
                            rw [show w122 18 = w 18 from ((hw122 18 (by decide)).trans ((hw110 18 (by decide)).trans ((hw97 18 (by decide)).trans ((hw68 18 (by decide)).trans ((hw58 18 (by decide)).trans ((hw50 18 (by decide)).trans ((hw42 18 (by decide)).trans (hw32 18 (by decide)))))))))] at hx133
                            
                            refine jr_aload_n hE dX12_nonce_310 1 rfl ?_
                            refine jr_iload_n hE dX12_nonce_311 2 rfl ?_
                            refine jr_bipush (v := (66 : Int32)) hE dX12_nonce_312 (by decide) ?_
                            have hC134 : bl (w133 61) 0 66 = pbE (emul PP KA GE) ++ pbE (emul PP KB GE) := by
                              rw [show w133 61 = w110 61 from ((hw133 61 (by decide)).trans (hw122 61 (by decide)))]
                              exact ho110
                            refine jr_kVi (ci := 12) (n := 2) (As := [.int (nI k), .int (66 : Int32)]) (rest := []) hE dX12_nonce_314 (fun l => c_m_gives l G o a v84 n111 g111 w133 k 66) gX12_nonce_X12_gives rfl H131.ob rfl (by decide +kernel) ⟨rfl, rfl, by decide, by decide⟩ (by decide) rfl rfl (Nat.le_of_ble_eq_true rfl) (⟨H131, hk, by decide⟩) (fun r137 F135 q136 => ?_)
                            obtain ⟨w138, M138, h9138, h8138, hw138, rfl, P138⟩ := q136
                            have O138 := O132.tr P138
                            rw [hC134, show w133 9 = w 9 from ((hw133 9 (by decide)).trans ((hw122 9 (by decide)).trans ((hw110 9 (by decide)).trans ((hw97 9 (by decide)).trans ((hw68 9 (by decide)).trans ((hw58 9 (by decide)).trans ((hw50 9 (by decide)).trans ((hw42 9 (by decide)).trans (hw32 9 (by decide))))))))))] at h9138
                            rw [show w133 8 = w 8 from ((hw133 8 (by decide)).trans ((hw122 8 (by decide)).trans ((hw110 8 (by decide)).trans ((hw97 8 (by decide)).trans ((hw68 8 (by decide)).trans ((hw58 8 (by decide)).trans ((hw50 8 (by decide)).trans ((hw42 8 (by decide)).trans (hw32 8 (by decide))))))))))] at h8138
                            have hvF : ∀ z, z ∉ [31, 57, 78] → v84 z = v z := (fun z hz => ((hvv84 z (jnsub (V := [31]) hz [0] rfl)).trans ((hvv68 z (jne hz 1 rfl)).trans ((hvv58 z (jne hz 1 rfl)).trans ((hvv50 z (jne hz 1 rfl)).trans ((hvv42 z (jne hz 0 rfl) (jne hz 1 rfl) (jne hz 2 rfl)).trans (hvv32 z (jne hz 0 rfl))))))))
                            have hnF : ∀ z, z ∉ [19, 20, 34, 35, 36, 37, 38, 39, 40, 41, 42, 43, 44, 45, 46, 47, 49, 62, 64, 65, 68, 69, 70, 76, 77] → n111 z = n z := (fun z hz => ((hu111 z (jnsub (V := [19, 20]) hz [0, 1] rfl)).trans ((hf107 z (jnsub (V := [37, 38, 39, 42, 43, 44, 45, 46, 47, 34, 35, 36]) hz [5, 6, 7, 10, 11, 12, 13, 14, 15, 2, 3, 4] rfl)).trans ((hf101 z (jnsub (V := [40, 41]) hz [8, 9] rfl)).trans ((hf94 z (jnsub (V := [37, 38, 39, 42, 43, 44, 45, 46, 47, 34, 35, 36]) hz [5, 6, 7, 10, 11, 12, 13, 14, 15, 2, 3, 4] rfl)).trans ((hf88 z (jnsub (V := [40, 41]) hz [8, 9] rfl)).trans ((hf68 z (jnsub (V := [65]) hz [19] rfl)).trans ((hf58 z (jnsub (V := [64]) hz [18] rfl)).trans ((hf42 z (jnsub (V := [34, 35, 36, 37, 38, 39, 40, 41, 42, 43, 44, 45, 46, 47, 49, 68, 69, 70, 76, 77]) hz [2, 3, 4, 5, 6, 7, 8, 9, 10, 11, 12, 13, 14, 15, 16, 20, 21, 22, 23, 24] rfl)).trans ((hf32 z (jnsub (V := [34, 35, 36, 37, 38, 39, 40, 41, 42, 43, 44, 45, 46, 47]) hz [2, 3, 4, 5, 6, 7, 8, 9, 10, 11, 12, 13, 14, 15] rfl)).trans (hf20 z (jnsub (V := [62]) hz [17] rfl))))))))))))
                            have hwF : ∀ z, z ∉ [8, 9, 18, 21, 53, 54, 55, 56, 58, 59, 61, 67, 75, 79] → w138 z = w z := (fun z hz => ((hw138 z (jne hz 0 rfl) (jne hz 1 rfl)).trans ((hw133 z (jnsub (V := [18]) hz [2] rfl)).trans ((hw122 z (jnsub (V := [21]) hz [3] rfl)).trans ((hw110 z (jnsub (V := [61]) hz [10] rfl)).trans ((hw97 z (jnsub (V := [61]) hz [10] rfl)).trans ((hw68 z (jnsub (V := [53, 54, 55, 56, 58, 59]) hz [4, 5, 6, 7, 8, 9] rfl)).trans ((hw58 z (jnsub (V := [53, 54, 55, 56, 58, 59]) hz [4, 5, 6, 7, 8, 9] rfl)).trans ((hw50 z (jnsub (V := [53, 54, 55, 56, 58, 59, 67]) hz [4, 5, 6, 7, 8, 9, 11] rfl)).trans ((hw42 z (jnsub (V := [53, 54, 55, 56, 58, 59, 75]) hz [4, 5, 6, 7, 8, 9, 12] rfl)).trans (hw32 z (jne hz 13 rfl))))))))))))
                            have hnl : noL s d (s.1 j) (s.1 b) = pbE (emul PP KA GE) ++ pbE (emul PP KB GE) := by unfold noL; rw [eKA0, eKB0]
                            have e : stNonce s (nI k) (nI u) (nI p) (nI j) (nI b) = (66, setN (setK (setR s k (pbE (emul PP KA GE) ++ pbE (emul PP KB GE))) (s.2.2.1 + 1 + s.2.2.2.1.length + 2)) (fun t => if t = u then some (KA, KB, pbE (emul PP KA GE) ++ pbE (emul PP KB GE)) else s.2.2.2.2.1 t)) := by
                              unfold stNonce
                              rw [if_pos ⟨nI_rowP hk, hsuu, nI_rowP hp, nI_rowP hj, nI_rowP hb⟩, hrnk, hrnu, hrnp, hrnj, hrnb]
                              unfold stNo1
                              rw [if_pos hok, if_neg hw48, ← hd, if_pos hof, if_neg hnz, hnl, eKA0, eKB0]
                            have hln : (pbE (emul PP KA GE) ++ pbE (emul PP KB GE)).length = 66 := by simp only [List.length_append, pbE_len]
                            have g18 : w138 18 = upd (w 18) u 1 := (hw138 18 (by decide) (by decide)).trans hx133
                            have g21 : w138 21 = wrt (w 21) (66 * u) (pbE (emul PP KA GE) ++ pbE (emul PP KB GE)) := by
                              rw [show w138 21 = w122 21 from ((hw138 21 (by decide) (by decide)).trans (hw133 21 (by decide))), hx122, show w110 21 = w 21 from ((hw110 21 (by decide)).trans ((hw97 21 (by decide)).trans ((hw68 21 (by decide)).trans ((hw58 21 (by decide)).trans ((hw50 21 (by decide)).trans ((hw42 21 (by decide)).trans (hw32 21 (by decide)))))))), ho110]
                            exact hR F135 _ _ _ dX12_nonce_317 rfl ⟨_, _, _, _, by rw [e]; exact hI.nc (k := k) (l := pbE (emul PP KA GE) ++ pbE (emul PP KB GE)) (c := s.2.2.1 + 1 + s.2.2.2.1.length + 2) M138 hvx84 (by omega) (fun z hz => hvF z (jdj rfl hz)) (fun z hz => hnF z (jdj rfl hz)) (fun z hz => hgo z (jdj rfl hz)) (fun z hz => hwF z (jdj rfl hz)) (by rw [h8138, hln]) h9138 (by rw [hln]; decide) (app_lt (pbE_lt _) (pbE_lt _)) (hpI.2.2.2.1.put hu g18 g21 hln (app_lt (pbE_lt _) (pbE_lt _)) hgO hmA hmB hKA hKB), by rw [e]; rfl, O138⟩
                          · refine jr_bipush (v := (-2 : Int32)) hE dX12_nonce_158 (by decide) ?_
                            have hV140 : v68 31 = (nI ((s.2.2.1 + 1) + s.2.2.2.1.length)) := ((hvv68 31 (by decide)).trans ((hvv58 31 (by decide)).trans (hvv50 31 (by decide)))).trans h3142
                            have hvF : ∀ z, z ∉ [31, 57, 78] → v68 z = v z := (fun z hz => ((hvv68 z (jne hz 1 rfl)).trans ((hvv58 z (jne hz 1 rfl)).trans ((hvv50 z (jne hz 1 rfl)).trans ((hvv42 z (jne hz 0 rfl) (jne hz 1 rfl) (jne hz 2 rfl)).trans (hvv32 z (jne hz 0 rfl)))))))
                            have hnF : ∀ z, z ∉ [34, 35, 36, 37, 38, 39, 40, 41, 42, 43, 44, 45, 46, 47, 49, 62, 64, 65, 68, 69, 70, 76, 77] → n68 z = n z := (fun z hz => ((hf68 z (jnsub (V := [65]) hz [17] rfl)).trans ((hf58 z (jnsub (V := [64]) hz [16] rfl)).trans ((hf42 z (jnsub (V := [34, 35, 36, 37, 38, 39, 40, 41, 42, 43, 44, 45, 46, 47, 49, 68, 69, 70, 76, 77]) hz [0, 1, 2, 3, 4, 5, 6, 7, 8, 9, 10, 11, 12, 13, 14, 18, 19, 20, 21, 22] rfl)).trans ((hf32 z (jnsub (V := [34, 35, 36, 37, 38, 39, 40, 41, 42, 43, 44, 45, 46, 47]) hz [0, 1, 2, 3, 4, 5, 6, 7, 8, 9, 10, 11, 12, 13] rfl)).trans (hf20 z (jnsub (V := [62]) hz [15] rfl)))))))
                            have hwF : ∀ z, z ∉ [53, 54, 55, 56, 58, 59, 67, 75, 79] → w68 z = w z := (fun z hz => ((hw68 z (jnsub (V := [53, 54, 55, 56, 58, 59]) hz [0, 1, 2, 3, 4, 5] rfl)).trans ((hw58 z (jnsub (V := [53, 54, 55, 56, 58, 59]) hz [0, 1, 2, 3, 4, 5] rfl)).trans ((hw50 z (jnsub (V := [53, 54, 55, 56, 58, 59, 67]) hz [0, 1, 2, 3, 4, 5, 6] rfl)).trans ((hw42 z (jnsub (V := [53, 54, 55, 56, 58, 59, 75]) hz [0, 1, 2, 3, 4, 5, 7] rfl)).trans (hw32 z (jne hz 8 rfl)))))))
                            have e : stNonce s (nI k) (nI u) (nI p) (nI j) (nI b) = (-2, setK s (s.2.2.1 + 1 + s.2.2.2.1.length)) := by
                              unfold stNonce
                              rw [if_pos ⟨nI_rowP hk, hsuu, nI_rowP hp, nI_rowP hj, nI_rowP hb⟩, hrnk, hrnu, hrnp, hrnj, hrnb]
                              unfold stNo1
                              rw [if_pos hok, if_neg hw48, ← hd, if_pos hof, if_pos (Or.inr (Or.inr (eKB0.trans (b2i_1 (p := KB = 0) c155))))]
                            exact hR F66 _ _ _ dX12_nonce_160 rfl ⟨_, _, _, _, by rw [e]; exact hI.keep (c := s.2.2.1 + 1 + s.2.2.2.1.length) M68 hV140 (by omega) (fun z hz => hvF z (jdj rfl hz)) (fun z hz => hnF z (jdj rfl hz)) (fun z hz => hwF z (jdj rfl hz)), by rw [e], O68⟩
                      · refine jr_bipush (v := (-2 : Int32)) hE dX12_nonce_106 (by decide) ?_
                        have hvF : ∀ z, z ∉ [31, 57, 78] → v42 z = v z := (fun z hz => ((hvv42 z (jne hz 0 rfl) (jne hz 1 rfl) (jne hz 2 rfl)).trans (hvv32 z (jne hz 0 rfl))))
                        have hnF : ∀ z, z ∉ [34, 35, 36, 37, 38, 39, 40, 41, 42, 43, 44, 45, 46, 47, 49, 62, 68, 69, 70, 76, 77] → n42 z = n z := (fun z hz => ((hf42 z (jnsub (V := [34, 35, 36, 37, 38, 39, 40, 41, 42, 43, 44, 45, 46, 47, 49, 68, 69, 70, 76, 77]) hz [0, 1, 2, 3, 4, 5, 6, 7, 8, 9, 10, 11, 12, 13, 14, 16, 17, 18, 19, 20] rfl)).trans ((hf32 z (jnsub (V := [34, 35, 36, 37, 38, 39, 40, 41, 42, 43, 44, 45, 46, 47]) hz [0, 1, 2, 3, 4, 5, 6, 7, 8, 9, 10, 11, 12, 13] rfl)).trans (hf20 z (jnsub (V := [62]) hz [15] rfl)))))
                        have hwF : ∀ z, z ∉ [53, 54, 55, 56, 58, 59, 75, 79] → w42 z = w z := (fun z hz => ((hw42 z (jnsub (V := [53, 54, 55, 56, 58, 59, 75]) hz [0, 1, 2, 3, 4, 5, 6] rfl)).trans (hw32 z (jne hz 7 rfl))))
                        have e : stNonce s (nI k) (nI u) (nI p) (nI j) (nI b) = (-2, setK s (s.2.2.1 + 1 + s.2.2.2.1.length)) := by
                          unfold stNonce
                          rw [if_pos ⟨nI_rowP hk, hsuu, nI_rowP hp, nI_rowP hj, nI_rowP hb⟩, hrnk, hrnu, hrnp, hrnj, hrnb]
                          unfold stNo1
                          rw [if_pos hok, if_neg hw48, ← hd, if_pos hof, if_pos (Or.inl (Classical.byContradiction (fun h => b2i_0 c103 h)))]
                        exact hR F39 _ _ _ dX12_nonce_108 rfl ⟨_, _, _, _, by rw [e]; exact hI.keep (c := s.2.2.1 + 1 + s.2.2.2.1.length) M42 h3142 (by omega) (fun z hz => hvF z (jdj rfl hz)) (fun z hz => hnF z (jdj rfl hz)) (fun z hz => hwF z (jdj rfl hz)), by rw [e], O42⟩
                  · refine jr_bipush (v := (-5 : Int32)) hE dX12_nonce_88 (by decide) ?_
                    have hvF : ∀ z, z ∉ [999] → v z = v z := (fun z hz => rfl)
                    have hnF : ∀ z, z ∉ [62] → n20 z = n z := (fun z hz => (hf20 z (jnsub (V := [62]) hz [0] rfl)))
                    have hwF : ∀ z, z ∉ [999] → w z = w z := (fun z hz => rfl)
                    have e : stNonce s (nI k) (nI u) (nI p) (nI j) (nI b) = (-5, s) := by
                      unfold stNonce
                      rw [if_pos ⟨nI_rowP hk, hsuu, nI_rowP hp, nI_rowP hj, nI_rowP hb⟩, hrnk, hrnu, hrnp, hrnj, hrnb]
                      unfold stNo1
                      rw [if_pos hok, if_pos (b2i_1 (p := 48 < s.2.2.1 + (3 + s.2.2.2.1.length)) c85)]
                    exact hR F17 _ _ _ dX12_nonce_90 rfl ⟨_, _, _, _, by rw [e]; exact hI.keep (c := s.2.2.1) M20 hpI.2.1.1 (hpI.2.1.2) (fun z hz => hvF z (jdj rfl hz)) (fun z hz => hnF z (jdj rfl hz)) (fun z hz => hwF z (jdj rfl hz)), by rw [e], O20⟩
                · refine jr_bipush (v := (-2 : Int32)) hE dX12_nonce_72 (by decide) ?_
                  have hvF : ∀ z, z ∉ [999] → v z = v z := (fun z hz => rfl)
                  have hnF : ∀ z, z ∉ [62] → n20 z = n z := (fun z hz => (hf20 z (jnsub (V := [62]) hz [0] rfl)))
                  have hwF : ∀ z, z ∉ [999] → w z = w z := (fun z hz => rfl)
                  have e : stNonce s (nI k) (nI u) (nI p) (nI j) (nI b) = (-2, s) := by
                    unfold stNonce
                    rw [if_pos ⟨nI_rowP hk, hsuu, nI_rowP hp, nI_rowP hj, nI_rowP hb⟩, hrnk, hrnu, hrnp, hrnj, hrnb]
                    unfold stNo1
                    rw [if_neg (fun h => c69 (nI_le (b := 40) h.2.2 (by decide)))]
                  exact hR F17 _ _ _ dX12_nonce_74 rfl ⟨_, _, _, _, by rw [e]; exact hI.keep (c := s.2.2.1) M20 hpI.2.1.1 (hpI.2.1.2) (fun z hz => hvF z (jdj rfl hz)) (fun z hz => hnF z (jdj rfl hz)) (fun z hz => hwF z (jdj rfl hz)), by rw [e], O20⟩
          · refine jr_iconst (v := (-1 : Int32)) hE dX12_nonce_38 (by decide) ?_
            have e : stNonce s (nI k) (nI u) (nI p) (nI j) m = (-1, s) := by
              unfold stNonce
              rw [if_neg (fun h => absurd (b2i_t h.2.2.2.2) (by rw [c35]; decide))]
            exact hR F _ _ _ dX12_nonce_39 rfl ⟨v, n, g, w, by rw [e]; exact hI, by rw [e], mO.rf o a F⟩

