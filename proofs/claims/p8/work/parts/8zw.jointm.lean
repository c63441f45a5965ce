/-! THE SIGNERS by their rows; THE REFERENCE'S jointKey -/
theorem sgn_nI {x : Int32} {m : Nat} (h : 0 ≤ x.toInt ∧ x.toInt < m) (h4 : m ≤ 4) : ∃ u, u < m ∧ x = nI u := by
  obtain ⟨u, hu, e⟩ := sm_nI (x := x) (m := 3) h.1 (by omega) (by decide)
  subst e
  refine ⟨u, ?_, rfl⟩
  have e := h.2
  rw [nI_toInt (by omega)] at e
  omega
noncomputable def wKs (Sg : List (List Nat)) (j : Nat) : Nat := wgt (fun j => Sg.getD j []) Sg.length j (bnum (sha (sha (tgb 4) ++ sha (tgb 4) ++ sha (sha (tgb 3) ++ sha (tgb 3) ++ Sg.flatten) ++ Sg.getD j [])) % NN)
noncomputable def pKs (l : List Nat) : EP := rdE (l.getD 0 0) (bnum (l.drop 1))
/-- the sum of the weights' multiples of the first k signers' points -/
noncomputable def qSs (Sg : List (List Nat)) : Nat → EP
  | 0 => none
  | k + 1 => eadd PP (qSs Sg k) (emul PP (wKs Sg k) (pKs (Sg.getD k [])))
theorem isSec_cg {K K' : Nat → List Nat} {n j : Nat} (h : ∀ t, t < n → K t = K' t) (hj : j < n) : (∃ s, isSec K n s ∧ K s = K j) → ∃ s, isSec K' n s ∧ K' s = K' j := by
  rintro ⟨s, ⟨a, b, c, d⟩, e⟩
  exact ⟨s, ⟨a, b, fun t h1 h2 => by rw [← h t (by omega), ← h 0 (by omega)]; exact c t h1 h2, by rw [← h s b, ← h 0 (by omega)]; exact d⟩, by rw [← h s b, ← h j hj]; exact e⟩
theorem wgt_cg {K K' : Nat → List Nat} {n j V : Nat} (h : ∀ t, t < n → K t = K' t) (hj : j < n) : wgt K n j V = wgt K' n j V := by
  unfold wgt
  by_cases q : ∃ s, isSec K n s ∧ K s = K j
  · rw [if_pos q, if_pos (isSec_cg h hj q)]
  · rw [if_neg q, if_neg (fun q' => q (isSec_cg (fun t ht => (h t ht).symm) hj q'))]
theorem gD_in {α : Type} {l : List α} {j : Nat} (d : α) (h : j < l.length) : l.getD j d = l[j] := by
  rw [List.getD_eq_getElem?_getD, List.getElem?_eq_getElem h]
  rfl
theorem sgI.K {v : Nat → Int32} {w : Nat → Nat → Int32} {Sg : List (List Nat)} (h : sgI v w Sg) {j : Nat} (hj : j < Sg.length) : bl (w 17) (33 * j) 33 = Sg.getD j [] := by
  rw [gD_in [] hj]
  exact (h.2.2.2 j hj).1
theorem tk_fl {f : Nat → Int32} {c : Nat} {Sg : List (List Nat)} (h : ∀ j, j < Sg.length → bl f (c * j) c = Sg.getD j []) : ∀ m, m ≤ Sg.length → bl f 0 (c * m) = (Sg.take m).flatten
  | 0, _ => by rw [Nat.mul_zero, List.take_zero]; rfl
  | m + 1, hm => by
    rw [Nat.mul_succ, bl_app, tk_fl h m (by omega), Nat.zero_add, h m (by omega), gD_in [] (by omega), List.take_succ, List.getElem?_eq_getElem (by omega), List.flatten_append]
    simp
theorem sgI.fl {v : Nat → Int32} {w : Nat → Nat → Int32} {Sg : List (List Nat)} (h : sgI v w Sg) : bl (w 17) 0 (33 * Sg.length) = Sg.flatten := by
  rw [tk_fl (fun j hj => h.K hj) Sg.length (Nat.le_refl _), List.take_length]
theorem sgI.wKe {v : Nat → Int32} {w : Nat → Nat → Int32} {Sg : List (List Nat)} (h : sgI v w Sg) {j : Nat} (hj : j < Sg.length) : wK (w 17) Sg.length j = wKs Sg j := by
  unfold wK wKs
  rw [h.fl, h.K hj]
  exact wgt_cg (fun t ht => h.K ht) hj
theorem sgI.pKe {v : Nat → Int32} {w : Nat → Nat → Int32} {Sg : List (List Nat)} (h : sgI v w Sg) {j : Nat} (hj : j < Sg.length) : pK (w 17) j = pKs (Sg.getD j []) := by
  have q := rd_of (h.K hj)
  unfold pK pKs fK vK
  rw [q.1, q.2]
theorem sgI.qSe {v : Nat → Int32} {w : Nat → Nat → Int32} {Sg : List (List Nat)} (h : sgI v w Sg) : ∀ k, k ≤ Sg.length → qS (w 17) Sg.length k = qSs Sg k
  | 0, _ => rfl
  | k + 1, hk => by
    show eadd PP (qS (w 17) Sg.length k) (emul PP (wK (w 17) Sg.length k) (pK (w 17) k)) = eadd PP (qSs Sg k) (emul PP (wKs Sg k) (pKs (Sg.getD k [])))
    rw [h.qSe k (by omega), h.wKe (by omega), h.pKe (by omega)]
theorem sgI.ok {v : Nat → Int32} {w : Nat → Nat → Int32} {Sg : List (List Nat)} (h : sgI v w Sg) {j : Nat} (hj : j < Sg.length) : rdX ((Sg.getD j []).getD 0 0) (bnum ((Sg.getD j []).drop 1)) := by
  have q := rd_of (h.K hj)
  have r := (h.2.2.2 j hj).2
  unfold fK vK at r
  rwa [q.1, q.2] at r
theorem sgI.on {v : Nat → Int32} {w : Nat → Nat → Int32} {Sg : List (List Nat)} (h : sgI v w Sg) : onE PP (qSs Sg Sg.length) := by
  rw [← h.qSe _ (Nat.le_refl _)]
  exact qS_on (fun j hj => (h.2.2.2 j hj).2) _ (Nat.le_refl _)
noncomputable def stJoint (s : ST) (r : Int32) : Int32 × ST := if rowP r then (if s.2.2.2.1.length = 0 then (-2, s) else if 48 < s.2.2.1 + s.2.2.2.1.length then (-5, s) else if qSs s.2.2.2.1 s.2.2.2.1.length = none then (-2, setK s (s.2.2.1 + s.2.2.2.1.length)) else (32, setK (setR s (rn r) (bex (exE (qSs s.2.2.2.1 s.2.2.2.1.length)) 32)) (s.2.2.1 + s.2.2.2.1.length))) else (-1, s)

set_option maxHeartbeats 4000000 in
set_option maxRecDepth 100000 in
theorem c_m_jointKey (l : Launch) (G : Nat → ClassId) (o : Nat) (a : Nat → Nat) (v : Nat → Int32) (n : Nat → Option Nat) (g : Nat → Nat → Int64) (w : Nat → Nat → Int32) (s : ST) (r : Int32) : jKi l yX12_jointKey wsX12_jointKey ({ frames := 8, cells := 0, slots := 0, locals := 194 }) G [.ref o, .int r] (fun L F => mI G L F o a v n g w s) (fun L F q F1 => ∃ v' n' g' w', mI G L F1 o a v' n' g' w' (stJoint s r).2 ∧ q = (stJoint s r).1 ∧ mO o a F F1) := by
  refine jm_ki (cc := cX12_jointKey) (maxL := 2) (rt := .int) (by decide) rfl (Nat.le_of_ble_eq_true rfl) ?_
  intro E L F hE hR hpre
  have hE : jOk E G _ cX12_jointKey 2 RX12 wsX12_jointKey := hE
  have hI := hpre
  obtain ⟨M0, hK, hC, htg, hrd, hRW, hpI⟩ := id hpre
  have hwk48 := hpI.2.1.2
  have hs4 := hpI.2.2.1.2.1
  have hqS := hpI.2.2.1.qSe _ (Nat.le_refl _)
  have hqSon := hpI.2.2.1.on
  have f533 : jFl RX12 wsX12_jointKey 533 12 16 := ⟨rfl, by decide, by decide +kernel, by decide +kernel⟩
  have f302 : jFl RX12 wsX12_jointKey 302 12 61 := ⟨rfl, by decide, by decide +kernel, by decide +kernel⟩
  have f350 : jFl RX12 wsX12_jointKey 350 12 77 := ⟨rfl, by decide, by decide +kernel, by decide +kernel⟩
  refine jr_iload_n hE dX12_jointKey_0 1 rfl ?_
  refine jr_kSi (n := 1) (As := [.int r]) (rest := []) hE dX12_jointKey_1 (fun l => c_m_isRow l G r) gX12_jointKey_X12_isRow rfl (by decide +kernel) ⟨rfl, rfl, by decide, by decide⟩ (by decide) rfl rfl (Nat.le_of_ble_eq_true rfl) (trivial) (fun r3 F1 q2 => ?_)
  obtain ⟨eq2, rq2⟩ := q2
  subst eq2 rq2
  refine jr_if_ne (tgt := 9) hE dX12_jointKey_4 (by decide) (fun c4 => ?_) (fun c4 => ?_)
  · have hrk : rowP r := b2i_1 c4
    obtain ⟨k, hk, rfl⟩ := rowP_nI hrk
    obtain ⟨z1k, z2k, z3k, z4k⟩ := hRW k hk
    have hrnk := nI_rn hk
    refine jr_aload_n hE dX12_jointKey_9 0 rfl ?_
    refine jr_get hE dX12_jointKey_10 f533 M0.ob rfl ?_
    rw [hpI.2.2.1.1]
    refine jr_if_ne (tgt := 19) hE dX12_jointKey_13 (by decide) (fun c13 => ?_) (fun c13 => ?_)
    · have hz0 : ¬ s.2.2.2.1.length = 0 := fun h => c13 ((nI_eq (by omega) (by decide)).mpr h)
      refine jr_aload_n hE dX12_jointKey_19 0 rfl ?_
      refine jr_aload_n hE dX12_jointKey_20 0 rfl ?_
      refine jr_get hE dX12_jointKey_21 f533 M0.ob rfl ?_
      rw [hpI.2.2.1.1]
      refine jr_kVi (ci := 12) (n := 1) (As := [.int (nI s.2.2.2.1.length)]) (rest := []) hE dX12_jointKey_24 (fun l => c_m_isSpent l G o a v n g w s.2.2.1 s.2.2.2.1.length) gX12_jointKey_X12_isSpent rfl M0.ob rfl (by decide +kernel) ⟨rfl, rfl, by decide, by decide⟩ (by decide) rfl rfl (Nat.le_of_ble_eq_true rfl) (⟨M0, hpI.2.1.1, by omega, by omega⟩) (fun r6 F4 q5 => ?_)
      obtain ⟨eq5, rq5⟩ := q5
      subst eq5 rq5
      refine jr_if_eq (tgt := 33) hE dX12_jointKey_27 (by decide) (fun c27 => ?_) (fun c27 => ?_)
      · have hw48 : ¬ 48 < s.2.2.1 + s.2.2.2.1.length := fun h => absurd (b2i_t h) (by rw [c27]; decide)
        refine jr_aload_n hE dX12_jointKey_33 0 rfl ?_
        refine jr_kVi (ci := 12) (n := 0) (As := []) (rest := []) hE dX12_jointKey_34 (fun l => c_m_join l G o a v n g w s.2.2.1 s.2.2.2.1.length) gX12_jointKey_X12_join rfl M0.ob rfl (by decide +kernel) ⟨rfl, rfl, by decide, by decide⟩ (by decide) rfl rfl (Nat.le_of_ble_eq_true rfl) (⟨M0, hK, hC, htg, hrd, hpI.2.1.1, hpI.2.2.1.1, hpI.2.2.1.2.1, hpI.2.2.1.2.2.1, fun t ht => (hpI.2.2.1.2.2.2 t ht).2⟩) (fun r9 F7 q8 => ?_)
        obtain ⟨n10, v10, w10, M10, hf10, h3110, hvv10, hw10, hs10, h7710, hod10, r9e, P10⟩ := q8
        have O10 := (mO.rf o a F).tr P10
        rw [hqS] at hs10
        rw [hqS] at hod10
        rw [hqS] at r9e
        subst r9e
        refine jr_if_ne (tgt := 43) hE dX12_jointKey_37 (by decide) (fun c37 => ?_) (fun c37 => ?_)
        · have hQ : (qSs s.2.2.2.1 s.2.2.2.1.length) ≠ none := b2i_1 c37
          have hxy11 := hs10.xy hQ
          have hj11 : n10 77 = some (exE (qSs s.2.2.2.1 s.2.2.2.1.length)) := h7710.trans hxy11.1
          have ho11 : v10 78 = b2i (eyN (qSs s.2.2.2.1 s.2.2.2.1.length) % 2 = 1) := by
            obtain ⟨xy, hxy⟩ := Option.ne_none_iff_exists'.mp hQ
            rw [hod10 xy.1 xy.2 hxy, hxy]
            rfl
          refine jr_aload_n hE dX12_jointKey_43 0 rfl ?_
          refine jr_get hE dX12_jointKey_44 f302 M10.ob rfl ?_
          refine jr_iconst (v := (0 : Int32)) hE dX12_jointKey_47 (by decide) ?_
          refine jr_aload_n hE dX12_jointKey_48 0 rfl ?_
          refine jr_get hE dX12_jointKey_49 f350 M10.ob rfl ?_
          refine jr_kSv (n := 3) (As := [.ref (a 61), .int (0 : Int32), .ref (a 77)]) (rest := []) hE dX12_jointKey_52 (fun l => c_m_bytesOf l G o a v10 n10 g w10 61 0 77 66 (exE (qSs s.2.2.2.1 s.2.2.2.1.length))) gX12_jointKey_X12_bytesOf rfl (by decide +kernel) ⟨rfl, rfl, by decide, by decide⟩ (by decide) rfl rfl (Nat.le_of_ble_eq_true rfl) (⟨M10, by decide, by decide, by decide, by decide, hj11⟩) (fun F12 q13 => ?_)
          obtain ⟨M14, P14⟩ := q13
          have O14 := O10.tr P14
          obtain ⟨w14, e14, hw14, hx14⟩ := uz_ab w10 61 (wrt (w10 61) 0 (bex (exE (qSs s.2.2.2.1 s.2.2.2.1.length)) 32))
          rw [e14] at M14
          have ho14 : bl (w14 61) 0 32 = bex (exE (qSs s.2.2.2.1 s.2.2.2.1.length)) 32 := by rw [hx14]; exact bl_w0 (bex_len _ _) (bex_lt _ _)
          refine jr_aload_n hE dX12_jointKey_55 0 rfl ?_
          refine jr_iload_n hE dX12_jointKey_56 1 rfl ?_
          refine jr_bipush (v := (32 : Int32)) hE dX12_jointKey_57 (by decide) ?_
          refine jr_kVi (ci := 12) (n := 2) (As := [.int (nI k), .int (32 : Int32)]) (rest := []) hE dX12_jointKey_59 (fun l => c_m_gives l G o a v10 n10 g w14 k 32) gX12_jointKey_X12_gives rfl M14.ob rfl (by decide +kernel) ⟨rfl, rfl, by decide, by decide⟩ (by decide) rfl rfl (Nat.le_of_ble_eq_true rfl) (⟨M14, hk, by decide⟩) (fun r17 F15 q16 => ?_)
          obtain ⟨w18, M18, h918, h818, hw18, rfl, P18⟩ := q16
          have O18 := O14.tr P18
          rw [ho14, show w14 9 = w 9 from ((hw14 9 (by decide)).trans (hw10 9 (by decide)))] at h918
          rw [show w14 8 = w 8 from ((hw14 8 (by decide)).trans (hw10 8 (by decide)))] at h818
          have hvF : ∀ z, z ∉ [31, 57, 78] → v10 z = v z := (fun z hz => (hvv10 z (jne hz 0 rfl) (jne hz 1 rfl) (jne hz 2 rfl)))
          have hnF : ∀ z, z ∉ [34, 35, 36, 37, 38, 39, 40, 41, 42, 43, 44, 45, 46, 47, 49, 68, 69, 70, 76, 77] → n10 z = n z := (fun z hz => (hf10 z (jnsub (V := [34, 35, 36, 37, 38, 39, 40, 41, 42, 43, 44, 45, 46, 47, 49, 68, 69, 70, 76, 77]) hz [0, 1, 2, 3, 4, 5, 6, 7, 8, 9, 10, 11, 12, 13, 14, 15, 16, 17, 18, 19] rfl)))
          have hwF : ∀ z, z ∉ [8, 9, 53, 54, 55, 56, 58, 59, 61, 75] → w18 z = w z := (fun z hz => ((hw18 z (jne hz 0 rfl) (jne hz 1 rfl)).trans ((hw14 z (jnsub (V := [61]) hz [8] rfl)).trans (hw10 z (jnsub (V := [53, 54, 55, 56, 58, 59, 75]) hz [2, 3, 4, 5, 6, 7, 9] rfl)))))
          have e : stJoint s (nI k) = (32, setK (setR s k (bex (exE (qSs s.2.2.2.1 s.2.2.2.1.length)) 32)) (s.2.2.1 + s.2.2.2.1.length)) := by
            unfold stJoint
            rw [if_pos (nI_rowP hk), if_neg hz0, if_neg hw48, if_neg hQ, hrnk]
          have hln : (bex (exE (qSs s.2.2.2.1 s.2.2.2.1.length)) 32).length = 32 := bex_len _ _
          exact hR F15 _ _ _ dX12_jointKey_62 rfl ⟨_, _, _, _, by rw [e]; exact hI.rowk (k := k) (l := bex (exE (qSs s.2.2.2.1 s.2.2.2.1.length)) 32) (c := s.2.2.1 + s.2.2.2.1.length) M18 h3110 (by omega) (fun z hz => hvF z (jdj rfl hz)) (fun z hz => hnF z (jdj rfl hz)) (fun z hz => hwF z (jdj rfl hz)) (by rw [h818, hln]) h918 (by rw [hln]; decide) (bex_lt _ _), by rw [e]; rfl, O18⟩
        · refine jr_bipush (v := (-2 : Int32)) hE dX12_jointKey_40 (by decide) ?_
          have hvF : ∀ z, z ∉ [31, 57, 78] → v10 z = v z := (fun z hz => (hvv10 z (jne hz 0 rfl) (jne hz 1 rfl) (jne hz 2 rfl)))
          have hnF : ∀ z, z ∉ [34, 35, 36, 37, 38, 39, 40, 41, 42, 43, 44, 45, 46, 47, 49, 68, 69, 70, 76, 77] → n10 z = n z := (fun z hz => (hf10 z (jnsub (V := [34, 35, 36, 37, 38, 39, 40, 41, 42, 43, 44, 45, 46, 47, 49, 68, 69, 70, 76, 77]) hz [0, 1, 2, 3, 4, 5, 6, 7, 8, 9, 10, 11, 12, 13, 14, 15, 16, 17, 18, 19] rfl)))
          have hwF : ∀ z, z ∉ [53, 54, 55, 56, 58, 59, 75] → w10 z = w z := (fun z hz => (hw10 z (jnsub (V := [53, 54, 55, 56, 58, 59, 75]) hz [0, 1, 2, 3, 4, 5, 6] rfl)))
          have e : stJoint s (nI k) = (-2, setK s (s.2.2.1 + s.2.2.2.1.length)) := by
            unfold stJoint
            rw [if_pos (nI_rowP hk), if_neg hz0, if_neg hw48, if_pos (Classical.byContradiction (fun h => absurd (b2i_t h) (by rw [c37]; decide)))]
          exact hR F7 _ _ _ dX12_jointKey_42 rfl ⟨_, _, _, _, by rw [e]; exact hI.keep (c := s.2.2.1 + s.2.2.2.1.length) M10 h3110 (by omega) (fun z hz => hvF z (jdj rfl hz)) (fun z hz => hnF z (jdj rfl hz)) (fun z hz => hwF z (jdj rfl hz)), by rw [e], O10⟩
      · refine jr_bipush (v := (-5 : Int32)) hE dX12_jointKey_30 (by decide) ?_
        have e : stJoint s (nI k) = (-5, s) := by
          unfold stJoint
          rw [if_pos (nI_rowP hk), if_neg hz0, if_pos (b2i_1 (p := 48 < s.2.2.1 + s.2.2.2.1.length) c27)]
        exact hR F _ _ _ dX12_jointKey_32 rfl ⟨v, n, g, w, by rw [e]; exact hI, by rw [e], mO.rf o a F⟩
    · refine jr_bipush (v := (-2 : Int32)) hE dX12_jointKey_16 (by decide) ?_
      have e : stJoint s (nI k) = (-2, s) := by
        unfold stJoint
        rw [if_pos (nI_rowP hk), if_pos ((nI_eq (by omega) (by decide)).mp c13)]
      exact hR F _ _ _ dX12_jointKey_18 rfl ⟨v, n, g, w, by rw [e]; exact hI, by rw [e], mO.rf o a F⟩
  · refine jr_iconst (v := (-1 : Int32)) hE dX12_jointKey_7 (by decide) ?_
    have e : stJoint s r = (-1, s) := by
      unfold stJoint
      rw [if_neg (fun h => absurd (b2i_t h) (by rw [c4]; decide))]
    exact hR F _ _ _ dX12_jointKey_8 rfl ⟨v, n, g, w, by rw [e]; exact hI, by rw [e], mO.rf o a F⟩

