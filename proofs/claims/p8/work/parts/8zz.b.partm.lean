/-! THE REFERENCE'S part -/
def ntOK (x : Option SNo) (y : Option (List Nat)) : Bool := match x, y with
  | some a, some b => a.2.2 == b
  | _, _ => false
theorem nt_of {g : Nat → Nat → Int64} {w : Nat → Nat → Int32} {Nc : Nat → Option SNo} {Td : Nat → Option (List Nat)} {m j : Nat} (hn : ncI g w Nc m) (ht : tdI w Td m) (hj : j < 4) (hT : Td j ≠ none) : ∃ q : Bool, w 18 j = bi q ∧ ((q = true ∧ bl (w 21) (66 * j) 66 = bl (w 23) (66 * j) 66) ↔ ntOK (Nc j) (Td j) = true) := by
  have h1 := (hn j hj).2
  have h2 := (ht j hj).2
  revert h1 h2 hT
  cases Td j with
  | none => intro hT; exact absurd rfl hT
  | some b =>
    intro _
    cases Nc j with
    | none =>
      intro h1 h2
      exact ⟨false, h1, fun q => absurd q.1 (by decide), fun q => absurd q (by simp [ntOK])⟩
    | some x =>
      intro h1 h2
      refine ⟨true, h1.1, ?_⟩
      rw [h1.2.2.2.1, h2.2.1]
      simp [ntOK]
theorem nc_num {g : Nat → Nat → Int64} {w : Nat → Nat → Int32} {Nc : Nat → Option SNo} {m j : Nat} {t : SNo} (hn : ncI g w Nc m) (hj : j < 4) (h : Nc j = some t) : mN (fun i => g 19 (8 * j + i)) t.1 ∧ mN (fun i => g 20 (8 * j + i)) t.2.1 ∧ t.1 < NN ∧ t.2.1 < NN := by
  have q := (hn j hj).2
  rw [h] at q
  exact ⟨q.2.1, q.2.2.1, q.2.2.2.2.1, q.2.2.2.2.2⟩
def setN (s : ST) (Nc : Nat → Option SNo) : ST := (s.1, (s.2.1, s.2.2.1, s.2.2.2.1, Nc, s.2.2.2.2.2))
theorem mI.nc {G : Nat → ClassId} {L : List Nat} {F F1 : Nat → va_E} {o : Nat} {a : Nat → Nat} {v v' : Nat → Int32} {n n' : Nat → Option Nat} {g g' : Nat → Nat → Int64} {w w' : Nat → Nat → Int32} {s : ST} {k c : Nat} {l : List Nat} {Nc : Nat → Option SNo} (h : mI G L F o a v n g w s) (M : MW G L F1 o a v' n' g' w') (h31 : v' 31 = nI c) (hc : c ≤ 48) (hv : ∀ k, k ∈ [10, 16, 24, 29, 30] → v' k = v k) (hn : ∀ k, k ∈ [0, 1, 4, 5, 6, 7, 26, 27, 28, 32, 33, 48] → n' k = n k) (hg : ∀ k, k ∈ [2, 3, 15] → g' k = g k) (hw : ∀ k, k ∈ [50, 51, 52, 11, 12, 13, 14, 17, 22, 23, 25] → w' k = w k) (h8 : w' 8 = upd (w 8) k (nI l.length)) (h9 : w' 9 = wrt (w 9) (100 * k) l) (hln : l.length ≤ 100) (hb : ∀ b, b ∈ l → b < 256) (hnc' : ncI g' w' Nc s.2.2.2.1.length) : mI G L F1 o a v' n' g' w' (setN (setK (setR s k l) c) Nc) := by
  obtain ⟨_, a2, a3, a4, a5, a6, hen, hwk, hsg, hnc, htd, hse⟩ := h
  refine ⟨M, a2.frg (hn 0 (by decide)) (hn 1 (by decide)) (hn 32 (by decide)) (hn 33 (by decide)) (hg 2 (by decide)) (hg 3 (by decide)), a3.fr (hn 4 (by decide)) (hn 5 (by decide)) (hn 6 (by decide)) (hn 7 (by decide)) (hn 48 (by decide)), a4.fr (hw 50 (by decide)) (hw 51 (by decide)), a5.fr (hw 52 (by decide)), a6.set h8 (fun j hj => by rw [h9]; exact wrt_out _ _ _ (by omega)) (by rw [h9]; exact bl_wrt _ _ _ (fun b hb' => Nat.lt_trans (hb b hb') (by decide))) hln hb, ⟨?_, ⟨h31, hc⟩, ?_, hnc', ?_, ?_⟩⟩
  · unfold enI at *
    rw [hv 10 (by decide), hw 11 (by decide), hw 12 (by decide), hw 13 (by decide), hw 14 (by decide), hg 15 (by decide)]
    exact hen
  · unfold sgI at *
    rw [hv 16 (by decide), hw 17 (by decide)]
    exact hsg
  · unfold tdI at *
    rw [hw 22 (by decide), hw 23 (by decide)]
    exact htd
  · unfold seI at *
    rw [hv 24 (by decide), hv 29 (by decide), hv 30 (by decide), hw 25 (by decide), hw 17 (by decide), hn 26 (by decide), hn 27 (by decide), hn 28 (by decide)]
    exact hse
theorem ncI.clr {g : Nat → Nat → Int64} {w w' : Nat → Nat → Int32} {Nc : Nat → Option SNo} {m j : Nat} (h : ncI g w Nc m) (h18 : w' 18 = upd (w 18) j 0) (h21 : w' 21 = w 21) : ncI g w' (fun t => if t = j then none else Nc t) m := by
  intro t ht
  dsimp only
  by_cases e : t = j
  · rw [if_pos e]
    exact ⟨fun _ => rfl, by rw [h18]; exact if_pos e⟩
  · rw [if_neg e]
    have q := h t ht
    refine ⟨q.1, ?_⟩
    have e1 : w' 18 t = w 18 t := by rw [h18]; exact if_neg e
    rw [h21, e1]
    exact q.2
noncomputable def oQ (s : ST) : Bool := eyO (qSs s.2.2.2.1 s.2.2.2.1.length)
noncomputable def ncN (s : ST) (u : Nat) : SNo := (s.2.2.2.2.1 u).getD (0, 0, [])
noncomputable def ptV (s : ST) (t : SSe) (u d : Nat) : Nat := (ngN t.2.2.2.2 (((ncN s u).1 + (ncN s u).2.1 * t.2.1 % NN) % NN) + ngN (oQ s) (t.2.2.1 * wKs s.2.2.2.1 u % NN) * d % NN) % NN
noncomputable def stPart1 (s : ST) (t : SSe) (k u p : Nat) : Int32 × ST := if secOK (s.1 p) ∧ ntOK (s.2.2.2.2.1 u) (s.2.2.2.2.2.1 u) = true then (if 48 < s.2.2.1 + 1 then (-5, s) else if pbE (emul PP (bnum (s.1 p)) GE) = s.2.2.2.1.getD u [] then (32, setN (setK (setR s k (bex (ptV s t u (bnum (s.1 p))) 32)) (s.2.2.1 + 1)) (fun x => if x = u then none else s.2.2.2.2.1 x)) else (-2, setK s (s.2.2.1 + 1))) else (-2, s)
noncomputable def stPart (s : ST) (r j q : Int32) : Int32 × ST := if rowP r ∧ (0 ≤ j.toInt ∧ j.toInt < s.2.2.2.1.length) ∧ rowP q then (match s.2.2.2.2.2.2 with
  | none => (-2, s)
  | some t => stPart1 s t (rn r) (rn j) (rn q)) else (-1, s)
theorem stPart_n {s : ST} {r j q : Int32} (h : rowP r ∧ (0 ≤ j.toInt ∧ j.toInt < s.2.2.2.1.length) ∧ rowP q) (e : s.2.2.2.2.2.2 = none) : stPart s r j q = (-2, s) := by
  unfold stPart
  rw [if_pos h, e]
theorem stPart_s {s : ST} {r j q : Int32} {t : SSe} (h : rowP r ∧ (0 ≤ j.toInt ∧ j.toInt < s.2.2.2.1.length) ∧ rowP q) (e : s.2.2.2.2.2.2 = some t) : stPart s r j q = stPart1 s t (rn r) (rn j) (rn q) := by
  unfold stPart
  rw [if_pos h, e]
theorem bi_b2i (A : EP) : b2i (eyN A % 2 = 1) = bi (eyO A) := by
  by_cases h : eyN A % 2 = 1
  · rw [b2i_t h, odd_t h]
    rfl
  · rw [b2i_f h, odd_f h]
    rfl
theorem oQ_v {s : ST} {v : Nat → Int32} {w : Nat → Nat → Int32} (hs : sgI v w s.2.2.2.1) (h : ∃ x y : Nat, qS (w 17) s.2.2.2.1.length s.2.2.2.1.length = some (x, y) ∧ v 30 = b2i (y % 2 = 1)) : v 30 = bi (oQ s) ∧ qSs s.2.2.2.1 s.2.2.2.1.length ≠ none := by
  obtain ⟨x, y, h1, h2⟩ := h
  rw [hs.qSe _ (Nat.le_refl _)] at h1
  refine ⟨?_, by rw [h1]; exact fun e => by cases e⟩
  rw [h2]
  unfold oQ
  rw [← bi_b2i, h1]
  rfl
theorem mw_two {G : Nat → ClassId} {L : List Nat} {F : Nat → va_E} {o : Nat} {a : Nat → Nat} {v : Nat → Int32} {n : Nat → Option Nat} {g s : Nat → Nat → Int64} {w : Nat → Nat → Int32} {f h : Nat → Int64} {x y : Nat} (H : RW G L F o a v (uz (uz s 64 f) 65 h) w) (hn : ∀ j x, n j = some x → mN (s j) x) (hg : ∀ j, mg j → s j = g j) (hf : mN f x) (hh : mN h y) : MW G L F o a v (uz (uz n 64 (some x)) 65 (some y)) g w := by
  have q1 := mw_set hn hg (k := 64) (f := f) (q := some x) (by decide) (fun z e => by cases e; exact hf)
  have q2 := mw_set q1.1 q1.2 (k := 65) (f := h) (q := some y) (by decide) (fun z e => by cases e; exact hh)
  exact ⟨_, H, q2.1, q2.2⟩
theorem nt_some {x : Option SNo} {y : Option (List Nat)} (h : ntOK x y = true) : ∃ t, x = some t := by
  cases x with
  | none => exact absurd h (by simp [ntOK])
  | some t => exact ⟨t, rfl⟩
theorem ngN_z {q : Bool} {x : Nat} (h : x = 0) : ngN q x = x := if_neg (fun e => e.2 h)
theorem b2i_c {p q : Prop} [Decidable p] [Decidable q] (h : p ↔ q) : b2i p = b2i q := by
  by_cases e : p
  · rw [b2i_t e, b2i_t (h.mp e)]
  · rw [b2i_f e, b2i_f (fun z => e (h.mpr z))]

set_option maxHeartbeats 4000000 in
set_option maxRecDepth 100000 in
theorem c_m_part (l : Launch) (G : Nat → ClassId) (o : Nat) (a : Nat → Nat) (v : Nat → Int32) (n : Nat → Option Nat) (g : Nat → Nat → Int64) (w : Nat → Nat → Int32) (s : ST) (r j c : Int32) : jKi l yX12_part wsX12_part ({ frames := 8, cells := 0, slots := 0, locals := 195 }) G [.ref o, .int r, .int j, .int c] (fun L F => mI G L F o a v n g w s) (fun L F q F1 => ∃ v' n' g' w', mI G L F1 o a v' n' g' w' (stPart s r j c).2 ∧ q = (stPart s r j c).1 ∧ mO o a F F1) := by
  refine jm_ki (cc := cX12_part) (maxL := 5) (rt := .int) (by decide) rfl (Nat.le_of_ble_eq_true rfl) ?_
  intro E L F hE hR hpre
  have hE : jOk E G _ cX12_part 5 RX12 wsX12_part := hE

  have f529 : jFl RX12 wsX12_part 529 12 24 := ⟨rfl, by decide, by decide +kernel, by decide +kernel⟩
  have f311 : jFl RX12 wsX12_part 311 12 64 := ⟨rfl, by decide, by decide +kernel, by decide +kernel⟩
  have f125 : jFl RX12 wsX12_part 125 12 19 := ⟨rfl, by decide, by decide +kernel, by decide +kernel⟩
  have f314 : jFl RX12 wsX12_part 314 12 65 := ⟨rfl, by decide, by decide +kernel, by decide +kernel⟩
  have f128 : jFl RX12 wsX12_part 128 12 20 := ⟨rfl, by decide, by decide +kernel, by decide +kernel⟩
  have f143 : jFl RX12 wsX12_part 143 12 26 := ⟨rfl, by decide, by decide +kernel, by decide +kernel⟩
  have f575 : jFl RX12 wsX12_part 575 12 29 := ⟨rfl, by decide, by decide +kernel, by decide +kernel⟩
  have f27 : jFl RX12 wsX12_part 27 12 1 := ⟨rfl, by decide, by decide +kernel, by decide +kernel⟩
  have f317 : jFl RX12 wsX12_part 317 12 66 := ⟨rfl, by decide, by decide +kernel, by decide +kernel⟩
  have f305 : jFl RX12 wsX12_part 305 12 62 := ⟨rfl, by decide, by decide +kernel, by decide +kernel⟩
  have f121 : jFl RX12 wsX12_part 121 12 18 := ⟨rfl, by decide, by decide +kernel, by decide +kernel⟩
  have f302 : jFl RX12 wsX12_part 302 12 61 := ⟨rfl, by decide, by decide +kernel, by decide +kernel⟩
  have hI := hpre
  obtain ⟨M0, hK, hC, htg, hrd, hRW, hpI⟩ := id hpre
  have hwk48 := hpI.2.1.2
  have hs4 := hpI.2.2.1.2.1
  have hqS := hpI.2.2.1.qSe _ (Nat.le_refl _)
  have hqSon := hpI.2.2.1.on
  have hwK : ∀ u, u < s.2.2.2.1.length → wK (w 17) s.2.2.2.1.length u = wKs s.2.2.2.1 u := fun u hu => hpI.2.2.1.wKe hu
  have hse := hpI.2.2.2.2.2
  rcases hSe : s.2.2.2.2.2.2 with _ | ⟨te⟩
  · have hz0 := 0
    refine jr_iload_n hE dX12_part_0 1 rfl ?_
    refine jr_kSi (n := 1) (As := [.int r]) (rest := []) hE dX12_part_1 (fun l => c_m_isRow l G r) gX12_part_X12_isRow rfl (by decide +kernel) ⟨rfl, rfl, by decide, by decide⟩ (by decide) rfl rfl (Nat.le_of_ble_eq_true rfl) (trivial) (fun r3 F1 q2 => ?_)
    obtain ⟨eq2, rq2⟩ := q2
    subst eq2 rq2
    refine jr_if_eq (tgt := 22) hE dX12_part_4 (by decide) (fun c4 => ?_) (fun c4 => ?_)
    · refine jr_iconst (v := (-1 : Int32)) hE dX12_part_22 (by decide) ?_
      have e : stPart s r j c = (-1, s) := by
        unfold stPart
        rw [if_neg (fun h => absurd (b2i_t h.1) (by rw [c4]; decide))]
      exact hR F _ _ _ dX12_part_23 rfl ⟨v, n, g, w, by rw [e]; exact hI, by rw [e], mO.rf o a F⟩
    · have hrk : rowP r := b2i_1 c4
      obtain ⟨k, hk, rfl⟩ := rowP_nI hrk
      obtain ⟨z1k, z2k, z3k, z4k⟩ := hRW k hk
      have hrnk := nI_rn hk
      refine jr_aload_n hE dX12_part_7 0 rfl ?_
      refine jr_iload_n hE dX12_part_8 2 rfl ?_
      refine jr_kVi (ci := 12) (n := 1) (As := [.int j]) (rest := []) hE dX12_part_9 (fun l => c_m_isSigner l G o a v n g w j s.2.2.2.1.length) gX12_part_X12_isSigner rfl M0.ob rfl (by decide +kernel) ⟨rfl, rfl, by decide, by decide⟩ (by decide) rfl rfl (Nat.le_of_ble_eq_true rfl) (⟨M0, hpI.2.2.1.1, hpI.2.2.1.2.1⟩) (fun r6 F4 q5 => ?_)
      obtain ⟨eq5, rq5⟩ := q5
      subst eq5 rq5
      refine jr_if_eq (tgt := 22) hE dX12_part_12 (by decide) (fun c12 => ?_) (fun c12 => ?_)
      · refine jr_iconst (v := (-1 : Int32)) hE dX12_part_22 (by decide) ?_
        have e : stPart s (nI k) j c = (-1, s) := by
          unfold stPart
          rw [if_neg (fun h => absurd (b2i_t h.2.1) (by rw [c12]; decide))]
        exact hR F _ _ _ dX12_part_23 rfl ⟨v, n, g, w, by rw [e]; exact hI, by rw [e], mO.rf o a F⟩
      · have hru := b2i_1 c12
        obtain ⟨u, hu, rfl⟩ := sgn_nI hru hpI.2.2.1.2.1
        have hrnu : rn (nI u) = u := nI_rn (by have := hpI.2.2.1.2.1; omega)
        have hu4u : u < 4 := Nat.lt_of_lt_of_le hu hpI.2.2.1.2.1
        have hsuu : 0 ≤ (nI u).toInt ∧ (nI u).toInt < s.2.2.2.1.length := by rw [nI_toInt (by omega)]; omega
        refine jr_iload_n hE dX12_part_15 3 rfl ?_
        refine jr_kSi (n := 1) (As := [.int c]) (rest := []) hE dX12_part_16 (fun l => c_m_isRow l G c) gX12_part_X12_isRow rfl (by decide +kernel) ⟨rfl, rfl, by decide, by decide⟩ (by decide) rfl rfl (Nat.le_of_ble_eq_true rfl) (trivial) (fun r9 F7 q8 => ?_)
        obtain ⟨eq8, rq8⟩ := q8
        subst eq8 rq8
        refine jr_if_ne (tgt := 24) hE dX12_part_19 (by decide) (fun c19 => ?_) (fun c19 => ?_)
        · have hrp : rowP c := b2i_1 c19
          obtain ⟨p, hp, rfl⟩ := rowP_nI hrp
          obtain ⟨z1p, z2p, z3p, z4p⟩ := hRW p hp
          have hrnp := nI_rn hp
          refine jr_aload_n hE dX12_part_24 0 rfl ?_
          refine jr_get hE dX12_part_25 f529 M0.ob rfl ?_
          rw [(seI_n hse hSe)]
          refine jr_if_eq (tgt := 47) hE dX12_part_28 (by decide) (fun c_28 => ?_) (fun c_28 => absurd (by decide) c_28)
          refine jr_bipush (v := (-2 : Int32)) hE dX12_part_47 (by decide) ?_
          have e := stPart_n ⟨nI_rowP hk, hsuu, nI_rowP hp⟩ hSe
          exact hR F _ _ _ dX12_part_49 rfl ⟨v, n, g, w, by rw [e]; exact hI, by rw [e], mO.rf o a F⟩
        · refine jr_iconst (v := (-1 : Int32)) hE dX12_part_22 (by decide) ?_
          have e : stPart s (nI k) (nI u) c = (-1, s) := by
            unfold stPart
            rw [if_neg (fun h => absurd (b2i_t h.2.2) (by rw [c19]; decide))]
          exact hR F _ _ _ dX12_part_23 rfl ⟨v, n, g, w, by rw [e]; exact hI, by rw [e], mO.rf o a F⟩
  · obtain ⟨h24, _, h25, hb25, h26, h27, h28, h29, hb26, hb27, hb28, h30, hTn⟩ := seI_s hse hSe
    have hoQ := oQ_v hpI.2.2.1 h30
    refine jr_iload_n hE dX12_part_0 1 rfl ?_
    refine jr_kSi (n := 1) (As := [.int r]) (rest := []) hE dX12_part_1 (fun l => c_m_isRow l G r) gX12_part_X12_isRow rfl (by decide +kernel) ⟨rfl, rfl, by decide, by decide⟩ (by decide) rfl rfl (Nat.le_of_ble_eq_true rfl) (trivial) (fun r3 F1 q2 => ?_)
    obtain ⟨eq2, rq2⟩ := q2
    subst eq2 rq2
    refine jr_if_eq (tgt := 22) hE dX12_part_4 (by decide) (fun c4 => ?_) (fun c4 => ?_)
    · refine jr_iconst (v := (-1 : Int32)) hE dX12_part_22 (by decide) ?_
      have e : stPart s r j c = (-1, s) := by
        unfold stPart
        rw [if_neg (fun h => absurd (b2i_t h.1) (by rw [c4]; decide))]
      exact hR F _ _ _ dX12_part_23 rfl ⟨v, n, g, w, by rw [e]; exact hI, by rw [e], mO.rf o a F⟩
    · have hrk : rowP r := b2i_1 c4
      obtain ⟨k, hk, rfl⟩ := rowP_nI hrk
      obtain ⟨z1k, z2k, z3k, z4k⟩ := hRW k hk
      have hrnk := nI_rn hk
      refine jr_aload_n hE dX12_part_7 0 rfl ?_
      refine jr_iload_n hE dX12_part_8 2 rfl ?_
      refine jr_kVi (ci := 12) (n := 1) (As := [.int j]) (rest := []) hE dX12_part_9 (fun l => c_m_isSigner l G o a v n g w j s.2.2.2.1.length) gX12_part_X12_isSigner rfl M0.ob rfl (by decide +kernel) ⟨rfl, rfl, by decide, by decide⟩ (by decide) rfl rfl (Nat.le_of_ble_eq_true rfl) (⟨M0, hpI.2.2.1.1, hpI.2.2.1.2.1⟩) (fun r6 F4 q5 => ?_)
      obtain ⟨eq5, rq5⟩ := q5
      subst eq5 rq5
      refine jr_if_eq (tgt := 22) hE dX12_part_12 (by decide) (fun c12 => ?_) (fun c12 => ?_)
      · refine jr_iconst (v := (-1 : Int32)) hE dX12_part_22 (by decide) ?_
        have e : stPart s (nI k) j c = (-1, s) := by
          unfold stPart
          rw [if_neg (fun h => absurd (b2i_t h.2.1) (by rw [c12]; decide))]
        exact hR F _ _ _ dX12_part_23 rfl ⟨v, n, g, w, by rw [e]; exact hI, by rw [e], mO.rf o a F⟩
      · have hru := b2i_1 c12
        obtain ⟨u, hu, rfl⟩ := sgn_nI hru hpI.2.2.1.2.1
        have hrnu : rn (nI u) = u := nI_rn (by have := hpI.2.2.1.2.1; omega)
        have hu4u : u < 4 := Nat.lt_of_lt_of_le hu hpI.2.2.1.2.1
        have hsuu : 0 ≤ (nI u).toInt ∧ (nI u).toInt < s.2.2.2.1.length := by rw [nI_toInt (by omega)]; omega
        refine jr_iload_n hE dX12_part_15 3 rfl ?_
        refine jr_kSi (n := 1) (As := [.int c]) (rest := []) hE dX12_part_16 (fun l => c_m_isRow l G c) gX12_part_X12_isRow rfl (by decide +kernel) ⟨rfl, rfl, by decide, by decide⟩ (by decide) rfl rfl (Nat.le_of_ble_eq_true rfl) (trivial) (fun r9 F7 q8 => ?_)
        obtain ⟨eq8, rq8⟩ := q8
        subst eq8 rq8
        refine jr_if_ne (tgt := 24) hE dX12_part_19 (by decide) (fun c19 => ?_) (fun c19 => ?_)
        · have hrp : rowP c := b2i_1 c19
          obtain ⟨p, hp, rfl⟩ := rowP_nI hrp
          obtain ⟨z1p, z2p, z3p, z4p⟩ := hRW p hp
          have hrnp := nI_rn hp
          refine jr_aload_n hE dX12_part_24 0 rfl ?_
          refine jr_get hE dX12_part_25 f529 M0.ob rfl ?_
          rw [h24]
          refine jr_if_eq (tgt := 47) hE dX12_part_28 (by decide) (fun c_28 => absurd c_28 (by decide)) (fun c_28 => ?_)
          refine jr_aload_n hE dX12_part_31 0 rfl ?_
          refine jr_iload_n hE dX12_part_32 3 rfl ?_
          refine jr_kVi (ci := 12) (n := 1) (As := [.int (nI p)]) (rest := []) hE dX12_part_33 (fun l => c_m_isSecret l G o a v n g w p (s.1 p).length) gX12_part_X12_isSecret rfl M0.ob rfl (by decide +kernel) ⟨rfl, rfl, by decide, by decide⟩ (by decide) rfl rfl (Nat.le_of_ble_eq_true rfl) (⟨M0, hK, hp, z1p, z3p, fun h => by rw [← h]; exact bB_of z2p z4p⟩) (fun r13 F11 q12 => ?_)
          obtain ⟨n14, M14, hf14, hd14, r13e, P14⟩ := q12
          rw [secI z2p] at r13e
          subst r13e
          have O14 := (mO.rf o a F).tr P14
          refine jr_if_eq (tgt := 47) hE dX12_part_36 (by decide) (fun c36 => ?_) (fun c36 => ?_)
          · refine jr_bipush (v := (-2 : Int32)) hE dX12_part_47 (by decide) ?_
            have hvF : ∀ z, z ∉ [999] → v z = v z := (fun z hz => rfl)
            have hnF : ∀ z, z ∉ [62] → n14 z = n z := (fun z hz => (hf14 z (jnsub (V := [62]) hz [0] rfl)))
            have hwF : ∀ z, z ∉ [999] → w z = w z := (fun z hz => rfl)
            have e : stPart s (nI k) (nI u) (nI p) = (-2, s) := by
              rw [stPart_s ⟨nI_rowP hk, hsuu, nI_rowP hp⟩ hSe, hrnk, hrnu, hrnp]
              unfold stPart1
              rw [if_neg (fun h => absurd (b2i_t h.1) (by rw [c36]; decide))]
            exact hR F11 _ _ _ dX12_part_49 rfl ⟨_, _, _, _, by rw [e]; exact hI.keep (c := s.2.2.1) M14 hpI.2.1.1 (hpI.2.1.2) (fun z hz => hvF z (jdj rfl hz)) (fun z hz => hnF z (jdj rfl hz)) (fun z hz => hwF z (jdj rfl hz)), by rw [e], O14⟩
          · have hs := b2i_1 c36
            have hS16 : n14 62 = some (bnum (s.1 p)) := sec_get hd14 z2p hs.1
            obtain ⟨d, hd⟩ : ∃ d, d = (bnum (s.1 p)) := ⟨_, rfl⟩
            rw [← hd] at hS16
            obtain ⟨hnq, hnq1, hnq2⟩ := nt_of hpI.2.2.2.1 hpI.2.2.2.2.1 hu4u (hTn u hu)
            refine jr_aload_n hE dX12_part_39 0 rfl ?_
            refine jr_iload_n hE dX12_part_40 2 rfl ?_
            refine jr_kVi (ci := 12) (n := 1) (As := [.int (nI u)]) (rest := []) hE dX12_part_41 (fun l => c_m_isNonceTold l G o a v n14 g w u hnq) gX12_part_X12_isNonceTold rfl M14.ob rfl (by decide +kernel) ⟨rfl, rfl, by decide, by decide⟩ (by decide) rfl rfl (Nat.le_of_ble_eq_true rfl) (⟨M14, hu4u, hnq1⟩) (fun r19 F17 q18 => ?_)
            obtain ⟨eq18, rq18⟩ := q18
            subst eq18
            have rq18 := rq18.trans (b2i_c hnq2)
            subst rq18
            refine jr_if_ne (tgt := 50) hE dX12_part_44 (by decide) (fun c44 => ?_) (fun c44 => ?_)
            · have hnt := b2i_1 c44
              refine jr_aload_n hE dX12_part_50 0 rfl ?_
              refine jr_iconst (v := (1 : Int32)) hE dX12_part_51 (by decide) ?_
              refine jr_kVi (ci := 12) (n := 1) (As := [.int (1 : Int32)]) (rest := []) hE dX12_part_52 (fun l => c_m_isSpent l G o a v n14 g w s.2.2.1 1) gX12_part_X12_isSpent rfl M14.ob rfl (by decide +kernel) ⟨rfl, rfl, by decide, by decide⟩ (by decide) rfl rfl (Nat.le_of_ble_eq_true rfl) (⟨M14, hpI.2.1.1, by omega, by omega⟩) (fun r22 F20 q21 => ?_)
              obtain ⟨eq21, rq21⟩ := q21
              subst eq21 rq21
              refine jr_if_eq (tgt := 61) hE dX12_part_55 (by decide) (fun c55 => ?_) (fun c55 => ?_)
              · have hw48 : ¬ 48 < s.2.2.1 + 1 := fun h => absurd (b2i_t h) (by rw [c55]; decide)
                refine jr_aload_n hE dX12_part_61 0 rfl ?_
                refine jr_iload_n hE dX12_part_62 2 rfl ?_
                have hK23 : mK n14 g := hK.fr (hf14 0 (by decide)) (hf14 1 (by decide)) (hf14 32 (by decide)) (hf14 33 (by decide))
                have hC24 : mC n14 := hC.fr (hf14 4 (by decide)) (hf14 5 (by decide)) (hf14 6 (by decide)) (hf14 7 (by decide)) (hf14 48 (by decide))
                refine jr_kVi (ci := 12) (n := 1) (As := [.int (nI u)]) (rest := []) hE dX12_part_63 (fun l => c_m_isOf l G o a v n14 g w u s.2.2.1 d) gX12_part_X12_isOf rfl M14.ob rfl (by decide +kernel) ⟨rfl, rfl, by decide, by decide⟩ (by decide) rfl rfl (Nat.le_of_ble_eq_true rfl) (⟨M14, hK23, hC24, hpI.2.1.1, hS16, hu4u⟩) (fun r27 F25 q26 => ?_)
                obtain ⟨n28, v28, w28, M28, hf28, h3128, hvv28, hw28, ho28, r27e, P28⟩ := q26
                have O28 := O14.tr P28
                rw [(hpI.2.2.1.2.2.2 u hu).1] at r27e
                subst r27e
                refine jr_if_ne (tgt := 72) hE dX12_part_66 (by decide) (fun c66 => ?_) (fun c66 => ?_)
                · have hof : pbE (emul PP d GE) = s.2.2.2.1.getD u [] := by rw [gD_in [] hu]; exact b2i_1 c66
                  obtain ⟨tn, hNc⟩ : ∃ t, s.2.2.2.2.1 u = some t := nt_some hnt
                  have hnn := nc_num hpI.2.2.2.1 hu4u hNc
                  refine jr_iconst (v := (0 : Int32)) hE dX12_part_72 (by decide) ?_
                  refine jr_istore (lv' := [(4, .int (0 : Int32)), (0, .ref o), (1, .int (nI k)), (2, .int (nI u)), (3, .int (nI p))]) hE dX12_part_73 (by decide) rfl ?_
                  have U29 : (∀ (F1 : Nat → va_E), MW G L F1 o a v28 (uz (uz n28 64 (some tn.1)) 65 (some tn.2.1)) g w28 → mO o a F25 F1 → J E L F1 0 0 126 [(4, .int (nI 8)), (0, .ref o), (1, .int (nI k)), (2, .int (nI u)), (3, .int (nI p))] []) → J E L F25 0 0 75 [(4, .int (0 : Int32)), (0, .ref o), (1, .int (nI k)), (2, .int (nI u)), (3, .int (nI p))] [] := by
                    intro cont
                    obtain ⟨s0, H0, hn0, hg0⟩ := M28
                    have loop : ∀ (r0 i : Nat) (F4 : Nat → va_E) (f h : Nat → Int64), i + r0 = 8 → RW G L F4 o a v28 (uz (uz s0 64 f) 65 h) w28 → (∀ t, t < i → f t = g 19 (8 * u + t) ∧ h t = g 20 (8 * u + t)) → mO o a F25 F4 → J E L F4 0 0 75 [(4, .int (nI i)), (0, .ref o), (1, .int (nI k)), (2, .int (nI u)), (3, .int (nI p))] [] := by
                      intro r0
                      induction r0 with
                      | zero =>
                        intro i F4 f h hi H4 hf O4
                        refine jr_iload hE dX12_part_75 0 rfl ?_
                        refine jr_bipush (v := (8 : Int32)) hE dX12_part_77 (by decide) ?_
                        refine jr_icmp_ge (tgt := 126) hE dX12_part_79 (by decide) (fun c_79 => ?_) (fun c_79 => absurd (nI_le (a := 8) (by omega) (by omega)) c_79)
                        have hiN : i = 8 := by omega
                        subst hiN
                        exact cont F4 (mw_two H4 hn0 hg0 (hnn.1.cg (fun t ht => (hf t ht).1)) (hnn.2.1.cg (fun t ht => (hf t ht).2))) O4
                      | succ r0 ih =>
                        intro i F4 f h hi H4 hf O4
                        refine jr_iload hE dX12_part_75 0 rfl ?_
                        refine jr_bipush (v := (8 : Int32)) hE dX12_part_77 (by decide) ?_
                        refine jr_icmp_ge (tgt := 126) hE dX12_part_79 (by decide) (fun c_79 => absurd c_79 (nI_ge (b := 8) (by omega) (by omega))) (fun c_79 => ?_)
                        refine jr_aload_n hE dX12_part_82 1 rfl ?_
                        refine jr_get hE dX12_part_83 f311 H4.ob rfl ?_
                        refine jr_iload hE dX12_part_86 0 rfl ?_
                        refine jr_aload_n hE dX12_part_88 1 rfl ?_
                        refine jr_get hE dX12_part_89 f125 H4.ob rfl ?_
                        refine jr_bipush (v := (8 : Int32)) hE dX12_part_92 (by decide) ?_
                        refine jr_iload_n hE dX12_part_94 3 rfl ?_
                        refine jr_imul (z := nI (8 * u)) hE dX12_part_95 (pk_mul 8 u) ?_
                        refine jr_iload hE dX12_part_96 0 rfl ?_
                        refine jr_iadd (z := nI (8 * u + i)) hE dX12_part_98 (nI_add _ _) ?_
                        refine jr_lald (v := g 19 (8 * u + i)) hE dX12_part_99 (H4.L (k := 19) (n := 32) (by decide)) (vp_in_nI (by omega) (by decide)) (by show s0 19 (nI (8 * u + i)).toNatClampNeg = _; rw [nI_clamp (by omega)]; exact congrFun (hg0 19 (by decide)) _) ?_
                        refine jr_last hE dX12_part_100 (H4.L (k := 64) (n := 8) (by decide)) (vp_in_nI (by omega) (by decide)) (fun F1030 g1031 u1032 => ?_)
                        have H1033 := H4.setL (k := 64) (n := 8) (by decide) g1031 u1032
                        have O1034 := O4.st (k := 64) (by decide) (by decide) u1032
                        rw [uz_cm (uz s0 64 f) (k := 65) (j := 64) h _ (by decide), uz_uz] at H1033
                        have H1033 : RW G L F1030 o a v28 (uz (uz s0 64 (vp_updL f (nI i).toNatClampNeg (g 19 (8 * u + i)))) 65 h) w28 := H1033
                        refine jr_aload_n hE dX12_part_101 1 rfl ?_
                        refine jr_get hE dX12_part_102 f314 H1033.ob rfl ?_
                        refine jr_iload hE dX12_part_105 0 rfl ?_
                        refine jr_aload_n hE dX12_part_107 1 rfl ?_
                        refine jr_get hE dX12_part_108 f128 H1033.ob rfl ?_
                        refine jr_bipush (v := (8 : Int32)) hE dX12_part_111 (by decide) ?_
                        refine jr_iload_n hE dX12_part_113 3 rfl ?_
                        refine jr_imul (z := nI (8 * u)) hE dX12_part_114 (pk_mul 8 u) ?_
                        refine jr_iload hE dX12_part_115 0 rfl ?_
                        refine jr_iadd (z := nI (8 * u + i)) hE dX12_part_117 (nI_add _ _) ?_
                        refine jr_lald (v := g 20 (8 * u + i)) hE dX12_part_118 (H1033.L (k := 20) (n := 32) (by decide)) (vp_in_nI (by omega) (by decide)) (by show s0 20 (nI (8 * u + i)).toNatClampNeg = _; rw [nI_clamp (by omega)]; exact congrFun (hg0 20 (by decide)) _) ?_
                        refine jr_last hE dX12_part_119 (H1033.L (k := 65) (n := 8) (by decide)) (vp_in_nI (by omega) (by decide)) (fun F1035 g1036 u1037 => ?_)
                        have H1038 := H1033.setL (k := 65) (n := 8) (by decide) g1036 u1037
                        have O1039 := O1034.st (k := 65) (by decide) (by decide) u1037
                        rw [uz_uz] at H1038
                        have H1038 : RW G L F1035 o a v28 (uz (uz s0 64 (vp_updL f (nI i).toNatClampNeg (g 19 (8 * u + i)))) 65 (vp_updL h (nI i).toNatClampNeg (g 20 (8 * u + i)))) w28 := H1038
                        refine jr_iinc (v := nI (i + 1)) (lv' := [(4, .int (nI (i + 1))), (0, .ref o), (1, .int (nI k)), (2, .int (nI u)), (3, .int (nI p))]) hE dX12_part_120 0 rfl (nI_1 _) (by decide) rfl ?_
                        refine jr_goto (tgt := 75) hE dX12_part_123 (by decide) ?_
                        refine jr_lv (lv' := [(4, .int (nI (i + 1))), (0, .ref o), (1, .int (nI k)), (2, .int (nI u)), (3, .int (nI p))]) [0, 1, 2, 3, 4] rfl ?_
                        exact ih (i + 1) F1035 _ _ (by omega) H1038 (fun t ht => by
                          rw [nI_clamp (by omega)]
                          show (if t = i then _ else f t) = _ ∧ (if t = i then _ else h t) = _
                          by_cases e : t = i
                          · rw [if_pos e, if_pos e, e]
                            exact ⟨rfl, rfl⟩
                          · rw [if_neg e, if_neg e]; exact hf t (by omega)) O1039
                    exact loop 8 0 F25 (s0 64) (s0 65) (by omega) (by rw [uz_id, uz_id]; exact H0) (fun t ht => absurd ht (Nat.not_lt_zero t)) (mO.rf o a F25)
                  refine U29 (fun F29 M29 P29 => ?_)
                  have O29 := O28.tr P29
                  obtain ⟨n29, e29, hf29, hv29⟩ := uz_ab n28 64 (some tn.1)
                  rw [e29] at M29
                  obtain ⟨n1040, e1040, hf1040, hv1040⟩ := uz_ab n29 65 (some tn.2.1)
                  rw [e1040] at M29
                  refine jr_aload_n hE dX12_part_126 1 rfl ?_
                  refine jr_aload_n hE dX12_part_127 1 rfl ?_
                  refine jr_get hE dX12_part_128 f314 M29.ob rfl ?_
                  refine jr_aload_n hE dX12_part_131 1 rfl ?_
                  refine jr_get hE dX12_part_132 f314 M29.ob rfl ?_
                  refine jr_aload_n hE dX12_part_135 1 rfl ?_
                  refine jr_get hE dX12_part_136 f143 M29.ob rfl ?_
                  refine jr_iconst (v := (1 : Int32)) hE dX12_part_139 (by decide) ?_
                  have hN1041 : n1040 26 = some te.2.1 := ((hf1040 26 (by decide)).trans ((hf29 26 (by decide)).trans ((hf28 26 (by decide)).trans (hf14 26 (by decide))))).trans h26
                  have hK1042 : mK n1040 g := hK23.fr ((hf1040 0 (by decide)).trans ((hf29 0 (by decide)).trans (hf28 0 (by decide)))) ((hf1040 1 (by decide)).trans ((hf29 1 (by decide)).trans (hf28 1 (by decide)))) ((hf1040 32 (by decide)).trans ((hf29 32 (by decide)).trans (hf28 32 (by decide)))) ((hf1040 33 (by decide)).trans ((hf29 33 (by decide)).trans (hf28 33 (by decide))))
                  refine jr_kVv (ci := 12) (n := 4) (As := [.ref (a 65), .ref (a 65), .ref (a 26), .int (1 : Int32)]) (rest := []) hE dX12_part_140 (fun l => c_m_times l G o a v28 n1040 g w28 65 65 26 tn.2.1 te.2.1 true) gX12_part_X12_times rfl M29.ob rfl (by decide +kernel) ⟨rfl, rfl, by decide, by decide⟩ (by decide) rfl rfl (Nat.le_of_ble_eq_true rfl) (⟨M29, hK1042, by decide, by decide, by decide, hv1040, hN1041⟩) (fun F1043 q1044 => ?_)
                  obtain ⟨M1045, P1045⟩ := q1044
                  have O1045 := O29.tr P1045
                  have M1045 : MW G L F1043 o a v28 (uz n1040 65 (some (tn.2.1 * te.2.1 % NN))) g w28 := M1045
                  obtain ⟨n1045, e1045, hf1045, hv1045⟩ := uz_ab n1040 65 (some (tn.2.1 * te.2.1 % NN))
                  rw [e1045] at M1045
                  refine jr_aload_n hE dX12_part_143 1 rfl ?_
                  refine jr_aload_n hE dX12_part_144 1 rfl ?_
                  refine jr_get hE dX12_part_145 f311 M1045.ob rfl ?_
                  refine jr_aload_n hE dX12_part_148 1 rfl ?_
                  refine jr_get hE dX12_part_149 f311 M1045.ob rfl ?_
                  refine jr_aload_n hE dX12_part_152 1 rfl ?_
                  refine jr_get hE dX12_part_153 f314 M1045.ob rfl ?_
                  refine jr_iconst (v := (1 : Int32)) hE dX12_part_156 (by decide) ?_
                  have hN1046 : n1045 64 = some tn.1 := ((hf1045 64 (by decide)).trans (hf1040 64 (by decide))).trans hv29
                  have hK1047 : mK n1045 g := hK1042.fr (hf1045 0 (by decide)) (hf1045 1 (by decide)) (hf1045 32 (by decide)) (hf1045 33 (by decide))
                  refine jr_kVv (ci := 12) (n := 4) (As := [.ref (a 64), .ref (a 64), .ref (a 65), .int (1 : Int32)]) (rest := []) hE dX12_part_157 (fun l => c_m_add l G o a v28 n1045 g w28 64 64 65 tn.1 (tn.2.1 * te.2.1 % NN) true) gX12_part_X12_add rfl M1045.ob rfl (by decide +kernel) ⟨rfl, rfl, by decide, by decide⟩ (by decide) rfl rfl (Nat.le_of_ble_eq_true rfl) (⟨M1045, hK1047, by decide, by decide, by decide, hN1046, hv1045⟩) (fun F1048 q1049 => ?_)
                  obtain ⟨M1050, P1050⟩ := q1049
                  have O1050 := O1045.tr P1050
                  have M1050 : MW G L F1048 o a v28 (uz n1045 64 (some ((tn.1 + tn.2.1 * te.2.1 % NN) % NN))) g w28 := M1050
                  obtain ⟨n1050, e1050, hf1050, hv1050⟩ := uz_ab n1045 64 (some ((tn.1 + tn.2.1 * te.2.1 % NN) % NN))
                  rw [e1050] at M1050
                  have hN1051 : n1050 1 = some NN := ((hf1050 1 (by decide)).trans ((hf1045 1 (by decide)).trans ((hf1040 1 (by decide)).trans ((hf29 1 (by decide)).trans ((hf28 1 (by decide)).trans (hf14 1 (by decide))))))).trans hK.2.1
                  have hV1052 : v28 29 = (bi te.2.2.2.2) := (hvv28 29 (by decide)).trans h29
                  have U1053 : (∀ (F1 : Nat → va_E) (n1 : Nat → Option Nat), MW G L F1 o a v28 n1 g w28 → (∀ z, z ∉ [64] → n1 z = n1050 z) → n1 64 = some (ngN te.2.2.2.2 ((tn.1 + tn.2.1 * te.2.1 % NN) % NN)) → mO o a F1048 F1 → J E L F1 0 0 192 [(4, .int (nI 8)), (0, .ref o), (1, .int (nI k)), (2, .int (nI u)), (3, .int (nI p))] []) → J E L F1048 0 0 160 [(4, .int (nI 8)), (0, .ref o), (1, .int (nI k)), (2, .int (nI u)), (3, .int (nI p))] [] := by
                    intro cont
                    refine jr_aload_n hE dX12_part_160 1 rfl ?_
                    refine jr_get hE dX12_part_161 f575 M1050.ob rfl ?_
                    rw [hV1052]
                    refine jr_if_eq (tgt := 192) hE dX12_part_164 (by decide) (fun c164 => ?_) (fun c164 => ?_)
                    · exact cont F1048 n1050 M1050 (fun z hz => rfl) (hv1050.trans (by rw [ngN_0 (bi_0 c164)])) (mO.rf o a F1048)
                    · refine jr_aload_n hE dX12_part_167 1 rfl ?_
                      refine jr_get hE dX12_part_168 f311 M1050.ob rfl ?_
                      refine jr_kSi (n := 1) (As := [.ref (a 64)]) (rest := []) hE dX12_part_171 (fun l => c_m_isNull l G o a v28 n1050 g w28 64 ((tn.1 + tn.2.1 * te.2.1 % NN) % NN)) gX12_part_X12_isNull rfl (by decide +kernel) ⟨rfl, rfl, by decide, by decide⟩ (by decide) rfl rfl (Nat.le_of_ble_eq_true rfl) (⟨M1050, by decide, hv1050⟩) (fun r1056 F1054 q1055 => ?_)
                      obtain ⟨eq1055, rq1055⟩ := q1055
                      subst eq1055 rq1055
                      refine jr_if_ne (tgt := 192) hE dX12_part_174 (by decide) (fun c174 => ?_) (fun c174 => ?_)
                      · exact cont F1048 n1050 M1050 (fun z hz => rfl) (hv1050.trans (by rw [ngN_z (b2i_1 c174)])) (mO.rf o a F1048)
                      · have hk0 : (tn.1 + tn.2.1 * te.2.1 % NN) % NN ≠ 0 := b2i_0 c174
                        refine jr_aload_n hE dX12_part_177 1 rfl ?_
                        refine jr_get hE dX12_part_178 f311 M1050.ob rfl ?_
                        refine jr_aload_n hE dX12_part_181 1 rfl ?_
                        refine jr_get hE dX12_part_182 f27 M1050.ob rfl ?_
                        refine jr_aload_n hE dX12_part_185 1 rfl ?_
                        refine jr_get hE dX12_part_186 f311 M1050.ob rfl ?_
                        refine jr_kSv (n := 3) (As := [.ref (a 64), .ref (a 1), .ref (a 64)]) (rest := []) hE dX12_part_189 (fun l => c_m_take l G o a v28 n1050 g w28 64 1 64 NN ((tn.1 + tn.2.1 * te.2.1 % NN) % NN)) gX12_part_X12_take rfl (by decide +kernel) ⟨rfl, rfl, by decide, by decide⟩ (by decide) rfl rfl (Nat.le_of_ble_eq_true rfl) (⟨M1050, by decide, by decide, by decide, hN1051, hv1050⟩) (fun F1057 q1058 => ?_)
                        obtain ⟨M1059, P1059⟩ := q1058
                        have O1059 := (mO.rf o a F1048).tr P1059
                        rw [show (NN + 2 ^ 256 - (tn.1 + tn.2.1 * te.2.1 % NN) % NN) % 2 ^ 256 = NN - ((tn.1 + tn.2.1 * te.2.1 % NN) % NN) from neg_tk hk0 (Nat.mod_lt _ NN0) NN_256] at M1059
                        obtain ⟨n1059, e1059, hf1059, hv1059⟩ := uz_ab n1050 64 (some (NN - ((tn.1 + tn.2.1 * te.2.1 % NN) % NN)))
                        rw [e1059] at M1059
                        exact cont F1057 n1059 M1059 (fun z hz => (hf1059 z (jnsub (V := [64]) hz [0] rfl))) (hv1059.trans (by rw [ngN_1 (bi_1 c164) hk0])) O1059
                  refine U1053 (fun F1053 n1053 M1053 hu1053 hy1053 P1053 => ?_)
                  have O1053 := O1050.tr P1053
                  refine jr_aload_n hE dX12_part_192 1 rfl ?_
                  refine jr_aload_n hE dX12_part_193 1 rfl ?_
                  refine jr_get hE dX12_part_194 f317 M1053.ob rfl ?_
                  refine jr_iload_n hE dX12_part_197 3 rfl ?_
                  have hV1060 : v28 16 = (nI s.2.2.2.1.length) := (hvv28 16 (by decide)).trans hpI.2.2.1.1
                  have hK1061 : mK n1053 g := hK1047.fr ((hu1053 0 (by decide)).trans (hf1050 0 (by decide))) ((hu1053 1 (by decide)).trans (hf1050 1 (by decide))) ((hu1053 32 (by decide)).trans (hf1050 32 (by decide))) ((hu1053 33 (by decide)).trans (hf1050 33 (by decide)))
                  have hT1062 : tgOK w28 := htg.fr (hw28 50 (by decide)) (hw28 51 (by decide))
                  have hD1063 : rdOK w28 := hrd.fr (hw28 52 (by decide))
                  have hN1064 : n1053 27 = some te.2.2.1 := ((hu1053 27 (by decide)).trans ((hf1050 27 (by decide)).trans ((hf1045 27 (by decide)).trans ((hf1040 27 (by decide)).trans ((hf29 27 (by decide)).trans ((hf28 27 (by decide)).trans (hf14 27 (by decide)))))))).trans h27
                  have hV1065 : v28 30 = (bi (oQ s)) := (hvv28 30 (by decide)).trans hoQ.1
                  refine jr_kVv (ci := 12) (n := 2) (As := [.ref (a 66), .int (nI u)]) (rest := []) hE dX12_part_198 (fun l => c_m_share l G o a v28 n1053 g w28 u s.2.2.2.1.length te.2.2.1 (oQ s)) gX12_part_X12_share rfl M1053.ob rfl (by decide +kernel) ⟨rfl, rfl, by decide, by decide⟩ (by decide) rfl rfl (Nat.le_of_ble_eq_true rfl) (⟨M1053, hK1061, hT1062, hD1063, hV1060, hu, hpI.2.2.1.2.1, by rw [show w28 17 = w 17 from (hw28 17 (by decide))]; exact hpI.2.2.1.2.2.1, hN1064, hV1065⟩) (fun F1066 q1067 => ?_)
                  obtain ⟨n1068, v1068, w1068, M1068, hf1068, h661068, hvv1068, hw1068, P1068⟩ := q1067
                  rw [show w28 17 = w 17 from (hw28 17 (by decide))] at h661068
                  rw [hwK u hu] at h661068
                  have O1068 := O1053.tr P1068
                  refine jr_aload_n hE dX12_part_201 1 rfl ?_
                  refine jr_aload_n hE dX12_part_202 1 rfl ?_
                  refine jr_get hE dX12_part_203 f317 M1068.ob rfl ?_
                  refine jr_aload_n hE dX12_part_206 1 rfl ?_
                  refine jr_get hE dX12_part_207 f317 M1068.ob rfl ?_
                  refine jr_aload_n hE dX12_part_210 1 rfl ?_
                  refine jr_get hE dX12_part_211 f305 M1068.ob rfl ?_
                  refine jr_iconst (v := (1 : Int32)) hE dX12_part_214 (by decide) ?_
                  have hN1069 : n1068 62 = some d := ((hf1068 62 (by decide)).trans ((hu1053 62 (by decide)).trans ((hf1050 62 (by decide)).trans ((hf1045 62 (by decide)).trans ((hf1040 62 (by decide)).trans ((hf29 62 (by decide)).trans (hf28 62 (by decide)))))))).trans hS16
                  have hK1070 : mK n1068 g := hK1061.fr (hf1068 0 (by decide)) (hf1068 1 (by decide)) (hf1068 32 (by decide)) (hf1068 33 (by decide))
                  refine jr_kVv (ci := 12) (n := 4) (As := [.ref (a 66), .ref (a 66), .ref (a 62), .int (1 : Int32)]) (rest := []) hE dX12_part_215 (fun l => c_m_times l G o a v1068 n1068 g w1068 66 66 62 (ngN (oQ s) (te.2.2.1 * wKs s.2.2.2.1 u % NN)) d true) gX12_part_X12_times rfl M1068.ob rfl (by decide +kernel) ⟨rfl, rfl, by decide, by decide⟩ (by decide) rfl rfl (Nat.le_of_ble_eq_true rfl) (⟨M1068, hK1070, by decide, by decide, by decide, h661068, hN1069⟩) (fun F1071 q1072 => ?_)
                  obtain ⟨M1073, P1073⟩ := q1072
                  have O1073 := O1068.tr P1073
                  have M1073 : MW G L F1071 o a v1068 (uz n1068 66 (some ((ngN (oQ s) (te.2.2.1 * wKs s.2.2.2.1 u % NN)) * d % NN))) g w1068 := M1073
                  obtain ⟨n1073, e1073, hf1073, hv1073⟩ := uz_ab n1068 66 (some ((ngN (oQ s) (te.2.2.1 * wKs s.2.2.2.1 u % NN)) * d % NN))
                  rw [e1073] at M1073
                  refine jr_aload_n hE dX12_part_218 1 rfl ?_
                  refine jr_aload_n hE dX12_part_219 1 rfl ?_
                  refine jr_get hE dX12_part_220 f311 M1073.ob rfl ?_
                  refine jr_aload_n hE dX12_part_223 1 rfl ?_
                  refine jr_get hE dX12_part_224 f311 M1073.ob rfl ?_
                  refine jr_aload_n hE dX12_part_227 1 rfl ?_
                  refine jr_get hE dX12_part_228 f317 M1073.ob rfl ?_
                  refine jr_iconst (v := (1 : Int32)) hE dX12_part_231 (by decide) ?_
                  have hN1074 : n1073 64 = some (ngN te.2.2.2.2 ((tn.1 + tn.2.1 * te.2.1 % NN) % NN)) := ((hf1073 64 (by decide)).trans (hf1068 64 (by decide))).trans hy1053
                  have hK1075 : mK n1073 g := hK1070.fr (hf1073 0 (by decide)) (hf1073 1 (by decide)) (hf1073 32 (by decide)) (hf1073 33 (by decide))
                  refine jr_kVv (ci := 12) (n := 4) (As := [.ref (a 64), .ref (a 64), .ref (a 66), .int (1 : Int32)]) (rest := []) hE dX12_part_232 (fun l => c_m_add l G o a v1068 n1073 g w1068 64 64 66 (ngN te.2.2.2.2 ((tn.1 + tn.2.1 * te.2.1 % NN) % NN)) ((ngN (oQ s) (te.2.2.1 * wKs s.2.2.2.1 u % NN)) * d % NN) true) gX12_part_X12_add rfl M1073.ob rfl (by decide +kernel) ⟨rfl, rfl, by decide, by decide⟩ (by decide) rfl rfl (Nat.le_of_ble_eq_true rfl) (⟨M1073, hK1075, by decide, by decide, by decide, hN1074, hv1073⟩) (fun F1076 q1077 => ?_)
                  obtain ⟨M1078, P1078⟩ := q1077
                  have O1078 := O1073.tr P1078
                  have M1078 : MW G L F1076 o a v1068 (uz n1073 64 (some (((ngN te.2.2.2.2 ((tn.1 + tn.2.1 * te.2.1 % NN) % NN)) + (ngN (oQ s) (te.2.2.1 * wKs s.2.2.2.1 u % NN)) * d % NN) % NN))) g w1068 := M1078
                  obtain ⟨n1078, e1078, hf1078, hv1078⟩ := uz_ab n1073 64 (some (((ngN te.2.2.2.2 ((tn.1 + tn.2.1 * te.2.1 % NN) % NN)) + (ngN (oQ s) (te.2.2.1 * wKs s.2.2.2.1 u % NN)) * d % NN) % NN))
                  rw [e1078] at M1078
                  refine jr_aload_n hE dX12_part_235 1 rfl ?_
                  refine jr_get hE dX12_part_236 f121 M1078.ob rfl ?_
                  refine jr_iload_n hE dX12_part_239 3 rfl ?_
                  refine jr_iconst (v := (0 : Int32)) hE dX12_part_240 (by decide) ?_
                  refine jr_zast hE dX12_part_241 (M1078.Z (k := 18) (N := 4) (by decide)) (vp_in_nI (by omega) (by decide)) (fun F1079 g1080 u1081 => ?_)
                  have H1082 := M1078.setZ (k := 18) (N := 4) (by decide) g1080 u1081
                  have O1083 := O1078.st (k := 18) (by decide) (by decide) u1081
                  obtain ⟨w1084, e1084, hw1084, hx1084⟩ := uz_ab w1068 18 (upd (w1068 18) (nI u).toNatClampNeg (vp_nar .boolean (0 : Int32)))
                  rw [e1084] at H1082
                  rw [nI_clamp (by omega), nar0] at hx1084
                  rw [show w1068 18 = w 18 from ((hw1068 18 (by decide)).trans (hw28 18 (by decide)))] at hx1084
                  
                  refine jr_aload_n hE dX12_part_242 1 rfl ?_
                  refine jr_get hE dX12_part_243 f302 H1082.ob rfl ?_
                  refine jr_iconst (v := (0 : Int32)) hE dX12_part_246 (by decide) ?_
                  refine jr_aload_n hE dX12_part_247 1 rfl ?_
                  refine jr_get hE dX12_part_248 f311 H1082.ob rfl ?_
                  refine jr_kSv (n := 3) (As := [.ref (a 61), .int (0 : Int32), .ref (a 64)]) (rest := []) hE dX12_part_251 (fun l => c_m_bytesOf l G o a v1068 n1078 g w1084 61 0 64 66 (((ngN te.2.2.2.2 ((tn.1 + tn.2.1 * te.2.1 % NN) % NN)) + (ngN (oQ s) (te.2.2.1 * wKs s.2.2.2.1 u % NN)) * d % NN) % NN)) gX12_part_X12_bytesOf rfl (by decide +kernel) ⟨rfl, rfl, by decide, by decide⟩ (by decide) rfl rfl (Nat.le_of_ble_eq_true rfl) (⟨H1082, by decide, by decide, by decide, by decide, hv1078⟩) (fun F1085 q1086 => ?_)
                  obtain ⟨M1087, P1087⟩ := q1086
                  have O1087 := O1083.tr P1087
                  obtain ⟨w1087, e1087, hw1087, hx1087⟩ := uz_ab w1084 61 (wrt (w1084 61) 0 (bex (((ngN te.2.2.2.2 ((tn.1 + tn.2.1 * te.2.1 % NN) % NN)) + (ngN (oQ s) (te.2.2.1 * wKs s.2.2.2.1 u % NN)) * d % NN) % NN) 32))
                  rw [e1087] at M1087
                  have ho1087 : bl (w1087 61) 0 32 = bex (((ngN te.2.2.2.2 ((tn.1 + tn.2.1 * te.2.1 % NN) % NN)) + (ngN (oQ s) (te.2.2.1 * wKs s.2.2.2.1 u % NN)) * d % NN) % NN) 32 := by rw [hx1087]; exact bl_w0 (bex_len _ _) (bex_lt _ _)
                  refine jr_aload_n hE dX12_part_254 1 rfl ?_
                  refine jr_iload_n hE dX12_part_255 2 rfl ?_
                  refine jr_bipush (v := (32 : Int32)) hE dX12_part_256 (by decide) ?_
                  refine jr_kVi (ci := 12) (n := 2) (As := [.int (nI k), .int (32 : Int32)]) (rest := []) hE dX12_part_258 (fun l => c_m_gives l G o a v1068 n1078 g w1087 k 32) gX12_part_X12_gives rfl M1087.ob rfl (by decide +kernel) ⟨rfl, rfl, by decide, by decide⟩ (by decide) rfl rfl (Nat.le_of_ble_eq_true rfl) (⟨M1087, hk, by decide⟩) (fun r1090 F1088 q1089 => ?_)
                  obtain ⟨w1091, M1091, h91091, h81091, hw1091, rfl, P1091⟩ := q1089
                  have O1091 := O1087.tr P1091
                  rw [ho1087, show w1087 9 = w 9 from ((hw1087 9 (by decide)).trans ((hw1084 9 (by decide)).trans ((hw1068 9 (by decide)).trans (hw28 9 (by decide)))))] at h91091
                  rw [show w1087 8 = w 8 from ((hw1087 8 (by decide)).trans ((hw1084 8 (by decide)).trans ((hw1068 8 (by decide)).trans (hw28 8 (by decide)))))] at h81091
                  have hV1092 : v1068 31 = (nI (s.2.2.1 + 1)) := (hvv1068 31 (by decide)).trans h3128
                  have hvF : ∀ z, z ∉ [31, 57] → v1068 z = v z := (fun z hz => ((hvv1068 z (jne hz 1 rfl)).trans (hvv28 z (jne hz 0 rfl))))
                  have hnF : ∀ z, z ∉ [34, 35, 36, 37, 38, 39, 40, 41, 42, 43, 44, 45, 46, 47, 62, 64, 65, 66, 76] → n1078 z = n z := (fun z hz => ((hf1078 z (jnsub (V := [64]) hz [15] rfl)).trans ((hf1073 z (jnsub (V := [66]) hz [17] rfl)).trans ((hf1068 z (jnsub (V := [66, 76]) hz [17, 18] rfl)).trans ((hu1053 z (jnsub (V := [64]) hz [15] rfl)).trans ((hf1050 z (jnsub (V := [64]) hz [15] rfl)).trans ((hf1045 z (jnsub (V := [65]) hz [16] rfl)).trans ((hf1040 z (jnsub (V := [65]) hz [16] rfl)).trans ((hf29 z (jnsub (V := [64]) hz [15] rfl)).trans ((hf28 z (jnsub (V := [34, 35, 36, 37, 38, 39, 40, 41, 42, 43, 44, 45, 46, 47]) hz [0, 1, 2, 3, 4, 5, 6, 7, 8, 9, 10, 11, 12, 13] rfl)).trans (hf14 z (jnsub (V := [62]) hz [14] rfl))))))))))))
                  have hwF : ∀ z, z ∉ [8, 9, 18, 53, 54, 55, 56, 58, 59, 61, 75, 79] → w1091 z = w z := (fun z hz => ((hw1091 z (jne hz 0 rfl) (jne hz 1 rfl)).trans ((hw1087 z (jnsub (V := [61]) hz [9] rfl)).trans ((hw1084 z (jnsub (V := [18]) hz [2] rfl)).trans ((hw1068 z (jnsub (V := [53, 54, 55, 56, 58, 59, 75]) hz [3, 4, 5, 6, 7, 8, 10] rfl)).trans (hw28 z (jne hz 11 rfl)))))))
                  have hpv : ptV s te u d = (((ngN te.2.2.2.2 ((tn.1 + tn.2.1 * te.2.1 % NN) % NN)) + (ngN (oQ s) (te.2.2.1 * wKs s.2.2.2.1 u % NN)) * d % NN) % NN) := by
                    unfold ptV ncN
                    rw [hNc]
                    rfl
                  have e : stPart s (nI k) (nI u) (nI p) = (32, setN (setK (setR s k (bex (ptV s te u d) 32)) (s.2.2.1 + 1)) (fun x => if x = u then none else s.2.2.2.2.1 x)) := by
                    rw [stPart_s ⟨nI_rowP hk, hsuu, nI_rowP hp⟩ hSe, hrnk, hrnu, hrnp]
                    unfold stPart1
                    rw [if_pos ⟨hs, hnt⟩, if_neg hw48, ← hd, if_pos hof]
                  rw [hpv] at e
                  have g18 : w1091 18 = upd (w 18) u 0 := ((hw1091 18 (by decide) (by decide)).trans (hw1087 18 (by decide))).trans hx1084
                  exact hR F1088 _ _ _ dX12_part_261 rfl ⟨_, _, _, _, by rw [e]; exact hI.nc (k := k) (l := bex (((ngN te.2.2.2.2 ((tn.1 + tn.2.1 * te.2.1 % NN) % NN)) + (ngN (oQ s) (te.2.2.1 * wKs s.2.2.2.1 u % NN)) * d % NN) % NN) 32) (c := s.2.2.1 + 1) M1091 hV1092 (by omega) (fun z hz => hvF z (jdj rfl hz)) (fun z hz => hnF z (jdj rfl hz)) (fun _ _ => rfl) (fun z hz => hwF z (jdj rfl hz)) (by rw [h81091, bex_len]) h91091 (by rw [bex_len]; decide) (bex_lt _ _) (hpI.2.2.2.1.clr g18 (hwF 21 (by decide))), by rw [e]; rfl, O1091⟩
                · refine jr_bipush (v := (-2 : Int32)) hE dX12_part_69 (by decide) ?_
                  have hvF : ∀ z, z ∉ [31] → v28 z = v z := (fun z hz => (hvv28 z (jne hz 0 rfl)))
                  have hnF : ∀ z, z ∉ [34, 35, 36, 37, 38, 39, 40, 41, 42, 43, 44, 45, 46, 47, 62] → n28 z = n z := (fun z hz => ((hf28 z (jnsub (V := [34, 35, 36, 37, 38, 39, 40, 41, 42, 43, 44, 45, 46, 47]) hz [0, 1, 2, 3, 4, 5, 6, 7, 8, 9, 10, 11, 12, 13] rfl)).trans (hf14 z (jnsub (V := [62]) hz [14] rfl))))
                  have hwF : ∀ z, z ∉ [79] → w28 z = w z := (fun z hz => (hw28 z (jne hz 0 rfl)))
                  have e : stPart s (nI k) (nI u) (nI p) = (-2, setK s (s.2.2.1 + 1)) := by
                    rw [stPart_s ⟨nI_rowP hk, hsuu, nI_rowP hp⟩ hSe, hrnk, hrnu, hrnp]
                    unfold stPart1
                    rw [if_pos ⟨hs, hnt⟩, if_neg hw48, ← hd, if_neg (fun h => b2i_0 c66 (by rw [gD_in [] hu] at h; exact h))]
                  exact hR F25 _ _ _ dX12_part_71 rfl ⟨_, _, _, _, by rw [e]; exact hI.keep (c := s.2.2.1 + 1) M28 h3128 (by omega) (fun z hz => hvF z (jdj rfl hz)) (fun z hz => hnF z (jdj rfl hz)) (fun z hz => hwF z (jdj rfl hz)), by rw [e], O28⟩
              · refine jr_bipush (v := (-5 : Int32)) hE dX12_part_58 (by decide) ?_
                have hvF : ∀ z, z ∉ [999] → v z = v z := (fun z hz => rfl)
                have hnF : ∀ z, z ∉ [62] → n14 z = n z := (fun z hz => (hf14 z (jnsub (V := [62]) hz [0] rfl)))
                have hwF : ∀ z, z ∉ [999] → w z = w z := (fun z hz => rfl)
                have e : stPart s (nI k) (nI u) (nI p) = (-5, s) := by
                  rw [stPart_s ⟨nI_rowP hk, hsuu, nI_rowP hp⟩ hSe, hrnk, hrnu, hrnp]
                  unfold stPart1
                  rw [if_pos ⟨hs, hnt⟩, if_pos (b2i_1 (p := 48 < s.2.2.1 + 1) c55)]
                exact hR F11 _ _ _ dX12_part_60 rfl ⟨_, _, _, _, by rw [e]; exact hI.keep (c := s.2.2.1) M14 hpI.2.1.1 (hpI.2.1.2) (fun z hz => hvF z (jdj rfl hz)) (fun z hz => hnF z (jdj rfl hz)) (fun z hz => hwF z (jdj rfl hz)), by rw [e], O14⟩
            · refine jr_bipush (v := (-2 : Int32)) hE dX12_part_47 (by decide) ?_
              have hvF : ∀ z, z ∉ [999] → v z = v z := (fun z hz => rfl)
              have hnF : ∀ z, z ∉ [62] → n14 z = n z := (fun z hz => (hf14 z (jnsub (V := [62]) hz [0] rfl)))
              have hwF : ∀ z, z ∉ [999] → w z = w z := (fun z hz => rfl)
              have e : stPart s (nI k) (nI u) (nI p) = (-2, s) := by
                rw [stPart_s ⟨nI_rowP hk, hsuu, nI_rowP hp⟩ hSe, hrnk, hrnu, hrnp]
                unfold stPart1
                rw [if_neg (fun h => absurd (b2i_t h.2) (by rw [c44]; decide))]
              exact hR F11 _ _ _ dX12_part_49 rfl ⟨_, _, _, _, by rw [e]; exact hI.keep (c := s.2.2.1) M14 hpI.2.1.1 (hpI.2.1.2) (fun z hz => hvF z (jdj rfl hz)) (fun z hz => hnF z (jdj rfl hz)) (fun z hz => hwF z (jdj rfl hz)), by rw [e], O14⟩
        · refine jr_iconst (v := (-1 : Int32)) hE dX12_part_22 (by decide) ?_
          have e : stPart s (nI k) (nI u) c = (-1, s) := by
            unfold stPart
            rw [if_neg (fun h => absurd (b2i_t h.2.2) (by rw [c19]; decide))]
          exact hR F _ _ _ dX12_part_23 rfl ⟨v, n, g, w, by rw [e]; exact hI, by rw [e], mO.rf o a F⟩

