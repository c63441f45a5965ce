/-! THE REFERENCE'S bend, same -/
def stBend (s : ST) (r i m : Int32) : Int32 × ST := if rowP r ∧ (0 ≤ i.toInt ∧ i.toInt < (s.1 (rn r)).length) ∧ 1 ≤ m.toInt ∧ m.toInt ≤ 255 then (nI ((s.1 (rn r)).getD (rn i) 0 ^^^ rn m), setR s (rn r) ((s.1 (rn r)).set (rn i) ((s.1 (rn r)).getD (rn i) 0 ^^^ rn m))) else (-1, s)
theorem bl_upd {f : Nat → Int32} {s n i y : Nat} (hi : i < n) (hs : s + i < 2 ^ 31) (hy : y < 2 ^ 32) : bl (upd f (nI (s + i)).toNatClampNeg (nI y)) s n = (bl f s n).set i y := by
  rw [nI_clamp hs]
  apply List.ext_getElem
  · rw [List.length_set, bl_len, bl_len]
  · intro j h1 h2
    rw [bl_len] at h1
    have e1 := bl_get (upd f (s + i) (nI y)) s n j h1
    rw [List.getD_eq_getElem?_getD, List.getElem?_eq_getElem (by rw [bl_len]; exact h1)] at e1
    refine Eq.trans e1 ?_
    rw [List.getElem_set]
    by_cases q : i = j
    · rw [if_pos q, ← q]
      exact bt_of (if_pos rfl) hy
    · rw [if_neg q]
      have e2 := bl_get f s n j h1
      rw [List.getD_eq_getElem?_getD, List.getElem?_eq_getElem (by rw [bl_len]; exact h1)] at e2
      refine Eq.trans ?_ e2.symm
      unfold bt
      show (if s + j = s + i then _ else f (s + j)).toBitVec.toNat = _
      rw [if_neg (by omega)]
def stSame (s : ST) (r q : Int32) : Int32 := if rowP r ∧ rowP q then b2i (s.1 (rn r) = s.1 (rn q)) else -1
theorem in0 {x y : Int32} {n : Nat} (hy : y = nI n) (hn : n < 2 ^ 30) : b2i ((0 : Int64).toInt ≤ x.toInt64.toInt ∧ x.toInt64.toInt ≤ ((y - 1).toInt64).toInt) = b2i (0 ≤ x.toInt ∧ x.toInt < n) := by
  subst hy
  have e : (nI n - 1).toInt64.toInt = (n : Int) - 1 := by
    rw [i2l_T]
    exact pk_sub_toInt (a := n) (b := 1) hn (by decide)
  rw [i2l_T, e, show (0 : Int64).toInt = 0 by decide]
  by_cases q : 0 ≤ x.toInt ∧ x.toInt < n
  · rw [b2i_t q, b2i_t ⟨q.1, by omega⟩]
  · rw [b2i_f q, b2i_f (fun e => q ⟨e.1, by omega⟩)]

set_option maxHeartbeats 4000000 in
set_option maxRecDepth 100000 in
theorem c_m_bend (l : Launch) (G : Nat → ClassId) (o : Nat) (a : Nat → Nat) (v : Nat → Int32) (n : Nat → Option Nat) (g : Nat → Nat → Int64) (w : Nat → Nat → Int32) (s : ST) (r i m : Int32) : jKi l yX12_bend wsX12_bend ({ frames := 2, cells := 0, slots := 0, locals := 45 }) G [.ref o, .int r, .int i, .int m] (fun L F => mI G L F o a v n g w s) (fun L F q F1 => ∃ v' n' g' w', mI G L F1 o a v' n' g' w' (stBend s r i m).2 ∧ q = (stBend s r i m).1 ∧ mO o a F F1) := by
  refine jm_ki (cc := cX12_bend) (maxL := 4) (rt := .int) (by decide) rfl (Nat.le_of_ble_eq_true rfl) ?_
  intro E L F hE hR hpre
  have hE : jOk E G _ cX12_bend 4 RX12 wsX12_bend := hE
  have hI := hpre
  obtain ⟨M0, hK, hC, htg, hrd, hRW, hpI⟩ := id hpre
  have f96 : jFl RX12 wsX12_bend 96 12 8 := ⟨rfl, by decide, by decide +kernel, by decide +kernel⟩
  have f100 : jFl RX12 wsX12_bend 100 12 9 := ⟨rfl, by decide, by decide +kernel, by decide +kernel⟩
  refine jr_iload_n hE dX12_bend_0 1 rfl ?_
  refine jr_kSi (n := 1) (As := [.int r]) (rest := []) hE dX12_bend_1 (fun l => c_m_isRow l G r) gX12_bend_X12_isRow rfl (by decide +kernel) ⟨rfl, rfl, by decide, by decide⟩ (by decide) rfl rfl (Nat.le_of_ble_eq_true rfl) (trivial) (fun r3 F1 q2 => ?_)
  obtain ⟨eq2, rq2⟩ := q2
  subst eq2 rq2
  refine jr_if_eq (tgt := 37) hE dX12_bend_4 (by decide) (fun c4 => ?_) (fun c4 => ?_)
  · refine jr_iconst (v := (-1 : Int32)) hE dX12_bend_37 (by decide) ?_
    have e : stBend s r i m = (-1, s) := by
      unfold stBend
      rw [if_neg (fun q => absurd (b2i_t q.1) (by rw [c4]; decide))]
    exact hR F _ _ _ dX12_bend_38 rfl ⟨v, n, g, w, by rw [e]; exact hI, by rw [e], mO.rf o a F⟩
  · have hrk : rowP r := b2i_1 c4
    obtain ⟨k, hk, rfl⟩ := rowP_nI hrk
    obtain ⟨z1k, z2k, z3k, z4k⟩ := hRW k hk
    have hrnk := nI_rn hk
    refine jr_iload_n hE dX12_bend_7 2 rfl ?_
    refine jr_i2l hE dX12_bend_8 rfl ?_
    refine jr_lconst (v := (0 : Int64)) hE dX12_bend_9 (by decide) ?_
    refine jr_aload_n hE dX12_bend_10 0 rfl ?_
    refine jr_get hE dX12_bend_11 f96 M0.ob rfl ?_
    refine jr_iload_n hE dX12_bend_14 1 rfl ?_
    refine jr_iald (v := nI (s.1 k).length) hE dX12_bend_15 (M0.I (k := 8) (N := 16) (by decide)) (vp_in_nI (by omega) (by decide)) (by rw [nI_clamp (by omega)]; exact z1k) ?_
    refine jr_iconst (v := (1 : Int32)) hE dX12_bend_16 (by decide) ?_
    refine jr_isub (z := nI (s.1 k).length - 1) hE dX12_bend_17 rfl ?_
    refine jr_i2l hE dX12_bend_18 rfl ?_
    refine jr_kSi (n := 3) (As := [.long i.toInt64, .long (0 : Int64), .long ((nI (s.1 k).length - 1).toInt64)]) (rest := []) hE dX12_bend_19 (fun l => c_m_in l G i.toInt64 0 ((nI (s.1 k).length - 1).toInt64)) gX12_bend_X12_in rfl (by decide +kernel) ⟨rfl, rfl, by decide, by decide⟩ (by decide) rfl rfl (Nat.le_of_ble_eq_true rfl) (trivial) (fun r6 F4 q5 => ?_)
    obtain ⟨eq5, rq5⟩ := q5
    subst eq5 rq5
    rw [in0 (x := i) (y := nI (s.1 k).length) rfl (by omega)]
    refine jr_if_eq (tgt := 37) hE dX12_bend_22 (by decide) (fun c22 => ?_) (fun c22 => ?_)
    · refine jr_iconst (v := (-1 : Int32)) hE dX12_bend_37 (by decide) ?_
      have e : stBend s (nI k) i m = (-1, s) := by
        unfold stBend
        rw [if_neg (fun q => absurd (b2i_t (p := 0 ≤ i.toInt ∧ i.toInt < (s.1 k).length) (by have := q.2.1; rwa [hrnk] at this)) (by rw [c22]; decide))]
      exact hR F _ _ _ dX12_bend_38 rfl ⟨v, n, g, w, by rw [e]; exact hI, by rw [e], mO.rf o a F⟩
    · refine jr_iload_n hE dX12_bend_25 3 rfl ?_
      refine jr_i2l hE dX12_bend_26 rfl ?_
      refine jr_lconst (v := (1 : Int64)) hE dX12_bend_27 (by decide) ?_
      refine jr_ldc2 (v := (255 : Int64)) hE dX12_bend_28 (by decide +kernel) ?_
      refine jr_kSi (n := 3) (As := [.long m.toInt64, .long (1 : Int64), .long (255 : Int64)]) (rest := []) hE dX12_bend_31 (fun l => c_m_in l G m.toInt64 1 255) gX12_bend_X12_in rfl (by decide +kernel) ⟨rfl, rfl, by decide, by decide⟩ (by decide) rfl rfl (Nat.le_of_ble_eq_true rfl) (trivial) (fun r9 F7 q8 => ?_)
      obtain ⟨eq8, rq8⟩ := q8
      subst eq8 rq8
      rw [show b2i ((1 : Int64).toInt ≤ m.toInt64.toInt ∧ m.toInt64.toInt ≤ (255 : Int64).toInt) = b2i (1 ≤ m.toInt ∧ m.toInt ≤ 255) by rw [i2l_T]; rfl]
      refine jr_if_ne (tgt := 39) hE dX12_bend_34 (by decide) (fun c34 => ?_) (fun c34 => ?_)
      · have hit := b2i_1 c22
        have hmm := b2i_1 c34
        obtain ⟨t, ht, het⟩ := sm_nI (x := i) (m := 99) (by omega) (by omega) (by decide)
        obtain ⟨y, hy, hey⟩ := sm_nI (x := m) (m := 255) (by omega) (by omega) (by decide)
        subst het hey
        have et : (nI t).toInt = t := nI_toInt (by omega)
        have ey : (nI y).toInt = y := nI_toInt (by omega)
        have rt : rn (nI t) = t := by unfold rn; rw [et]; omega
        have ry : rn (nI y) = y := by unfold rn; rw [ey]; omega
        rw [et] at hit
        rw [ey] at hmm
        have hbt : (s.1 k).getD t 0 < 256 := gd_lt z4k t
        have hwt : w 9 (100 * k + t) = nI ((s.1 k).getD t 0) := by
          rw [bt_nI (w 9) (100 * k + t), ← bl_get (w 9) (100 * k) (s.1 k).length t (by omega), z2k]
        refine jr_aload_n hE dX12_bend_39 0 rfl ?_
        refine jr_get hE dX12_bend_40 f100 M0.ob rfl ?_
        refine jr_bipush (v := (100 : Int32)) hE dX12_bend_43 (by decide) ?_
        refine jr_iload_n hE dX12_bend_45 1 rfl ?_
        refine jr_imul (z := nI (100 * k)) hE dX12_bend_46 (pk_mul 100 k) ?_
        refine jr_iload_n hE dX12_bend_47 2 rfl ?_
        refine jr_iadd (z := nI (100 * k + t)) hE dX12_bend_48 (nI_add _ _) ?_
        refine jr_dup2 hE dX12_bend_49 rfl rfl ?_
        refine jr_iald (v := nI ((s.1 k).getD t 0)) hE dX12_bend_50 (M0.I (k := 9) (N := 1600) (by decide)) (vp_in_nI (by omega) (by decide)) (by rw [nI_clamp (by omega)]; exact hwt) ?_
        refine jr_iload_n hE dX12_bend_51 3 rfl ?_
        refine jr_ixor (z := nI ((s.1 k).getD t 0 ^^^ y)) hE dX12_bend_52 (xor32 (by omega) (by omega)) ?_
        refine jr_iast hE dX12_bend_53 (M0.I (k := 9) (N := 1600) (by decide)) (vp_in_nI (by omega) (by decide)) (fun F10 g11 u12 => ?_)
        have H13 := M0.setI (k := 9) (N := 1600) (by decide) g11 u12
        have O14 := (mO.rf o a F).st (k := 9) (by decide) (by decide) u12
        refine jr_aload_n hE dX12_bend_54 0 rfl ?_
        refine jr_get hE dX12_bend_55 f100 H13.ob rfl ?_
        refine jr_bipush (v := (100 : Int32)) hE dX12_bend_58 (by decide) ?_
        refine jr_iload_n hE dX12_bend_60 1 rfl ?_
        refine jr_imul (z := nI (100 * k)) hE dX12_bend_61 (pk_mul 100 k) ?_
        refine jr_iload_n hE dX12_bend_62 2 rfl ?_
        refine jr_iadd (z := nI (100 * k + t)) hE dX12_bend_63 (nI_add _ _) ?_
        refine jr_iald (v := nI ((s.1 k).getD t 0 ^^^ y)) hE dX12_bend_64 (H13.I (k := 9) (N := 1600) (by decide)) (vp_in_nI (by omega) (by decide)) (by rw [uz_s]; exact if_pos rfl) ?_
        have hx8 : ((s.1 k).getD t 0 ^^^ y) < 256 := Nat.xor_lt_two_pow (n := 8) hbt (by omega)
        have e : stBend s (nI k) (nI t) (nI y) = (nI ((s.1 k).getD t 0 ^^^ y), setR s k ((s.1 k).set t ((s.1 k).getD t 0 ^^^ y))) := by
          unfold stBend
          rw [hrnk, rt, ry, if_pos ⟨nI_rowP hk, by rw [et]; exact hit, by rw [ey]; exact hmm⟩]
        exact hR F10 _ _ _ dX12_bend_65 rfl ⟨v, n, g, _, by
          rw [e]
          exact hI.row H13 (fun _ _ => rfl) (fun _ _ => rfl) (fun z hz => uz_n _ _ (fun q => by
            subst q
            exact absurd hz (by decide))) (by
            rw [List.length_set, ← z1k]
            funext t
            show w 8 t = if t = k then w 8 k else w 8 t
            split <;> simp_all) (fun j hj => by
            rw [uz_s, nI_clamp (by omega)]
            exact if_neg (by omega)) (by rw [uz_s, List.length_set, bl_upd (by omega) (by omega) (by omega), z2k]) (by rw [List.length_set]; exact z3k) (fun b hb => by
            rcases List.mem_or_eq_of_mem_set hb with q | q
            · exact z4k b q
            · rw [q]; exact hx8), by rw [e], O14⟩
      · refine jr_iconst (v := (-1 : Int32)) hE dX12_bend_37 (by decide) ?_
        have e : stBend s (nI k) i m = (-1, s) := by
          unfold stBend
          rw [if_neg (fun q => absurd (b2i_t q.2.2) (by rw [c34]; decide))]
        exact hR F _ _ _ dX12_bend_38 rfl ⟨v, n, g, w, by rw [e]; exact hI, by rw [e], mO.rf o a F⟩

set_option maxHeartbeats 4000000 in
set_option maxRecDepth 100000 in
theorem c_m_same (l : Launch) (G : Nat → ClassId) (o : Nat) (a : Nat → Nat) (v : Nat → Int32) (n : Nat → Option Nat) (g : Nat → Nat → Int64) (w : Nat → Nat → Int32) (s : ST) (r q : Int32) : jKi l yX12_same wsX12_same ({ frames := 2, cells := 0, slots := 0, locals := 45 }) G [.ref o, .int r, .int q] (fun L F => mI G L F o a v n g w s) (fun L F z F1 => F = F1 ∧ z = stSame s r q) := by
  refine jm_ki (cc := cX12_same) (maxL := 5) (rt := .int) (by decide) rfl (Nat.le_of_ble_eq_true rfl) ?_
  intro E L F hE hR hpre
  have hE : jOk E G _ cX12_same 5 RX12 wsX12_same := hE

  have f96 : jFl RX12 wsX12_same 96 12 8 := ⟨rfl, by decide, by decide +kernel, by decide +kernel⟩
  have f100 : jFl RX12 wsX12_same 100 12 9 := ⟨rfl, by decide, by decide +kernel, by decide +kernel⟩
  have hI := hpre
  obtain ⟨M0, hK, hC, htg, hrd, hRW, hpI⟩ := id hpre
  have main : ∀ (k p : Nat), k < 16 → p < 16 → w 8 k = nI (s.1 k).length → bl (w 9) (100 * k) (s.1 k).length = s.1 k → (s.1 k).length ≤ 100 → w 8 p = nI (s.1 p).length → bl (w 9) (100 * p) (s.1 p).length = s.1 p → (s.1 p).length ≤ 100 → rn (nI k) = k → rn (nI p) = p → ∀ (r0 t : Nat) (b : Int32), t + r0 = (s.1 k).length → b = b2i ((s.1 k).length = (s.1 p).length ∧ ∀ i, i < t → w 9 (100 * k + i) = w 9 (100 * p + i)) → (∀ (F1 : Nat → va_E) (v_1 : Int32) (pc : Nat) (lv : List (Nat × Value)), decode cX12_same pc = .ok (.ireturn, 1) → narrow .int (.int v_1) = .int v_1 → F = F1 ∧ v_1 = stSame s (nI k) (nI p) → J E L F1 0 0 pc lv [.int v_1]) → J E L F 0 0 40 [(4, .int (nI t)), (3, .int b), (0, .ref o), (1, .int (nI k)), (2, .int (nI p))] [] := by
    intro k p hk hp z1k z2k z3k z1p z2p z3p hrnk hrnp r0
    induction r0 with
    | zero =>
      intro t b ht hb hR
      refine jr_iload hE dX12_same_40 0 rfl ?_
      refine jr_aload_n hE dX12_same_42 2 rfl ?_
      refine jr_get hE dX12_same_43 f96 M0.ob rfl ?_
      refine jr_iload_n hE dX12_same_46 3 rfl ?_
      refine jr_iald (v := nI (s.1 k).length) hE dX12_same_47 (M0.I (k := 8) (N := 16) (by decide)) (vp_in_nI (by omega) (by decide)) (by rw [nI_clamp (by omega)]; exact z1k) ?_
      refine jr_icmp_ge (tgt := 94) hE dX12_same_48 (by decide) (fun c_48 => ?_) (fun c_48 => absurd (nI_le (by omega) (by omega)) c_48)
      refine jr_iload_n hE dX12_same_94 1 rfl ?_
      refine jr_if_eq (tgt := 102) hE dX12_same_95 (by decide) (fun c95 => ?_) (fun c95 => ?_)
      · refine jr_iconst (v := (0 : Int32)) hE dX12_same_102 (by decide) ?_
        have hq : s.1 k = s.1 p ↔ ((s.1 k).length = (s.1 p).length ∧ ∀ i, i < (s.1 k).length → w 9 (100 * k + i) = w 9 (100 * p + i)) := by
          constructor
          · intro h
            have hl : (s.1 k).length = (s.1 p).length := by rw [h]
            exact ⟨hl, bl_eq.mpr (by rw [z2k, hl, z2p]; exact h)⟩
          · intro h
            have h2 := bl_eq.mp h.2
            rwa [z2k, h.1, z2p] at h2
        exact hR F _ _ _ dX12_same_103 rfl ⟨rfl, by
          unfold stSame
          rw [if_pos ⟨nI_rowP hk, nI_rowP hp⟩, hrnk, hrnp]
          rw [c95, show t = (s.1 k).length by omega] at hb
          by_cases h : s.1 k = s.1 p
          · rw [b2i_t (hq.mp h)] at hb
            exact absurd hb (by decide)
          · rw [b2i_f h]⟩
      · refine jr_iconst (v := (1 : Int32)) hE dX12_same_98 (by decide) ?_
        refine jr_goto (tgt := 103) hE dX12_same_99 (by decide) ?_
        have hq : s.1 k = s.1 p ↔ ((s.1 k).length = (s.1 p).length ∧ ∀ i, i < (s.1 k).length → w 9 (100 * k + i) = w 9 (100 * p + i)) := by
          constructor
          · intro h
            have hl : (s.1 k).length = (s.1 p).length := by rw [h]
            exact ⟨hl, bl_eq.mpr (by rw [z2k, hl, z2p]; exact h)⟩
          · intro h
            have h2 := bl_eq.mp h.2
            rwa [z2k, h.1, z2p] at h2
        exact hR F _ _ _ dX12_same_103 rfl ⟨rfl, by
          unfold stSame
          rw [if_pos ⟨nI_rowP hk, nI_rowP hp⟩, hrnk, hrnp]
          have h := b2i_1 (p := (s.1 k).length = (s.1 p).length ∧ ∀ i, i < t → w 9 (100 * k + i) = w 9 (100 * p + i)) (by rw [← hb]; exact c95)
          rw [show t = (s.1 k).length by omega] at h
          rw [b2i_t (hq.mpr h)]⟩
    | succ r0 ih =>
      intro t b ht hb hR
      have ih := fun a b c d => ih a b c d hR
      refine jr_iload hE dX12_same_40 0 rfl ?_
      refine jr_aload_n hE dX12_same_42 2 rfl ?_
      refine jr_get hE dX12_same_43 f96 M0.ob rfl ?_
      refine jr_iload_n hE dX12_same_46 3 rfl ?_
      refine jr_iald (v := nI (s.1 k).length) hE dX12_same_47 (M0.I (k := 8) (N := 16) (by decide)) (vp_in_nI (by omega) (by decide)) (by rw [nI_clamp (by omega)]; exact z1k) ?_
      refine jr_icmp_ge (tgt := 94) hE dX12_same_48 (by decide) (fun c_48 => absurd c_48 (nI_ge (by omega) (by omega))) (fun c_48 => ?_)
      refine jr_iload_n hE dX12_same_51 1 rfl ?_
      refine jr_if_eq (tgt := 94) hE dX12_same_52 (by decide) (fun c52 => ?_) (fun c52 => ?_)
      · refine jr_iload_n hE dX12_same_94 1 rfl ?_
        refine jr_if_eq (tgt := 102) hE dX12_same_95 (by decide) (fun c_95 => ?_) (fun c_95 => absurd (c52) c_95)
        refine jr_iconst (v := (0 : Int32)) hE dX12_same_102 (by decide) ?_
        have hq : s.1 k = s.1 p ↔ ((s.1 k).length = (s.1 p).length ∧ ∀ i, i < (s.1 k).length → w 9 (100 * k + i) = w 9 (100 * p + i)) := by
          constructor
          · intro h
            have hl : (s.1 k).length = (s.1 p).length := by rw [h]
            exact ⟨hl, bl_eq.mpr (by rw [z2k, hl, z2p]; exact h)⟩
          · intro h
            have h2 := bl_eq.mp h.2
            rwa [z2k, h.1, z2p] at h2
        exact hR F _ _ _ dX12_same_103 rfl ⟨rfl, by
          unfold stSame
          rw [if_pos ⟨nI_rowP hk, nI_rowP hp⟩, hrnk, hrnp]
          rw [c52] at hb
          by_cases h : s.1 k = s.1 p
          · rw [b2i_t ⟨(hq.mp h).1, fun i hi => (hq.mp h).2 i (by omega)⟩] at hb
            exact absurd hb (by decide)
          · rw [b2i_f h]⟩
      · refine jr_aload_n hE dX12_same_55 2 rfl ?_
        refine jr_get hE dX12_same_56 f100 M0.ob rfl ?_
        refine jr_bipush (v := (100 : Int32)) hE dX12_same_59 (by decide) ?_
        refine jr_iload_n hE dX12_same_61 3 rfl ?_
        refine jr_imul (z := nI (100 * k)) hE dX12_same_62 (pk_mul 100 k) ?_
        refine jr_iload hE dX12_same_63 0 rfl ?_
        refine jr_iadd (z := nI (100 * k + t)) hE dX12_same_65 (nI_add _ _) ?_
        refine jr_iald (v := w 9 (100 * k + t)) hE dX12_same_66 (M0.I (k := 9) (N := 1600) (by decide)) (vp_in_nI (by omega) (by decide)) (by rw [nI_clamp (by omega)]) ?_
        refine jr_aload_n hE dX12_same_67 2 rfl ?_
        refine jr_get hE dX12_same_68 f100 M0.ob rfl ?_
        refine jr_bipush (v := (100 : Int32)) hE dX12_same_71 (by decide) ?_
        refine jr_iload_n hE dX12_same_73 4 rfl ?_
        refine jr_imul (z := nI (100 * p)) hE dX12_same_74 (pk_mul 100 p) ?_
        refine jr_iload hE dX12_same_75 0 rfl ?_
        refine jr_iadd (z := nI (100 * p + t)) hE dX12_same_77 (nI_add _ _) ?_
        refine jr_iald (v := w 9 (100 * p + t)) hE dX12_same_78 (M0.I (k := 9) (N := 1600) (by decide)) (vp_in_nI (by omega) (by decide)) (by rw [nI_clamp (by omega)]) ?_
        refine jr_icmp_ne (tgt := 86) hE dX12_same_79 (by decide) (fun c79 => ?_) (fun c79 => ?_)
        · refine jr_iconst (v := (0 : Int32)) hE dX12_same_86 (by decide) ?_
          refine jr_istore_n (lv' := [(3, .int (0 : Int32)), (4, .int (nI t)), (0, .ref o), (1, .int (nI k)), (2, .int (nI p))]) hE dX12_same_87 (by decide) rfl ?_
          refine jr_iinc (v := nI (t + 1)) (lv' := [(4, .int (nI (t + 1))), (3, .int (0 : Int32)), (0, .ref o), (1, .int (nI k)), (2, .int (nI p))]) hE dX12_same_88 1 rfl (nI_1 _) (by decide) rfl ?_
          refine jr_goto (tgt := 40) hE dX12_same_91 (by decide) ?_
          refine jr_lv (lv' := [(4, .int (nI (t + 1))), (3, .int (0 : Int32)), (0, .ref o), (1, .int (nI k)), (2, .int (nI p))]) [0, 1, 2, 3, 4] rfl ?_
          exact ih (t + 1) 0 (by omega) ((b2i_f (fun h => c79 (h.2 t (Nat.lt_succ_self t)))).symm)
        · refine jr_iconst (v := (1 : Int32)) hE dX12_same_82 (by decide) ?_
          refine jr_goto (tgt := 87) hE dX12_same_83 (by decide) ?_
          refine jr_istore_n (lv' := [(3, .int (1 : Int32)), (4, .int (nI t)), (0, .ref o), (1, .int (nI k)), (2, .int (nI p))]) hE dX12_same_87 (by decide) rfl ?_
          refine jr_iinc (v := nI (t + 1)) (lv' := [(4, .int (nI (t + 1))), (3, .int (1 : Int32)), (0, .ref o), (1, .int (nI k)), (2, .int (nI p))]) hE dX12_same_88 1 rfl (nI_1 _) (by decide) rfl ?_
          refine jr_goto (tgt := 40) hE dX12_same_91 (by decide) ?_
          refine jr_lv (lv' := [(4, .int (nI (t + 1))), (3, .int (1 : Int32)), (0, .ref o), (1, .int (nI k)), (2, .int (nI p))]) [0, 1, 2, 3, 4] rfl ?_
          exact ih (t + 1) 1 (by omega) ((b2i_t (by
            have h := b2i_1 (p := (s.1 k).length = (s.1 p).length ∧ ∀ i, i < t → w 9 (100 * k + i) = w 9 (100 * p + i)) (by rw [← hb]; exact c52)
            exact ⟨h.1, fun i hi => by
              rcases Nat.lt_or_ge i t with q0 | q0
              · exact h.2 i q0
              · rw [show i = t by omega]
                exact c79⟩)).symm)
  refine jr_iload_n hE dX12_same_0 1 rfl ?_
  refine jr_kSi (n := 1) (As := [.int r]) (rest := []) hE dX12_same_1 (fun l => c_m_isRow l G r) gX12_same_X12_isRow rfl (by decide +kernel) ⟨rfl, rfl, by decide, by decide⟩ (by decide) rfl rfl (Nat.le_of_ble_eq_true rfl) (trivial) (fun r3 F1 q2 => ?_)
  obtain ⟨eq2, rq2⟩ := q2
  subst eq2 rq2
  refine jr_if_eq (tgt := 14) hE dX12_same_4 (by decide) (fun c4 => ?_) (fun c4 => ?_)
  · refine jr_iconst (v := (-1 : Int32)) hE dX12_same_14 (by decide) ?_
    have e : stSame s r q = -1 := by
      unfold stSame
      rw [if_neg (fun h => absurd (b2i_t h.1) (by rw [c4]; decide))]
    exact hR F _ _ _ dX12_same_15 rfl ⟨rfl, e.symm⟩
  · refine jr_iload_n hE dX12_same_7 2 rfl ?_
    have hrk : rowP r := b2i_1 c4
    obtain ⟨k, hk, rfl⟩ := rowP_nI hrk
    obtain ⟨z1k, z2k, z3k, z4k⟩ := hRW k hk
    have hrnk := nI_rn hk
    refine jr_kSi (n := 1) (As := [.int q]) (rest := []) hE dX12_same_8 (fun l => c_m_isRow l G q) gX12_same_X12_isRow rfl (by decide +kernel) ⟨rfl, rfl, by decide, by decide⟩ (by decide) rfl rfl (Nat.le_of_ble_eq_true rfl) (trivial) (fun r6 F4 q5 => ?_)
    obtain ⟨eq5, rq5⟩ := q5
    subst eq5 rq5
    refine jr_if_ne (tgt := 16) hE dX12_same_11 (by decide) (fun c11 => ?_) (fun c11 => ?_)
    · have hrp : rowP q := b2i_1 c11
      obtain ⟨p, hp, rfl⟩ := rowP_nI hrp
      obtain ⟨z1p, z2p, z3p, z4p⟩ := hRW p hp
      have hrnp := nI_rn hp
      refine jr_aload_n hE dX12_same_16 0 rfl ?_
      refine jr_get hE dX12_same_17 f96 M0.ob rfl ?_
      refine jr_iload_n hE dX12_same_20 1 rfl ?_
      refine jr_iald (v := nI (s.1 k).length) hE dX12_same_21 (M0.I (k := 8) (N := 16) (by decide)) (vp_in_nI (by omega) (by decide)) (by rw [nI_clamp (by omega)]; exact z1k) ?_
      refine jr_aload_n hE dX12_same_22 0 rfl ?_
      refine jr_get hE dX12_same_23 f96 M0.ob rfl ?_
      refine jr_iload_n hE dX12_same_26 2 rfl ?_
      refine jr_iald (v := nI (s.1 p).length) hE dX12_same_27 (M0.I (k := 8) (N := 16) (by decide)) (vp_in_nI (by omega) (by decide)) (by rw [nI_clamp (by omega)]; exact z1p) ?_
      refine jr_icmp_ne (tgt := 35) hE dX12_same_28 (by decide) (fun c28 => ?_) (fun c28 => ?_)
      · refine jr_iconst (v := (0 : Int32)) hE dX12_same_35 (by decide) ?_
        refine jr_istore_n (lv' := [(3, .int (0 : Int32)), (0, .ref o), (1, .int (nI k)), (2, .int (nI p))]) hE dX12_same_36 (by decide) rfl ?_
        refine jr_iconst (v := (0 : Int32)) hE dX12_same_37 (by decide) ?_
        refine jr_istore (lv' := [(4, .int (0 : Int32)), (3, .int (0 : Int32)), (0, .ref o), (1, .int (nI k)), (2, .int (nI p))]) hE dX12_same_38 (by decide) rfl ?_
        refine jr_lv (lv' := [(4, .int (0 : Int32)), (3, .int (0 : Int32)), (0, .ref o), (1, .int (nI k)), (2, .int (nI p))]) [0, 1, 2, 3, 4] rfl ?_
        exact main k p hk hp z1k z2k z3k z1p z2p z3p hrnk hrnp (s.1 k).length 0 0 (Nat.zero_add _) ((b2i_f (fun h => c28 (by rw [h.1]))).symm) hR
      · refine jr_iconst (v := (1 : Int32)) hE dX12_same_31 (by decide) ?_
        refine jr_goto (tgt := 36) hE dX12_same_32 (by decide) ?_
        refine jr_istore_n (lv' := [(3, .int (1 : Int32)), (0, .ref o), (1, .int (nI k)), (2, .int (nI p))]) hE dX12_same_36 (by decide) rfl ?_
        refine jr_iconst (v := (0 : Int32)) hE dX12_same_37 (by decide) ?_
        refine jr_istore (lv' := [(4, .int (0 : Int32)), (3, .int (1 : Int32)), (0, .ref o), (1, .int (nI k)), (2, .int (nI p))]) hE dX12_same_38 (by decide) rfl ?_
        refine jr_lv (lv' := [(4, .int (0 : Int32)), (3, .int (1 : Int32)), (0, .ref o), (1, .int (nI k)), (2, .int (nI p))]) [0, 1, 2, 3, 4] rfl ?_
        exact main k p hk hp z1k z2k z3k z1p z2p z3p hrnk hrnp (s.1 k).length 0 1 (Nat.zero_add _) ((b2i_t ⟨(nI_eq (by omega) (by omega)).mp c28, fun i hi => absurd hi (Nat.not_lt_zero i)⟩).symm) hR
    · refine jr_iconst (v := (-1 : Int32)) hE dX12_same_14 (by decide) ?_
      have e : stSame s (nI k) q = -1 := by
        unfold stSame
        rw [if_neg (fun h => absurd (b2i_t h.2) (by rw [c11]; decide))]
      exact hR F _ _ _ dX12_same_15 rfl ⟨rfl, e.symm⟩

