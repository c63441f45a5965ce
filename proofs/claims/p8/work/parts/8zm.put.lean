/-! THE REFERENCE'S put -/
theorem nb_take {x : Int64} {m t : Nat} (h : t < m) : (nb x m).take t ++ [byt x (m - 1 - t)] = (nb x m).take (t + 1) := by
  have hl : t < (nb x m).length := by rw [nb_len]; exact h
  rw [List.take_succ, ← nb_get x m t h, List.getD_eq_getElem?_getD, List.getElem?_eq_getElem hl]
  rfl
theorem byt_lt (x : Int64) (j : Nat) : byt x j < 256 := Nat.mod_lt _ (by decide)

set_option maxHeartbeats 4000000 in
set_option maxRecDepth 100000 in
theorem c_m_put (l : Launch) (G : Nat → ClassId) (o : Nat) (a : Nat → Nat) (v : Nat → Int32) (n : Nat → Option Nat) (g : Nat → Nat → Int64) (w : Nat → Nat → Int32) (s : ST) (r c : Int32) (x : Int64) : jKi l yX12_put wsX12_put ({ frames := 2, cells := 0, slots := 0, locals := 45 }) G [.ref o, .int r, .int c, .long x] (fun L F => mI G L F o a v n g w s) (fun L F q F1 => ∃ v' n' g' w', mI G L F1 o a v' n' g' w' (stPut s r c x).2 ∧ q = (stPut s r c x).1 ∧ mO o a F F1) := by
  refine jm_ki (cc := cX12_put) (maxL := 6) (rt := .int) (by decide) rfl (Nat.le_of_ble_eq_true rfl) ?_
  intro E L F hE hR hpre
  have hE : jOk E G _ cX12_put 6 RX12 wsX12_put := hE

  have f96 : jFl RX12 wsX12_put 96 12 8 := ⟨rfl, by decide, by decide +kernel, by decide +kernel⟩
  have f100 : jFl RX12 wsX12_put 100 12 9 := ⟨rfl, by decide, by decide +kernel, by decide +kernel⟩
  have hI := hpre
  obtain ⟨M0, hK, hC, htg, hrd, hRW, hpI⟩ := id hpre
  have main : ∀ (k m : Nat), k < 16 → 1 ≤ m → m ≤ 8 → w 8 k = nI (s.1 k).length → bl (w 9) (100 * k) (s.1 k).length = s.1 k → (s.1 k).length ≤ 100 → (∀ b, b ∈ s.1 k → b < 256) → ∀ (j : Nat), j ≤ m → (s.1 k).length + m ≤ 100 → stPut s r c x = (nI ((s.1 k).length + m), setR s k (s.1 k ++ nb x m)) → ∀ (F2 : Nat → va_E) (f h : Nat → Int32), MW G L F2 o a v n g (uz (uz w 9 f) 8 h) → f = wrt (w 9) (100 * k + (s.1 k).length) ((nb x m).take (m - j)) → h = upd (w 8) k (nI ((s.1 k).length + (m - j))) → mO o a F F2 → J E L F2 0 0 42 [(5, .int (nI j - 1)), (0, .ref o), (1, .int (nI k)), (2, .int (nI m)), (3, .long x)] [] := by
    intro k m hk hm1 hm z1k z2k z3k z4k j
    induction j with
    | zero =>
      intro hj hle e F2 f h H hf hh O
      refine jr_iload hE dX12_put_42 0 rfl ?_
      refine jr_if_lt (tgt := 91) hE dX12_put_44 (by decide) (fun c_44 => ?_) (fun c_44 => absurd (by decide) c_44)
      refine jr_aload_n hE dX12_put_91 1 rfl ?_
      refine jr_get hE dX12_put_92 f96 H.ob rfl ?_
      refine jr_iload_n hE dX12_put_95 2 rfl ?_
      refine jr_iald (v := nI ((s.1 k).length + m)) hE dX12_put_96 (H.I (k := 8) (N := 16) (by decide)) (vp_in_nI (by omega) (by decide)) (by rw [nI_clamp (by omega), uz_s, hh, Nat.sub_zero]; exact if_pos rfl) ?_
      rw [Nat.sub_zero] at hf hh
      rw [List.take_of_length_le (Nat.le_of_eq (nb_len x m))] at hf
      exact hR F2 _ _ _ dX12_put_97 rfl ⟨v, n, g, _, by
        rw [e]
        exact hI.row H (fun _ _ => rfl) (fun _ _ => rfl) (fun z hz => by
          have h8 : z ≠ 8 := fun q => by subst q; exact absurd hz (by decide)
          have h9 : z ≠ 9 := fun q => by subst q; exact absurd hz (by decide)
          rw [uz_n _ _ h8, uz_n _ _ h9]) (by rw [uz_s, hh, List.length_append, nb_len]) (fun t ht => by
          show f t = _
          rw [hf]
          exact wrt_out _ _ _ (by rw [nb_len]; omega)) (by
          show bl f _ _ = _
          rw [hf, List.length_append, bl_app, bl_wrt _ _ _ (fun b hb => Nat.lt_trans (nb_lt x m b hb) (by decide)), bl_wrt_out _ _ _ _ _ (Or.inl (by omega)), z2k]) (by rw [List.length_append, nb_len]; exact hle) (fun b hb => (List.mem_append.mp hb).elim (z4k b) (nb_lt x m b)), by rw [e], O⟩
    | succ j ih =>
      intro hj hle e F2 f h H hf hh O
      rw [nI_pred]
      refine jr_iload hE dX12_put_42 0 rfl ?_
      refine jr_if_lt (tgt := 91) hE dX12_put_44 (by decide) (fun c_44 => absurd c_44 (nI_pos (by omega))) (fun c_44 => ?_)
      refine jr_aload_n hE dX12_put_47 1 rfl ?_
      refine jr_get hE dX12_put_48 f100 H.ob rfl ?_
      refine jr_bipush (v := (100 : Int32)) hE dX12_put_51 (by decide) ?_
      refine jr_iload_n hE dX12_put_53 2 rfl ?_
      refine jr_imul (z := nI (100 * k)) hE dX12_put_54 (pk_mul 100 k) ?_
      refine jr_aload_n hE dX12_put_55 1 rfl ?_
      refine jr_get hE dX12_put_56 f96 H.ob rfl ?_
      refine jr_iload_n hE dX12_put_59 2 rfl ?_
      refine jr_iald (v := nI ((s.1 k).length + (m - (j + 1)))) hE dX12_put_60 (H.I (k := 8) (N := 16) (by decide)) (vp_in_nI (by omega) (by decide)) (by rw [nI_clamp (by omega), uz_s, hh]; exact if_pos rfl) ?_
      refine jr_iadd (z := nI (100 * k + ((s.1 k).length + (m - (j + 1))))) hE dX12_put_61 (nI_add _ _) ?_
      refine jr_lload_n hE dX12_put_62 4 rfl ?_
      refine jr_bipush (v := (8 : Int32)) hE dX12_put_63 (by decide) ?_
      refine jr_iload hE dX12_put_65 0 rfl ?_
      refine jr_imul (z := nI (8 * j)) hE dX12_put_67 (pk_mul 8 j) ?_
      refine jr_lshr hE dX12_put_68 rfl ?_
      refine jr_topl (fun z1 ez1 => ?_)
      refine jr_ldc2 (v := (255 : Int64)) hE dX12_put_69 (by decide +kernel) ?_
      refine jr_land (z := lN (byt x j)) hE dX12_put_72 (by rw [ez1]; exact sar_b x (by omega)) ?_
      refine jr_l2i (z := nI (byt x j)) hE dX12_put_73 (lN_i _) ?_
      refine jr_iast hE dX12_put_74 (H.I (k := 9) (N := 1600) (by decide)) (vp_in_nI (by omega) (by decide)) (fun F2 g3 u4 => ?_)
      have H5 := H.setI (k := 9) (N := 1600) (by decide) g3 u4
      have O6 := O.st (k := 9) (by decide) (by decide) u4
      rw [uz_cm (uz w 9 f) (k := 8) (j := 9) h _ (by decide), uz_uz] at H5
      have H5 : MW G L F2 o a v n g (uz (uz w 9 (upd f (nI (100 * k + ((s.1 k).length + (m - (j + 1))))).toNatClampNeg (nI (byt x j)))) 8 h) := H5
      refine jr_aload_n hE dX12_put_75 1 rfl ?_
      refine jr_get hE dX12_put_76 f96 H5.ob rfl ?_
      refine jr_iload_n hE dX12_put_79 2 rfl ?_
      refine jr_dup2 hE dX12_put_80 rfl rfl ?_
      refine jr_iald (v := nI ((s.1 k).length + (m - (j + 1)))) hE dX12_put_81 (H5.I (k := 8) (N := 16) (by decide)) (vp_in_nI (by omega) (by decide)) (by
  rw [uz_s, hh]
  show (if (nI k).toNatClampNeg = k then _ else _) = _
  rw [nI_clamp (by omega)]
  exact if_pos rfl) ?_
      refine jr_iconst (v := (1 : Int32)) hE dX12_put_82 (by decide) ?_
      refine jr_iadd (z := nI ((s.1 k).length + (m - (j + 1)) + 1)) hE dX12_put_83 (nI_1 _) ?_
      refine jr_iast hE dX12_put_84 (H5.I (k := 8) (N := 16) (by decide)) (vp_in_nI (by omega) (by decide)) (fun F7 g8 u9 => ?_)
      have H10 := H5.setI (k := 8) (N := 16) (by decide) g8 u9
      have O11 := O6.st (k := 8) (by decide) (by decide) u9
      rw [uz_uz, uz_s] at H10
      refine jr_iinc (v := nI j - 1) (lv' := [(5, .int (nI j - 1)), (0, .ref o), (1, .int (nI k)), (2, .int (nI m)), (3, .long x)]) hE dX12_put_85 0 rfl (im1 _) (by decide) rfl ?_
      refine jr_goto (tgt := 42) hE dX12_put_88 (by decide) ?_
      refine jr_lv (lv' := [(5, .int (nI j - 1)), (0, .ref o), (1, .int (nI k)), (2, .int (nI m)), (3, .long x)]) [0, 1, 2, 3, 4] rfl ?_
      exact ih (by omega) hle e F7 _ _ H10 (by
        have q := wrt_snoc (s := 100 * k + (s.1 k).length) (i := (m - (j + 1))) (b := byt x j) (x := nI (byt x j)) hf (by rw [List.length_take, nb_len]; omega) rfl (by omega)
        rw [show 100 * k + ((s.1 k).length + (m - (j + 1))) = 100 * k + (s.1 k).length + (m - (j + 1)) by omega, q, show byt x j = byt x (m - 1 - (m - (j + 1))) by congr 1; omega, nb_take (by omega), show (m - (j + 1)) + 1 = m - j by omega]) (by
        rw [nI_clamp (by omega), hh, show (s.1 k).length + (m - (j + 1)) + 1 = (s.1 k).length + (m - j) by omega]
        funext t
        show (if t = k then _ else if t = k then _ else _) = (if t = k then _ else _)
        split <;> rfl) O11
  refine jr_iload_n hE dX12_put_0 1 rfl ?_
  refine jr_kSi (n := 1) (As := [.int r]) (rest := []) hE dX12_put_1 (fun l => c_m_isRow l G r) gX12_put_X12_isRow rfl (by decide +kernel) ⟨rfl, rfl, by decide, by decide⟩ (by decide) rfl rfl (Nat.le_of_ble_eq_true rfl) (trivial) (fun r3 F1 q2 => ?_)
  obtain ⟨eq2, rq2⟩ := q2
  subst eq2 rq2
  refine jr_if_eq (tgt := 19) hE dX12_put_4 (by decide) (fun c4 => ?_) (fun c4 => ?_)
  · refine jr_iconst (v := (-1 : Int32)) hE dX12_put_19 (by decide) ?_
    have e : stPut s r c x = (-1, s) := by
      unfold stPut
      rw [if_neg (fun q => absurd (b2i_t q.1) (by rw [c4]; decide))]
    exact hR F _ _ _ dX12_put_20 rfl ⟨v, n, g, w, by rw [e]; exact hI, by rw [e], mO.rf o a F⟩
  · have hrk : rowP r := b2i_1 c4
    obtain ⟨k, hk, rfl⟩ := rowP_nI hrk
    obtain ⟨z1k, z2k, z3k, z4k⟩ := hRW k hk
    have hrnk := nI_rn hk
    refine jr_iload_n hE dX12_put_7 2 rfl ?_
    refine jr_i2l hE dX12_put_8 rfl ?_
    refine jr_lconst (v := (1 : Int64)) hE dX12_put_9 (by decide) ?_
    refine jr_ldc2 (v := (8 : Int64)) hE dX12_put_10 (by decide +kernel) ?_
    refine jr_kSi (n := 3) (As := [.long c.toInt64, .long (1 : Int64), .long (8 : Int64)]) (rest := []) hE dX12_put_13 (fun l => c_m_in l G c.toInt64 1 8) gX12_put_X12_in rfl (by decide +kernel) ⟨rfl, rfl, by decide, by decide⟩ (by decide) rfl rfl (Nat.le_of_ble_eq_true rfl) (trivial) (fun r6 F4 q5 => ?_)
    obtain ⟨eq5, rq5⟩ := q5
    subst eq5 rq5
    rw [show b2i ((1 : Int64).toInt ≤ c.toInt64.toInt ∧ c.toInt64.toInt ≤ (8 : Int64).toInt) = b2i (1 ≤ c.toInt ∧ c.toInt ≤ 8) by rw [i2l_T]; rfl]
    refine jr_if_ne (tgt := 21) hE dX12_put_16 (by decide) (fun c16 => ?_) (fun c16 => ?_)
    · have hc := b2i_1 c16
      obtain ⟨m, hm, hcm⟩ := sm_nI (x := c) (m := 8) (by omega) (by omega) (by decide)
      subst hcm
      rw [nI_toInt (by omega)] at hc
      have hrm := nI_rn (k := m) (by omega)
      have htm : (nI m).toInt = m := nI_toInt (by omega)
      refine jr_aload_n hE dX12_put_21 0 rfl ?_
      refine jr_get hE dX12_put_22 f96 M0.ob rfl ?_
      refine jr_iload_n hE dX12_put_25 1 rfl ?_
      refine jr_iald (v := nI (s.1 k).length) hE dX12_put_26 (M0.I (k := 8) (N := 16) (by decide)) (vp_in_nI (by omega) (by decide)) (by rw [nI_clamp (by omega)]; exact z1k) ?_
      refine jr_iload_n hE dX12_put_27 2 rfl ?_
      refine jr_iadd (z := nI ((s.1 k).length + m)) hE dX12_put_28 (nI_add _ _) ?_
      refine jr_bipush (v := (100 : Int32)) hE dX12_put_29 (by decide) ?_
      refine jr_icmp_le (tgt := 37) hE dX12_put_31 (by decide) (fun c31 => ?_) (fun c31 => ?_)
      · refine jr_iload_n hE dX12_put_37 2 rfl ?_
        refine jr_iconst (v := (1 : Int32)) hE dX12_put_38 (by decide) ?_
        refine jr_isub (z := nI m - 1) hE dX12_put_39 rfl ?_
        refine jr_istore (lv' := [(5, .int (nI m - 1)), (0, .ref o), (1, .int (nI k)), (2, .int (nI m)), (3, .long x)]) hE dX12_put_40 (by decide) rfl ?_
        refine jr_lv (lv' := [(5, .int (nI m - 1)), (0, .ref o), (1, .int (nI k)), (2, .int (nI m)), (3, .long x)]) [0, 1, 2, 3, 4] rfl ?_
        have hle : (s.1 k).length + m ≤ 100 := Classical.byContradiction (fun q => nI_ge (a := 100) (by omega) (by omega) c31)
        have e : stPut s (nI k) (nI m) x = (nI ((s.1 k).length + m), setR s k (s.1 k ++ nb x m)) := by
          unfold stPut
          rw [if_pos ⟨nI_rowP hk, by omega, by omega⟩, hrnk, hrm, if_pos hle]
        exact main k m hk (by omega) hm z1k z2k z3k z4k m (Nat.le_refl _) hle e F (w 9) (w 8) (by rw [uz_id, uz_id]; exact M0) (by rw [Nat.sub_self, List.take_zero, wrt_nil]) (by rw [Nat.sub_self, Nat.add_zero, ← z1k]; funext t; show w 8 t = if t = k then w 8 k else w 8 t; split <;> simp_all) (mO.rf o a F)
      · refine jr_bipush (v := (-3 : Int32)) hE dX12_put_34 (by decide) ?_
        have hle : ¬ (s.1 k).length + m ≤ 100 := fun q => c31 (nI_le (b := 100) q (by decide))
        have e : stPut s (nI k) (nI m) x = (-3, s) := by
          unfold stPut
          rw [if_pos ⟨nI_rowP hk, by omega, by omega⟩, hrnk, hrm, if_neg hle]
        exact hR F _ _ _ dX12_put_36 rfl ⟨v, n, g, w, by rw [e]; exact hI, by rw [e], mO.rf o a F⟩
    · refine jr_iconst (v := (-1 : Int32)) hE dX12_put_19 (by decide) ?_
      have e : stPut s (nI k) c x = (-1, s) := by
        unfold stPut
        rw [if_neg (fun q => absurd (b2i_t q.2) (by rw [c16]; decide))]
      exact hR F _ _ _ dX12_put_20 rfl ⟨v, n, g, w, by rw [e]; exact hI, by rw [e], mO.rf o a F⟩

