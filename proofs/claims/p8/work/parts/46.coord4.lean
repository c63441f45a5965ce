theorem dg_inj {x y : Nat} (hx : x < 2 ^ 256) (hy : y < 2 ^ 256) (h : ∀ i, i < 9 → cd x i = cd y i) : x = y := by
  have e : ∀ i, i < 9 → dg x i = dg y i := fun i hi => (pk_lEQ (lt63 x i) (lt63 y i)).mp (h i hi)
  have h1 := (dg_sum hx).1
  have h2 := (dg_sum hy).1
  rw [h1, h2, e 0 (by decide), e 1 (by decide), e 2 (by decide), e 3 (by decide), e 4 (by decide), e 5 (by decide), e 6 (by decide), e 7 (by decide), e 8 (by decide)]
theorem cd_zero (i : Nat) : cd 0 i = 0 := by
  unfold cd dg
  rw [Nat.zero_div, Nat.zero_mod]; rfl
theorem nine {p : Nat → Prop} (h0 : p 0) (h1 : p 1) (h2 : p 2) (h3 : p 3) (h4 : p 4) (h5 : p 5) (h6 : p 6) (h7 : p 7) (h8 : p 8) : ∀ i, i < 9 → p i := by
  intro i hi
  match i, hi with
  | 0, _ => exact h0
  | 1, _ => exact h1
  | 2, _ => exact h2
  | 3, _ => exact h3
  | 4, _ => exact h4
  | 5, _ => exact h5
  | 6, _ => exact h6
  | 7, _ => exact h7
  | 8, _ => exact h8
  | n + 9, h => exact absurd h (by omega)

set_option maxHeartbeats 4000000 in
set_option maxRecDepth 100000 in
theorem c_X1_isZero (l : Launch) (G : Nat → ClassId) (o x : Nat) : jKi l yX1_isZero wsX1_isZero ({ frames := 2, cells := 0, slots := 0, locals := 50 }) G [.ref o] (fun L F => jCo L F o x) (fun L F r F1 => jCd L F1 o x ∧ (∀ z, z ∉ [o] → F1 z = F z) ∧ r = b2i (x = 0)) := by
  refine jm_ki (cc := cX1_isZero) (maxL := 1) (rt := .boolean) (by decide) rfl (Nat.le_of_ble_eq_true rfl) ?_
  intro E L F hE hR hpre
  have hE : jOk E G _ cX1_isZero 1 RX1 wsX1_isZero := hE
  have hC := hpre
  obtain ⟨lc, hc0⟩ := hC.cell
  have f7 : jFl RX1 wsX1_isZero 7 1 0 := ⟨rfl, by decide, by decide +kernel, by decide +kernel⟩
  have f13 : jFl RX1 wsX1_isZero 13 1 1 := ⟨rfl, by decide, by decide +kernel, by decide +kernel⟩
  have f16 : jFl RX1 wsX1_isZero 16 1 2 := ⟨rfl, by decide, by decide +kernel, by decide +kernel⟩
  have f19 : jFl RX1 wsX1_isZero 19 1 3 := ⟨rfl, by decide, by decide +kernel, by decide +kernel⟩
  have f22 : jFl RX1 wsX1_isZero 22 1 4 := ⟨rfl, by decide, by decide +kernel, by decide +kernel⟩
  have f25 : jFl RX1 wsX1_isZero 25 1 5 := ⟨rfl, by decide, by decide +kernel, by decide +kernel⟩
  have f28 : jFl RX1 wsX1_isZero 28 1 6 := ⟨rfl, by decide, by decide +kernel, by decide +kernel⟩
  have f31 : jFl RX1 wsX1_isZero 31 1 7 := ⟨rfl, by decide, by decide +kernel, by decide +kernel⟩
  have f34 : jFl RX1 wsX1_isZero 34 1 8 := ⟨rfl, by decide, by decide +kernel, by decide +kernel⟩
  refine jr_aload_n hE dX1_isZero_0 0 rfl ?_
  refine jr_kVv (ci := 1) (n := 0) (As := []) (rest := []) hE dX1_isZero_1 (fun l => c_X1_normalize l G o x) gX1_isZero_X1_normalize rfl hc0 rfl (by decide +kernel) ⟨rfl, rfl, by decide, by decide⟩ (by decide) rfl rfl (Nat.le_of_ble_eq_true rfl) (hC) (fun F1 q2 => ?_)
  obtain ⟨hd, fr1⟩ := q2
  refine jr_aload_n hE dX1_isZero_4 0 rfl ?_
  refine jr_get hE dX1_isZero_5 f7 hd.1 rfl ?_
  refine jr_aload_n hE dX1_isZero_8 0 rfl ?_
  refine jr_get hE dX1_isZero_9 f13 hd.1 rfl ?_
  refine jr_lor hE dX1_isZero_12 rfl ?_
  refine jr_aload_n hE dX1_isZero_13 0 rfl ?_
  refine jr_get hE dX1_isZero_14 f16 hd.1 rfl ?_
  refine jr_lor hE dX1_isZero_17 rfl ?_
  refine jr_aload_n hE dX1_isZero_18 0 rfl ?_
  refine jr_get hE dX1_isZero_19 f19 hd.1 rfl ?_
  refine jr_lor hE dX1_isZero_22 rfl ?_
  refine jr_aload_n hE dX1_isZero_23 0 rfl ?_
  refine jr_get hE dX1_isZero_24 f22 hd.1 rfl ?_
  refine jr_lor hE dX1_isZero_27 rfl ?_
  refine jr_aload_n hE dX1_isZero_28 0 rfl ?_
  refine jr_get hE dX1_isZero_29 f25 hd.1 rfl ?_
  refine jr_lor hE dX1_isZero_32 rfl ?_
  refine jr_aload_n hE dX1_isZero_33 0 rfl ?_
  refine jr_get hE dX1_isZero_34 f28 hd.1 rfl ?_
  refine jr_lor hE dX1_isZero_37 rfl ?_
  refine jr_aload_n hE dX1_isZero_38 0 rfl ?_
  refine jr_get hE dX1_isZero_39 f31 hd.1 rfl ?_
  refine jr_lor hE dX1_isZero_42 rfl ?_
  refine jr_aload_n hE dX1_isZero_43 0 rfl ?_
  refine jr_get hE dX1_isZero_44 f34 hd.1 rfl ?_
  refine jr_lor hE dX1_isZero_47 rfl ?_
  refine jr_lconst (v := (0 : Int64)) hE dX1_isZero_48 (by decide) ?_
  refine jr_lcmp hE dX1_isZero_49 ?_
  refine jr_if_ne (tgt := 57) hE dX1_isZero_50 (by decide) (fun c50 => ?_) (fun c50 => ?_)
  · refine jr_iconst (v := (0 : Int32)) hE dX1_isZero_57 (by decide) ?_
    exact hR _ 0 _ _ dX1_isZero_58 rfl ⟨hd, fr1, (b2i_f (fun e => c50 (by subst e; simp only [cd_zero]; decide))).symm⟩
  · refine jr_iconst (v := (1 : Int32)) hE dX1_isZero_53 (by decide) ?_
    refine jr_goto (tgt := 58) hE dX1_isZero_54 (by decide) ?_
    exact hR _ 1 _ _ dX1_isZero_58 rfl ⟨hd, fr1, (b2i_t (by
      have h := (lg_cmp_eq _ _).mp c50
      simp only [Int64.or_eq_zero_iff] at h
      obtain ⟨⟨⟨⟨⟨⟨⟨⟨z0, z1⟩, z2⟩, z3⟩, z4⟩, z5⟩, z6⟩, z7⟩, z8⟩ := h
      exact dg_inj hd.2 (by decide) (nine (z0.trans (cd_zero 0).symm) (z1.trans (cd_zero 1).symm) (z2.trans (cd_zero 2).symm) (z3.trans (cd_zero 3).symm) (z4.trans (cd_zero 4).symm) (z5.trans (cd_zero 5).symm) (z6.trans (cd_zero 6).symm) (z7.trans (cd_zero 7).symm) (z8.trans (cd_zero 8).symm)))).symm⟩

set_option maxHeartbeats 4000000 in
set_option maxRecDepth 100000 in
theorem c_X1_isOdd (l : Launch) (G : Nat → ClassId) (o x : Nat) : jKi l yX1_isOdd wsX1_isOdd ({ frames := 2, cells := 0, slots := 0, locals := 50 }) G [.ref o] (fun L F => jCo L F o x) (fun L F r F1 => jCd L F1 o x ∧ (∀ z, z ∉ [o] → F1 z = F z) ∧ r = b2i (x % 2 = 1)) := by
  refine jm_ki (cc := cX1_isOdd) (maxL := 1) (rt := .boolean) (by decide) rfl (Nat.le_of_ble_eq_true rfl) ?_
  intro E L F hE hR hpre
  have hE : jOk E G _ cX1_isOdd 1 RX1 wsX1_isOdd := hE
  have hC := hpre
  obtain ⟨lc, hc0⟩ := hC.cell
  have f7 : jFl RX1 wsX1_isOdd 7 1 0 := ⟨rfl, by decide, by decide +kernel, by decide +kernel⟩
  refine jr_aload_n hE dX1_isOdd_0 0 rfl ?_
  refine jr_kVv (ci := 1) (n := 0) (As := []) (rest := []) hE dX1_isOdd_1 (fun l => c_X1_normalize l G o x) gX1_isOdd_X1_normalize rfl hc0 rfl (by decide +kernel) ⟨rfl, rfl, by decide, by decide⟩ (by decide) rfl rfl (Nat.le_of_ble_eq_true rfl) (hC) (fun F1 q2 => ?_)
  obtain ⟨hd, fr1⟩ := q2
  refine jr_aload_n hE dX1_isOdd_4 0 rfl ?_
  refine jr_get hE dX1_isOdd_5 f7 hd.1 rfl ?_
  refine jr_lconst (v := (1 : Int64)) hE dX1_isOdd_8 (by decide) ?_
  refine jr_land (z := lN (dg x 0 % 2)) hE dX1_isOdd_9 (wb_a1 (lt64 x 0)) ?_
  refine jr_lconst (v := (1 : Int64)) hE dX1_isOdd_10 (by decide) ?_
  refine jr_lcmp hE dX1_isOdd_11 ?_
  have hodd : dg x 0 % 2 = x % 2 := by
    have h0 := dg_step x 0
    rw [Nat.pow_zero, Nat.div_one] at h0
    omega
  refine jr_if_ne (tgt := 19) hE dX1_isOdd_12 (by decide) (fun c12 => ?_) (fun c12 => ?_)
  · refine jr_iconst (v := (0 : Int32)) hE dX1_isOdd_19 (by decide) ?_
    exact hR _ 0 _ _ dX1_isOdd_20 rfl ⟨hd, fr1, (b2i_f (fun e => c12 ((cmp0 (b := 1) (by omega) (by decide)).mpr (by omega)))).symm⟩
  · refine jr_iconst (v := (1 : Int32)) hE dX1_isOdd_15 (by decide) ?_
    refine jr_goto (tgt := 20) hE dX1_isOdd_16 (by decide) ?_
    exact hR _ 1 _ _ dX1_isOdd_20 rfl ⟨hd, fr1, (b2i_t (hodd.symm.trans ((cmp0 (b := 1) (by omega) (by decide)).mp c12))).symm⟩

set_option maxHeartbeats 4000000 in
set_option maxRecDepth 100000 in
theorem c_X1_isLike (l : Launch) (G : Nat → ClassId) (o a x y : Nat) : jKi l yX1_isLike wsX1_isLike ({ frames := 2, cells := 0, slots := 0, locals := 50 }) G [.ref o, .ref a] (fun L F => jCo L F o x ∧ jCo L F a y ∧ [o, a].Nodup) (fun L F r F1 => jCd L F1 o x ∧ jCd L F1 a y ∧ (∀ z, z ∉ [o, a] → F1 z = F z) ∧ r = b2i (x = y)) := by
  refine jm_ki (cc := cX1_isLike) (maxL := 4) (rt := .boolean) (by decide) rfl (Nat.le_of_ble_eq_true rfl) ?_
  intro E L F hE hR hpre
  have hE : jOk E G _ cX1_isLike 4 RX1 wsX1_isLike := hE
  obtain ⟨hC, hA, hnd⟩ := hpre
  obtain ⟨lc, hc0⟩ := hC.cell
  have f7 : jFl RX1 wsX1_isLike 7 1 0 := ⟨rfl, by decide, by decide +kernel, by decide +kernel⟩
  have f13 : jFl RX1 wsX1_isLike 13 1 1 := ⟨rfl, by decide, by decide +kernel, by decide +kernel⟩
  have f16 : jFl RX1 wsX1_isLike 16 1 2 := ⟨rfl, by decide, by decide +kernel, by decide +kernel⟩
  have f19 : jFl RX1 wsX1_isLike 19 1 3 := ⟨rfl, by decide, by decide +kernel, by decide +kernel⟩
  have f22 : jFl RX1 wsX1_isLike 22 1 4 := ⟨rfl, by decide, by decide +kernel, by decide +kernel⟩
  have f25 : jFl RX1 wsX1_isLike 25 1 5 := ⟨rfl, by decide, by decide +kernel, by decide +kernel⟩
  have f28 : jFl RX1 wsX1_isLike 28 1 6 := ⟨rfl, by decide, by decide +kernel, by decide +kernel⟩
  have f31 : jFl RX1 wsX1_isLike 31 1 7 := ⟨rfl, by decide, by decide +kernel, by decide +kernel⟩
  have f34 : jFl RX1 wsX1_isLike 34 1 8 := ⟨rfl, by decide, by decide +kernel, by decide +kernel⟩
  refine jr_aload_n hE dX1_isLike_0 0 rfl ?_
  refine jr_kVv (ci := 1) (n := 0) (As := []) (rest := []) hE dX1_isLike_1 (fun l => c_X1_normalize l G o x) gX1_isLike_X1_normalize rfl hc0 rfl (by decide +kernel) ⟨rfl, rfl, by decide, by decide⟩ (by decide) rfl rfl (Nat.le_of_ble_eq_true rfl) (hC) (fun F1 q2 => ?_)
  obtain ⟨hd, fr1⟩ := q2
  have hA1 := hA.fr (fr1 a (jn hnd 1 [0] rfl rfl (by decide)))
  obtain ⟨la, ha0⟩ := hA1.cell
  refine jr_aload_n hE dX1_isLike_4 1 rfl ?_
  refine jr_kVv (ci := 1) (n := 0) (As := []) (rest := []) hE dX1_isLike_5 (fun l => c_X1_normalize l G a y) gX1_isLike_X1_normalize rfl ha0 rfl (by decide +kernel) ⟨rfl, rfl, by decide, by decide⟩ (by decide) rfl rfl (Nat.le_of_ble_eq_true rfl) (hA1) (fun F3 q4 => ?_)
  obtain ⟨hd2, fr2⟩ := q4
  have hd1 := hd.fr (fr2 o (jn hnd 0 [1] rfl rfl (by decide)))
  refine jr_aload_n hE dX1_isLike_8 0 rfl ?_
  refine jr_get hE dX1_isLike_9 f7 hd1.1 rfl ?_
  refine jr_aload_n hE dX1_isLike_12 1 rfl ?_
  refine jr_get hE dX1_isLike_13 f7 hd2.1 rfl ?_
  refine jr_lxor hE dX1_isLike_16 rfl ?_
  refine jr_aload_n hE dX1_isLike_17 0 rfl ?_
  refine jr_get hE dX1_isLike_18 f13 hd1.1 rfl ?_
  refine jr_aload_n hE dX1_isLike_21 1 rfl ?_
  refine jr_get hE dX1_isLike_22 f13 hd2.1 rfl ?_
  refine jr_lxor hE dX1_isLike_25 rfl ?_
  refine jr_lor hE dX1_isLike_26 rfl ?_
  refine jr_aload_n hE dX1_isLike_27 0 rfl ?_
  refine jr_get hE dX1_isLike_28 f16 hd1.1 rfl ?_
  refine jr_aload_n hE dX1_isLike_31 1 rfl ?_
  refine jr_get hE dX1_isLike_32 f16 hd2.1 rfl ?_
  refine jr_lxor hE dX1_isLike_35 rfl ?_
  refine jr_lor hE dX1_isLike_36 rfl ?_
  refine jr_aload_n hE dX1_isLike_37 0 rfl ?_
  refine jr_get hE dX1_isLike_38 f19 hd1.1 rfl ?_
  refine jr_aload_n hE dX1_isLike_41 1 rfl ?_
  refine jr_get hE dX1_isLike_42 f19 hd2.1 rfl ?_
  refine jr_lxor hE dX1_isLike_45 rfl ?_
  refine jr_lor hE dX1_isLike_46 rfl ?_
  refine jr_aload_n hE dX1_isLike_47 0 rfl ?_
  refine jr_get hE dX1_isLike_48 f22 hd1.1 rfl ?_
  refine jr_aload_n hE dX1_isLike_51 1 rfl ?_
  refine jr_get hE dX1_isLike_52 f22 hd2.1 rfl ?_
  refine jr_lxor hE dX1_isLike_55 rfl ?_
  refine jr_lor hE dX1_isLike_56 rfl ?_
  refine jr_lstore_n (lv' := [(2, .long ((((((cd x 0) ^^^ (cd y 0)) ||| ((cd x 1) ^^^ (cd y 1))) ||| ((cd x 2) ^^^ (cd y 2))) ||| ((cd x 3) ^^^ (cd y 3))) ||| ((cd x 4) ^^^ (cd y 4)))), (0, .ref o), (1, .ref a)]) hE dX1_isLike_57 (by decide) rfl ?_
  refine jr_lload_n hE dX1_isLike_58 0 rfl ?_
  refine jr_aload_n hE dX1_isLike_59 1 rfl ?_
  refine jr_get hE dX1_isLike_60 f25 hd1.1 rfl ?_
  refine jr_aload_n hE dX1_isLike_63 2 rfl ?_
  refine jr_get hE dX1_isLike_64 f25 hd2.1 rfl ?_
  refine jr_lxor hE dX1_isLike_67 rfl ?_
  refine jr_lor hE dX1_isLike_68 rfl ?_
  refine jr_aload_n hE dX1_isLike_69 1 rfl ?_
  refine jr_get hE dX1_isLike_70 f28 hd1.1 rfl ?_
  refine jr_aload_n hE dX1_isLike_73 2 rfl ?_
  refine jr_get hE dX1_isLike_74 f28 hd2.1 rfl ?_
  refine jr_lxor hE dX1_isLike_77 rfl ?_
  refine jr_lor hE dX1_isLike_78 rfl ?_
  refine jr_aload_n hE dX1_isLike_79 1 rfl ?_
  refine jr_get hE dX1_isLike_80 f31 hd1.1 rfl ?_
  refine jr_aload_n hE dX1_isLike_83 2 rfl ?_
  refine jr_get hE dX1_isLike_84 f31 hd2.1 rfl ?_
  refine jr_lxor hE dX1_isLike_87 rfl ?_
  refine jr_lor hE dX1_isLike_88 rfl ?_
  refine jr_aload_n hE dX1_isLike_89 1 rfl ?_
  refine jr_get hE dX1_isLike_90 f34 hd1.1 rfl ?_
  refine jr_aload_n hE dX1_isLike_93 2 rfl ?_
  refine jr_get hE dX1_isLike_94 f34 hd2.1 rfl ?_
  refine jr_lxor hE dX1_isLike_97 rfl ?_
  refine jr_lor hE dX1_isLike_98 rfl ?_
  refine jr_lconst (v := (0 : Int64)) hE dX1_isLike_99 (by decide) ?_
  refine jr_lcmp hE dX1_isLike_100 ?_
  refine jr_if_ne (tgt := 108) hE dX1_isLike_101 (by decide) (fun c101 => ?_) (fun c101 => ?_)
  · refine jr_iconst (v := (0 : Int32)) hE dX1_isLike_108 (by decide) ?_
    exact hR _ 0 _ _ dX1_isLike_109 rfl ⟨hd1, hd2, fun z hz => (fr2 z (jnsub (V := [a]) hz [1] rfl)).trans (fr1 z (jnsub (V := [o]) hz [0] rfl)), (b2i_f (fun e => c101 (by subst e; simp [lg_cmp]))).symm⟩
  · refine jr_iconst (v := (1 : Int32)) hE dX1_isLike_104 (by decide) ?_
    refine jr_goto (tgt := 109) hE dX1_isLike_105 (by decide) ?_
    exact hR _ 1 _ _ dX1_isLike_109 rfl ⟨hd1, hd2, fun z hz => (fr2 z (jnsub (V := [a]) hz [1] rfl)).trans (fr1 z (jnsub (V := [o]) hz [0] rfl)), (b2i_t (by
      have h := (lg_cmp_eq _ _).mp c101
      simp only [Int64.or_eq_zero_iff, Int64.xor_eq_zero_iff] at h
      obtain ⟨⟨⟨⟨⟨⟨⟨⟨z0, z1⟩, z2⟩, z3⟩, z4⟩, z5⟩, z6⟩, z7⟩, z8⟩ := h
      exact dg_inj hd1.2 hd2.2 (nine z0 z1 z2 z3 z4 z5 z6 z7 z8))).symm⟩

