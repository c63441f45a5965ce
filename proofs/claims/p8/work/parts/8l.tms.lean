/-! THE REFERENCE'S times and add -/
theorem l8_32 {k : Nat} (h : l8 k) : k ≠ 32 := fun e => by
  have := h.2.2
  rw [e] at this
  exact absurd this (by decide)
theorem row_add {fd fd2 : Nat → Nat} {i c y fac : Nat} (hlo : ∀ k, k < i → fd2 k = fd k) (h : dv (shd fd2 i) 8 + c * 2 ^ (32 * 8) = dv (shd fd i) 8 + y * fac) (hz : ∀ k, i + 8 ≤ k → fd k = 0) (hz2 : ∀ k, i + 9 ≤ k → fd2 k = 0) (hi : i ≤ 7) : dv (du fd2 (i + 8) c) 18 = dv fd 18 + y * fac * 2 ^ (32 * i) := by
  have e0 : shd (du fd2 (i + 8) c) i = du (shd fd2 i) 8 c := by
    funext t
    unfold shd du
    by_cases q : t = 8
    · rw [if_pos (by omega), if_pos q]
    · rw [if_neg (by omega), if_neg q]
  have e1 : dv (du fd2 (i + 8) c) 18 = dv (du fd2 (i + 8) c) (i + 9) := by
    have := dv_tail (d := du fd2 (i + 8) c) (n := i + 9) (9 - i) (fun k h1 _ => by rw [du_n (by omega)]; exact hz2 k h1)
    rwa [show i + 9 + (9 - i) = 18 by omega] at this
  have e2 : dv fd 18 = dv fd (i + 8) := by
    have := dv_tail (d := fd) (n := i + 8) (10 - i) (fun k h1 _ => hz k h1)
    rwa [show i + 8 + (10 - i) = 18 by omega] at this
  rw [e1, e2, dv_sh _ i 9, dv_sh _ i 8, e0, dv_congr i (fun k hk => (du_n (by omega)).trans (hlo k hk))]
  rw [show dv (du (shd fd2 i) 8 c) 9 = dv (du (shd fd2 i) 8 c) 8 + du (shd fd2 i) 8 c 8 * 2 ^ (32 * 8) from rfl, du_s, dv_du (Nat.le_refl _), h, Nat.mul_add, Nat.add_assoc, Nat.mul_comm (2 ^ (32 * i)) (y * fac)]

set_option maxHeartbeats 4000000 in
set_option maxRecDepth 100000 in
theorem c_m_times (l : Launch) (G : Nat → ClassId) (o : Nat) (a : Nat → Nat) (v : Nat → Int32) (n : Nat → Option Nat) (g : Nat → Nat → Int64) (w : Nat → Nat → Int32) (kt ka kb x y : Nat) (q : Bool) : jKv l yX12_times wsX12_times ({ frames := 2, cells := 0, slots := 0, locals := 57 }) G [.ref o, .ref (a kt), .ref (a ka), .ref (a kb), .int (bi q)] (fun L F => MW G L F o a v n g w ∧ mK n g ∧ lv8 kt ∧ l8 ka ∧ l8 kb ∧ n ka = some x ∧ n kb = some y) (fun L F F1 => MW G L F1 o a v (uz n kt (some (x * y % pq q))) g w ∧ mO o a F F1) := by
  refine jm_kv (cc := cX12_times) (maxL := 11) (by decide) rfl (Nat.le_of_ble_eq_true rfl) ?_
  intro E L F hE hR hpre
  have hE : jOk E G _ cX12_times 11 RX12 wsX12_times := hE

  have f152 : jFl RX12 wsX12_times 152 12 32 := ⟨rfl, by decide, by decide +kernel, by decide +kernel⟩
  obtain ⟨⟨s, H0, hn, hg⟩, hK, hkt, hka, hkb, hx, hy⟩ := hpre
  obtain ⟨d, h1, h2, h3⟩ := hn ka x hx
  obtain ⟨e, k1, k2, k3⟩ := hn kb y hy
  have loopB : ∀ (r0 i : Nat) (F2 : Nat → va_E) (f : Nat → Int64) (fd : Nat → Nat), i + r0 = 8 → RW G L F2 o a v (uz s 32 f) w → (∀ j, j < 18 → f j = lN (fd j)) → (∀ j, j < 18 → fd j < 2 ^ 32) → (∀ k, i + 8 ≤ k → fd k = 0) → dv fd 18 = dv d i * y → mO o a F F2 → J E L F2 0 0 27 [(5, .int (nI i)), (0, .ref o), (1, .ref (a kt)), (2, .ref (a ka)), (3, .ref (a kb)), (4, .int (bi q))] [] := by
    intro r0
    induction r0 with
    | zero =>
      intro i F2 f fd hi H hf hfl hzz hv O
      refine jr_iload hE dX12_times_27 0 rfl ?_
      refine jr_bipush (v := (8 : Int32)) hE dX12_times_29 (by decide) ?_
      refine jr_icmp_ge (tgt := 119) hE dX12_times_31 (by decide) (fun c_31 => ?_) (fun c_31 => absurd (nI_le (a := 8) (by omega) (by omega)) c_31)
      refine jr_aload_n hE dX12_times_119 1 rfl ?_
      refine jr_aload_n hE dX12_times_120 2 rfl ?_
      refine jr_iload hE dX12_times_121 5 rfl ?_
      refine jr_kVv (ci := 12) (n := 2) (As := [.ref (a kt), .int (bi q)]) (rest := []) hE dX12_times_123 (fun l => c_m_reduce l G o a v n g w kt q fd) gX12_times_X12_reduce rfl H.ob rfl (by decide +kernel) ⟨rfl, rfl, by decide, by decide⟩ (by decide) rfl rfl (Nat.le_of_ble_eq_true rfl) (⟨⟨_, ⟨H, (mw_raw hn hg (Or.inl rfl) hK.2.2.1).1, (mw_raw hn hg (Or.inl rfl) hK.2.2.1).2⟩, fun j hj => hf j hj, fun j hj => hfl j hj⟩, hK, hkt⟩) (fun F1 q2 => ?_)
      obtain ⟨M4, O4⟩ := q2
      rw [hv, show i = 8 by omega, h3] at M4
      exact hR F1 _ _ dX12_times_126 ⟨M4, O.tr O4⟩
    | succ r0 ih =>
      intro i F2 f fd hi H hf hfl hzz hv O
      have inner : ∀ (r1 j : Nat) (F3 : Nat → va_E) (f2 : Nat → Int64) (fd2 : Nat → Nat) (c : Nat), j + r1 = 8 → RW G L F3 o a v (uz s 32 f2) w → (∀ k, k < 18 → f2 k = lN (fd2 k)) → (∀ k, k < 18 → fd2 k < 2 ^ 32) → (∀ k, k < i → fd2 k = fd k) → (∀ k, i + j ≤ k → fd2 k = fd k) → c < 2 ^ 32 → dv (shd fd2 i) j + c * 2 ^ (32 * j) = dv (shd fd i) j + dv e j * d i → mO o a F F3 → J E L F3 0 0 40 [(8, .int (nI j)), (6, .long (lN c)), (5, .int (nI i)), (0, .ref o), (1, .ref (a kt)), (2, .ref (a ka)), (3, .ref (a kb)), (4, .int (bi q))] [] := by
        intro r1
        induction r1 with
        | zero =>
          intro j F3 f2 fd2 c hj H2 hf2 hfl2 hlo hhi hc hinv O2
          refine jr_iload hE dX12_times_40 0 rfl ?_
          refine jr_bipush (v := (8 : Int32)) hE dX12_times_42 (by decide) ?_
          refine jr_icmp_ge (tgt := 101) hE dX12_times_44 (by decide) (fun c_44 => ?_) (fun c_44 => absurd (nI_le (a := 8) (by omega) (by omega)) c_44)
          refine jr_aload_n hE dX12_times_101 3 rfl ?_
          refine jr_get hE dX12_times_102 f152 H2.ob rfl ?_
          refine jr_iload hE dX12_times_105 2 rfl ?_
          refine jr_bipush (v := (8 : Int32)) hE dX12_times_107 (by decide) ?_
          refine jr_iadd (z := nI (i + 8)) hE dX12_times_109 (nI_add _ _) ?_
          refine jr_lload hE dX12_times_110 1 rfl ?_
          refine jr_last hE dX12_times_112 (H2.L (k := 32) (n := 18) (by decide)) (vp_in_nI (n := i + 8) (by omega) (by omega)) (fun F1 g2 u3 => ?_)
          have H4 := H2.setL (k := 32) (n := 18) (by decide) g2 u3
          have O5 := O2.st (k := 32) (by decide) (by decide) u3
          rw [uz_uz, uz_s] at H4
          refine jr_iinc (v := nI (i + 1)) (lv' := [(5, .int (nI (i + 1))), (8, .int (nI j)), (6, .long (lN c)), (0, .ref o), (1, .ref (a kt)), (2, .ref (a ka)), (3, .ref (a kb)), (4, .int (bi q))]) hE dX12_times_113 2 rfl (nI_1 _) (by decide) rfl ?_
          refine jr_goto (tgt := 27) hE dX12_times_116 (by decide) ?_
          refine jr_lv (lv' := [(5, .int (nI (i + 1))), (0, .ref o), (1, .ref (a kt)), (2, .ref (a ka)), (3, .ref (a kb)), (4, .int (bi q))]) [0, 3, 4, 5, 6, 7] rfl ?_
          have hj8 : j = 8 := by omega
          subst hj8
          exact ih (i + 1) F1 _ (du fd2 (i + 8) c) (by omega) H4 (du_c (by omega) (fun k hk _ => hf2 k hk)) (fun k hk => by
            by_cases e : k = i + 8
            · rw [e, du_s]; exact hc
            · rw [du_n e]; exact hfl2 k hk) (fun k hk => by rw [du_n (by omega), hhi k (by omega)]; exact hzz k (by omega)) (by
            rw [row_add (y := y) (fac := d i) hlo (by rw [← k3]; exact hinv) hzz (fun k hk => by rw [hhi k (by omega)]; exact hzz k (by omega)) (by omega), hv]
            show dv d i * y + _ = (dv d i + d i * 2 ^ (32 * i)) * y
            rw [Nat.add_mul, Nat.mul_comm (d i * 2 ^ (32 * i)) y, Nat.mul_assoc y (d i) _]) O5
        | succ r1 ihI =>
          intro j F3 f2 fd2 c hj H2 hf2 hfl2 hlo hhi hc hinv O2
          have hbd := am_bd hc (hfl2 (i + j) (by omega)) (k2 j (by omega)) (h2 i (by omega))
          refine jr_iload hE dX12_times_40 0 rfl ?_
          refine jr_bipush (v := (8 : Int32)) hE dX12_times_42 (by decide) ?_
          refine jr_icmp_ge (tgt := 101) hE dX12_times_44 (by decide) (fun c_44 => absurd c_44 (nI_ge (b := 8) (by omega) (by omega))) (fun c_44 => ?_)
          refine jr_aload_n hE dX12_times_47 5 rfl ?_
          refine jr_iload hE dX12_times_48 2 rfl ?_
          refine jr_lald (v := lN (d i)) hE dX12_times_50 (H2.L (k := ka) (n := 8) hka) (vp_in_nI (n := i) (by omega) (by omega)) (by rw [nI_clamp (by omega)]; exact (congrFun (uz_n s f2 (l8_32 hka)) i).trans (h1 i (by omega))) ?_
          refine jr_aload_n hE dX12_times_51 6 rfl ?_
          refine jr_iload hE dX12_times_52 0 rfl ?_
          refine jr_lald (v := lN (e j)) hE dX12_times_54 (H2.L (k := kb) (n := 8) hkb) (vp_in_nI (n := j) (by omega) (by omega)) (by rw [nI_clamp (by omega)]; exact (congrFun (uz_n s f2 (l8_32 hkb)) j).trans (k1 j (by omega))) ?_
          refine jr_lmul hE dX12_times_55 rfl ?_
          refine jr_aload_n hE dX12_times_56 3 rfl ?_
          refine jr_get hE dX12_times_57 f152 H2.ob rfl ?_
          refine jr_iload hE dX12_times_60 2 rfl ?_
          refine jr_iload hE dX12_times_62 0 rfl ?_
          refine jr_iadd (z := nI (i + j)) hE dX12_times_64 (nI_add _ _) ?_
          refine jr_lald (v := lN (fd2 (i + j))) hE dX12_times_65 (H2.L (k := 32) (n := 18) (by decide)) (vp_in_nI (n := i + j) (by omega) (by omega)) (by rw [nI_clamp (by omega)]; exact hf2 (i + j) (by omega)) ?_
          refine jr_ladd hE dX12_times_66 rfl ?_
          refine jr_lload hE dX12_times_67 1 rfl ?_
          refine jr_ladd (z := lN (c + fd2 (i + j) + e j * d i)) hE dX12_times_69 mul_ad ?_
          refine jr_lstore (lv' := [(9, .long (lN (c + fd2 (i + j) + e j * d i))), (8, .int (nI j)), (6, .long (lN c)), (5, .int (nI i)), (0, .ref o), (1, .ref (a kt)), (2, .ref (a ka)), (3, .ref (a kb)), (4, .int (bi q))]) hE dX12_times_70 (by decide) rfl ?_
          refine jr_aload_n hE dX12_times_72 4 rfl ?_
          refine jr_get hE dX12_times_73 f152 H2.ob rfl ?_
          refine jr_iload hE dX12_times_76 3 rfl ?_
          refine jr_iload hE dX12_times_78 1 rfl ?_
          refine jr_iadd (z := nI (i + j)) hE dX12_times_80 (nI_add _ _) ?_
          refine jr_lload hE dX12_times_81 0 rfl ?_
          refine jr_ldc2 (v := (4294967295 : Int64)) hE dX12_times_83 (by decide +kernel) ?_
          refine jr_land (z := lN ((c + fd2 (i + j) + e j * d i) % 2 ^ 32)) hE dX12_times_86 (m32 _ hbd) ?_
          refine jr_last hE dX12_times_87 (H2.L (k := 32) (n := 18) (by decide)) (vp_in_nI (n := i + j) (by omega) (by omega)) (fun F1 g2 u3 => ?_)
          have H4 := H2.setL (k := 32) (n := 18) (by decide) g2 u3
          have O5 := O2.st (k := 32) (by decide) (by decide) u3
          rw [uz_uz, uz_s] at H4
          refine jr_lload hE dX12_times_88 0 rfl ?_
          refine jr_bipush (v := (32 : Int32)) hE dX12_times_90 (by decide) ?_
          refine jr_lushr (z := lN ((c + fd2 (i + j) + e j * d i) / 2 ^ 32)) hE dX12_times_92 (s32 _ hbd) ?_
          refine jr_lstore (lv' := [(6, .long (lN ((c + fd2 (i + j) + e j * d i) / 2 ^ 32))), (9, .long (lN (c + fd2 (i + j) + e j * d i))), (8, .int (nI j)), (5, .int (nI i)), (0, .ref o), (1, .ref (a kt)), (2, .ref (a ka)), (3, .ref (a kb)), (4, .int (bi q))]) hE dX12_times_93 (by decide) rfl ?_
          refine jr_iinc (v := nI (j + 1)) (lv' := [(8, .int (nI (j + 1))), (6, .long (lN ((c + fd2 (i + j) + e j * d i) / 2 ^ 32))), (9, .long (lN (c + fd2 (i + j) + e j * d i))), (5, .int (nI i)), (0, .ref o), (1, .ref (a kt)), (2, .ref (a ka)), (3, .ref (a kb)), (4, .int (bi q))]) hE dX12_times_95 2 rfl (nI_1 _) (by decide) rfl ?_
          refine jr_goto (tgt := 40) hE dX12_times_98 (by decide) ?_
          refine jr_lv (lv' := [(8, .int (nI (j + 1))), (6, .long (lN ((c + fd2 (i + j) + e j * d i) / 2 ^ 32))), (5, .int (nI i)), (0, .ref o), (1, .ref (a kt)), (2, .ref (a ka)), (3, .ref (a kb)), (4, .int (bi q))]) [0, 1, 3, 4, 5, 6, 7, 8] rfl ?_
          exact ihI (j + 1) F1 _ (du fd2 (i + j) ((c + fd2 (i + j) + e j * d i) % 2 ^ 32)) ((c + fd2 (i + j) + e j * d i) / 2 ^ 32) (by omega) H4 (du_c (by omega) (fun k hk _ => hf2 k hk)) (fun k hk => by
            by_cases q0 : k = i + j
            · rw [q0, du_s]; exact Nat.mod_lt _ (Nat.two_pow_pos 32)
            · rw [du_n q0]; exact hfl2 k hk) (fun k hk => by rw [du_n (by omega)]; exact hlo k (by omega)) (fun k hk => by rw [du_n (by omega)]; exact hhi k (by omega)) (by omega) (am_sh hinv hhi) O5
      refine jr_iload hE dX12_times_27 0 rfl ?_
      refine jr_bipush (v := (8 : Int32)) hE dX12_times_29 (by decide) ?_
      refine jr_icmp_ge (tgt := 119) hE dX12_times_31 (by decide) (fun c_31 => absurd c_31 (nI_ge (b := 8) (by omega) (by omega))) (fun c_31 => ?_)
      refine jr_lconst (v := (0 : Int64)) hE dX12_times_34 (by decide) ?_
      refine jr_lstore (lv' := [(6, .long (0 : Int64)), (5, .int (nI i)), (0, .ref o), (1, .ref (a kt)), (2, .ref (a ka)), (3, .ref (a kb)), (4, .int (bi q))]) hE dX12_times_35 (by decide) rfl ?_
      refine jr_iconst (v := (0 : Int32)) hE dX12_times_37 (by decide) ?_
      refine jr_istore (lv' := [(8, .int (0 : Int32)), (6, .long (0 : Int64)), (5, .int (nI i)), (0, .ref o), (1, .ref (a kt)), (2, .ref (a ka)), (3, .ref (a kb)), (4, .int (bi q))]) hE dX12_times_38 (by decide) rfl ?_
      refine jr_lv (lv' := [(8, .int (0 : Int32)), (6, .long (0 : Int64)), (5, .int (nI i)), (0, .ref o), (1, .ref (a kt)), (2, .ref (a ka)), (3, .ref (a kb)), (4, .int (bi q))]) [0, 1, 2, 3, 4, 5, 6, 7] rfl ?_
      exact inner 8 0 F2 f fd 0 rfl H hf hfl (fun _ _ => rfl) (fun _ _ => rfl) (by decide) (by simp [dv]) O
  have loopA : ∀ (r0 i : Nat) (F2 : Nat → va_E) (f : Nat → Int64), i + r0 = 18 → RW G L F2 o a v (uz s 32 f) w → (∀ j, j < i → f j = lN 0) → mO o a F F2 → J E L F2 0 0 3 [(5, .int (nI i)), (0, .ref o), (1, .ref (a kt)), (2, .ref (a ka)), (3, .ref (a kb)), (4, .int (bi q))] [] := by
    intro r0
    induction r0 with
    | zero =>
      intro i F2 f hi H hf O
      refine jr_iload hE dX12_times_3 0 rfl ?_
      refine jr_bipush (v := (18 : Int32)) hE dX12_times_5 (by decide) ?_
      refine jr_icmp_ge (tgt := 24) hE dX12_times_7 (by decide) (fun c_7 => ?_) (fun c_7 => absurd (nI_le (a := 18) (by omega) (by omega)) c_7)
      refine jr_iconst (v := (0 : Int32)) hE dX12_times_24 (by decide) ?_
      refine jr_istore (lv' := [(5, .int (0 : Int32)), (0, .ref o), (1, .ref (a kt)), (2, .ref (a ka)), (3, .ref (a kb)), (4, .int (bi q))]) hE dX12_times_25 (by decide) rfl ?_
      refine jr_lv (lv' := [(5, .int (0 : Int32)), (0, .ref o), (1, .ref (a kt)), (2, .ref (a ka)), (3, .ref (a kb)), (4, .int (bi q))]) [0, 1, 2, 3, 4, 5] rfl ?_
      exact loopB 8 0 F2 f (fun _ => 0) rfl H (fun j hj => hf j (by omega)) (fun _ _ => by decide) (fun _ _ => rfl) (by rw [(dv_zero (d := fun _ => 0) 18).mp (fun _ _ => rfl)]; simp [dv]) O
    | succ r0 ih =>
      intro i F2 f hi H hf O
      refine jr_iload hE dX12_times_3 0 rfl ?_
      refine jr_bipush (v := (18 : Int32)) hE dX12_times_5 (by decide) ?_
      refine jr_icmp_ge (tgt := 24) hE dX12_times_7 (by decide) (fun c_7 => absurd c_7 (nI_ge (b := 18) (by omega) (by omega))) (fun c_7 => ?_)
      refine jr_aload_n hE dX12_times_10 1 rfl ?_
      refine jr_get hE dX12_times_11 f152 H.ob rfl ?_
      refine jr_iload hE dX12_times_14 0 rfl ?_
      refine jr_lconst (v := (0 : Int64)) hE dX12_times_16 (by decide) ?_
      refine jr_last hE dX12_times_17 (H.L (k := 32) (n := 18) (by decide)) (vp_in_nI (n := i) (by omega) (by omega)) (fun F1 g2 u3 => ?_)
      have H4 := H.setL (k := 32) (n := 18) (by decide) g2 u3
      have O5 := O.st (k := 32) (by decide) (by decide) u3
      rw [uz_uz, uz_s] at H4
      refine jr_iinc (v := nI (i + 1)) (lv' := [(5, .int (nI (i + 1))), (0, .ref o), (1, .ref (a kt)), (2, .ref (a ka)), (3, .ref (a kb)), (4, .int (bi q))]) hE dX12_times_18 0 rfl (nI_1 _) (by decide) rfl ?_
      refine jr_goto (tgt := 3) hE dX12_times_21 (by decide) ?_
      refine jr_lv (lv' := [(5, .int (nI (i + 1))), (0, .ref o), (1, .ref (a kt)), (2, .ref (a ka)), (3, .ref (a kb)), (4, .int (bi q))]) [0, 1, 2, 3, 4, 5] rfl ?_
      exact ih (i + 1) F1 _ (by omega) H4 (fun j hj => by
        by_cases e : j = i
        · rw [e, vL_s _ _ (by omega)]
          rfl
        · rw [vL_n _ _ (by omega) e]; exact hf j (by omega)) O5
  refine jr_iconst (v := (0 : Int32)) hE dX12_times_0 (by decide) ?_
  refine jr_istore (lv' := [(5, .int (0 : Int32)), (0, .ref o), (1, .ref (a kt)), (2, .ref (a ka)), (3, .ref (a kb)), (4, .int (bi q))]) hE dX12_times_1 (by decide) rfl ?_
  refine jr_lv (lv' := [(5, .int (0 : Int32)), (0, .ref o), (1, .ref (a kt)), (2, .ref (a ka)), (3, .ref (a kb)), (4, .int (bi q))]) [0, 1, 2, 3, 4, 5] rfl ?_
  exact loopA 18 0 F (s 32) rfl (by rw [uz_id]; exact H0) (fun j hj => absurd hj (Nat.not_lt_zero j)) (mO.rf o a F)

theorem ad_inv {fd d e : Nat → Nat} {i c : Nat} (h : dv fd i + c * 2 ^ (32 * i) = dv d i + dv e i) : dv (du fd i ((d i + e i + c) % 2 ^ 32)) (i + 1) + (d i + e i + c) / 2 ^ 32 * 2 ^ (32 * (i + 1)) = dv d (i + 1) + dv e (i + 1) := by
  have hs := Nat.div_add_mod (d i + e i + c) (2 ^ 32)
  generalize (d i + e i + c) / 2 ^ 32 = c' at *
  generalize (d i + e i + c) % 2 ^ 32 = lo at *
  rw [show 32 * (i + 1) = 32 * i + 32 by omega, Nat.pow_add, dv, dv, dv, dv_du (Nat.le_refl _), du_s]
  have q : (2 ^ 32 * c' + lo) * 2 ^ (32 * i) = (d i + e i + c) * 2 ^ (32 * i) := by rw [hs]
  rw [Nat.add_mul, Nat.add_mul, Nat.add_mul, Nat.mul_comm (2 ^ 32) c', Nat.mul_assoc, Nat.mul_comm (2 ^ 32) (2 ^ (32 * i))] at q
  omega
theorem ext0 {d : Nat → Nat} : dv (fun j => if j < 8 then d j else 0) 18 = dv d 8 := by
  rw [hi_0 (wd := fun j => if j < 8 then d j else 0) (fun k _ h8 => if_neg (by omega))]
  exact dv_congr 8 (fun j hj => if_pos hj)
theorem ad_end {V c x y A B : Nat} (h : V + c * B = x + y) (hx : x < A) (hy : y < A) (hAB : A + A ≤ B) : V = x + y := by
  match c, h with
  | 0, h => rw [Nat.zero_mul] at h; exact h
  | c + 1, h =>
    rw [Nat.add_mul, Nat.one_mul] at h
    have := Nat.zero_le (c * B)
    omega

set_option maxHeartbeats 4000000 in
set_option maxRecDepth 100000 in
theorem c_m_add (l : Launch) (G : Nat → ClassId) (o : Nat) (a : Nat → Nat) (v : Nat → Int32) (n : Nat → Option Nat) (g : Nat → Nat → Int64) (w : Nat → Nat → Int32) (kt ka kb x y : Nat) (q : Bool) : jKv l yX12_add wsX12_add ({ frames := 2, cells := 0, slots := 0, locals := 57 }) G [.ref o, .ref (a kt), .ref (a ka), .ref (a kb), .int (bi q)] (fun L F => MW G L F o a v n g w ∧ mK n g ∧ lv8 kt ∧ l8 ka ∧ l8 kb ∧ n ka = some x ∧ n kb = some y) (fun L F F1 => MW G L F1 o a v (uz n kt (some ((x + y) % pq q))) g w ∧ mO o a F F1) := by
  refine jm_kv (cc := cX12_add) (maxL := 10) (by decide) rfl (Nat.le_of_ble_eq_true rfl) ?_
  intro E L F hE hR hpre
  have hE : jOk E G _ cX12_add 10 RX12 wsX12_add := hE

  have f152 : jFl RX12 wsX12_add 152 12 32 := ⟨rfl, by decide, by decide +kernel, by decide +kernel⟩
  obtain ⟨⟨s, H0, hn, hg⟩, hK, hkt, hka, hkb, hx, hy⟩ := hpre
  have hxl := (hn ka x hx).lt
  have hyl := (hn kb y hy).lt
  obtain ⟨d, h1, h2, h3⟩ := hn ka x hx
  obtain ⟨e, k1, k2, k3⟩ := hn kb y hy
  have loop : ∀ (r0 i : Nat) (F2 : Nat → va_E) (f : Nat → Int64) (fd : Nat → Nat) (c : Nat), i + r0 = 18 → RW G L F2 o a v (uz s 32 f) w → (∀ j, j < i → f j = lN (fd j)) → (∀ j, j < i → fd j < 2 ^ 32) → c ≤ 1 → dv fd i + c * 2 ^ (32 * i) = dv (fun j => if j < 8 then d j else 0) i + dv (fun j => if j < 8 then e j else 0) i → mO o a F F2 → J E L F2 0 0 6 [(7, .int (nI i)), (5, .long (lN c)), (0, .ref o), (1, .ref (a kt)), (2, .ref (a ka)), (3, .ref (a kb)), (4, .int (bi q))] [] := by
    intro r0
    induction r0 with
    | zero =>
      intro i F2 f fd c hi H hf hfl hc hinv O
      refine jr_iload hE dX12_add_6 0 rfl ?_
      refine jr_bipush (v := (18 : Int32)) hE dX12_add_8 (by decide) ?_
      refine jr_icmp_ge (tgt := 64) hE dX12_add_10 (by decide) (fun c_10 => ?_) (fun c_10 => absurd (nI_le (a := 18) (by omega) (by omega)) c_10)
      refine jr_aload_n hE dX12_add_64 2 rfl ?_
      refine jr_aload_n hE dX12_add_65 3 rfl ?_
      refine jr_iload hE dX12_add_66 6 rfl ?_
      refine jr_kVv (ci := 12) (n := 2) (As := [.ref (a kt), .int (bi q)]) (rest := []) hE dX12_add_68 (fun l => c_m_reduce l G o a v n g w kt q fd) gX12_add_X12_reduce rfl H.ob rfl (by decide +kernel) ⟨rfl, rfl, by decide, by decide⟩ (by decide) rfl rfl (Nat.le_of_ble_eq_true rfl) (⟨⟨_, ⟨H, (mw_raw hn hg (Or.inl rfl) hK.2.2.1).1, (mw_raw hn hg (Or.inl rfl) hK.2.2.1).2⟩, fun j hj => hf j (by omega), fun j hj => hfl j (by omega)⟩, hK, hkt⟩) (fun F1 q2 => ?_)
      obtain ⟨M4, O4⟩ := q2
      have h18 : i = 18 := by omega
      subst h18
      rw [ext0, ext0, h3, k3] at hinv
      rw [ad_end hinv hxl hyl (by decide)] at M4
      exact hR F1 _ _ dX12_add_71 ⟨M4, O.tr O4⟩
    | succ r0 ih =>
      intro i F2 f fd c hi H hf hfl hc hinv O
      obtain ⟨dd, hdd0⟩ : ∃ z, z = (fun j => if j < 8 then d j else 0) := ⟨_, rfl⟩
      obtain ⟨ee, hee0⟩ : ∃ z, z = (fun j => if j < 8 then e j else 0) := ⟨_, rfl⟩
      have hbb : dd i < 2 ^ 32 ∧ ee i < 2 ^ 32 := by
        rw [hdd0, hee0]
        by_cases q0 : i < 8
        · simp only [if_pos q0]
          exact ⟨h2 i q0, k2 i q0⟩
        · simp only [if_neg q0]
          exact ⟨Nat.two_pow_pos 32, Nat.two_pow_pos 32⟩
      have hbd : (dd i + ee i + c) < 2 ^ 64 := by omega
      rw [← hdd0, ← hee0] at hinv ih
      refine jr_iload hE dX12_add_6 0 rfl ?_
      refine jr_bipush (v := (18 : Int32)) hE dX12_add_8 (by decide) ?_
      refine jr_icmp_ge (tgt := 64) hE dX12_add_10 (by decide) (fun c_10 => absurd c_10 (nI_ge (b := 18) (by omega) (by omega))) (fun c_10 => ?_)
      refine jr_iload hE dX12_add_13 0 rfl ?_
      refine jr_bipush (v := (8 : Int32)) hE dX12_add_15 (by decide) ?_
      refine jr_icmp_ge (tgt := 32) hE dX12_add_17 (by decide) (fun c17 => ?_) (fun c17 => ?_)
      · have hi8 : 8 ≤ i := Classical.byContradiction (fun q0 => nI_ge (b := 8) (by omega) (by decide) c17)
        have hdd : dd i = 0 := (congrFun hdd0 i).trans (if_neg (by omega))
        have hee : ee i = 0 := (congrFun hee0 i).trans (if_neg (by omega))
        refine jr_lconst (v := (0 : Int64)) hE dX12_add_32 (by decide) ?_
        refine jr_lload hE dX12_add_33 1 rfl ?_
        refine jr_ladd (z := lN (dd i + ee i + c)) hE dX12_add_35 (by rw [hdd, hee]; exact (lN_add 0 c)) ?_
        refine jr_lstore (lv' := [(8, .long (lN (dd i + ee i + c))), (7, .int (nI i)), (5, .long (lN c)), (0, .ref o), (1, .ref (a kt)), (2, .ref (a ka)), (3, .ref (a kb)), (4, .int (bi q))]) hE dX12_add_36 (by decide) rfl ?_
        refine jr_aload_n hE dX12_add_38 3 rfl ?_
        refine jr_get hE dX12_add_39 f152 H.ob rfl ?_
        refine jr_iload hE dX12_add_42 1 rfl ?_
        refine jr_lload hE dX12_add_44 0 rfl ?_
        refine jr_ldc2 (v := (4294967295 : Int64)) hE dX12_add_46 (by decide +kernel) ?_
        refine jr_land (z := lN ((dd i + ee i + c) % 2 ^ 32)) hE dX12_add_49 (m32 _ hbd) ?_
        refine jr_last hE dX12_add_50 (H.L (k := 32) (n := 18) (by decide)) (vp_in_nI (n := i) (by omega) (by omega)) (fun F1 g2 u3 => ?_)
        have H4 := H.setL (k := 32) (n := 18) (by decide) g2 u3
        have O5 := O.st (k := 32) (by decide) (by decide) u3
        rw [uz_uz, uz_s] at H4
        refine jr_lload hE dX12_add_51 0 rfl ?_
        refine jr_bipush (v := (32 : Int32)) hE dX12_add_53 (by decide) ?_
        refine jr_lushr (z := lN ((dd i + ee i + c) / 2 ^ 32)) hE dX12_add_55 (s32 _ hbd) ?_
        refine jr_lstore (lv' := [(5, .long (lN ((dd i + ee i + c) / 2 ^ 32))), (8, .long (lN (dd i + ee i + c))), (7, .int (nI i)), (0, .ref o), (1, .ref (a kt)), (2, .ref (a ka)), (3, .ref (a kb)), (4, .int (bi q))]) hE dX12_add_56 (by decide) rfl ?_
        refine jr_iinc (v := nI (i + 1)) (lv' := [(7, .int (nI (i + 1))), (5, .long (lN ((dd i + ee i + c) / 2 ^ 32))), (8, .long (lN (dd i + ee i + c))), (0, .ref o), (1, .ref (a kt)), (2, .ref (a ka)), (3, .ref (a kb)), (4, .int (bi q))]) hE dX12_add_58 2 rfl (nI_1 _) (by decide) rfl ?_
        refine jr_goto (tgt := 6) hE dX12_add_61 (by decide) ?_
        refine jr_lv (lv' := [(7, .int (nI (i + 1))), (5, .long (lN ((dd i + ee i + c) / 2 ^ 32))), (0, .ref o), (1, .ref (a kt)), (2, .ref (a ka)), (3, .ref (a kb)), (4, .int (bi q))]) [0, 1, 3, 4, 5, 6, 7] rfl ?_
        exact ih (i + 1) F1 _ (du fd i ((dd i + ee i + c) % 2 ^ 32)) ((dd i + ee i + c) / 2 ^ 32) (by omega) H4 (fun j hj => by
          by_cases q0 : j = i
          · rw [q0, vL_s _ _ (by omega), du_s]
          · rw [vL_n _ _ (by omega) q0, du_n q0]; exact hf j (by omega)) (fun j hj => by
          by_cases q0 : j = i
          · rw [q0, du_s]; exact Nat.mod_lt _ (Nat.two_pow_pos 32)
          · rw [du_n q0]; exact hfl j (by omega)) (by omega) (ad_inv hinv) O5
      · have hi8 : i < 8 := Classical.byContradiction (fun q0 => c17 (nI_le (a := 8) (by omega) (by omega)))
        have hdd : dd i = d i := (congrFun hdd0 i).trans (if_pos hi8)
        have hee : ee i = e i := (congrFun hee0 i).trans (if_pos hi8)
        refine jr_aload_n hE dX12_add_20 4 rfl ?_
        refine jr_iload hE dX12_add_21 0 rfl ?_
        refine jr_lald (v := lN (d i)) hE dX12_add_23 (H.L (k := ka) (n := 8) hka) (vp_in_nI (n := i) (by omega) (by omega)) (by rw [nI_clamp (by omega)]; exact (congrFun (uz_n s f (l8_32 hka)) i).trans (h1 i hi8)) ?_
        refine jr_aload_n hE dX12_add_24 5 rfl ?_
        refine jr_iload hE dX12_add_25 0 rfl ?_
        refine jr_lald (v := lN (e i)) hE dX12_add_27 (H.L (k := kb) (n := 8) hkb) (vp_in_nI (n := i) (by omega) (by omega)) (by rw [nI_clamp (by omega)]; exact (congrFun (uz_n s f (l8_32 hkb)) i).trans (k1 i hi8)) ?_
        refine jr_ladd hE dX12_add_28 rfl ?_
        refine jr_goto (tgt := 33) hE dX12_add_29 (by decide) ?_
        refine jr_lload hE dX12_add_33 1 rfl ?_
        refine jr_ladd (z := lN (dd i + ee i + c)) hE dX12_add_35 (by rw [hdd, hee, lN_add, lN_add]) ?_
        refine jr_lstore (lv' := [(8, .long (lN (dd i + ee i + c))), (7, .int (nI i)), (5, .long (lN c)), (0, .ref o), (1, .ref (a kt)), (2, .ref (a ka)), (3, .ref (a kb)), (4, .int (bi q))]) hE dX12_add_36 (by decide) rfl ?_
        refine jr_aload_n hE dX12_add_38 3 rfl ?_
        refine jr_get hE dX12_add_39 f152 H.ob rfl ?_
        refine jr_iload hE dX12_add_42 1 rfl ?_
        refine jr_lload hE dX12_add_44 0 rfl ?_
        refine jr_ldc2 (v := (4294967295 : Int64)) hE dX12_add_46 (by decide +kernel) ?_
        refine jr_land (z := lN ((dd i + ee i + c) % 2 ^ 32)) hE dX12_add_49 (m32 _ hbd) ?_
        refine jr_last hE dX12_add_50 (H.L (k := 32) (n := 18) (by decide)) (vp_in_nI (n := i) (by omega) (by omega)) (fun F6 g7 u8 => ?_)
        have H9 := H.setL (k := 32) (n := 18) (by decide) g7 u8
        have O10 := O.st (k := 32) (by decide) (by decide) u8
        rw [uz_uz, uz_s] at H9
        refine jr_lload hE dX12_add_51 0 rfl ?_
        refine jr_bipush (v := (32 : Int32)) hE dX12_add_53 (by decide) ?_
        refine jr_lushr (z := lN ((dd i + ee i + c) / 2 ^ 32)) hE dX12_add_55 (s32 _ hbd) ?_
        refine jr_lstore (lv' := [(5, .long (lN ((dd i + ee i + c) / 2 ^ 32))), (8, .long (lN (dd i + ee i + c))), (7, .int (nI i)), (0, .ref o), (1, .ref (a kt)), (2, .ref (a ka)), (3, .ref (a kb)), (4, .int (bi q))]) hE dX12_add_56 (by decide) rfl ?_
        refine jr_iinc (v := nI (i + 1)) (lv' := [(7, .int (nI (i + 1))), (5, .long (lN ((dd i + ee i + c) / 2 ^ 32))), (8, .long (lN (dd i + ee i + c))), (0, .ref o), (1, .ref (a kt)), (2, .ref (a ka)), (3, .ref (a kb)), (4, .int (bi q))]) hE dX12_add_58 2 rfl (nI_1 _) (by decide) rfl ?_
        refine jr_goto (tgt := 6) hE dX12_add_61 (by decide) ?_
        refine jr_lv (lv' := [(7, .int (nI (i + 1))), (5, .long (lN ((dd i + ee i + c) / 2 ^ 32))), (0, .ref o), (1, .ref (a kt)), (2, .ref (a ka)), (3, .ref (a kb)), (4, .int (bi q))]) [0, 1, 3, 4, 5, 6, 7] rfl ?_
        exact ih (i + 1) F6 _ (du fd i ((dd i + ee i + c) % 2 ^ 32)) ((dd i + ee i + c) / 2 ^ 32) (by omega) H9 (fun j hj => by
          by_cases q0 : j = i
          · rw [q0, vL_s _ _ (by omega), du_s]
          · rw [vL_n _ _ (by omega) q0, du_n q0]; exact hf j (by omega)) (fun j hj => by
          by_cases q0 : j = i
          · rw [q0, du_s]; exact Nat.mod_lt _ (Nat.two_pow_pos 32)
          · rw [du_n q0]; exact hfl j (by omega)) (by omega) (ad_inv hinv) O10
  refine jr_lconst (v := (0 : Int64)) hE dX12_add_0 (by decide) ?_
  refine jr_lstore (lv' := [(5, .long (0 : Int64)), (0, .ref o), (1, .ref (a kt)), (2, .ref (a ka)), (3, .ref (a kb)), (4, .int (bi q))]) hE dX12_add_1 (by decide) rfl ?_
  refine jr_iconst (v := (0 : Int32)) hE dX12_add_3 (by decide) ?_
  refine jr_istore (lv' := [(7, .int (0 : Int32)), (5, .long (0 : Int64)), (0, .ref o), (1, .ref (a kt)), (2, .ref (a ka)), (3, .ref (a kb)), (4, .int (bi q))]) hE dX12_add_4 (by decide) rfl ?_
  refine jr_lv (lv' := [(7, .int (0 : Int32)), (5, .long (0 : Int64)), (0, .ref o), (1, .ref (a kt)), (2, .ref (a ka)), (3, .ref (a kb)), (4, .int (bi q))]) [0, 1, 2, 3, 4, 5, 6] rfl ?_
  exact loop 18 0 F (s 32) (fun _ => 0) 0 rfl (by rw [uz_id]; exact H0) (fun j hj => absurd hj (Nat.not_lt_zero j)) (fun _ _ => by decide) (by decide) rfl (mO.rf o a F)

