/-! THE REFERENCE'S small methods -/
theorem uz_rd {s : Nat → Nat → Int64} {k j i : Nat} {f : Nat → Int64} (h : f i = s k i) : uz s k f j i = s j i := by
  by_cases e : j = k
  · rw [e, uz_s]; exact h
  · rw [uz_n _ _ e]
theorem vL_s (f : Nat → Int64) {i : Nat} (x : Int64) (h : i < 2 ^ 31) : vp_updL f (nI i).toNatClampNeg x i = x := by
  rw [nI_clamp h]; exact if_pos rfl
theorem vL_n (f : Nat → Int64) {i j : Nat} (x : Int64) (h : i < 2 ^ 31) (e : j ≠ i) : vp_updL f (nI i).toNatClampNeg x j = f j := by
  rw [nI_clamp h]; exact if_neg e
theorem mN_small {f : Nat → Int64} {m : Nat} (hm : m < 2 ^ 64) (h0 : f 0 = lN (m % 2 ^ 32)) (h1 : f 1 = lN (m / 2 ^ 32)) (h : ∀ j, 2 ≤ j → j < 8 → f j = 0) : mN f m := by
  have hv := bn_v (d := fun _ => 0) (a := m % 2 ^ 32) (b := m / 2 ^ 32) (fun _ _ => rfl)
  rw [Nat.mod_add_div'] at hv
  have hlt : m < 2 ^ 256 := Nat.lt_trans hm (Nat.pow_lt_pow_right (by decide) (by decide))
  have hb : m / 2 ^ 32 < 2 ^ 32 := by omega
  have ha : m % 2 ^ 32 < 2 ^ 32 := Nat.mod_lt _ (Nat.two_pow_pos 32)
  refine ⟨_, fun j hj => ?_, fun j hj => ?_, dv98 hv hlt⟩
  · by_cases e1 : j = 1
    · rw [e1, du_s, h1]
    · rw [du_n e1]
      by_cases e0 : j = 0
      · rw [e0, du_s, h0]
      · rw [du_n e0, h j (by omega) hj]
        rfl
  · by_cases e1 : j = 1
    · rw [e1, du_s]; exact hb
    · rw [du_n e1]
      by_cases e0 : j = 0
      · rw [e0, du_s]; exact ha
      · rw [du_n e0]
        exact Nat.two_pow_pos 32

set_option maxHeartbeats 4000000 in
set_option maxRecDepth 100000 in
theorem c_m_set (l : Launch) (G : Nat → ClassId) (o : Nat) (a : Nat → Nat) (v : Nat → Int32) (n : Nat → Option Nat) (g : Nat → Nat → Int64) (w : Nat → Nat → Int32) (kt kf : Nat) : jKv l yX12_set wsX12_set ({ frames := 0, cells := 0, slots := 0, locals := 0 }) G [.ref (a kt), .ref (a kf)] (fun L F => MW G L F o a v n g w ∧ l8 kt ∧ l8 kf) (fun L F F1 => MW G L F1 o a v (uz n kt (n kf)) g w ∧ mO o a F F1) := by
  refine jm_kv (cc := cX12_set) (maxL := 3) (by decide) rfl (Nat.le_of_ble_eq_true rfl) ?_
  intro E L F hE hR hpre
  have hE : jOk E G _ cX12_set 3 RX12 wsX12_set := hE

  obtain ⟨⟨s, H0, hn, hg⟩, hkt, hkf⟩ := hpre
  have loop : ∀ (r0 i : Nat) (F2 : Nat → va_E) (f : Nat → Int64), i + r0 = 8 → RW G L F2 o a v (uz s kt f) w → (∀ j, j < 8 → f j = if j < i then s kf j else s kt j) → mO o a F F2 → J E L F2 0 0 2 [(2, .int (nI i)), (0, .ref (a kt)), (1, .ref (a kf))] [] := by
    intro r0
    induction r0 with
    | zero =>
      intro i F2 f hi H hf O
      refine jr_iload_n hE dX12_set_2 0 rfl ?_
      refine jr_bipush (v := (8 : Int32)) hE dX12_set_3 (by decide) ?_
      refine jr_icmp_ge (tgt := 20) hE dX12_set_5 (by decide) (fun c_5 => ?_) (fun c_5 => absurd (nI_le (a := 8) (by omega) (by omega)) c_5)
      exact hR F2 _ _ dX12_set_20 ⟨⟨_, H, mw_set hn hg hkt (fun x e => (hn kf x e).cg (fun j hj => by rw [hf j hj, if_pos (by omega)]))⟩, O⟩
    | succ r0 ih =>
      intro i F2 f hi H hf O
      refine jr_iload_n hE dX12_set_2 0 rfl ?_
      refine jr_bipush (v := (8 : Int32)) hE dX12_set_3 (by decide) ?_
      refine jr_icmp_ge (tgt := 20) hE dX12_set_5 (by decide) (fun c_5 => absurd c_5 (nI_ge (b := 8) (by omega) (by decide))) (fun c_5 => ?_)
      refine jr_aload_n hE dX12_set_8 1 rfl ?_
      refine jr_iload_n hE dX12_set_9 0 rfl ?_
      refine jr_aload_n hE dX12_set_10 2 rfl ?_
      refine jr_iload_n hE dX12_set_11 0 rfl ?_
      refine jr_lald (v := s kf i) hE dX12_set_12 (H.L (k := kf) (n := 8) hkf) (vp_in_nI (by omega) (by omega)) (by rw [nI_clamp (by omega)]; exact uz_rd (by rw [hf i (by omega), if_neg (Nat.lt_irrefl i)])) ?_
      refine jr_last hE dX12_set_13 (H.L (k := kt) (n := 8) hkt) (vp_in_nI (by omega) (by omega)) (fun F1 g2 u3 => ?_)
      have H4 := H.setL (k := kt) (n := 8) hkt g2 u3
      have O5 := O.st (k := kt) hkt.1 hkt.k u3
      rw [uz_uz, uz_s] at H4
      refine jr_iinc (v := nI (i + 1)) (lv' := [(2, .int (nI (i + 1))), (0, .ref (a kt)), (1, .ref (a kf))]) hE dX12_set_14 0 rfl (nI_1 _) (by decide) rfl ?_
      refine jr_goto (tgt := 2) hE dX12_set_17 (by decide) ?_
      exact ih (i + 1) F1 _ (by omega) H4 (fun j hj => by
        by_cases e : j = i
        · rw [e, vL_s _ _ (by omega), if_pos (by omega)]
        · rw [vL_n _ _ (by omega) e, hf j hj]
          by_cases q : j < i
          · rw [if_pos q, if_pos (by omega)]
          · rw [if_neg q, if_neg (by omega)]) O5
  refine jr_iconst (v := (0 : Int32)) hE dX12_set_0 (by decide) ?_
  refine jr_istore_n (lv' := [(2, .int (0 : Int32)), (0, .ref (a kt)), (1, .ref (a kf))]) hE dX12_set_1 (by decide) rfl ?_
  exact loop 8 0 F (s kt) rfl (by rw [uz_id]; exact H0) (fun j hj => by rw [if_neg (by omega)]) (mO.rf o a F)

set_option maxHeartbeats 4000000 in
set_option maxRecDepth 100000 in
theorem c_m_small (l : Launch) (G : Nat → ClassId) (o : Nat) (a : Nat → Nat) (v : Nat → Int32) (n : Nat → Option Nat) (g : Nat → Nat → Int64) (w : Nat → Nat → Int32) (kt m : Nat) : jKv l yX12_small wsX12_small ({ frames := 0, cells := 0, slots := 0, locals := 0 }) G [.ref (a kt), .long (lN m)] (fun L F => MW G L F o a v n g w ∧ l8 kt ∧ m < 2 ^ 64) (fun L F F1 => MW G L F1 o a v (uz n kt (some m)) g w ∧ mO o a F F1) := by
  refine jm_kv (cc := cX12_small) (maxL := 4) (by decide) rfl (Nat.le_of_ble_eq_true rfl) ?_
  intro E L F hE hR hpre
  have hE : jOk E G _ cX12_small 4 RX12 wsX12_small := hE

  obtain ⟨⟨s, H0, hn, hg⟩, hkt, hm⟩ := hpre
  have loop : ∀ (r0 i : Nat) (F2 : Nat → va_E) (f : Nat → Int64), i + r0 = 8 → RW G L F2 o a v (uz s kt f) w → (∀ j, j < i → f j = 0) → mO o a F F2 → J E L F2 0 0 2 [(3, .int (nI i)), (0, .ref (a kt)), (1, .long (lN m))] [] := by
    intro r0
    induction r0 with
    | zero =>
      intro i F2 f hi H hf O
      refine jr_iload_n hE dX12_small_2 0 rfl ?_
      refine jr_bipush (v := (8 : Int32)) hE dX12_small_3 (by decide) ?_
      refine jr_icmp_ge (tgt := 18) hE dX12_small_5 (by decide) (fun c_5 => ?_) (fun c_5 => absurd (nI_le (a := 8) (by omega) (by omega)) c_5)
      refine jr_aload_n hE dX12_small_18 1 rfl ?_
      refine jr_iconst (v := (0 : Int32)) hE dX12_small_19 (by decide) ?_
      refine jr_lload_n hE dX12_small_20 2 rfl ?_
      refine jr_ldc2 (v := (4294967295 : Int64)) hE dX12_small_21 (by decide +kernel) ?_
      refine jr_land (z := lN (m % 2 ^ 32)) hE dX12_small_24 (m32 m hm) ?_
      refine jr_last hE dX12_small_25 (H.L (k := kt) (n := 8) hkt) (vp_in_nI (n := 0) (by decide) (by decide)) (fun F1 g2 u3 => ?_)
      have H4 := H.setL (k := kt) (n := 8) hkt g2 u3
      have O5 := O.st (k := kt) hkt.1 hkt.k u3
      rw [uz_uz, uz_s] at H4
      refine jr_aload_n hE dX12_small_26 1 rfl ?_
      refine jr_iconst (v := (1 : Int32)) hE dX12_small_27 (by decide) ?_
      refine jr_lload_n hE dX12_small_28 2 rfl ?_
      refine jr_bipush (v := (32 : Int32)) hE dX12_small_29 (by decide) ?_
      refine jr_lushr (z := lN (m / 2 ^ 32)) hE dX12_small_31 (s32 m hm) ?_
      refine jr_last hE dX12_small_32 (H4.L (k := kt) (n := 8) hkt) (vp_in_nI (n := 1) (by decide) (by decide)) (fun F6 g7 u8 => ?_)
      have H9 := H4.setL (k := kt) (n := 8) hkt g7 u8
      have O10 := O5.st (k := kt) hkt.1 hkt.k u8
      rw [uz_uz, uz_s] at H9
      exact hR F6 _ _ dX12_small_33 ⟨⟨_, H9, mw_set hn hg hkt (q := some m) (fun x e => by
        cases e
        exact mN_small hm ((vL_n _ (i := 1) _ (by decide) (by decide)).trans (vL_s _ (i := 0) _ (by decide))) (vL_s _ (i := 1) _ (by decide)) (fun j h2 hj => ((vL_n _ (i := 1) _ (by decide) (by omega)).trans (vL_n _ (i := 0) _ (by decide) (by omega))).trans (hf j (by omega))))⟩, O10⟩
    | succ r0 ih =>
      intro i F2 f hi H hf O
      refine jr_iload_n hE dX12_small_2 0 rfl ?_
      refine jr_bipush (v := (8 : Int32)) hE dX12_small_3 (by decide) ?_
      refine jr_icmp_ge (tgt := 18) hE dX12_small_5 (by decide) (fun c_5 => absurd c_5 (nI_ge (b := 8) (by omega) (by decide))) (fun c_5 => ?_)
      refine jr_aload_n hE dX12_small_8 1 rfl ?_
      refine jr_iload_n hE dX12_small_9 0 rfl ?_
      refine jr_lconst (v := (0 : Int64)) hE dX12_small_10 (by decide) ?_
      refine jr_last hE dX12_small_11 (H.L (k := kt) (n := 8) hkt) (vp_in_nI (by omega) (by omega)) (fun F1 g2 u3 => ?_)
      have H4 := H.setL (k := kt) (n := 8) hkt g2 u3
      have O5 := O.st (k := kt) hkt.1 hkt.k u3
      rw [uz_uz, uz_s] at H4
      refine jr_iinc (v := nI (i + 1)) (lv' := [(3, .int (nI (i + 1))), (0, .ref (a kt)), (1, .long (lN m))]) hE dX12_small_12 0 rfl (nI_1 _) (by decide) rfl ?_
      refine jr_goto (tgt := 2) hE dX12_small_15 (by decide) ?_
      exact ih (i + 1) F1 _ (by omega) H4 (fun j hj => by
        by_cases e : j = i
        · rw [e, vL_s _ _ (by omega)]
        · rw [vL_n _ _ (by omega) e, hf j (by omega)]) O5
  refine jr_iconst (v := (0 : Int32)) hE dX12_small_0 (by decide) ?_
  refine jr_istore_n (lv' := [(3, .int (0 : Int32)), (0, .ref (a kt)), (1, .long (lN m))]) hE dX12_small_1 (by decide) rfl ?_
  exact loop 8 0 F (s kt) rfl (by rw [uz_id]; exact H0) (fun j hj => absurd hj (Nat.not_lt_zero j)) (mO.rf o a F)

