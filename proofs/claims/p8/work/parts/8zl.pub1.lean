/-! THE REFERENCE'S at, put, bend -/
theorem sh8b : ∀ k, k < 8 → (((nI (8 * k)).toInt64 &&& 63).toBitVec.smod 64).toNat = 8 * k := by decide +kernel
theorem sar_b (v : Int64) {k : Nat} (hk : k < 8) : (v >>> ((nI (8 * k)).toInt64 &&& 63)) &&& 255 = lN (byt v k) := by
  apply Int64.toInt_inj.mp
  have hb : byt v k < 256 := Nat.mod_lt _ (by decide)
  have h1 := iv_and (x := v >>> ((nI (8 * k)).toInt64 &&& 63)) (X := (v >>> ((nI (8 * k)).toInt64 &&& 63)).toInt) (p := 256) (K := 2 ^ 63) (R := 255) (c := 255) ⟨rfl, Int64.le_toInt _, Int.le_of_lt (Int64.toInt_lt _)⟩ 8 ⟨by decide, rfl⟩ rfl rfl
  rw [h1.1, ls_toInt _ _ (8 * k) (sh8b k hk), Int.shiftRight_eq_div_pow, pk_lT (by omega)]
  unfold byt
  have hv := v.toBitVec.isLt
  have ht : v.toInt = if 2 * v.toBitVec.toNat < 2 ^ 64 then (v.toBitVec.toNat : Int) else (v.toBitVec.toNat : Int) - ((2 ^ 64 : Nat) : Int) := by
    rw [← Int64.toInt_toBitVec, BitVec.toInt_eq_toNat_cond]
  rw [ht]
  generalize v.toBitVec.toNat = V at *
  match k, hk with
  | 0, _ => simp only [Nat.mul_zero, Nat.pow_zero]; split <;> omega
  | 1, _ => show _ / ((256 : Nat) : Int) % 256 = ((V / 256 % 256 : Nat) : Int); split <;> omega
  | 2, _ => show _ / ((65536 : Nat) : Int) % 256 = ((V / 65536 % 256 : Nat) : Int); split <;> omega
  | 3, _ => show _ / ((16777216 : Nat) : Int) % 256 = ((V / 16777216 % 256 : Nat) : Int); split <;> omega
  | 4, _ => show _ / ((4294967296 : Nat) : Int) % 256 = ((V / 4294967296 % 256 : Nat) : Int); split <;> omega
  | 5, _ => show _ / ((1099511627776 : Nat) : Int) % 256 = ((V / 1099511627776 % 256 : Nat) : Int); split <;> omega
  | 6, _ => show _ / ((281474976710656 : Nat) : Int) % 256 = ((V / 281474976710656 % 256 : Nat) : Int); split <;> omega
  | 7, _ => show _ / ((72057594037927936 : Nat) : Int) % 256 = ((V / 72057594037927936 % 256 : Nat) : Int); split <;> omega
theorem sm_nI {x : Int32} {m : Nat} (h0 : 0 ≤ x.toInt) (h1 : x.toInt ≤ m) (hm : m < 2 ^ 31) : ∃ k, k ≤ m ∧ x = nI k := by
  refine ⟨x.toInt.toNat, by omega, ?_⟩
  apply Int32.toInt_inj.mp
  rw [nI_toInt (by omega)]
  omega
def stPut (s : ST) (r c : Int32) (x : Int64) : Int32 × ST := if rowP r ∧ 1 ≤ c.toInt ∧ c.toInt ≤ 8 then (if (s.1 (rn r)).length + rn c ≤ 100 then (nI ((s.1 (rn r)).length + rn c), setR s (rn r) (s.1 (rn r) ++ nb x (rn c))) else (-3, s)) else (-1, s)

set_option maxHeartbeats 4000000 in
set_option maxRecDepth 100000 in
theorem c_m_at (l : Launch) (G : Nat → ClassId) (o : Nat) (a : Nat → Nat) (v : Nat → Int32) (n : Nat → Option Nat) (g : Nat → Nat → Int64) (w : Nat → Nat → Int32) (s : ST) (r i : Int32) : jKi l yX12_at wsX12_at ({ frames := 2, cells := 0, slots := 0, locals := 45 }) G [.ref o, .int r, .int i] (fun L F => mI G L F o a v n g w s) (fun L F q F1 => F = F1 ∧ q = stAt s r i) := by
  refine jm_ki (cc := cX12_at) (maxL := 3) (rt := .int) (by decide) rfl (Nat.le_of_ble_eq_true rfl) ?_
  intro E L F hE hR hpre
  have hE : jOk E G _ cX12_at 3 RX12 wsX12_at := hE
  have hI := hpre
  obtain ⟨M0, hK, hC, htg, hrd, hRW, hpI⟩ := id hpre
  have f96 : jFl RX12 wsX12_at 96 12 8 := ⟨rfl, by decide, by decide +kernel, by decide +kernel⟩
  have f100 : jFl RX12 wsX12_at 100 12 9 := ⟨rfl, by decide, by decide +kernel, by decide +kernel⟩
  refine jr_iload_n hE dX12_at_0 1 rfl ?_
  refine jr_kSi (n := 1) (As := [.int r]) (rest := []) hE dX12_at_1 (fun l => c_m_isRow l G r) gX12_at_X12_isRow rfl (by decide +kernel) ⟨rfl, rfl, by decide, by decide⟩ (by decide) rfl rfl (Nat.le_of_ble_eq_true rfl) (trivial) (fun r3 F1 q2 => ?_)
  obtain ⟨eq2, rq2⟩ := q2
  subst eq2 rq2
  refine jr_if_eq (tgt := 12) hE dX12_at_4 (by decide) (fun c4 => ?_) (fun c4 => ?_)
  · refine jr_iconst (v := (-1 : Int32)) hE dX12_at_12 (by decide) ?_
    refine jr_goto (tgt := 55) hE dX12_at_13 (by decide) ?_
    exact hR F (-1) _ _ dX12_at_55 rfl ⟨rfl, by
      unfold stAt
      rw [if_pos (Or.inl (fun q => absurd (b2i_t q) (by rw [c4]; decide)))]⟩
  · refine jr_iload_n hE dX12_at_7 2 rfl ?_
    refine jr_iconst (v := (-1 : Int32)) hE dX12_at_8 (by decide) ?_
    have hrk : rowP r := b2i_1 c4
    obtain ⟨k, hk, rfl⟩ := rowP_nI hrk
    obtain ⟨z1k, z2k, z3k, z4k⟩ := hRW k hk
    have hrnk := nI_rn hk
    refine jr_icmp_ge (tgt := 16) hE dX12_at_9 (by decide) (fun c9 => ?_) (fun c9 => ?_)
    · refine jr_iload_n hE dX12_at_16 2 rfl ?_
      refine jr_if_ge (tgt := 29) hE dX12_at_17 (by decide) (fun c17 => ?_) (fun c17 => ?_)
      · refine jr_iload_n hE dX12_at_29 2 rfl ?_
        refine jr_aload_n hE dX12_at_30 0 rfl ?_
        refine jr_get hE dX12_at_31 f96 M0.ob rfl ?_
        refine jr_iload_n hE dX12_at_34 1 rfl ?_
        refine jr_iald (v := nI (s.1 k).length) hE dX12_at_35 (M0.I (k := 8) (N := 16) (by decide)) (vp_in_nI (by omega) (by decide)) (by rw [nI_clamp (by omega)]; exact z1k) ?_
        refine jr_icmp_ge (tgt := 53) hE dX12_at_36 (by decide) (fun c36 => ?_) (fun c36 => ?_)
        · refine jr_bipush (v := (-4 : Int32)) hE dX12_at_53 (by decide) ?_
          exact hR F (-4) _ _ dX12_at_55 rfl ⟨rfl, by
            unfold stAt
            rw [if_neg (fun q => q.elim (fun q => q hrk) (fun q => by have := Int32.le_iff_toInt_le.mp c9; rw [show (-1 : Int32).toInt = -1 by decide] at this; omega)), if_neg (by have := Int32.le_iff_toInt_le.mp c17; rw [show (0 : Int32).toInt = 0 by decide] at this; omega), hrnk, if_neg (by have := Int32.le_iff_toInt_le.mp c36; rw [nI_toInt (by omega)] at this; omega)]⟩
        · refine jr_aload_n hE dX12_at_39 0 rfl ?_
          refine jr_get hE dX12_at_40 f100 M0.ob rfl ?_
          refine jr_bipush (v := (100 : Int32)) hE dX12_at_43 (by decide) ?_
          refine jr_iload_n hE dX12_at_45 1 rfl ?_
          have h0i : 0 ≤ i.toInt := by have := Int32.le_iff_toInt_le.mp c17; rwa [show (0 : Int32).toInt = 0 by decide] at this
          have hli : i.toInt < (s.1 k).length := by
            refine Classical.byContradiction (fun q => c36 (Int32.le_iff_toInt_le.mpr ?_))
            rw [nI_toInt (by omega)]
            omega
          obtain ⟨t, ht, hit⟩ := sm_nI (m := 99) h0i (by omega) (by decide)
          subst hit
          rw [nI_toInt (by omega)] at hli
          refine jr_imul (z := nI (100 * k)) hE dX12_at_46 (pk_mul 100 k) ?_
          refine jr_iload_n hE dX12_at_47 2 rfl ?_
          refine jr_iadd (z := nI (100 * k + t)) hE dX12_at_48 (nI_add _ _) ?_
          refine jr_iald (v := nI ((s.1 k).getD t 0)) hE dX12_at_49 (M0.I (k := 9) (N := 1600) (by decide)) (vp_in_nI (by omega) (by decide)) (by
  rw [nI_clamp (by omega), bt_nI (w 9) (100 * k + t)]
  rw [← bl_get (w 9) (100 * k) (s.1 k).length t (by omega), z2k]) ?_
          refine jr_goto (tgt := 55) hE dX12_at_50 (by decide) ?_
          exact hR F _ _ _ dX12_at_55 rfl ⟨rfl, by
            unfold stAt
            have et : (nI t).toInt = t := nI_toInt (by omega)
            rw [if_neg (fun q => q.elim (fun q => q hrk) (fun q => by omega)), et, if_neg (by omega), hrnk, if_pos hli, Int.toNat_natCast]⟩
      · refine jr_aload_n hE dX12_at_20 0 rfl ?_
        refine jr_get hE dX12_at_21 f96 M0.ob rfl ?_
        refine jr_iload_n hE dX12_at_24 1 rfl ?_
        refine jr_iald (v := nI (s.1 k).length) hE dX12_at_25 (M0.I (k := 8) (N := 16) (by decide)) (vp_in_nI (by omega) (by decide)) (by rw [nI_clamp (by omega)]; exact z1k) ?_
        refine jr_goto (tgt := 55) hE dX12_at_26 (by decide) ?_
        exact hR F _ _ _ dX12_at_55 rfl ⟨rfl, by
          unfold stAt
          rw [if_neg (fun q => q.elim (fun q => q hrk) (fun q => by have := Int32.le_iff_toInt_le.mp c9; rw [show (-1 : Int32).toInt = -1 by decide] at this; omega)), if_pos (by
            refine Classical.byContradiction (fun q => c17 (Int32.le_iff_toInt_le.mpr ?_))
            rw [show (0 : Int32).toInt = 0 by decide]
            omega), hrnk]⟩
    · refine jr_iconst (v := (-1 : Int32)) hE dX12_at_12 (by decide) ?_
      refine jr_goto (tgt := 55) hE dX12_at_13 (by decide) ?_
      exact hR F (-1) _ _ dX12_at_55 rfl ⟨rfl, by
        unfold stAt
        rw [if_pos (Or.inr (by
          refine Classical.byContradiction (fun q => c9 (Int32.le_iff_toInt_le.mpr ?_))
          rw [show (-1 : Int32).toInt = -1 by decide]
          omega))]⟩

