/-! SCALARS: limbs of 32 bits -/
def dv (d : Nat → Nat) : Nat → Nat
  | 0 => 0
  | i + 1 => dv d i + d i * 2 ^ (32 * i)
def du (d : Nat → Nat) (i v : Nat) : Nat → Nat := fun j => if j = i then v else d j
theorem du_s {d : Nat → Nat} {i v : Nat} : du d i v i = v := if_pos rfl
theorem du_n {d : Nat → Nat} {i v j : Nat} (h : j ≠ i) : du d i v j = d j := if_neg h
theorem dv_congr {d e : Nat → Nat} : ∀ n, (∀ j, j < n → d j = e j) → dv d n = dv e n
  | 0, _ => rfl
  | n + 1, h => by rw [dv, dv, dv_congr n (fun j hj => h j (by omega)), h n (by omega)]
theorem dv_du {d : Nat → Nat} {i v n : Nat} (h : n ≤ i) : dv (du d i v) n = dv d n := dv_congr n (fun j hj => du_n (by omega))
theorem dv_lt {d : Nat → Nat} : ∀ n, (∀ j, j < n → d j < 2 ^ 32) → dv d n < 2 ^ (32 * n)
  | 0, _ => Nat.one_pos
  | n + 1, h => by
    have h1 := dv_lt n (fun j hj => h j (by omega))
    have h2 := h n (by omega)
    rw [dv, show 32 * (n + 1) = 32 * n + 32 by omega, Nat.pow_add]
    have h3 : d n * 2 ^ (32 * n) ≤ (2 ^ 32 - 1) * 2 ^ (32 * n) := Nat.mul_le_mul_right _ (by omega)
    have h4 : (2 ^ 32 - 1) * 2 ^ (32 * n) + 2 ^ (32 * n) = 2 ^ (32 * n) * 2 ^ 32 := by rw [Nat.sub_mul, Nat.one_mul, Nat.mul_comm (2 ^ 32)]; have := Nat.mul_le_mul_left (2 ^ (32 * n)) (show 1 ≤ 2 ^ 32 by decide); omega
    omega
theorem dv8 (d : Nat → Nat) : dv d 8 = d 0 + d 1 * 2 ^ 32 + d 2 * 2 ^ 64 + d 3 * 2 ^ 96 + d 4 * 2 ^ 128 + d 5 * 2 ^ 160 + d 6 * 2 ^ 192 + d 7 * 2 ^ 224 := by simp [dv]
theorem dv9 (d : Nat → Nat) : dv d 9 = dv d 8 + d 8 * 2 ^ 256 := rfl
theorem lst {f f' : Nat → Int64} {d : Nat → Nat} {i v : Nat} (hf : ∀ j, j < 9 → f j = lN (d j)) (hi : i < 9) (e : f' = vp_updL f (nI i).toNatClampNeg (lN v)) : ∀ j, j < 9 → f' j = lN (du d i v j) := by
  intro j hj
  rw [e, nI_clamp (by omega)]
  by_cases q : j = i
  · subst q; rw [pk_uLs, du_s]
  · rw [pk_uLn q, du_n q, hf j hj]
def NN : Nat := 0xfffffffffffffffffffffffffffffffebaaedce6af48a03bbfd25e8cd0364141
def NG : Nat := 2 ^ 256 - NN
def gapd : Nat → Nat := fun j => [0x2fc9bebf, 0x402da173, 0x50b75fc4, 0x45512319, 1].getD j 0
def nnd : Nat → Nat := fun j => [0xd0364141, 0xbfd25e8c, 0xaf48a03b, 0xbaaedce6, 0xfffffffe, 0xffffffff, 0xffffffff, 0xffffffff].getD j 0
theorem gap_at : ∀ j, j < 5 → jGAP.getD j 0 = lN (gapd j) := by decide
theorem gap_lt : ∀ j, j < 8 → gapd j < 2 ^ 32 := by decide
theorem gap_hi : ∀ j, j < 8 → 5 ≤ j → gapd j = 0 := by decide
theorem nn_at : ∀ j, j < 8 → jNN.getD j 0 = lN (nnd j) := by decide
theorem nn_lt : ∀ j, j < 8 → nnd j < 2 ^ 32 := by decide
theorem gap_v : dv gapd 8 = NG := by decide
theorem nn_v : dv nnd 8 = NN := by decide
theorem du_lt {d : Nat → Nat} {i v : Nat} (hd : ∀ j, j < 8 → d j < 2 ^ 32) (hv : v < 2 ^ 32) : ∀ j, j < 8 → du d i v j < 2 ^ 32 := by
  intro j hj
  by_cases q : j = i
  · rw [q, du_s]; exact hv
  · rw [du_n q]; exact hd j hj
theorem du_ge {d d2 : Nat → Nat} {i v : Nat} (h : ∀ j, i ≤ j → d2 j = d j) : ∀ j, i + 1 ≤ j → du d2 i v j = d j := by
  intro j hj
  rw [du_n (by omega)]; exact h j (by omega)
theorem am_step {p a b d g fac c s lo c' : Nat} (h : a + c * p = b) (hs : s = c + d + g * fac) (hlo : lo = s % 2 ^ 32) (hc : c' = s / 2 ^ 32) : a + lo * p + c' * (p * 2 ^ 32) = b + d * p + g * p * fac := by
  have e : lo + 2 ^ 32 * c' = c + d + g * fac := by rw [hlo, hc, ← hs]; exact Nat.mod_add_div s (2 ^ 32)
  have e2 : (lo + 2 ^ 32 * c') * p = (c + d + g * fac) * p := by rw [e]
  grind
theorem am_inv {d d2 g : Nat → Nat} {i c fac s : Nat} (h : dv d2 i + c * 2 ^ (32 * i) = dv d i + dv g i * fac) (hs : s = c + d i + g i * fac) : dv (du d2 i (s % 2 ^ 32)) (i + 1) + s / 2 ^ 32 * 2 ^ (32 * (i + 1)) = dv d (i + 1) + dv g (i + 1) * fac := by
  rw [show 32 * (i + 1) = 32 * i + 32 by omega, Nat.pow_add, dv, dv, dv, dv_du (Nat.le_refl _), du_s, Nat.add_mul]
  have := am_step h hs rfl rfl
  omega
theorem am_end {a b c e x m B : Nat} (h : a + c * B = b + m) (hx : b + e * B = x) : a + (e + c) * B = x + m := by
  rw [Nat.add_mul]; omega
theorem d8_le {d : Nat → Nat} {x k : Nat} (hx : dv d 9 = x) (h : x < 2 ^ 256 * k) : d 8 < k := by
  rw [dv9] at hx
  rcases Nat.lt_or_ge (d 8) k with q | q
  · exact q
  · have := Nat.mul_le_mul_right (2 ^ 256) q
    rw [Nat.mul_comm k] at this
    generalize 2 ^ 256 = B at *
    omega
theorem dv98 {d : Nat → Nat} {y : Nat} (hy : dv d 9 = y) (hyb : y < 2 ^ 256) : dv d 8 = y := by
  have h0 : d 8 = 0 := by
    have := d8_le (k := 1) hy (by rw [Nat.mul_one]; exact hyb)
    exact Nat.lt_one_iff.mp this
  rw [dv9, h0, Nat.zero_mul, Nat.add_zero] at hy
  exact hy
def jSc (G : Nat → ClassId) (L : List Nat) (F : Nat → va_E) (o h x : Nat) : Prop :=
  ∃ (f : Nat → Int64) (d : Nat → Nat), jF L F o (.inr (8, [.ref h])) ∧ jF L F h (.inl (G 2, 9, .inr (.inl f))) ∧ (∀ j, j < 9 → f j = lN (d j)) ∧ (∀ j, j < 8 → d j < 2 ^ 32) ∧ d 8 < 2 ^ 34 ∧ dv d 9 = x
theorem jSc.fr {G : Nat → ClassId} {L : List Nat} {F F' : Nat → va_E} {o h x : Nat} (b : jSc G L F o h x) (e1 : F' o = F o) (e2 : F' h = F h) : jSc G L F' o h x := by
  obtain ⟨f, d, b1, b2, b3⟩ := b
  exact ⟨f, d, b1.fr e1, b2.fr e2, b3⟩
theorem jSc.ob {G : Nat → ClassId} {L : List Nat} {F : Nat → va_E} {o h x : Nat} (b : jSc G L F o h x) : jF L F o (.inr (8, [.ref h])) := by
  obtain ⟨f, d, b1, b2⟩ := b
  exact b1
theorem m32 (s : Nat) (h : s < 2 ^ 64) : lN s &&& 4294967295 = lN (s % 2 ^ 32) := wb_mask (n := s) (k := 32) h (by decide)
theorem s32 (s : Nat) (h : s < 2 ^ 64) : ((lN s).toUInt64 >>> ((32 : Int32).toInt64.toUInt64 &&& Int64.toUInt64 63)).toInt64 = lN (s / 2 ^ 32) := wb_shr (n := s) (k := 32) h (by decide)
theorem am_bd {c d g fac : Nat} (hc : c < 2 ^ 32) (hd : d < 2 ^ 32) (hg : g < 2 ^ 32) (hf : fac < 2 ^ 32) : c + d + g * fac < 2 ^ 64 := by
  have h1 : g * fac ≤ (2 ^ 32 - 1) * (2 ^ 32 - 1) := Nat.mul_le_mul (by omega) (by omega)
  omega

set_option maxHeartbeats 4000000 in
set_option maxRecDepth 100000 in
theorem c_X8_addMultipleG (l : Launch) (G : Nat → ClassId) (o h x fac : Nat) : jKv l yX8_addMultiple wsX8_addMultiple ({ frames := 0, cells := 0, slots := 0, locals := 0 }) G [.ref o, .ref (jT G 3), .long (lN fac)] (fun L F => jSc G L F o h x ∧ x < 2 ^ 289 ∧ fac < 2 ^ 32) (fun L F F1 => jSc G L F1 o h (x + NG * fac) ∧ ∀ x, x ∉ [h] → F1 x = F x) := by
  refine jm_kv (cc := cX8_addMultiple) (maxL := 7) (by decide) rfl (Nat.le_of_ble_eq_true rfl) ?_
  intro E L F hE hR hpre
  have hE : jOk E G _ cX8_addMultiple 7 RX8 wsX8_addMultiple := hE

  have f7 : jFl RX8 wsX8_addMultiple 7 8 0 := ⟨rfl, by decide, by decide +kernel, by decide +kernel⟩
  obtain ⟨⟨f, d, ho, hh, hf, hd, hd8, hx⟩, hxb, hfac⟩ := hpre
  have hd8' : d 8 < 2 ^ 33 := d8_le hx (by rw [← Nat.pow_add]; exact hxb)
  have loop : ∀ (r i : Nat) (F2 : Nat → va_E) (f2 : Nat → Int64) (d2 : Nat → Nat) (c : Nat), i + r = 8 → jF L F2 o (.inr (8, [.ref h])) → jF L F2 h (.inl (G 2, 9, .inr (.inl f2))) → (∀ j, j < 9 → f2 j = lN (d2 j)) → (∀ j, i ≤ j → d2 j = d j) → (∀ j, j < 8 → d2 j < 2 ^ 32) → c < 2 ^ 32 → dv d2 i + c * 2 ^ (32 * i) = dv d i + dv gapd i * fac → (∀ x, x ∉ [h] → F2 x = F x) → J E L F2 0 0 6 [(6, .int (nI i)), (4, .long (lN c)), (0, .ref o), (1, .ref (jT G 3)), (2, .long (lN fac))] [] := by
    intro r
    induction r with
    | zero =>
      intro i F2 f2 d2 c hin ho hh hf2 hge hd2 hcb hinv hfr
      refine jr_iload hE dX8_addMultiple_6 0 rfl ?_
      refine jr_bipush (v := (8 : Int32)) hE dX8_addMultiple_8 (by decide) ?_
      refine jr_icmp_ge (tgt := 69) hE dX8_addMultiple_10 (by decide) (fun c_10 => ?_) (fun c_10 => absurd (by rw [show i = 8 by omega]; decide) c_10)
      refine jr_aload_n hE dX8_addMultiple_69 2 rfl ?_
      refine jr_get hE dX8_addMultiple_70 f7 ho rfl ?_
      refine jr_bipush (v := (8 : Int32)) hE dX8_addMultiple_73 (by decide) ?_
      refine jr_dup2 hE dX8_addMultiple_75 rfl rfl ?_
      refine jr_lald (v := lN (d 8)) hE dX8_addMultiple_76 hh (vp_in_nI (n := 8) (by decide) (by decide)) (by rw [show f2 (8 : Int32).toNatClampNeg = f2 8 from rfl, hf2 8 (by decide), hge 8 (by omega)]) ?_
      refine jr_lload hE dX8_addMultiple_77 1 rfl ?_
      refine jr_ladd (z := lN (d 8 + c)) hE dX8_addMultiple_79 (lN_add _ _) ?_
      refine jr_last hE dX8_addMultiple_80 hh (vp_in_nI (n := 8) (by decide) (by decide)) (fun F1 g2 u3 => ?_)
      obtain ⟨f4, ef4⟩ : ∃ z, z = vp_updL f2 (8 : Int32).toNatClampNeg (lN (d 8 + c)) := ⟨_, rfl⟩
      rw [← ef4] at g2
      have g5 := ho.upk u3 hh (Nat.ne_of_beq_eq_false rfl)
      subst hin
      exact hR F1 _ _ dX8_addMultiple_81 ⟨⟨_, du d2 8 (d 8 + c), g5, g2, lst hf2 (by decide) (by rw [ef4]; rfl), fun j hj => by rw [du_n (by omega)]; exact hd2 j hj, by rw [du_s]; omega, by rw [dv9, du_s, dv_du (Nat.le_refl _)]; exact am_end (by rw [← gap_v]; exact hinv) hx⟩, fun x hx => (u3 x (jne hx 0 rfl)).trans (hfr x hx)⟩
    | succ r ih =>
      intro i F2 f2 d2 c hin ho hh hf2 hge hd2 hcb hinv hfr
      refine jr_iload hE dX8_addMultiple_6 0 rfl ?_
      refine jr_bipush (v := (8 : Int32)) hE dX8_addMultiple_8 (by decide) ?_
      refine jr_icmp_ge (tgt := 69) hE dX8_addMultiple_10 (by decide) (fun c_10 => absurd c_10 (nI_ge (b := 8) (by omega) (by decide))) (fun c_10 => ?_)
      have hdi := hd2 i (by omega)
      have hgi := gap_lt i (by omega)
      obtain ⟨s, hs⟩ : ∃ s, s = c + d i + gapd i * fac := ⟨_, rfl⟩
      have hsb : s < 2 ^ 64 := by rw [hs, ← hge i (by omega)]; exact am_bd hcb hdi hgi hfac
      refine jr_lload hE dX8_addMultiple_13 1 rfl ?_
      refine jr_aload_n hE dX8_addMultiple_15 2 rfl ?_
      refine jr_get hE dX8_addMultiple_16 f7 ho rfl ?_
      refine jr_iload hE dX8_addMultiple_19 0 rfl ?_
      refine jr_lald (v := lN (d i)) hE dX8_addMultiple_21 hh (vp_in_nI (by omega) (by omega)) (by rw [nI_clamp (by omega), hf2 i (by omega), hge i (by omega)]) ?_
      refine jr_ladd (z := lN (c + d i)) hE dX8_addMultiple_22 (lN_add _ _) ?_
      refine jr_lstore (lv' := [(4, .long (lN (c + d i))), (6, .int (nI i)), (0, .ref o), (1, .ref (jT G 3)), (2, .long (lN fac))]) hE dX8_addMultiple_23 (by decide) rfl ?_
      refine jr_iload hE dX8_addMultiple_25 1 rfl ?_
      refine jr_aload_n hE dX8_addMultiple_27 3 rfl ?_
      refine jr_lnGAP hE dX8_addMultiple_28 rfl ?_
      refine jr_icmp_ge (tgt := 43) hE dX8_addMultiple_29 (by decide) (fun c_29 => ?_) (fun c_29 => ?_)
      · have hi5 : 5 ≤ i := by
          rcases Nat.lt_or_ge i 5 with q | q
          · exact absurd c_29 (nI_ge (b := 5) q (by decide))
          · exact q
        refine jr_aload_n hE dX8_addMultiple_43 2 rfl ?_
        refine jr_get hE dX8_addMultiple_44 f7 ho rfl ?_
        refine jr_iload hE dX8_addMultiple_47 1 rfl ?_
        refine jr_lload hE dX8_addMultiple_49 0 rfl ?_
        refine jr_ldc2 (v := (4294967295 : Int64)) hE dX8_addMultiple_51 (by decide +kernel) ?_
        refine jr_land (z := lN (s % 2 ^ 32)) hE dX8_addMultiple_54 (by rw [show c + d i = s by rw [hs, gap_hi i (by omega) hi5]; omega]; exact m32 s hsb) ?_
        refine jr_last hE dX8_addMultiple_55 hh (vp_in_nI (by omega) (by omega)) (fun F1 g2 u3 => ?_)
        obtain ⟨f4, ef4⟩ : ∃ z, z = vp_updL f2 (nI i).toNatClampNeg (lN (s % 2 ^ 32)) := ⟨_, rfl⟩
        rw [← ef4] at g2
        have g5 := ho.upk u3 hh (Nat.ne_of_beq_eq_false rfl)
        refine jr_lload hE dX8_addMultiple_56 0 rfl ?_
        refine jr_bipush (v := (32 : Int32)) hE dX8_addMultiple_58 (by decide) ?_
        refine jr_lushr (z := lN (s / 2 ^ 32)) hE dX8_addMultiple_60 (by rw [show c + d i = s by rw [hs, gap_hi i (by omega) hi5]; omega]; exact s32 s hsb) ?_
        refine jr_lstore (lv' := [(4, .long (lN (s / 2 ^ 32))), (6, .int (nI i)), (0, .ref o), (1, .ref (jT G 3)), (2, .long (lN fac))]) hE dX8_addMultiple_61 (by decide) rfl ?_
        refine jr_iinc (v := nI (i + 1)) (lv' := [(6, .int (nI (i + 1))), (4, .long (lN (s / 2 ^ 32))), (0, .ref o), (1, .ref (jT G 3)), (2, .long (lN fac))]) hE dX8_addMultiple_63 1 rfl (nI_1 _) (by decide) rfl ?_
        refine jr_goto (tgt := 6) hE dX8_addMultiple_66 (by decide) ?_
        exact ih (i + 1) F1 f4 (du d2 i (s % 2 ^ 32)) (s / 2 ^ 32) (by omega) g5 g2 (lst hf2 (by omega) ef4) (du_ge hge) (du_lt hd2 (Nat.mod_lt _ (by decide))) (by omega) (am_inv hinv hs) (fun x hx => (u3 x (jne hx 0 rfl)).trans (hfr x hx))
      · refine jr_lload hE dX8_addMultiple_32 0 rfl ?_
        refine jr_aload_n hE dX8_addMultiple_34 3 rfl ?_
        refine jr_iload hE dX8_addMultiple_35 1 rfl ?_
        refine jr_ldGAP (v := lN (gapd i)) hE dX8_addMultiple_37 (vp_in_nI (n := i) (N := 5) (by rcases Nat.lt_or_ge i 5 with q | q; exact q; exact absurd (nI_le (a := 5) q (by omega)) c_29) (by decide)) (by rw [nI_clamp (by omega)]; exact gap_at i (by rcases Nat.lt_or_ge i 5 with q | q; exact q; exact absurd (nI_le (a := 5) q (by omega)) c_29)) ?_
        refine jr_lload_n hE dX8_addMultiple_38 4 rfl ?_
        refine jr_lmul (z := lN (gapd i * fac)) hE dX8_addMultiple_39 (lN_mul _ _) ?_
        refine jr_ladd (z := lN s) hE dX8_addMultiple_40 (by rw [lN_add, ← hs]) ?_
        refine jr_lstore (lv' := [(4, .long (lN s)), (6, .int (nI i)), (0, .ref o), (1, .ref (jT G 3)), (2, .long (lN fac))]) hE dX8_addMultiple_41 (by decide) rfl ?_
        refine jr_aload_n hE dX8_addMultiple_43 2 rfl ?_
        refine jr_get hE dX8_addMultiple_44 f7 ho rfl ?_
        refine jr_iload hE dX8_addMultiple_47 1 rfl ?_
        refine jr_lload hE dX8_addMultiple_49 0 rfl ?_
        refine jr_ldc2 (v := (4294967295 : Int64)) hE dX8_addMultiple_51 (by decide +kernel) ?_
        refine jr_land (z := lN (s % 2 ^ 32)) hE dX8_addMultiple_54 (m32 s hsb) ?_
        refine jr_last hE dX8_addMultiple_55 hh (vp_in_nI (by omega) (by omega)) (fun F6 g7 u8 => ?_)
        obtain ⟨f9, ef9⟩ : ∃ z, z = vp_updL f2 (nI i).toNatClampNeg (lN (s % 2 ^ 32)) := ⟨_, rfl⟩
        rw [← ef9] at g7
        have g10 := ho.upk u8 hh (Nat.ne_of_beq_eq_false rfl)
        refine jr_lload hE dX8_addMultiple_56 0 rfl ?_
        refine jr_bipush (v := (32 : Int32)) hE dX8_addMultiple_58 (by decide) ?_
        refine jr_lushr (z := lN (s / 2 ^ 32)) hE dX8_addMultiple_60 (s32 s hsb) ?_
        refine jr_lstore (lv' := [(4, .long (lN (s / 2 ^ 32))), (6, .int (nI i)), (0, .ref o), (1, .ref (jT G 3)), (2, .long (lN fac))]) hE dX8_addMultiple_61 (by decide) rfl ?_
        refine jr_iinc (v := nI (i + 1)) (lv' := [(6, .int (nI (i + 1))), (4, .long (lN (s / 2 ^ 32))), (0, .ref o), (1, .ref (jT G 3)), (2, .long (lN fac))]) hE dX8_addMultiple_63 1 rfl (nI_1 _) (by decide) rfl ?_
        refine jr_goto (tgt := 6) hE dX8_addMultiple_66 (by decide) ?_
        exact ih (i + 1) F6 f9 (du d2 i (s % 2 ^ 32)) (s / 2 ^ 32) (by omega) g10 g7 (lst hf2 (by omega) ef9) (du_ge hge) (du_lt hd2 (Nat.mod_lt _ (by decide))) (by omega) (am_inv hinv hs) (fun x hx => (u8 x (jne hx 0 rfl)).trans (hfr x hx))
  refine jr_lconst (v := (0 : Int64)) hE dX8_addMultiple_0 (by decide) ?_
  refine jr_lstore (lv' := [(4, .long (0 : Int64)), (0, .ref o), (1, .ref (jT G 3)), (2, .long (lN fac))]) hE dX8_addMultiple_1 (by decide) rfl ?_
  refine jr_iconst (v := (0 : Int32)) hE dX8_addMultiple_3 (by decide) ?_
  refine jr_istore (lv' := [(6, .int (0 : Int32)), (4, .long (0 : Int64)), (0, .ref o), (1, .ref (jT G 3)), (2, .long (lN fac))]) hE dX8_addMultiple_4 (by decide) rfl ?_
  exact loop 8 0 F f d 0 rfl ho hh hf (fun _ _ => rfl) hd (by decide) (by simp [dv]) (fun _ _ => rfl)

set_option maxHeartbeats 4000000 in
set_option maxRecDepth 100000 in
theorem c_X8_addMultiple (l : Launch) (G : Nat → ClassId) (o h oa ha x y fac : Nat) : jKv l yX8_addMultiple wsX8_addMultiple ({ frames := 0, cells := 0, slots := 0, locals := 0 }) G [.ref o, .ref ha, .long (lN fac)] (fun L F => jSc G L F o h x ∧ jSc G L F oa ha y ∧ x < 2 ^ 289 ∧ y < 2 ^ 256 ∧ fac < 2 ^ 32 ∧ [o, h, ha].Nodup) (fun L F F1 => jSc G L F1 o h (x + y * fac) ∧ ∀ x, x ∉ [h] → F1 x = F x) := by
  refine jm_kv (cc := cX8_addMultiple) (maxL := 7) (by decide) rfl (Nat.le_of_ble_eq_true rfl) ?_
  intro E L F hE hR hpre
  have hE : jOk E G _ cX8_addMultiple 7 RX8 wsX8_addMultiple := hE

  have f7 : jFl RX8 wsX8_addMultiple 7 8 0 := ⟨rfl, by decide, by decide +kernel, by decide +kernel⟩
  obtain ⟨⟨f, d, ho, hh, hf, hd, hd8, hx⟩, ⟨fa, da, -, ha1, hfa, hg, hg8, hy⟩, hxb, hyb, hfac, hnd⟩ := hpre
  have hda : dv da 8 = y := by
    exact dv98 hy hyb
  have hd8' : d 8 < 2 ^ 33 := d8_le hx (by rw [← Nat.pow_add]; exact hxb)
  have loop : ∀ (r i : Nat) (F2 : Nat → va_E) (f2 : Nat → Int64) (d2 : Nat → Nat) (c : Nat), i + r = 8 → jF L F2 o (.inr (8, [.ref h])) → jF L F2 h (.inl (G 2, 9, .inr (.inl f2))) → jF L F2 ha (.inl (G 2, 9, .inr (.inl fa))) → (∀ j, j < 9 → f2 j = lN (d2 j)) → (∀ j, i ≤ j → d2 j = d j) → (∀ j, j < 8 → d2 j < 2 ^ 32) → c < 2 ^ 32 → dv d2 i + c * 2 ^ (32 * i) = dv d i + dv da i * fac → (∀ x, x ∉ [h] → F2 x = F x) → J E L F2 0 0 6 [(6, .int (nI i)), (4, .long (lN c)), (0, .ref o), (1, .ref ha), (2, .long (lN fac))] [] := by
    intro r
    induction r with
    | zero =>
      intro i F2 f2 d2 c hin ho hh ha1 hf2 hge hd2 hcb hinv hfr
      refine jr_iload hE dX8_addMultiple_6 0 rfl ?_
      refine jr_bipush (v := (8 : Int32)) hE dX8_addMultiple_8 (by decide) ?_
      refine jr_icmp_ge (tgt := 69) hE dX8_addMultiple_10 (by decide) (fun c_10 => ?_) (fun c_10 => absurd (by rw [show i = 8 by omega]; decide) c_10)
      refine jr_aload_n hE dX8_addMultiple_69 2 rfl ?_
      refine jr_get hE dX8_addMultiple_70 f7 ho rfl ?_
      refine jr_bipush (v := (8 : Int32)) hE dX8_addMultiple_73 (by decide) ?_
      refine jr_dup2 hE dX8_addMultiple_75 rfl rfl ?_
      refine jr_lald (v := lN (d 8)) hE dX8_addMultiple_76 hh (vp_in_nI (n := 8) (by decide) (by decide)) (by rw [show f2 (8 : Int32).toNatClampNeg = f2 8 from rfl, hf2 8 (by decide), hge 8 (by omega)]) ?_
      refine jr_lload hE dX8_addMultiple_77 1 rfl ?_
      refine jr_ladd (z := lN (d 8 + c)) hE dX8_addMultiple_79 (lN_add _ _) ?_
      refine jr_last hE dX8_addMultiple_80 hh (vp_in_nI (n := 8) (by decide) (by decide)) (fun F1 g2 u3 => ?_)
      obtain ⟨f4, ef4⟩ : ∃ z, z = vp_updL f2 (8 : Int32).toNatClampNeg (lN (d 8 + c)) := ⟨_, rfl⟩
      rw [← ef4] at g2
      have g5 := ho.upk u3 hh (Nat.ne_of_beq_eq_false rfl)
      have g6 := ha1.up u3 (jn2 hnd 2 1 rfl rfl (by decide))
      subst hin
      exact hR F1 _ _ dX8_addMultiple_81 ⟨⟨_, du d2 8 (d 8 + c), g5, g2, lst hf2 (by decide) (by rw [ef4]; rfl), fun j hj => by rw [du_n (by omega)]; exact hd2 j hj, by rw [du_s]; omega, by rw [dv9, du_s, dv_du (Nat.le_refl _)]; exact am_end (by rw [← hda]; exact hinv) hx⟩, fun x hx => (u3 x (jne hx 0 rfl)).trans (hfr x hx)⟩
    | succ r ih =>
      intro i F2 f2 d2 c hin ho hh ha1 hf2 hge hd2 hcb hinv hfr
      refine jr_iload hE dX8_addMultiple_6 0 rfl ?_
      refine jr_bipush (v := (8 : Int32)) hE dX8_addMultiple_8 (by decide) ?_
      refine jr_icmp_ge (tgt := 69) hE dX8_addMultiple_10 (by decide) (fun c_10 => absurd c_10 (nI_ge (b := 8) (by omega) (by decide))) (fun c_10 => ?_)
      have hdi := hd2 i (by omega)
      have hgi := hg i (by omega)
      obtain ⟨s, hs⟩ : ∃ s, s = c + d i + da i * fac := ⟨_, rfl⟩
      have hsb : s < 2 ^ 64 := by rw [hs, ← hge i (by omega)]; exact am_bd hcb hdi hgi hfac
      refine jr_lload hE dX8_addMultiple_13 1 rfl ?_
      refine jr_aload_n hE dX8_addMultiple_15 2 rfl ?_
      refine jr_get hE dX8_addMultiple_16 f7 ho rfl ?_
      refine jr_iload hE dX8_addMultiple_19 0 rfl ?_
      refine jr_lald (v := lN (d i)) hE dX8_addMultiple_21 hh (vp_in_nI (by omega) (by omega)) (by rw [nI_clamp (by omega), hf2 i (by omega), hge i (by omega)]) ?_
      refine jr_ladd (z := lN (c + d i)) hE dX8_addMultiple_22 (lN_add _ _) ?_
      refine jr_lstore (lv' := [(4, .long (lN (c + d i))), (6, .int (nI i)), (0, .ref o), (1, .ref ha), (2, .long (lN fac))]) hE dX8_addMultiple_23 (by decide) rfl ?_
      refine jr_iload hE dX8_addMultiple_25 1 rfl ?_
      refine jr_aload_n hE dX8_addMultiple_27 3 rfl ?_
      refine jr_alen (v := nI 9) hE dX8_addMultiple_28 ha1 rfl rfl ?_
      refine jr_icmp_ge (tgt := 43) hE dX8_addMultiple_29 (by decide) (fun c_29 => absurd c_29 (nI_ge (b := 9) (by omega) (by decide))) (fun c_29 => ?_)
      refine jr_lload hE dX8_addMultiple_32 0 rfl ?_
      refine jr_aload_n hE dX8_addMultiple_34 3 rfl ?_
      refine jr_iload hE dX8_addMultiple_35 1 rfl ?_
      refine jr_lald (v := lN (da i)) hE dX8_addMultiple_37 ha1 (vp_in_nI (by omega) (by omega)) (by rw [nI_clamp (by omega)]; exact hfa i (by omega)) ?_
      refine jr_lload_n hE dX8_addMultiple_38 4 rfl ?_
      refine jr_lmul (z := lN (da i * fac)) hE dX8_addMultiple_39 (lN_mul _ _) ?_
      refine jr_ladd (z := lN s) hE dX8_addMultiple_40 (by rw [lN_add, ← hs]) ?_
      refine jr_lstore (lv' := [(4, .long (lN s)), (6, .int (nI i)), (0, .ref o), (1, .ref ha), (2, .long (lN fac))]) hE dX8_addMultiple_41 (by decide) rfl ?_
      refine jr_aload_n hE dX8_addMultiple_43 2 rfl ?_
      refine jr_get hE dX8_addMultiple_44 f7 ho rfl ?_
      refine jr_iload hE dX8_addMultiple_47 1 rfl ?_
      refine jr_lload hE dX8_addMultiple_49 0 rfl ?_
      refine jr_ldc2 (v := (4294967295 : Int64)) hE dX8_addMultiple_51 (by decide +kernel) ?_
      refine jr_land (z := lN (s % 2 ^ 32)) hE dX8_addMultiple_54 (m32 s hsb) ?_
      refine jr_last hE dX8_addMultiple_55 hh (vp_in_nI (by omega) (by omega)) (fun F1 g2 u3 => ?_)
      obtain ⟨f4, ef4⟩ : ∃ z, z = vp_updL f2 (nI i).toNatClampNeg (lN (s % 2 ^ 32)) := ⟨_, rfl⟩
      rw [← ef4] at g2
      have g5 := ho.upk u3 hh (Nat.ne_of_beq_eq_false rfl)
      have g6 := ha1.up u3 (jn2 hnd 2 1 rfl rfl (by decide))
      refine jr_lload hE dX8_addMultiple_56 0 rfl ?_
      refine jr_bipush (v := (32 : Int32)) hE dX8_addMultiple_58 (by decide) ?_
      refine jr_lushr (z := lN (s / 2 ^ 32)) hE dX8_addMultiple_60 (s32 s hsb) ?_
      refine jr_lstore (lv' := [(4, .long (lN (s / 2 ^ 32))), (6, .int (nI i)), (0, .ref o), (1, .ref ha), (2, .long (lN fac))]) hE dX8_addMultiple_61 (by decide) rfl ?_
      refine jr_iinc (v := nI (i + 1)) (lv' := [(6, .int (nI (i + 1))), (4, .long (lN (s / 2 ^ 32))), (0, .ref o), (1, .ref ha), (2, .long (lN fac))]) hE dX8_addMultiple_63 1 rfl (nI_1 _) (by decide) rfl ?_
      refine jr_goto (tgt := 6) hE dX8_addMultiple_66 (by decide) ?_
      exact ih (i + 1) F1 f4 (du d2 i (s % 2 ^ 32)) (s / 2 ^ 32) (by omega) g5 g2 g6 (lst hf2 (by omega) ef4) (du_ge hge) (du_lt hd2 (Nat.mod_lt _ (by decide))) (by omega) (am_inv hinv hs) (fun x hx => (u3 x (jne hx 0 rfl)).trans (hfr x hx))
  refine jr_lconst (v := (0 : Int64)) hE dX8_addMultiple_0 (by decide) ?_
  refine jr_lstore (lv' := [(4, .long (0 : Int64)), (0, .ref o), (1, .ref ha), (2, .long (lN fac))]) hE dX8_addMultiple_1 (by decide) rfl ?_
  refine jr_iconst (v := (0 : Int32)) hE dX8_addMultiple_3 (by decide) ?_
  refine jr_istore (lv' := [(6, .int (0 : Int32)), (4, .long (0 : Int64)), (0, .ref o), (1, .ref ha), (2, .long (lN fac))]) hE dX8_addMultiple_4 (by decide) rfl ?_
  exact loop 8 0 F f d 0 rfl ho hh ha1 hf (fun _ _ => rfl) hd (by decide) (by simp [dv]) (fun _ _ => rfl)

theorem dv_lex {d e : Nat → Nat} {k : Nat} : ∀ n, k < n → (∀ j, j < n → k < j → d j = e j) → d k < e k → (∀ j, j < n → d j < 2 ^ 32) → dv d n < dv e n
  | 0, h, _, _, _ => absurd h (Nat.not_lt_zero k)
  | n + 1, h, he, hk, hd => by
    rw [dv, dv]
    rcases Nat.lt_or_ge k n with q | q
    · have := dv_lex n q (fun j hj => he j (by omega)) hk (fun j hj => hd j (by omega))
      rw [he n (by omega) q]; omega
    · have e0 : k = n := by omega
      subst e0
      have h1 := dv_lt k (fun j hj => hd j (by omega))
      have h2 : (d k + 1) * 2 ^ (32 * k) ≤ e k * 2 ^ (32 * k) := Nat.mul_le_mul_right _ hk
      rw [Nat.add_mul] at h2
      omega
theorem cmp0 {a b : Nat} (ha : a < 2 ^ 63) (hb : b < 2 ^ 63) : lg_cmp (lN a) (lN b) = 0 ↔ a = b := by
  have h1 := pk_lLT hb ha
  have h2 := pk_lEQ ha hb
  unfold lg_cmp
  by_cases q : b < a
  · rw [if_pos (h1.mpr q)]
    constructor
    · intro h; exact absurd h (by decide)
    · intro h; omega
  · rw [if_neg (fun h => q (h1.mp h))]
    by_cases q2 : a = b
    · rw [if_pos (h2.mpr q2)]; simp [q2]
    · rw [if_neg (fun h => q2 (h2.mp h))]
      constructor
      · intro h; exact absurd h (by decide)
      · intro h; exact absurd h q2
theorem cmpge {a b : Nat} (ha : a < 2 ^ 63) (hb : b < 2 ^ 63) : 0 ≤ lg_cmp (lN a) (lN b) ↔ b ≤ a := by
  have h1 := pk_lLT hb ha
  have h2 := pk_lEQ ha hb
  unfold lg_cmp
  by_cases q : b < a
  · rw [if_pos (h1.mpr q)]
    constructor
    · intro _; omega
    · intro _; decide
  · rw [if_neg (fun h => q (h1.mp h))]
    by_cases q2 : a = b
    · rw [if_pos (h2.mpr q2)]
      constructor
      · intro _; omega
      · intro _; decide
    · rw [if_neg (fun h => q2 (h2.mp h))]
      constructor
      · intro h; exact absurd h (by decide)
      · intro h; omega
theorem d8_eq {d : Nat → Nat} {x : Nat} (hx : dv d 9 = x) (hd : ∀ j, j < 8 → d j < 2 ^ 32) : d 8 = x / 2 ^ 256 ∧ dv d 8 = x % 2 ^ 256 := by
  have h := dv_lt 8 hd
  rw [dv9] at hx
  rw [show 32 * 8 = 256 from rfl] at h
  generalize 2 ^ 256 = B at *
  generalize dv d 8 = a at *
  subst hx
  have hB : 0 < B := by omega
  rw [Nat.add_mul_div_right _ _ hB, Nat.div_eq_of_lt h, Nat.add_mul_mod_self_right, Nat.mod_eq_of_lt h]
  exact ⟨(Nat.zero_add _).symm, rfl⟩

set_option maxHeartbeats 4000000 in
set_option maxRecDepth 100000 in
theorem c_X8_isBelowN (l : Launch) (G : Nat → ClassId) (o h x : Nat) : jKi l yX8_isBelowN wsX8_isBelowN ({ frames := 0, cells := 0, slots := 0, locals := 0 }) G [.ref o] (fun L F => jSc G L F o h x ∧ x < 2 ^ 256) (fun L F r F1 => F = F1 ∧ r = b2i (x < NN)) := by
  refine jm_ki (cc := cX8_isBelowN) (maxL := 2) (rt := .boolean) (by decide) rfl (Nat.le_of_ble_eq_true rfl) ?_
  intro E L F hE hR hpre
  have hE : jOk E G _ cX8_isBelowN 2 RX8 wsX8_isBelowN := hE

  have f7 : jFl RX8 wsX8_isBelowN 7 8 0 := ⟨rfl, by decide, by decide +kernel, by decide +kernel⟩
  obtain ⟨⟨f, d, ho, hh, hf, hd, hd8, hx⟩, hxb⟩ := hpre
  have hx8 : dv d 8 = x := dv98 hx hxb
  have loop : ∀ (k : Nat), k ≤ 8 → (∀ j, j < 8 → k ≤ j → d j = nnd j) → J E L F 0 0 3 [(1, .int (nI k - 1)), (0, .ref o)] [] := by
    intro k
    induction k with
    | zero =>
      intro hk8 hge
      refine jr_iload_n hE dX8_isBelowN_3 0 rfl ?_
      refine jr_if_lt (tgt := 49) hE dX8_isBelowN_4 (by decide) (fun c_4 => ?_) (fun c_4 => absurd (by decide) c_4)
      refine jr_iconst (v := (0 : Int32)) hE dX8_isBelowN_49 (by decide) ?_
      exact hR F 0 _ _ dX8_isBelowN_50 rfl ⟨rfl, (b2i_f (by rw [← hx8, dv_congr 8 (fun j hj => hge j hj (Nat.zero_le j)), nn_v]; exact Nat.lt_irrefl _)).symm⟩
    | succ k ih =>
      intro hk8 hge
      have hk : k < 8 := hk8
      have hdk := hd k hk
      have hnk := nn_lt k hk
      rw [nI_pred]
      refine jr_iload_n hE dX8_isBelowN_3 0 rfl ?_
      refine jr_if_lt (tgt := 49) hE dX8_isBelowN_4 (by decide) (fun c_4 => absurd c_4 (nI_pos (by omega))) (fun c_4 => ?_)
      refine jr_aload_n hE dX8_isBelowN_7 1 rfl ?_
      refine jr_get hE dX8_isBelowN_8 f7 ho rfl ?_
      refine jr_iload_n hE dX8_isBelowN_11 0 rfl ?_
      refine jr_lald (v := lN (d k)) hE dX8_isBelowN_12 hh (vp_in_nI (by omega) (by omega)) (by rw [nI_clamp (by omega)]; exact hf k (by omega)) ?_
      refine jr_gsNN hE dX8_isBelowN_13 (by decide +kernel) ?_
      refine jr_iload_n hE dX8_isBelowN_16 0 rfl ?_
      refine jr_ldNN (v := lN (nnd k)) hE dX8_isBelowN_17 (vp_in_nI (by omega) (by omega)) (by rw [nI_clamp (by omega)]; exact nn_at k (by omega)) ?_
      refine jr_lcmp hE dX8_isBelowN_18 ?_
      refine jr_if_eq (tgt := 43) hE dX8_isBelowN_19 (by decide) (fun c19 => ?_) (fun c19 => ?_)
      · refine jr_iinc (v := nI k - 1) (lv' := [(1, .int (nI k - 1)), (0, .ref o)]) hE dX8_isBelowN_43 0 rfl (im1 _) (by decide) rfl ?_
        refine jr_goto (tgt := 3) hE dX8_isBelowN_46 (by decide) ?_
        exact ih (by omega) (fun j hj hj2 => by
          rcases Nat.lt_or_ge k j with q | q
          · exact hge j hj q
          · rw [show j = k by omega]; exact (cmp0 (by omega) (by omega)).mp c19)
      · refine jr_aload_n hE dX8_isBelowN_22 1 rfl ?_
        refine jr_get hE dX8_isBelowN_23 f7 ho rfl ?_
        refine jr_iload_n hE dX8_isBelowN_26 0 rfl ?_
        refine jr_lald (v := lN (d k)) hE dX8_isBelowN_27 hh (vp_in_nI (by omega) (by omega)) (by rw [nI_clamp (by omega)]; exact hf k (by omega)) ?_
        refine jr_gsNN hE dX8_isBelowN_28 (by decide +kernel) ?_
        refine jr_iload_n hE dX8_isBelowN_31 0 rfl ?_
        refine jr_ldNN (v := lN (nnd k)) hE dX8_isBelowN_32 (vp_in_nI (by omega) (by omega)) (by rw [nI_clamp (by omega)]; exact nn_at k (by omega)) ?_
        refine jr_lcmp hE dX8_isBelowN_33 ?_
        refine jr_if_ge (tgt := 41) hE dX8_isBelowN_34 (by decide) (fun c34 => ?_) (fun c34 => ?_)
        · refine jr_iconst (v := (0 : Int32)) hE dX8_isBelowN_41 (by decide) ?_
          exact hR F 0 _ _ dX8_isBelowN_42 rfl ⟨rfl, (b2i_f (fun hlt => by
            have h1 := (cmpge (by omega) (by omega)).mp c34
            have h2 : d k ≠ nnd k := fun e => c19 ((cmp0 (by omega) (by omega)).mpr e)
            have h3 := dv_lex (d := nnd) (e := d) 8 hk (fun j hj hj2 => (hge j hj (by omega)).symm) (by omega) nn_lt
            rw [nn_v, hx8] at h3
            omega)).symm⟩
        · refine jr_iconst (v := (1 : Int32)) hE dX8_isBelowN_37 (by decide) ?_
          refine jr_goto (tgt := 42) hE dX8_isBelowN_38 (by decide) ?_
          exact hR F 1 _ _ dX8_isBelowN_42 rfl ⟨rfl, (b2i_t (by
            have h1 : d k < nnd k := by
              rcases Nat.lt_or_ge (d k) (nnd k) with q | q
              · exact q
              · exact absurd ((cmpge (by omega) (by omega)).mpr q) c34
            have h3 := dv_lex (d := d) (e := nnd) 8 hk (fun j hj hj2 => hge j hj (by omega)) h1 hd
            rw [nn_v, hx8] at h3
            exact h3)).symm⟩
  refine jr_bipush (v := (7 : Int32)) hE dX8_isBelowN_0 (by decide) ?_
  refine jr_istore_n (lv' := [(1, .int (7 : Int32)), (0, .ref o)]) hE dX8_isBelowN_2 (by decide) rfl ?_
  exact loop 8 (by omega) (fun j hj hj2 => absurd hj2 (by omega))

theorem z7 (x p q r s t u v : Nat) : x + 0 * p + 0 * q + 0 * r + 0 * s + 0 * t + 0 * u + 0 * v = x := by simp
theorem bn_z {d : Nat → Nat} {a b : Nat} (hz : ∀ j, j < 9 → d j = 0) (j : Nat) (h2 : 2 ≤ j) (hj : j < 9) : du (du d 0 a) 1 b j = 0 := by
  rw [du_n (by omega), du_n (by omega), hz j hj]
theorem bn_v {d : Nat → Nat} {a b : Nat} (hz : ∀ j, j < 9 → d j = 0) : dv (du (du d 0 a) 1 b) 9 = a + b * 2 ^ 32 := by
  have h0 : du (du d 0 a) 1 b 0 = a := by rw [du_n (by decide), du_s]
  have h1 : du (du d 0 a) 1 b 1 = b := du_s
  have hh := bn_z (a := a) (b := b) hz
  rw [dv9, dv8, h0, h1, hh 2 (by decide) (by decide), hh 3 (by decide) (by decide), hh 4 (by decide) (by decide), hh 5 (by decide) (by decide), hh 6 (by decide) (by decide), hh 7 (by decide) (by decide), hh 8 (by decide) (by decide)]
  exact z7 _ _ _ _ _ _ _ _

set_option maxHeartbeats 4000000 in
set_option maxRecDepth 100000 in
theorem c_X8_becomeNumber (l : Launch) (G : Nat → ClassId) (o h x n : Nat) : jKv l yX8_becomeNumber wsX8_becomeNumber ({ frames := 0, cells := 0, slots := 0, locals := 0 }) G [.ref o, .long (lN n)] (fun L F => jSc G L F o h x ∧ n < 2 ^ 64) (fun L F F1 => jSc G L F1 o h n ∧ ∀ x, x ∉ [h] → F1 x = F x) := by
  refine jm_kv (cc := cX8_becomeNumber) (maxL := 4) (by decide) rfl (Nat.le_of_ble_eq_true rfl) ?_
  intro E L F hE hR hpre
  have hE : jOk E G _ cX8_becomeNumber 4 RX8 wsX8_becomeNumber := hE

  have f7 : jFl RX8 wsX8_becomeNumber 7 8 0 := ⟨rfl, by decide, by decide +kernel, by decide +kernel⟩
  obtain ⟨⟨f, d, ho, hh, hf, hd, hd8, hx⟩, hn⟩ := hpre
  have loop : ∀ (r i : Nat) (F2 : Nat → va_E) (f2 : Nat → Int64) (d2 : Nat → Nat), i + r = 9 → jF L F2 o (.inr (8, [.ref h])) → jF L F2 h (.inl (G 2, 9, .inr (.inl f2))) → (∀ j, j < 9 → f2 j = lN (d2 j)) → (∀ j, j < 8 → d2 j < 2 ^ 32) → d2 8 < 2 ^ 34 → (∀ j, j < i → d2 j = 0) → (∀ x, x ∉ [h] → F2 x = F x) → J E L F2 0 0 2 [(3, .int (nI i)), (0, .ref o), (1, .long (lN n))] [] := by
    intro r
    induction r with
    | zero =>
      intro i F2 f2 d2 hin ho hh hf2 hd2 hd8 hz hfr
      refine jr_iload_n hE dX8_becomeNumber_2 0 rfl ?_
      refine jr_bipush (v := (9 : Int32)) hE dX8_becomeNumber_3 (by decide) ?_
      refine jr_icmp_ge (tgt := 21) hE dX8_becomeNumber_5 (by decide) (fun c_5 => ?_) (fun c_5 => absurd (nI_le (a := 9) (by omega) (by omega)) c_5)
      refine jr_aload_n hE dX8_becomeNumber_21 1 rfl ?_
      refine jr_get hE dX8_becomeNumber_22 f7 ho rfl ?_
      refine jr_iconst (v := (0 : Int32)) hE dX8_becomeNumber_25 (by decide) ?_
      refine jr_lload_n hE dX8_becomeNumber_26 2 rfl ?_
      refine jr_ldc2 (v := (4294967295 : Int64)) hE dX8_becomeNumber_27 (by decide +kernel) ?_
      refine jr_land (z := lN (n % 2 ^ 32)) hE dX8_becomeNumber_30 (m32 n hn) ?_
      refine jr_last hE dX8_becomeNumber_31 hh (vp_in_nI (n := 0) (by decide) (by decide)) (fun F1 g2 u3 => ?_)
      obtain ⟨f4, ef4⟩ : ∃ z, z = vp_updL f2 (0 : Int32).toNatClampNeg (lN (n % 2 ^ 32)) := ⟨_, rfl⟩
      rw [← ef4] at g2
      have g5 := ho.upk u3 hh (Nat.ne_of_beq_eq_false rfl)
      skip
      refine jr_aload_n hE dX8_becomeNumber_32 1 rfl ?_
      refine jr_get hE dX8_becomeNumber_33 f7 g5 rfl ?_
      refine jr_iconst (v := (1 : Int32)) hE dX8_becomeNumber_36 (by decide) ?_
      refine jr_lload_n hE dX8_becomeNumber_37 2 rfl ?_
      refine jr_bipush (v := (32 : Int32)) hE dX8_becomeNumber_38 (by decide) ?_
      refine jr_lushr (z := lN (n / 2 ^ 32)) hE dX8_becomeNumber_40 (s32 n hn) ?_
      refine jr_last hE dX8_becomeNumber_41 g2 (vp_in_nI (n := 1) (by decide) (by decide)) (fun F6 g7 u8 => ?_)
      obtain ⟨f9, ef9⟩ : ∃ z, z = vp_updL f4 (1 : Int32).toNatClampNeg (lN (n / 2 ^ 32)) := ⟨_, rfl⟩
      rw [← ef9] at g7
      have g10 := g5.upk u8 g2 (Nat.ne_of_beq_eq_false rfl)
      exact hR F6 _ _ dX8_becomeNumber_42 ⟨⟨_, du (du d2 0 (n % 2 ^ 32)) 1 (n / 2 ^ 32), g10, g7, lst (show ∀ j, j < 9 → f4 j = lN (du d2 0 (n % 2 ^ 32) j) from lst hf2 (by decide) (by rw [ef4]; rfl)) (by decide) (by rw [ef9]; rfl), du_lt (du_lt hd2 (Nat.mod_lt _ (by decide))) (by omega), by rw [bn_z (fun j hj => hz j (by omega)) 8 (by decide) (by decide)]; decide, (bn_v (fun j hj => hz j (by omega))).trans (by rw [Nat.mul_comm]; exact Nat.mod_add_div n (2 ^ 32))⟩, fun x hx => (u8 x (jne hx 0 rfl)).trans ((u3 x (jne hx 0 rfl)).trans (hfr x hx))⟩
    | succ r ih =>
      intro i F2 f2 d2 hin ho hh hf2 hd2 hd8 hz hfr
      refine jr_iload_n hE dX8_becomeNumber_2 0 rfl ?_
      refine jr_bipush (v := (9 : Int32)) hE dX8_becomeNumber_3 (by decide) ?_
      refine jr_icmp_ge (tgt := 21) hE dX8_becomeNumber_5 (by decide) (fun c_5 => absurd c_5 (nI_ge (b := 9) (by omega) (by omega))) (fun c_5 => ?_)
      refine jr_aload_n hE dX8_becomeNumber_8 1 rfl ?_
      refine jr_get hE dX8_becomeNumber_9 f7 ho rfl ?_
      refine jr_iload_n hE dX8_becomeNumber_12 0 rfl ?_
      refine jr_lconst (v := (0 : Int64)) hE dX8_becomeNumber_13 (by decide) ?_
      refine jr_last hE dX8_becomeNumber_14 hh (vp_in_nI (by omega) (by omega)) (fun F1 g2 u3 => ?_)
      obtain ⟨f4, ef4⟩ : ∃ z, z = vp_updL f2 (nI i).toNatClampNeg (0 : Int64) := ⟨_, rfl⟩
      rw [← ef4] at g2
      have g5 := ho.upk u3 hh (Nat.ne_of_beq_eq_false rfl)
      refine jr_iinc (v := nI (i + 1)) (lv' := [(3, .int (nI (i + 1))), (0, .ref o), (1, .long (lN n))]) hE dX8_becomeNumber_15 0 rfl (nI_1 _) (by decide) rfl ?_
      refine jr_goto (tgt := 2) hE dX8_becomeNumber_18 (by decide) ?_
      exact ih (i + 1) F1 _ (du d2 i 0) (by omega) g5 g2 (lst hf2 (by omega) ef4) (du_lt hd2 (by decide)) (by
        by_cases q : (8 : Nat) = i
        · rw [← q, du_s]; decide
        · rw [du_n q]; exact hd8) (fun j hj => by
        by_cases q : j = i
        · rw [q, du_s]
        · rw [du_n q]; exact hz j (by omega)) (fun x hx => (u3 x (jne hx 0 rfl)).trans (hfr x hx))
  refine jr_iconst (v := (0 : Int32)) hE dX8_becomeNumber_0 (by decide) ?_
  refine jr_istore_n (lv' := [(3, .int (0 : Int32)), (0, .ref o), (1, .long (lN n))]) hE dX8_becomeNumber_1 (by decide) rfl ?_
  exact loop 9 0 F f d rfl ho hh hf hd hd8 (fun j hj => absurd hj (Nat.not_lt_zero j)) (fun _ _ => rfl)

set_option maxHeartbeats 4000000 in
set_option maxRecDepth 100000 in
theorem c_X8_become (l : Launch) (G : Nat → ClassId) (o h o2 h2 x y : Nat) : jKv l yX8_become wsX8_become ({ frames := 0, cells := 0, slots := 0, locals := 0 }) G [.ref o, .ref o2] (fun L F => jSc G L F o h x ∧ jSc G L F o2 h2 y ∧ [o, h, o2, h2].Nodup) (fun L F F1 => jSc G L F1 o h y ∧ ∀ x, x ∉ [h] → F1 x = F x) := by
  refine jm_kv (cc := cX8_become) (maxL := 3) (by decide) rfl (Nat.le_of_ble_eq_true rfl) ?_
  intro E L F hE hR hpre
  have hE : jOk E G _ cX8_become 3 RX8 wsX8_become := hE

  have f7 : jFl RX8 wsX8_become 7 8 0 := ⟨rfl, by decide, by decide +kernel, by decide +kernel⟩
  obtain ⟨⟨f, d, ho, hh, hf, hd, hd8, hx⟩, ⟨fa, da, ho2, hh2, hfa, hg, hg8, hy⟩, hnd⟩ := hpre
  have loop : ∀ (r i : Nat) (F2 : Nat → va_E) (f2 : Nat → Int64) (d2 : Nat → Nat), i + r = 9 → jF L F2 o (.inr (8, [.ref h])) → jF L F2 h (.inl (G 2, 9, .inr (.inl f2))) → jF L F2 o2 (.inr (8, [.ref h2])) → jF L F2 h2 (.inl (G 2, 9, .inr (.inl fa))) → (∀ j, j < 9 → f2 j = lN (d2 j)) → (∀ j, j < 8 → d2 j < 2 ^ 32) → d2 8 < 2 ^ 34 → (∀ j, j < i → d2 j = da j) → (∀ x, x ∉ [h] → F2 x = F x) → J E L F2 0 0 2 [(2, .int (nI i)), (0, .ref o), (1, .ref o2)] [] := by
    intro r
    induction r with
    | zero =>
      intro i F2 f2 d2 hin ho hh ho2 hh2 hf2 hd2 hd8 hz hfr
      refine jr_iload_n hE dX8_become_2 0 rfl ?_
      refine jr_bipush (v := (9 : Int32)) hE dX8_become_3 (by decide) ?_
      refine jr_icmp_ge (tgt := 26) hE dX8_become_5 (by decide) (fun c_5 => ?_) (fun c_5 => absurd (nI_le (a := 9) (by omega) (by omega)) c_5)
      exact hR F2 _ _ dX8_become_26 ⟨⟨f2, d2, ho, hh, hf2, hd2, hd8, by rw [← hy]; exact dv_congr 9 (fun j hj => hz j (by omega))⟩, hfr⟩
    | succ r ih =>
      intro i F2 f2 d2 hin ho hh ho2 hh2 hf2 hd2 hd8 hz hfr
      refine jr_iload_n hE dX8_become_2 0 rfl ?_
      refine jr_bipush (v := (9 : Int32)) hE dX8_become_3 (by decide) ?_
      refine jr_icmp_ge (tgt := 26) hE dX8_become_5 (by decide) (fun c_5 => absurd c_5 (nI_ge (b := 9) (by omega) (by omega))) (fun c_5 => ?_)
      refine jr_aload_n hE dX8_become_8 1 rfl ?_
      refine jr_get hE dX8_become_9 f7 ho rfl ?_
      refine jr_iload_n hE dX8_become_12 0 rfl ?_
      refine jr_aload_n hE dX8_become_13 2 rfl ?_
      refine jr_get hE dX8_become_14 f7 ho2 rfl ?_
      refine jr_iload_n hE dX8_become_17 0 rfl ?_
      refine jr_lald (v := lN (da i)) hE dX8_become_18 hh2 (vp_in_nI (by omega) (by omega)) (by rw [nI_clamp (by omega)]; exact hfa i (by omega)) ?_
      refine jr_last hE dX8_become_19 hh (vp_in_nI (by omega) (by omega)) (fun F1 g2 u3 => ?_)
      obtain ⟨f4, ef4⟩ : ∃ z, z = vp_updL f2 (nI i).toNatClampNeg (lN (da i)) := ⟨_, rfl⟩
      rw [← ef4] at g2
      have g5 := ho.upk u3 hh (Nat.ne_of_beq_eq_false rfl)
      have g6 := ho2.upk u3 hh (Nat.ne_of_beq_eq_false rfl)
      have g7 := hh2.up u3 (jn2 hnd 3 1 rfl rfl (by decide))
      refine jr_iinc (v := nI (i + 1)) (lv' := [(2, .int (nI (i + 1))), (0, .ref o), (1, .ref o2)]) hE dX8_become_20 0 rfl (nI_1 _) (by decide) rfl ?_
      refine jr_goto (tgt := 2) hE dX8_become_23 (by decide) ?_
      exact ih (i + 1) F1 _ (du d2 i (da i)) (by omega) g5 g2 g6 g7 (lst hf2 (by omega) ef4) (fun j hj => by
        by_cases q : j = i
        · rw [q, du_s]; exact hg i (by omega)
        · rw [du_n q]; exact hd2 j hj) (by
        by_cases q : (8 : Nat) = i
        · rw [← q, du_s]; exact hg8
        · rw [du_n q]; exact hd8) (fun j hj => by
        by_cases q : j = i
        · rw [q, du_s]
        · rw [du_n q]; exact hz j (by omega)) (fun x hx => (u3 x (jne hx 0 rfl)).trans (hfr x hx))
  refine jr_iconst (v := (0 : Int32)) hE dX8_become_0 (by decide) ?_
  refine jr_istore_n (lv' := [(2, .int (0 : Int32)), (0, .ref o), (1, .ref o2)]) hE dX8_become_1 (by decide) rfl ?_
  exact loop 9 0 F f d rfl ho hh ho2 hh2 hf hd hd8 (fun j hj => absurd hj (Nat.not_lt_zero j)) (fun _ _ => rfl)

theorem l2i_15 {n : Nat} (h : n < 2 ^ 32) : (lN n).toInt32 &&& 15 = nI (n % 16) := by
  rw [lN_i]; exact pk_andN h 4 (by decide)
theorem dv_split {d : Nat → Nat} {l : Nat} : ∀ n, l < n → (∀ j, j < l → d j < 2 ^ 32) → ∃ m, dv d n = dv d l + d l * 2 ^ (32 * l) + m * 2 ^ (32 * (l + 1))
  | 0, h, _ => absurd h (Nat.not_lt_zero _)
  | n + 1, h, hd => by
    rcases Nat.lt_or_ge l n with q | q
    · obtain ⟨m, hm⟩ := dv_split n q hd
      refine ⟨m + d n * 2 ^ (32 * (n - (l + 1))), ?_⟩
      rw [dv, hm, Nat.add_mul, Nat.mul_assoc, ← Nat.pow_add, show 32 * (n - (l + 1)) + 32 * (l + 1) = 32 * n by omega]
      omega
    · have e : l = n := by omega
      subst e
      exact ⟨0, by rw [dv]; omega⟩
theorem dig_of {d : Nat → Nat} {x i : Nat} (hx : dv d 9 = x) (hd : ∀ j, j < 8 → d j < 2 ^ 32) (hi : i < 64) : d (i / 8) / 2 ^ (4 * (i % 8)) % 16 = x / 16 ^ i % 16 := by
  obtain ⟨m, hm⟩ := dv_split (d := d) (l := i / 8) 9 (by omega) (fun j hj => hd j (by omega))
  have h1 := dv_lt (d := d) (i / 8) (fun j hj => hd j (by omega))
  have h2 := hd (i / 8) (by omega)
  rw [← hx, hm, show (16 : Nat) ^ i = 2 ^ (32 * (i / 8)) * 2 ^ (4 * (i % 8)) by rw [← Nat.pow_add, show (16 : Nat) = 2 ^ 4 from rfl, ← Nat.pow_mul]; congr 1; omega]
  rw [← Nat.div_div_eq_div_mul, show 32 * (i / 8 + 1) = 32 + 32 * (i / 8) by omega, Nat.pow_add, ← Nat.mul_assoc, Nat.add_assoc, ← Nat.add_mul, Nat.add_mul_div_right _ _ (Nat.two_pow_pos _), Nat.div_eq_of_lt h1, Nat.zero_add]
  generalize d (i / 8) = a at *
  have h3 : i % 8 < 8 := Nat.mod_lt _ (by decide)
  generalize i % 8 = k at *
  have hk : (2 : Nat) ^ 32 = 2 ^ (4 * k) * 2 ^ (32 - 4 * k) := by rw [← Nat.pow_add]; congr 1; omega
  have hk2 : (2 : Nat) ^ (32 - 4 * k) = 16 * 2 ^ (28 - 4 * k) := by rw [show 32 - 4 * k = 4 + (28 - 4 * k) by omega, Nat.pow_add]
  rw [hk, hk2, Nat.mul_comm m, Nat.mul_assoc, Nat.add_mul_div_left _ _ (Nat.two_pow_pos _), Nat.mul_assoc, Nat.add_mul_mod_self_left]

set_option maxHeartbeats 4000000 in
set_option maxRecDepth 100000 in
theorem c_X8_digit (l : Launch) (G : Nat → ClassId) (o h x i : Nat) : jKi l yX8_digit wsX8_digit ({ frames := 0, cells := 0, slots := 0, locals := 0 }) G [.ref o, .int (nI i)] (fun L F => jSc G L F o h x ∧ i < 64) (fun L F r F1 => F = F1 ∧ r = nI (x / 16 ^ i % 16)) := by
  refine jm_ki (cc := cX8_digit) (maxL := 3) (rt := .int) (by decide) rfl (Nat.le_of_ble_eq_true rfl) ?_
  intro E L F hE hR hpre
  have hE : jOk E G _ cX8_digit 3 RX8 wsX8_digit := hE
  obtain ⟨⟨f, d, ho, hh, hf, hd, hd8, hx⟩, hi⟩ := hpre
  have hdi := hd (i / 8) (by omega)
  have f7 : jFl RX8 wsX8_digit 7 8 0 := ⟨rfl, by decide, by decide +kernel, by decide +kernel⟩
  refine jr_iload_n hE dX8_digit_0 1 rfl ?_
  refine jr_iconst (v := (3 : Int32)) hE dX8_digit_1 (by decide) ?_
  refine jr_ishr (z := nI (i / 8)) hE dX8_digit_2 (pk_shrN (by omega) 3 3 (by decide)) ?_
  refine jr_istore_n (lv' := [(2, .int (nI (i / 8))), (0, .ref o), (1, .int (nI i))]) hE dX8_digit_3 (by decide) rfl ?_
  refine jr_iload_n hE dX8_digit_4 0 rfl ?_
  refine jr_if_lt (tgt := 34) hE dX8_digit_5 (by decide) (fun c_5 => absurd c_5 (nI_pos (by omega))) (fun c_5 => ?_)
  refine jr_iload_n hE dX8_digit_8 0 rfl ?_
  refine jr_bipush (v := (8 : Int32)) hE dX8_digit_9 (by decide) ?_
  refine jr_icmp_ge (tgt := 34) hE dX8_digit_11 (by decide) (fun c_11 => absurd c_11 (nI_ge (b := 8) (by omega) (by decide))) (fun c_11 => ?_)
  refine jr_aload_n hE dX8_digit_14 1 rfl ?_
  refine jr_get hE dX8_digit_15 f7 ho rfl ?_
  refine jr_iload_n hE dX8_digit_18 0 rfl ?_
  refine jr_lald (v := lN (d (i / 8))) hE dX8_digit_19 hh (vp_in_nI (by omega) (by omega)) (by rw [nI_clamp (by omega)]; exact hf (i / 8) (by omega)) ?_
  refine jr_iconst (v := (4 : Int32)) hE dX8_digit_20 (by decide) ?_
  refine jr_iload_n hE dX8_digit_21 2 rfl ?_
  refine jr_bipush (v := (7 : Int32)) hE dX8_digit_22 (by decide) ?_
  refine jr_iand (z := nI (i % 8)) hE dX8_digit_24 (pk_andN (m := 7) (by omega) 3 (by decide)) ?_
  refine jr_imul (z := nI (4 * (i % 8))) hE dX8_digit_25 (pk_mul 4 _) ?_
  refine jr_lushr (z := lN (d (i / 8) / 2 ^ (4 * (i % 8)))) hE dX8_digit_26 (wb_shr (by omega) (by omega)) ?_
  refine jr_l2i hE dX8_digit_27 rfl ?_
  refine jr_bipush (v := (15 : Int32)) hE dX8_digit_28 (by decide) ?_
  refine jr_iand (z := nI (x / 16 ^ i % 16)) hE dX8_digit_30 (by rw [l2i_15 (Nat.lt_of_le_of_lt (Nat.div_le_self _ _) hdi), dig_of hx hd hi]) ?_
  refine jr_goto (tgt := 35) hE dX8_digit_31 (by decide) ?_
  exact hR F _ _ _ dX8_digit_35 rfl ⟨rfl, rfl⟩

theorem dv_zero {d : Nat → Nat} : ∀ n, (∀ j, j < n → d j = 0) ↔ dv d n = 0
  | 0 => ⟨fun _ => rfl, fun _ j hj => absurd hj (Nat.not_lt_zero j)⟩
  | n + 1 => by
    rw [dv]
    have ih := dv_zero (d := d) n
    constructor
    · intro h
      rw [ih.mp (fun j hj => h j (by omega)), h n (by omega), Nat.zero_mul]
    · intro h j hj
      have h1 : dv d n = 0 := by omega
      have h2 : d n * 2 ^ (32 * n) = 0 := by omega
      rcases Nat.lt_or_ge j n with q | q
      · exact ih.mpr h1 j q
      · rw [show j = n by omega]
        rcases Nat.mul_eq_zero.mp h2 with e | e
        · exact e
        · exact absurd e (Nat.ne_of_gt (Nat.two_pow_pos _))
theorem or_lt34 {a b : Nat} (ha : a < 2 ^ 34) (hb : b < 2 ^ 34) : a ||| b < 2 ^ 34 := Nat.or_lt_two_pow ha hb
theorem dlt34 {d : Nat → Nat} (hd : ∀ j, j < 8 → d j < 2 ^ 32) (hd8 : d 8 < 2 ^ 34) : ∀ j, j < 9 → d j < 2 ^ 34 := by
  intro j hj
  rcases Nat.lt_or_ge j 8 with q | q
  · have := hd j q; omega
  · rw [show j = 8 by omega]; exact hd8

set_option maxHeartbeats 4000000 in
set_option maxRecDepth 100000 in
theorem c_X8_isZero (l : Launch) (G : Nat → ClassId) (o h x : Nat) : jKi l yX8_isZero wsX8_isZero ({ frames := 0, cells := 0, slots := 0, locals := 0 }) G [.ref o] (fun L F => jSc G L F o h x) (fun L F r F1 => F = F1 ∧ r = b2i (x = 0)) := by
  refine jm_ki (cc := cX8_isZero) (maxL := 4) (rt := .boolean) (by decide) rfl (Nat.le_of_ble_eq_true rfl) ?_
  intro E L F hE hR hpre
  have hE : jOk E G _ cX8_isZero 4 RX8 wsX8_isZero := hE

  have f7 : jFl RX8 wsX8_isZero 7 8 0 := ⟨rfl, by decide, by decide +kernel, by decide +kernel⟩
  obtain ⟨f, d, ho, hh, hf, hd, hd8, hx⟩ := hpre
  have hd9 := dlt34 hd hd8
  have loop : ∀ (r i a : Nat), i + r = 9 → a < 2 ^ 34 → (a = 0 ↔ ∀ j, j < i → d j = 0) → J E L F 0 0 4 [(3, .int (nI i)), (1, .long (lN a)), (0, .ref o)] [] := by
    intro r
    induction r with
    | zero =>
      intro i a hin ha hz
      refine jr_iload_n hE dX8_isZero_4 0 rfl ?_
      refine jr_bipush (v := (9 : Int32)) hE dX8_isZero_5 (by decide) ?_
      refine jr_icmp_ge (tgt := 25) hE dX8_isZero_7 (by decide) (fun c_7 => ?_) (fun c_7 => absurd (nI_le (a := 9) (by omega) (by omega)) c_7)
      refine jr_lload_n hE dX8_isZero_25 1 rfl ?_
      refine jr_lconst (v := (0 : Int64)) hE dX8_isZero_26 (by decide) ?_
      refine jr_lcmp hE dX8_isZero_27 ?_
      refine jr_if_ne (tgt := 35) hE dX8_isZero_28 (by decide) (fun c28 => ?_) (fun c28 => ?_)
      · refine jr_iconst (v := (0 : Int32)) hE dX8_isZero_35 (by decide) ?_
        exact hR F 0 _ _ dX8_isZero_36 rfl ⟨rfl, (b2i_f (fun e => c28 ((cmp0 (b := 0) (by omega) (by decide)).mpr (hz.mpr (fun j hj => (dv_zero 9).mpr (hx.trans e) j (by omega)))))).symm⟩
      · refine jr_iconst (v := (1 : Int32)) hE dX8_isZero_31 (by decide) ?_
        refine jr_goto (tgt := 36) hE dX8_isZero_32 (by decide) ?_
        exact hR F 1 _ _ dX8_isZero_36 rfl ⟨rfl, (b2i_t (hx.symm.trans ((dv_zero 9).mp (fun j hj => hz.mp ((cmp0 (b := 0) (by omega) (by decide)).mp c28) j (by omega))))).symm⟩
    | succ r ih =>
      intro i a hin ha hz
      have hdi := hd9 i (by omega)
      refine jr_iload_n hE dX8_isZero_4 0 rfl ?_
      refine jr_bipush (v := (9 : Int32)) hE dX8_isZero_5 (by decide) ?_
      refine jr_icmp_ge (tgt := 25) hE dX8_isZero_7 (by decide) (fun c_7 => absurd c_7 (nI_ge (b := 9) (by omega) (by omega))) (fun c_7 => ?_)
      refine jr_lload_n hE dX8_isZero_10 1 rfl ?_
      refine jr_aload_n hE dX8_isZero_11 2 rfl ?_
      refine jr_get hE dX8_isZero_12 f7 ho rfl ?_
      refine jr_iload_n hE dX8_isZero_15 0 rfl ?_
      refine jr_lald (v := lN (d i)) hE dX8_isZero_16 hh (vp_in_nI (by omega) (by omega)) (by rw [nI_clamp (by omega)]; exact hf i (by omega)) ?_
      refine jr_lor (z := lN (a ||| d i)) hE dX8_isZero_17 (wb_or (by omega) (by omega)) ?_
      refine jr_lstore_n (lv' := [(1, .long (lN (a ||| d i))), (3, .int (nI i)), (0, .ref o)]) hE dX8_isZero_18 (by decide) rfl ?_
      refine jr_iinc (v := nI (i + 1)) (lv' := [(3, .int (nI (i + 1))), (1, .long (lN (a ||| d i))), (0, .ref o)]) hE dX8_isZero_19 1 rfl (nI_1 _) (by decide) rfl ?_
      refine jr_goto (tgt := 4) hE dX8_isZero_22 (by decide) ?_
      exact ih (i + 1) (a ||| d i) (by omega) (or_lt34 ha hdi) (by
        rw [Nat.or_eq_zero_iff]
        constructor
        · intro h j hj
          rcases Nat.lt_or_ge j i with q | q
          · exact hz.mp h.1 j q
          · rw [show j = i by omega]; exact h.2
        · intro h
          exact ⟨hz.mpr (fun j hj => h j (by omega)), h i (by omega)⟩)
  refine jr_lconst (v := (0 : Int64)) hE dX8_isZero_0 (by decide) ?_
  refine jr_lstore_n (lv' := [(1, .long (0 : Int64)), (0, .ref o)]) hE dX8_isZero_1 (by decide) rfl ?_
  refine jr_iconst (v := (0 : Int32)) hE dX8_isZero_2 (by decide) ?_
  refine jr_istore_n (lv' := [(3, .int (0 : Int32)), (1, .long (0 : Int64)), (0, .ref o)]) hE dX8_isZero_3 (by decide) rfl ?_
  exact loop 9 0 0 rfl (by decide) ⟨fun _ j hj => absurd hj (Nat.not_lt_zero j), fun _ => rfl⟩

def rbd (i x : Nat) : Prop := match i with
  | 0 => x < 2 ^ 288
  | 1 => x < 2 ^ 256 + 2 ^ 162
  | _ => x < 2 ^ 256
theorem rbd_289 {i x : Nat} (h : rbd i x) : x < 2 ^ 288 := by
  match i, h with
  | 0, h => exact h
  | 1, h => exact Nat.lt_trans h (by decide)
  | n + 2, h => exact Nat.lt_trans h (by decide)
theorem fold_mod (x : Nat) : (x % 2 ^ 256 + NG * (x / 2 ^ 256)) % NN = x % NN := by
  have h := Nat.mod_add_div x (2 ^ 256)
  have e : (2 : Nat) ^ 256 = NN + NG := by decide
  have h2 : x = x % 2 ^ 256 + NG * (x / 2 ^ 256) + NN * (x / 2 ^ 256) := by
    have h3 : 2 ^ 256 * (x / 2 ^ 256) = NN * (x / 2 ^ 256) + NG * (x / 2 ^ 256) := by
      rw [← Nat.add_mul, ← e]
    rw [h3] at h
    omega
  have h4 : x % NN = (x % 2 ^ 256 + NG * (x / 2 ^ 256) + NN * (x / 2 ^ 256)) % NN := by rw [← h2]
  rw [h4, Nat.add_mul_mod_self_left]
theorem rbd_step {i x : Nat} (hi : i < 2) (h : rbd i x) : rbd (i + 1) (x % 2 ^ 256 + NG * (x / 2 ^ 256)) := by
  have h0 : x % 2 ^ 256 < 2 ^ 256 := Nat.mod_lt _ (Nat.two_pow_pos _)
  match i, hi, h with
  | 0, _, h =>
    have h1 : x / 2 ^ 256 < 2 ^ 32 := Nat.div_lt_of_lt_mul (by rw [← Nat.pow_add]; exact h)
    have h2 : NG * (x / 2 ^ 256) < 2 ^ 162 := Nat.lt_of_le_of_lt (Nat.mul_le_mul_left NG (Nat.le_of_lt h1)) (by decide)
    exact Nat.add_lt_add h0 h2
  | 1, _, h =>
    have h1 : x / 2 ^ 256 < 2 := Nat.div_lt_of_lt_mul (Nat.lt_trans h (by decide))
    show x % 2 ^ 256 + NG * (x / 2 ^ 256) < 2 ^ 256
    rcases Nat.lt_or_ge (x / 2 ^ 256) 1 with q | q
    · rw [show x / 2 ^ 256 = 0 from Nat.lt_one_iff.mp q, Nat.mul_zero]
      exact h0
    · have e1 : x / 2 ^ 256 = 1 := Nat.le_antisymm (Nat.le_of_lt_succ h1) q
      have h2 := Nat.mod_add_div x (2 ^ 256)
      rw [e1, Nat.mul_one] at h2
      rw [e1, Nat.mul_one]
      have h3 : x % 2 ^ 256 < 2 ^ 162 := by
        have h' : x < 2 ^ 256 + 2 ^ 162 := h
        generalize x % 2 ^ 256 = m at *
        generalize (2 : Nat) ^ 256 = B at *
        generalize (2 : Nat) ^ 162 = C at *
        omega
      exact Nat.lt_of_lt_of_le (Nat.add_lt_add_right h3 NG) (by decide)
theorem hi_zero {d : Nat → Nat} {x : Nat} (hd : ∀ j, j < 8 → d j < 2 ^ 32) (hx : dv d 9 = x) : dv (du d 8 0) 9 = x % 2 ^ 256 := by
  rw [dv9, du_s, dv_du (Nat.le_refl _), Nat.zero_mul, Nat.add_zero]
  exact (d8_eq hx hd).2
theorem jSc.hi0 {G : Nat → ClassId} {L : List Nat} {F1 : Nat → va_E} {o h x : Nat} {f g : Nat → Int64} {d : Nat → Nat} (b1 : jF L F1 o (.inr (8, [.ref h]))) (b2 : jF L F1 h (.inl (G 2, 9, .inr (.inl g)))) (hf : ∀ j, j < 9 → f j = lN (d j)) (hd : ∀ j, j < 8 → d j < 2 ^ 32) (hx : dv d 9 = x) (e : g = vp_updL f (nI 8).toNatClampNeg (lN 0)) : jSc G L F1 o h (x % 2 ^ 256) :=
  ⟨g, du d 8 0, b1, b2, lst hf (by decide) e, du_lt hd (by decide), by rw [du_s]; decide, hi_zero hd hx⟩
theorem red_fin {x y : Nat} (h : y % NN = x % NN) (hy : y < 2 ^ 256) : (y < NN → y = x % NN) ∧ (¬ y < NN → (y + NG * 1) % 2 ^ 256 = x % NN) := by
  constructor
  · intro q; rw [← h, Nat.mod_eq_of_lt q]
  · intro q
    have q2 : NN ≤ y := Nat.le_of_not_lt q
    have e : (2 : Nat) ^ 256 = NN + NG := by decide
    have h5 : y - NN < NN := by
      have : (2 : Nat) ^ 256 ≤ NN + NN := by decide
      omega
    rw [← h, Nat.mul_one, Nat.mod_eq_sub_mod q2, Nat.mod_eq_of_lt h5, show y + NG = (y - NN) + 2 ^ 256 by rw [e]; omega, Nat.add_mod_right]
    exact Nat.mod_eq_of_lt (Nat.lt_of_le_of_lt (Nat.sub_le _ _) hy)

set_option maxHeartbeats 4000000 in
set_option maxRecDepth 100000 in
theorem c_X8_reduce (l : Launch) (G : Nat → ClassId) (o h x : Nat) : jKv l yX8_reduce wsX8_reduce ({ frames := 1, cells := 0, slots := 0, locals := 26 }) G [.ref o] (fun L F => jSc G L F o h x ∧ x < 2 ^ 288) (fun L F F1 => jSc G L F1 o h (x % NN) ∧ ∀ x, x ∉ [h] → F1 x = F x) := by
  refine jm_kv (cc := cX8_reduce) (maxL := 4) (by decide) rfl (Nat.le_of_ble_eq_true rfl) ?_
  intro E L F hE hR hpre
  have hE : jOk E G _ cX8_reduce 4 RX8 wsX8_reduce := hE

  have f7 : jFl RX8 wsX8_reduce 7 8 0 := ⟨rfl, by decide, by decide +kernel, by decide +kernel⟩
  obtain ⟨hB, hxb⟩ := hpre
  have loop : ∀ (r i : Nat) (F2 : Nat → va_E) (x2 : Nat), i + r = 2 → jSc G L F2 o h x2 → x2 % NN = x % NN → rbd i x2 → (∀ x, x ∉ [h] → F2 x = F x) → J E L F2 0 0 2 [(1, .int (nI i)), (0, .ref o)] [] := by
    intro r
    induction r with
    | zero =>
      intro i F2 x2 hin hB hm hbd hfr
      have hb2 : x2 < 2 ^ 256 := by subst hin; exact hbd
      obtain ⟨f, d, ho, hh, hf, hd, hd8, hx⟩ := id hB
      refine jr_iload_n hE dX8_reduce_2 0 rfl ?_
      refine jr_iconst (v := (2 : Int32)) hE dX8_reduce_3 (by decide) ?_
      refine jr_icmp_ge (tgt := 37) hE dX8_reduce_4 (by decide) (fun c_4 => ?_) (fun c_4 => absurd (nI_le (a := 2) (by omega) (by omega)) c_4)
      refine jr_aload_n hE dX8_reduce_37 1 rfl ?_
      refine jr_kVi (ci := 8) (n := 0) (As := []) (rest := []) hE dX8_reduce_38 (fun l => c_X8_isBelowN l G o h x2) gX8_reduce_X8_isBelowN rfl hB.ob rfl (by decide +kernel) ⟨rfl, rfl, by decide, by decide⟩ (by decide) rfl rfl (Nat.le_of_ble_eq_true rfl) (⟨hB, hb2⟩) (fun r3 F1 q2 => ?_)
      obtain ⟨rfl, rfl⟩ := q2
      refine jr_if_ne (tgt := 60) hE dX8_reduce_41 (by decide) (fun c41 => ?_) (fun c41 => ?_)
      · exact hR F2 _ _ dX8_reduce_60 ⟨by
          have hlt : x2 < NN := by
            rcases Nat.lt_or_ge x2 NN with q | q
            · exact q
            · exact absurd (b2i_f (Nat.not_lt.mpr q)) c41
          rw [← (red_fin hm hb2).1 hlt]; exact hB, hfr⟩
      · have hr : b2i (x2 < NN) ≠ 1 := by rw [c41]; decide
        have hB1 := hB
        refine jr_aload_n hE dX8_reduce_44 1 rfl ?_
        refine jr_gsGAP hE dX8_reduce_45 (by decide +kernel) ?_
        refine jr_lconst (v := (1 : Int64)) hE dX8_reduce_48 (by decide) ?_
        refine jr_kVv (ci := 8) (n := 2) (As := [.ref (jT G 3), .long (1 : Int64)]) (rest := []) hE dX8_reduce_49 (fun l => c_X8_addMultipleG l G o h x2 1) gX8_reduce_X8_addMultiple rfl hB.ob rfl (by decide +kernel) ⟨rfl, rfl, by decide, by decide⟩ (by decide) rfl rfl (Nat.le_of_ble_eq_true rfl) (⟨hB, Nat.lt_trans hb2 (by decide), by decide⟩) (fun F4 q5 => ?_)
        obtain ⟨⟨f3, d3, ho3, hh3, hf3, hd3, hd83, hx3⟩, fr3⟩ := q5
        refine jr_aload_n hE dX8_reduce_52 1 rfl ?_
        refine jr_get hE dX8_reduce_53 f7 ho3 rfl ?_
        refine jr_bipush (v := (8 : Int32)) hE dX8_reduce_56 (by decide) ?_
        refine jr_lconst (v := (0 : Int64)) hE dX8_reduce_58 (by decide) ?_
        refine jr_last hE dX8_reduce_59 hh3 (vp_in_nI (n := 8) (by decide) (by decide)) (fun F6 g7 u8 => ?_)
        obtain ⟨f9, ef9⟩ : ∃ z, z = vp_updL f3 (8 : Int32).toNatClampNeg (0 : Int64) := ⟨_, rfl⟩
        rw [← ef9] at g7
        have g10 := ho3.upk u8 hh3 (Nat.ne_of_beq_eq_false rfl)
        exact hR F6 _ _ dX8_reduce_60 ⟨by rw [← (red_fin hm hb2).2 (fun q => hr (b2i_t q))]; exact jSc.hi0 g10 g7 hf3 hd3 hx3 ef9, fun x hx => (u8 x (jne hx 0 rfl)).trans ((fr3 x hx).trans (hfr x hx))⟩
    | succ r ih =>
      intro i F2 x2 hin hB hm hbd hfr
      obtain ⟨f, d, ho, hh, hf, hd, hd8, hx⟩ := id hB
      refine jr_iload_n hE dX8_reduce_2 0 rfl ?_
      refine jr_iconst (v := (2 : Int32)) hE dX8_reduce_3 (by decide) ?_
      refine jr_icmp_ge (tgt := 37) hE dX8_reduce_4 (by decide) (fun c_4 => absurd c_4 (nI_ge (b := 2) (by omega) (by decide))) (fun c_4 => ?_)
      refine jr_aload_n hE dX8_reduce_7 1 rfl ?_
      refine jr_get hE dX8_reduce_8 f7 ho rfl ?_
      refine jr_bipush (v := (8 : Int32)) hE dX8_reduce_11 (by decide) ?_
      refine jr_lald (v := lN (x2 / 2 ^ 256)) hE dX8_reduce_13 hh (vp_in_nI (n := 8) (by decide) (by decide)) (by rw [show f (8 : Int32).toNatClampNeg = f 8 from rfl, hf 8 (by decide), (d8_eq hx hd).1]) ?_
      refine jr_lstore_n (lv' := [(2, .long (lN (x2 / 2 ^ 256))), (1, .int (nI i)), (0, .ref o)]) hE dX8_reduce_14 (by decide) rfl ?_
      refine jr_aload_n hE dX8_reduce_15 2 rfl ?_
      refine jr_get hE dX8_reduce_16 f7 ho rfl ?_
      refine jr_bipush (v := (8 : Int32)) hE dX8_reduce_19 (by decide) ?_
      refine jr_lconst (v := (0 : Int64)) hE dX8_reduce_21 (by decide) ?_
      refine jr_last hE dX8_reduce_22 hh (vp_in_nI (n := 8) (by decide) (by decide)) (fun F1 g2 u3 => ?_)
      obtain ⟨f4, ef4⟩ : ∃ z, z = vp_updL f (8 : Int32).toNatClampNeg (0 : Int64) := ⟨_, rfl⟩
      rw [← ef4] at g2
      have g5 := ho.upk u3 hh (Nat.ne_of_beq_eq_false rfl)
      have hB1 : jSc G L F1 o h (x2 % 2 ^ 256) := jSc.hi0 g5 g2 hf hd hx ef4
      refine jr_aload_n hE dX8_reduce_23 2 rfl ?_
      refine jr_gsGAP hE dX8_reduce_24 (by decide +kernel) ?_
      refine jr_lload_n hE dX8_reduce_27 0 rfl ?_
      refine jr_kVv (ci := 8) (n := 2) (As := [.ref (jT G 3), .long (lN (x2 / 2 ^ 256))]) (rest := []) hE dX8_reduce_28 (fun l => c_X8_addMultipleG l G o h _ (x2 / 2 ^ 256)) gX8_reduce_X8_addMultiple rfl hB1.ob rfl (by decide +kernel) ⟨rfl, rfl, by decide, by decide⟩ (by decide) rfl rfl (Nat.le_of_ble_eq_true rfl) (⟨hB1, Nat.lt_trans (Nat.mod_lt _ (Nat.two_pow_pos _)) (by decide), Nat.div_lt_of_lt_mul (by rw [← Nat.pow_add]; exact rbd_289 hbd)⟩) (fun F6 q7 => ?_)
      obtain ⟨hB2, fr2⟩ := q7
      refine jr_iinc (v := nI (i + 1)) (lv' := [(1, .int (nI (i + 1))), (2, .long (lN (x2 / 2 ^ 256))), (0, .ref o)]) hE dX8_reduce_31 1 rfl (nI_1 _) (by decide) rfl ?_
      refine jr_goto (tgt := 2) hE dX8_reduce_34 (by decide) ?_
      refine jr_lv (lv' := [(1, .int (nI (i + 1))), (0, .ref o)]) [0, 2] rfl ?_
      exact ih (i + 1) F6 _ (by omega) hB2 ((fold_mod x2).trans hm) (rbd_step (by omega) hbd) (fun x hx => (fr2 x hx).trans ((u3 x (jne hx 0 rfl)).trans (hfr x hx)))
  refine jr_iconst (v := (0 : Int32)) hE dX8_reduce_0 (by decide) ?_
  refine jr_istore_n (lv' := [(1, .int (0 : Int32)), (0, .ref o)]) hE dX8_reduce_1 (by decide) rfl ?_
  exact loop 2 0 F x rfl hB rfl hxb (fun _ _ => rfl)

theorem du_lt_8 {d : Nat → Nat} {v : Nat} (hd : ∀ j, j < 8 → d j < 2 ^ 32) : ∀ j, j < 8 → du d 8 v j < 2 ^ 32 := fun j hj => by rw [du_n (by omega)]; exact hd j hj

set_option maxHeartbeats 4000000 in
set_option maxRecDepth 100000 in
theorem c_X8_sum (l : Launch) (G : Nat → ClassId) (o h o2 h2 x y : Nat) : jKv l yX8_sum wsX8_sum ({ frames := 2, cells := 0, slots := 0, locals := 49 }) G [.ref o, .ref o, .ref o2] (fun L F => jSc G L F o h x ∧ jSc G L F o2 h2 y ∧ x < 2 ^ 256 ∧ y < 2 ^ 256 ∧ [o, h, o2, h2].Nodup) (fun L F F1 => jSc G L F1 o h ((x + y) % NN) ∧ ∀ x, x ∉ [h] → F1 x = F x) := by
  refine jm_kv (cc := cX8_sum) (maxL := 6) (by decide) rfl (Nat.le_of_ble_eq_true rfl) ?_
  intro E L F hE hR hpre
  have hE : jOk E G _ cX8_sum 6 RX8 wsX8_sum := hE

  have f7 : jFl RX8 wsX8_sum 7 8 0 := ⟨rfl, by decide, by decide +kernel, by decide +kernel⟩
  obtain ⟨⟨f, d, ho, hh, hf, hd, hd8, hx⟩, ⟨fa, da, ho2, hh2, hfa, hg, hg8, hy⟩, hxb, hyb, hnd⟩ := hpre
  have hx8 := dv98 hx hxb
  have hy8 := dv98 hy hyb
  have loop : ∀ (r i : Nat) (F2 : Nat → va_E) (f2 : Nat → Int64) (d2 : Nat → Nat) (c : Nat), i + r = 8 → jF L F2 o (.inr (8, [.ref h])) → jF L F2 h (.inl (G 2, 9, .inr (.inl f2))) → jF L F2 o2 (.inr (8, [.ref h2])) → jF L F2 h2 (.inl (G 2, 9, .inr (.inl fa))) → (∀ j, j < 9 → f2 j = lN (d2 j)) → (∀ j, i ≤ j → d2 j = d j) → (∀ j, j < 8 → d2 j < 2 ^ 32) → c < 2 ^ 32 → dv d2 i + c * 2 ^ (32 * i) = dv d i + dv da i * 1 → (∀ x, x ∉ [h] → F2 x = F x) → J E L F2 0 0 5 [(5, .int (nI i)), (3, .long (lN c)), (0, .ref o), (1, .ref o), (2, .ref o2)] [] := by
    intro r
    induction r with
    | zero =>
      intro i F2 f2 d2 c hin ho hh ho2 hh2 hf2 hge hd2 hcb hinv hfr
      refine jr_iload hE dX8_sum_5 0 rfl ?_
      refine jr_bipush (v := (8 : Int32)) hE dX8_sum_7 (by decide) ?_
      refine jr_icmp_ge (tgt := 53) hE dX8_sum_9 (by decide) (fun c_9 => ?_) (fun c_9 => absurd (nI_le (a := 8) (by omega) (by omega)) c_9)
      refine jr_aload_n hE dX8_sum_53 2 rfl ?_
      refine jr_get hE dX8_sum_54 f7 ho rfl ?_
      refine jr_bipush (v := (8 : Int32)) hE dX8_sum_57 (by decide) ?_
      refine jr_lload_n hE dX8_sum_59 1 rfl ?_
      refine jr_last hE dX8_sum_60 hh (vp_in_nI (n := 8) (by decide) (by decide)) (fun F1 g2 u3 => ?_)
      obtain ⟨f4, ef4⟩ : ∃ z, z = vp_updL f2 (8 : Int32).toNatClampNeg (lN c) := ⟨_, rfl⟩
      rw [← ef4] at g2
      have g5 := ho.upk u3 hh (Nat.ne_of_beq_eq_false rfl)
      have g6 := ho2.upk u3 hh (Nat.ne_of_beq_eq_false rfl)
      have g7 := hh2.up u3 (jn2 hnd 3 1 rfl rfl (by decide))
      subst hin
      have hB1 : jSc G L F1 o h (x + y) := ⟨_, du d2 8 c, g5, g2, lst hf2 (by decide) (by rw [ef4]; rfl), du_lt_8 hd2, by rw [du_s]; omega, by rw [dv9, du_s, dv_du (Nat.le_refl _)]; exact hinv.trans (by rw [hx8, hy8, Nat.mul_one])⟩
      refine jr_aload_n hE dX8_sum_61 2 rfl ?_
      refine jr_kVv (ci := 8) (n := 0) (As := []) (rest := []) hE dX8_sum_62 (fun l => c_X8_reduce l G o h (x + y)) gX8_sum_X8_reduce rfl hB1.ob rfl (by decide +kernel) ⟨rfl, rfl, by decide, by decide⟩ (by decide) rfl rfl (Nat.le_of_ble_eq_true rfl) (⟨hB1, Nat.lt_trans (Nat.add_lt_add hxb hyb) (by decide)⟩) (fun F8 q9 => ?_)
      obtain ⟨hB2, fr2⟩ := q9
      exact hR F8 _ _ dX8_sum_65 ⟨hB2, fun x hx => (fr2 x hx).trans ((u3 x (jne hx 0 rfl)).trans (hfr x hx))⟩
    | succ r ih =>
      intro i F2 f2 d2 c hin ho hh ho2 hh2 hf2 hge hd2 hcb hinv hfr
      refine jr_iload hE dX8_sum_5 0 rfl ?_
      refine jr_bipush (v := (8 : Int32)) hE dX8_sum_7 (by decide) ?_
      refine jr_icmp_ge (tgt := 53) hE dX8_sum_9 (by decide) (fun c_9 => absurd c_9 (nI_ge (b := 8) (by omega) (by decide))) (fun c_9 => ?_)
      have hdi := hd2 i (by omega)
      have hgi := hg i (by omega)
      obtain ⟨s, hs⟩ : ∃ s, s = c + d i + da i * 1 := ⟨_, rfl⟩
      have hdd := hge i (Nat.le_refl i)
      have hsb : s < 2 ^ 64 := by omega
      refine jr_lload_n hE dX8_sum_12 1 rfl ?_
      refine jr_aload_n hE dX8_sum_13 3 rfl ?_
      refine jr_get hE dX8_sum_14 f7 ho rfl ?_
      refine jr_iload hE dX8_sum_17 0 rfl ?_
      refine jr_lald (v := lN (d i)) hE dX8_sum_19 hh (vp_in_nI (by omega) (by omega)) (by rw [nI_clamp (by omega), hf2 i (by omega), hge i (by omega)]) ?_
      refine jr_aload_n hE dX8_sum_20 4 rfl ?_
      refine jr_get hE dX8_sum_21 f7 ho2 rfl ?_
      refine jr_iload hE dX8_sum_24 0 rfl ?_
      refine jr_lald (v := lN (da i)) hE dX8_sum_26 hh2 (vp_in_nI (by omega) (by omega)) (by rw [nI_clamp (by omega)]; exact hfa i (by omega)) ?_
      refine jr_ladd (z := lN (d i + da i)) hE dX8_sum_27 (lN_add _ _) ?_
      refine jr_ladd (z := lN s) hE dX8_sum_28 (by rw [lN_add, hs]; congr 1; omega) ?_
      refine jr_lstore_n (lv' := [(3, .long (lN s)), (5, .int (nI i)), (0, .ref o), (1, .ref o), (2, .ref o2)]) hE dX8_sum_29 (by decide) rfl ?_
      refine jr_aload_n hE dX8_sum_30 2 rfl ?_
      refine jr_get hE dX8_sum_31 f7 ho rfl ?_
      refine jr_iload hE dX8_sum_34 1 rfl ?_
      refine jr_lload_n hE dX8_sum_36 0 rfl ?_
      refine jr_ldc2 (v := (4294967295 : Int64)) hE dX8_sum_37 (by decide +kernel) ?_
      refine jr_land (z := lN (s % 2 ^ 32)) hE dX8_sum_40 (m32 s hsb) ?_
      refine jr_last hE dX8_sum_41 hh (vp_in_nI (by omega) (by omega)) (fun F1 g2 u3 => ?_)
      obtain ⟨f4, ef4⟩ : ∃ z, z = vp_updL f2 (nI i).toNatClampNeg (lN (s % 2 ^ 32)) := ⟨_, rfl⟩
      rw [← ef4] at g2
      have g5 := ho.upk u3 hh (Nat.ne_of_beq_eq_false rfl)
      have g6 := ho2.upk u3 hh (Nat.ne_of_beq_eq_false rfl)
      have g7 := hh2.up u3 (jn2 hnd 3 1 rfl rfl (by decide))
      refine jr_lload_n hE dX8_sum_42 0 rfl ?_
      refine jr_bipush (v := (32 : Int32)) hE dX8_sum_43 (by decide) ?_
      refine jr_lushr (z := lN (s / 2 ^ 32)) hE dX8_sum_45 (s32 s hsb) ?_
      refine jr_lstore_n (lv' := [(3, .long (lN (s / 2 ^ 32))), (5, .int (nI i)), (0, .ref o), (1, .ref o), (2, .ref o2)]) hE dX8_sum_46 (by decide) rfl ?_
      refine jr_iinc (v := nI (i + 1)) (lv' := [(5, .int (nI (i + 1))), (3, .long (lN (s / 2 ^ 32))), (0, .ref o), (1, .ref o), (2, .ref o2)]) hE dX8_sum_47 1 rfl (nI_1 _) (by decide) rfl ?_
      refine jr_goto (tgt := 5) hE dX8_sum_50 (by decide) ?_
      exact ih (i + 1) F1 _ (du d2 i (s % 2 ^ 32)) (s / 2 ^ 32) (by omega) g5 g2 g6 g7 (lst hf2 (by omega) ef4) (du_ge hge) (du_lt hd2 (Nat.mod_lt _ (by decide))) (by omega) (am_inv hinv hs) (fun x hx => (u3 x (jne hx 0 rfl)).trans (hfr x hx))
  refine jr_lconst (v := (0 : Int64)) hE dX8_sum_0 (by decide) ?_
  refine jr_lstore_n (lv' := [(3, .long (0 : Int64)), (0, .ref o), (1, .ref o), (2, .ref o2)]) hE dX8_sum_1 (by decide) rfl ?_
  refine jr_iconst (v := (0 : Int32)) hE dX8_sum_2 (by decide) ?_
  refine jr_istore (lv' := [(5, .int (0 : Int32)), (3, .long (0 : Int64)), (0, .ref o), (1, .ref o), (2, .ref o2)]) hE dX8_sum_3 (by decide) rfl ?_
  exact loop 8 0 F f d 0 rfl ho hh ho2 hh2 hf (fun _ _ => rfl) hd (by decide) (by simp [dv]) (fun _ _ => rfl)

theorem ls_toInt (x : Int64) (s : Int32) (k : Nat) (hs : ((s.toInt64 &&& 63).toBitVec.smod 64).toNat = k) : (x >>> (s.toInt64 &&& 63)).toInt = x.toInt >>> k := by
  rw [← Int64.toInt_toBitVec, Int64.toBitVec_shiftRight, BitVec.sshiftRight_eq', BitVec.toInt_sshiftRight, hs, Int64.toInt_toBitVec]
theorem lN_subw {a b : Nat} (h : b ≤ 2 ^ 64) : lN a - lN b = lN (a + (2 ^ 64 - b)) := by
  have e : lN (2 ^ 64 - b) = - lN b := by
    have h1 : lN (2 ^ 64 - b) + lN b = 0 := by rw [lN_add, Nat.sub_add_cancel h]; decide
    calc lN (2 ^ 64 - b) = lN (2 ^ 64 - b) + lN b - lN b := (Int64.add_sub_cancel _ _).symm
      _ = - lN b := by rw [h1, Int64.zero_sub]
  rw [← lN_add, e, Int64.sub_eq_add_neg]
def bw (c : Nat) : Int64 := lN (2 ^ 64 - c)
theorem neg_step {n d c : Nat} (hn : n < 2 ^ 32) (hd : d < 2 ^ 32) (hc : c ≤ 1) : ∃ lo c', bw c + (lN n - lN d) &&& 4294967295 = lN lo ∧ (bw c + (lN n - lN d)) >>> ((32 : Int32).toInt64 &&& 63) = bw c' ∧ c' ≤ 1 ∧ lo < 2 ^ 32 ∧ lo + d + c = n + c' * 2 ^ 32 := by
  unfold bw
  rw [lN_subw (by omega), lN_add, wb_mod]
  rcases Nat.lt_or_ge n (d + c) with q | q
  · refine ⟨n + 2 ^ 32 - d - c, 1, ?_, ?_, Nat.le_refl 1, by omega, by omega⟩
    · rw [show (2 ^ 64 - c + (n + (2 ^ 64 - d))) % 2 ^ 64 = 2 ^ 64 + n - d - c by omega, m32 _ (by omega)]
      congr 1; omega
    · rw [show (2 ^ 64 - c + (n + (2 ^ 64 - d))) % 2 ^ 64 = 2 ^ 64 + n - d - c by omega]
      apply Int64.toInt_inj.mp
      rw [ls_toInt _ 32 32 (by decide)]
      have h1 : (lN (2 ^ 64 + n - d - c)).toInt = (n : Int) - d - c := by
        rw [← Int64.toInt_toBitVec, BitVec.toInt_eq_toNat_cond, wb_tn (by omega)]
        split <;> omega
      rw [h1, Int.shiftRight_eq_div_pow, show (lN (2 ^ 64 - 1)).toInt = -1 by decide]
      omega
  · refine ⟨n - d - c, 0, ?_, ?_, Nat.zero_le _, by omega, by omega⟩
    · rw [show (2 ^ 64 - c + (n + (2 ^ 64 - d))) % 2 ^ 64 = n - d - c by omega, m32 _ (by omega)]
      congr 1; omega
    · rw [show (2 ^ 64 - c + (n + (2 ^ 64 - d))) % 2 ^ 64 = n - d - c by omega]
      apply Int64.toInt_inj.mp
      rw [ls_toInt _ 32 32 (by decide), pk_lT (by omega), Int.shiftRight_eq_div_pow, show (lN (2 ^ 64 - 0)).toInt = 0 by decide]
      omega
theorem neg_inv {d d2 : Nat → Nat} {i c c' l : Nat} (h : dv d2 i + dv d i = dv nnd i + c * 2 ^ (32 * i)) (hs : l + d i + c = nnd i + c' * 2 ^ 32) : dv (du d2 i l) (i + 1) + dv d (i + 1) = dv nnd (i + 1) + c' * 2 ^ (32 * (i + 1)) := by
  rw [show 32 * (i + 1) = 32 * i + 32 by omega, Nat.pow_add, dv, dv, dv, dv_du (Nat.le_refl _), du_s]
  have e : (l + d i + c) * 2 ^ (32 * i) = (nnd i + c' * 2 ^ 32) * 2 ^ (32 * i) := by rw [hs]
  rw [Nat.add_mul, Nat.add_mul, Nat.add_mul, Nat.mul_assoc, Nat.mul_comm (2 ^ 32)] at e
  omega

theorem neg_end {G : Nat → ClassId} {L : List Nat} {F : Nat → va_E} {o h x c : Nat} {f2 : Nat → Int64} {d d2 : Nat → Nat} (ho : jF L F o (.inr (8, [.ref h]))) (hh : jF L F h (.inl (G 2, 9, .inr (.inl f2)))) (hf2 : ∀ j, j < 9 → f2 j = lN (d2 j)) (hd2 : ∀ j, j < 8 → d2 j < 2 ^ 32) (h8 : d2 8 = d 8) (hinv : dv d2 8 + dv d 8 = dv nnd 8 + c * 2 ^ (32 * 8)) (hx : dv d 9 = x) (hxb : x < NN) (hx0 : x ≠ 0) : jSc G L F o h (if x = 0 then 0 else NN - x) := by
  have hB : NN < 2 ^ 256 := by decide
  have hx8 := dv98 hx (Nat.lt_trans hxb hB)
  have hd8 : d 8 = 0 := by have := d8_le (k := 1) hx (by rw [Nat.mul_one]; exact Nat.lt_trans hxb hB); exact Nat.lt_one_iff.mp this
  have hlt := dv_lt 8 hd2
  rw [hx8, nn_v] at hinv
  refine ⟨f2, d2, ho, hh, hf2, hd2, by rw [h8, hd8]; decide, ?_⟩
  rw [dv9, h8, hd8, Nat.zero_mul, Nat.add_zero]
  rw [show 32 * 8 = 256 from rfl] at hinv hlt
  generalize (2 : Nat) ^ 256 = B at *
  generalize NN = N at *
  generalize dv d2 8 = a at *
  have hc : c = 0 := by
    rcases Nat.eq_zero_or_pos c with q | q
    · exact q
    · have := Nat.mul_le_mul_right B q
      omega
  subst hc
  rw [if_neg hx0]; omega

set_option maxHeartbeats 4000000 in
set_option maxRecDepth 100000 in
theorem c_X8_negate (l : Launch) (G : Nat → ClassId) (o h x : Nat) : jKv l yX8_negate wsX8_negate ({ frames := 1, cells := 0, slots := 0, locals := 23 }) G [.ref o] (fun L F => jSc G L F o h x ∧ x < NN) (fun L F F1 => jSc G L F1 o h (if x = 0 then 0 else NN - x) ∧ ∀ x, x ∉ [h] → F1 x = F x) := by
  refine jm_kv (cc := cX8_negate) (maxL := 4) (by decide) rfl (Nat.le_of_ble_eq_true rfl) ?_
  intro E L F hE hR hpre
  have hE : jOk E G _ cX8_negate 4 RX8 wsX8_negate := hE

  have f7 : jFl RX8 wsX8_negate 7 8 0 := ⟨rfl, by decide, by decide +kernel, by decide +kernel⟩
  obtain ⟨hB, hxb⟩ := hpre
  obtain ⟨f, d, ho, hh, hf, hd, hd8, hx⟩ := id hB
  have loop : x ≠ 0 → ∀ (r i : Nat) (F2 : Nat → va_E) (f2 : Nat → Int64) (d2 : Nat → Nat) (c : Nat), i + r = 8 → jF L F2 o (.inr (8, [.ref h])) → jF L F2 h (.inl (G 2, 9, .inr (.inl f2))) → (∀ j, j < 9 → f2 j = lN (d2 j)) → (∀ j, i ≤ j → d2 j = d j) → (∀ j, j < 8 → d2 j < 2 ^ 32) → c ≤ 1 → dv d2 i + dv d i = dv nnd i + c * 2 ^ (32 * i) → (∀ x, x ∉ [h] → F2 x = F x) → J E L F2 0 0 12 [(3, .int (nI i)), (1, .long (bw c)), (0, .ref o)] [] := by
    intro hx0 r
    induction r with
    | zero =>
      intro i F2 f2 d2 c hin ho hh hf2 hge hd2 hcb hinv hfr
      refine jr_iload_n hE dX8_negate_12 0 rfl ?_
      refine jr_bipush (v := (8 : Int32)) hE dX8_negate_13 (by decide) ?_
      refine jr_icmp_ge (tgt := 55) hE dX8_negate_15 (by decide) (fun c_15 => ?_) (fun c_15 => absurd (nI_le (a := 8) (by omega) (by omega)) c_15)
      subst hin
      exact hR F2 _ _ dX8_negate_55 ⟨neg_end ho hh hf2 hd2 (hge 8 (Nat.le_refl 8)) hinv hx hxb hx0, hfr⟩
    | succ r ih =>
      intro i F2 f2 d2 c hin ho hh hf2 hge hd2 hcb hinv hfr
      refine jr_iload_n hE dX8_negate_12 0 rfl ?_
      refine jr_bipush (v := (8 : Int32)) hE dX8_negate_13 (by decide) ?_
      refine jr_icmp_ge (tgt := 55) hE dX8_negate_15 (by decide) (fun c_15 => absurd c_15 (nI_ge (b := 8) (by omega) (by decide))) (fun c_15 => ?_)
      obtain ⟨l, c2, e1, e2, hc2, hl, hs⟩ := neg_step (nn_lt i (by omega)) (hd i (by omega)) hcb
      refine jr_lload_n hE dX8_negate_18 1 rfl ?_
      refine jr_gsNN hE dX8_negate_19 (by decide +kernel) ?_
      refine jr_iload_n hE dX8_negate_22 0 rfl ?_
      refine jr_ldNN (v := lN (nnd i)) hE dX8_negate_23 (vp_in_nI (by omega) (by omega)) (by rw [nI_clamp (by omega)]; exact nn_at i (by omega)) ?_
      refine jr_aload_n hE dX8_negate_24 2 rfl ?_
      refine jr_get hE dX8_negate_25 f7 ho rfl ?_
      refine jr_iload_n hE dX8_negate_28 0 rfl ?_
      refine jr_lald (v := lN (d i)) hE dX8_negate_29 hh (vp_in_nI (by omega) (by omega)) (by rw [nI_clamp (by omega), hf2 i (by omega), hge i (by omega)]) ?_
      refine jr_lsub hE dX8_negate_30 rfl ?_
      refine jr_ladd hE dX8_negate_31 rfl ?_
      refine jr_lstore_n (lv' := [(1, .long ((bw c) + ((lN (nnd i)) - (lN (d i))))), (3, .int (nI i)), (0, .ref o)]) hE dX8_negate_32 (by decide) rfl ?_
      refine jr_aload_n hE dX8_negate_33 2 rfl ?_
      refine jr_get hE dX8_negate_34 f7 ho rfl ?_
      refine jr_iload_n hE dX8_negate_37 1 rfl ?_
      refine jr_lload_n hE dX8_negate_38 0 rfl ?_
      refine jr_ldc2 (v := (4294967295 : Int64)) hE dX8_negate_39 (by decide +kernel) ?_
      refine jr_land (z := lN l) hE dX8_negate_42 e1 ?_
      refine jr_last hE dX8_negate_43 hh (vp_in_nI (by omega) (by omega)) (fun F1 g2 u3 => ?_)
      obtain ⟨f4, ef4⟩ : ∃ z, z = vp_updL f2 (nI i).toNatClampNeg (lN l) := ⟨_, rfl⟩
      rw [← ef4] at g2
      have g5 := ho.upk u3 hh (Nat.ne_of_beq_eq_false rfl)
      refine jr_lload_n hE dX8_negate_44 0 rfl ?_
      refine jr_bipush (v := (32 : Int32)) hE dX8_negate_45 (by decide) ?_
      refine jr_lshr (z := bw c2) hE dX8_negate_47 e2 ?_
      refine jr_lstore_n (lv' := [(1, .long (bw c2)), (3, .int (nI i)), (0, .ref o)]) hE dX8_negate_48 (by decide) rfl ?_
      refine jr_iinc (v := nI (i + 1)) (lv' := [(3, .int (nI (i + 1))), (1, .long (bw c2)), (0, .ref o)]) hE dX8_negate_49 1 rfl (nI_1 _) (by decide) rfl ?_
      refine jr_goto (tgt := 12) hE dX8_negate_52 (by decide) ?_
      exact ih (i + 1) F1 _ (du d2 i l) c2 (by omega) g5 g2 (lst hf2 (by omega) ef4) (du_ge hge) (du_lt hd2 hl) hc2 (neg_inv hinv hs) (fun x hx => (u3 x (jne hx 0 rfl)).trans (hfr x hx))
  refine jr_aload_n hE dX8_negate_0 0 rfl ?_
  refine jr_kVi (ci := 8) (n := 0) (As := []) (rest := []) hE dX8_negate_1 (fun l => c_X8_isZero l G o h x) gX8_negate_X8_isZero rfl hB.ob rfl (by decide +kernel) ⟨rfl, rfl, by decide, by decide⟩ (by decide) rfl rfl (Nat.le_of_ble_eq_true rfl) (hB) (fun r3 F1 q2 => ?_)
  obtain ⟨rfl, rfl⟩ := q2
  refine jr_if_eq (tgt := 8) hE dX8_negate_4 (by decide) (fun c4 => ?_) (fun c4 => ?_)
  · have hx0 : x ≠ 0 := fun e => by rw [b2i_t e] at c4; exact absurd c4 (by decide)
    refine jr_lconst (v := (0 : Int64)) hE dX8_negate_8 (by decide) ?_
    refine jr_lstore_n (lv' := [(1, .long (0 : Int64)), (0, .ref o)]) hE dX8_negate_9 (by decide) rfl ?_
    refine jr_iconst (v := (0 : Int32)) hE dX8_negate_10 (by decide) ?_
    refine jr_istore_n (lv' := [(3, .int (0 : Int32)), (1, .long (0 : Int64)), (0, .ref o)]) hE dX8_negate_11 (by decide) rfl ?_
    exact loop hx0 8 0 F f d 0 rfl ho hh hf (fun _ _ => rfl) hd (by decide) (by simp [dv]) (fun _ _ => rfl)
  · exact hR F _ _ dX8_negate_7 ⟨by
      have hx0 : x = 0 := by
        rcases Nat.eq_zero_or_pos x with q | q
        · exact q
        · exact absurd (b2i_f (Nat.ne_of_gt q)) c4
      rw [if_pos hx0, ← hx0]; exact hB, fun _ _ => rfl⟩

theorem dv_shift {d e : Nat → Nat} (h0 : e 0 = 0) : ∀ n, (∀ j, j < n → e (j + 1) = d j) → dv e (n + 1) = 2 ^ 32 * dv d n
  | 0, _ => by rw [dv, dv, dv, h0, Nat.zero_mul]
  | n + 1, h => by
    rw [dv, dv_shift h0 n (fun j hj => h j (by omega)), h n (by omega), dv, show 32 * (n + 1) = 32 + 32 * n by omega, Nat.pow_add, Nat.mul_add]
    congr 1
    rw [← Nat.mul_assoc, Nat.mul_comm (d n), Nat.mul_assoc]
theorem pr_step {a b k N : Nat} (hN : 0 < N) {d x : Nat} (hx : x = a * (b / 2 ^ (32 * (k + 1))) % N) (hd : b / 2 ^ (32 * k) = b / 2 ^ (32 * (k + 1)) * 2 ^ 32 + d) : (2 ^ 32 * x % N + a * d) % N = a * (b / 2 ^ (32 * k)) % N := by
  rw [hd, Nat.mul_add, hx, Nat.mul_mod, Nat.mod_mod, ← Nat.mul_mod, Nat.mod_add_mod]
  congr 2
  rw [Nat.mul_comm (2 ^ 32), Nat.mul_assoc]
theorem dig_eq {d : Nat → Nat} {x k : Nat} (hx : dv d 9 = x) (hd : ∀ j, j < 8 → d j < 2 ^ 32) (hk : k < 8) : x / 2 ^ (32 * k) % 2 ^ 32 = d k := by
  obtain ⟨m, hm⟩ := dv_split (d := d) (l := k) 9 (by omega) (fun j hj => hd j (by omega))
  have h1 := dv_lt (d := d) k (fun j hj => hd j (by omega))
  have h2 := hd k hk
  rw [← hx, hm, show 32 * (k + 1) = 32 + 32 * k by omega, Nat.pow_add, ← Nat.mul_assoc, Nat.add_assoc, ← Nat.add_mul, Nat.add_mul_div_right _ _ (Nat.two_pow_pos _), Nat.div_eq_of_lt h1, Nat.zero_add, Nat.add_mul_mod_self_right, Nat.mod_eq_of_lt h2]
theorem dig_div {d : Nat → Nat} {x k : Nat} (hx : dv d 9 = x) (hd : ∀ j, j < 8 → d j < 2 ^ 32) (hk : k < 8) : x / 2 ^ (32 * k) = x / 2 ^ (32 * (k + 1)) * 2 ^ 32 + d k := by
  rw [← dig_eq hx hd hk, show 32 * (k + 1) = 32 * k + 32 by omega, Nat.pow_add, ← Nat.div_div_eq_div_mul]
  exact (Nat.div_add_mod' _ _).symm
theorem sh_end {G : Nat → ClassId} {L : List Nat} {F : Nat → va_E} {o h x : Nat} {f2 g : Nat → Int64} {d d2 : Nat → Nat} (ho : jF L F o (.inr (8, [.ref h]))) (hh : jF L F h (.inl (G 2, 9, .inr (.inl g)))) (e : g = vp_updL f2 (nI 0).toNatClampNeg (lN 0)) (hf2 : ∀ j, j < 9 → f2 j = lN (d2 j)) (hd : ∀ j, j < 8 → d j < 2 ^ 32) (hs : ∀ j, j < 8 → d2 (j + 1) = d j) (hx : dv d 9 = x) (hxb : x < 2 ^ 256) : jSc G L F o h (2 ^ 32 * x) := by
  refine ⟨g, du d2 0 0, ho, hh, lst hf2 (by decide) e, ?_, ?_, ?_⟩
  · intro j hj
    match j, hj with
    | 0, _ => rw [du_s]; decide
    | j + 1, hj => rw [du_n (by omega), hs j (by omega)]; exact hd j (by omega)
  · rw [du_n (by decide), hs 7 (by decide)]
    exact Nat.lt_trans (hd 7 (by decide)) (by decide)
  · rw [dv_shift (d := d) du_s 8 (fun j hj => by rw [du_n (by omega)]; exact hs j hj), dv98 hx hxb]

theorem jnd {l l' : List Nat} (hn : l.Nodup) (is : List Nat) (h : is.map (fun j => l[j]?) = l'.map some) (hi : is.Nodup) : l'.Nodup := by
  unfold List.Nodup
  rw [List.pairwise_iff_getElem]
  intro i j hi2 hj hij e
  have hl : is.length = l'.length := by have := congrArg List.length h; simpa using this
  have h1 : (is.map (fun j => l[j]?))[i]? = (l'.map some)[i]? := by rw [h]
  have h2 : (is.map (fun j => l[j]?))[j]? = (l'.map some)[j]? := by rw [h]
  rw [List.getElem?_map, List.getElem?_map, List.getElem?_eq_getElem hi2, List.getElem?_eq_getElem (hl ▸ hi2)] at h1
  rw [List.getElem?_map, List.getElem?_map, List.getElem?_eq_getElem hj, List.getElem?_eq_getElem (hl ▸ hj)] at h2
  have h3 : l[is[i]'(hl ▸ hi2)]? = l[is[j]'(hl ▸ hj)]? := by
    have a1 := Option.some.inj h1
    have a2 := Option.some.inj h2
    exact a1.trans ((congrArg some e).trans a2.symm)
  have hlt : is[i]'(hl ▸ hi2) < l.length := by
    have a1 := Option.some.inj h1
    exact (List.getElem?_eq_some_iff.mp a1).1
  have h4 := (List.getElem?_inj hlt hn).mp h3
  have h5 : is[i]? = is[j]? := by rw [List.getElem?_eq_getElem (hl ▸ hi2), List.getElem?_eq_getElem (hl ▸ hj), h4]
  have h6 := (List.getElem?_inj (hl ▸ hi2) hi).mp h5
  omega
theorem hN0 : 0 < NN := by decide
theorem pr_lt {x a d : Nat} (hx : x < NN) (ha : a < NN) (hd : d < 2 ^ 32) : x + a * d < 2 ^ 288 := by
  have h1 : a * d ≤ NN * (2 ^ 32 - 1) := Nat.mul_le_mul (Nat.le_of_lt ha) (by omega)
  exact Nat.lt_trans (Nat.add_lt_add_of_lt_of_le hx h1) (by decide)

set_option maxHeartbeats 4000000 in
set_option maxRecDepth 100000 in
theorem c_X8_product (l : Launch) (G : Nat → ClassId) (o h oa ha ob hb x0 a b : Nat) : jKv l yX8_product wsX8_product ({ frames := 2, cells := 0, slots := 0, locals := 49 }) G [.ref o, .ref oa, .ref ob] (fun L F => jSc G L F o h x0 ∧ jSc G L F oa ha a ∧ jSc G L F ob hb b ∧ a < NN ∧ b < NN ∧ [o, h, oa, ha, ob, hb].Nodup) (fun L F F1 => jSc G L F1 o h (a * b % NN) ∧ ∀ x, x ∉ [h] → F1 x = F x) := by
  refine jm_kv (cc := cX8_product) (maxL := 5) (by decide) rfl (Nat.le_of_ble_eq_true rfl) ?_
  intro E L F hE hR hpre
  have hE : jOk E G _ cX8_product 5 RX8 wsX8_product := hE

  have f7 : jFl RX8 wsX8_product 7 8 0 := ⟨rfl, by decide, by decide +kernel, by decide +kernel⟩
  obtain ⟨hB0, hA, hBb, hab, hbb, hnd⟩ := hpre
  have loop : ∀ (k : Nat) (F2 : Nat → va_E) (x1 : Nat), k ≤ 8 → jSc G L F2 o h x1 → x1 = a * (b / 2 ^ (32 * k)) % NN → (∀ x, x ∉ [h] → F2 x = F x) → J E L F2 0 0 8 [(3, .int (nI k - 1)), (0, .ref o), (1, .ref oa), (2, .ref ob)] [] := by
    intro k
    induction k with
    | zero =>
      intro F2 x1 hk8 hB hxv hfr
      refine jr_iload_n hE dX8_product_8 0 rfl ?_
      refine jr_if_lt (tgt := 78) hE dX8_product_9 (by decide) (fun c_9 => ?_) (fun c_9 => absurd (by decide) c_9)
      exact hR F2 _ _ dX8_product_78 ⟨by rw [hxv, Nat.mul_zero, Nat.pow_zero, Nat.div_one] at hB; exact hB, hfr⟩
    | succ k ih =>
      intro F2 x1 hk8 hB hxv hfr
      have hx1b : x1 < 2 ^ 256 := by rw [hxv]; exact Nat.lt_trans (Nat.mod_lt _ hN0) (by decide)
      obtain ⟨f, d, ho, hh, hf, hd, hd8, hx⟩ := hB
      rw [nI_pred]
      have inner : ∀ (q : Nat) (F3 : Nat → va_E) (f3 : Nat → Int64) (d3 : Nat → Nat), q ≤ 8 → jF L F3 o (.inr (8, [.ref h])) → jF L F3 h (.inl (G 2, 9, .inr (.inl f3))) → (∀ j, j < 9 → f3 j = lN (d3 j)) → (∀ j, j < 9 → q < j → d3 j = d (j - 1)) → (∀ j, j ≤ q → d3 j = d j) → (∀ x, x ∉ [h] → F3 x = F2 x) → J E L F3 0 0 16 [(4, .int (nI q)), (3, .int (nI k)), (0, .ref o), (1, .ref oa), (2, .ref ob)] [] := by
        intro q
        induction q with
        | zero =>
          intro F3 f3 d3 hq8 ho hh hf3 hs hlo hfr3
          refine jr_iload hE dX8_product_16 0 rfl ?_
          refine jr_if_le (tgt := 43) hE dX8_product_18 (by decide) (fun c_18 => ?_) (fun c_18 => absurd (by decide) c_18)
          refine jr_aload_n hE dX8_product_43 2 rfl ?_
          refine jr_get hE dX8_product_44 f7 ho rfl ?_
          refine jr_iconst (v := (0 : Int32)) hE dX8_product_47 (by decide) ?_
          refine jr_lconst (v := (0 : Int64)) hE dX8_product_48 (by decide) ?_
          refine jr_last hE dX8_product_49 hh (vp_in_nI (n := 0) (by decide) (by decide)) (fun F1 g2 u3 => ?_)
          obtain ⟨f4, ef4⟩ : ∃ z, z = vp_updL f3 (0 : Int32).toNatClampNeg (0 : Int64) := ⟨_, rfl⟩
          rw [← ef4] at g2
          have g5 := ho.upk u3 hh (Nat.ne_of_beq_eq_false rfl)
          have hBs : jSc G L F1 o h (2 ^ 32 * x1) := sh_end g5 g2 ef4 hf3 hd (fun j hj => hs (j + 1) (by omega) (Nat.succ_pos j)) hx hx1b
          have fr4 : ∀ x, x ∉ [h] → F1 x = F x := fun x hx => (u3 x (jne hx 0 rfl)).trans ((hfr3 x hx).trans (hfr x hx))
          have hA4 := hA.fr (fr4 oa (jn hnd 2 [1] rfl rfl (by decide))) (fr4 ha (jn hnd 3 [1] rfl rfl (by decide)))
          have hBb4 := hBb.fr (fr4 ob (jn hnd 4 [1] rfl rfl (by decide))) (fr4 hb (jn hnd 5 [1] rfl rfl (by decide)))
          refine jr_aload_n hE dX8_product_50 2 rfl ?_
          refine jr_kVv (ci := 8) (n := 0) (As := []) (rest := []) hE dX8_product_51 (fun l => c_X8_reduce l G o h (2 ^ 32 * x1)) gX8_product_X8_reduce rfl hBs.ob rfl (by decide +kernel) ⟨rfl, rfl, by decide, by decide⟩ (by decide) rfl rfl (Nat.le_of_ble_eq_true rfl) (⟨hBs, by rw [show (2 : Nat) ^ 288 = 2 ^ 32 * 2 ^ 256 by rw [← Nat.pow_add]]; exact Nat.mul_lt_mul_of_pos_left hx1b (by decide)⟩) (fun F6 q7 => ?_)
          obtain ⟨hBr, fr5⟩ := q7
          have hA5 := hA4.fr (fr5 oa (jn hnd 2 [1] rfl rfl (by decide))) (fr5 ha (jn hnd 3 [1] rfl rfl (by decide)))
          have hBb5 := hBb4.fr (fr5 ob (jn hnd 4 [1] rfl rfl (by decide))) (fr5 hb (jn hnd 5 [1] rfl rfl (by decide)))
          obtain ⟨fb, db, hob5, hhb5, hfb, hdb, hdb8, hbx⟩ := hBb5
          refine jr_aload_n hE dX8_product_54 2 rfl ?_
          refine jr_aload_n hE dX8_product_55 3 rfl ?_
          refine jr_get hE dX8_product_56 f7 hA5.ob rfl ?_
          refine jr_aload_n hE dX8_product_59 4 rfl ?_
          refine jr_get hE dX8_product_60 f7 hob5 rfl ?_
          refine jr_iload_n hE dX8_product_63 1 rfl ?_
          refine jr_lald (v := lN (db k)) hE dX8_product_64 hhb5 (vp_in_nI (by omega) (by omega)) (by rw [nI_clamp (by omega)]; exact hfb k (by omega)) ?_
          refine jr_kVv (ci := 8) (n := 2) (As := [.ref ha, .long (lN (db k))]) (rest := []) hE dX8_product_65 (fun l => c_X8_addMultiple l G o h oa ha _ a (db k)) gX8_product_X8_addMultiple rfl hBr.ob rfl (by decide +kernel) ⟨rfl, rfl, by decide, by decide⟩ (by decide) rfl rfl (Nat.le_of_ble_eq_true rfl) (⟨hBr, hA5, Nat.lt_trans (Nat.mod_lt _ hN0) (by decide), Nat.lt_trans hab (by decide), hdb k (by omega), jnd hnd [0, 1, 3] rfl (by decide)⟩) (fun F8 q9 => ?_)
          obtain ⟨hBm, fr6⟩ := q9
          refine jr_aload_n hE dX8_product_68 2 rfl ?_
          refine jr_kVv (ci := 8) (n := 0) (As := []) (rest := []) hE dX8_product_69 (fun l => c_X8_reduce l G o h _) gX8_product_X8_reduce rfl hBm.ob rfl (by decide +kernel) ⟨rfl, rfl, by decide, by decide⟩ (by decide) rfl rfl (Nat.le_of_ble_eq_true rfl) (⟨hBm, pr_lt (Nat.mod_lt _ hN0) hab (hdb k (by omega))⟩) (fun F10 q11 => ?_)
          obtain ⟨hBf, fr7⟩ := q11
          refine jr_iinc (v := nI k - 1) (lv' := [(3, .int (nI k - 1)), (4, .int (nI 0)), (0, .ref o), (1, .ref oa), (2, .ref ob)]) hE dX8_product_72 1 rfl (im1 _) (by decide) rfl ?_
          refine jr_goto (tgt := 8) hE dX8_product_75 (by decide) ?_
          refine jr_lv (lv' := [(3, .int (nI k - 1)), (0, .ref o), (1, .ref oa), (2, .ref ob)]) [0, 2, 3, 4] rfl ?_
          exact ih F10 _ (by omega) hBf (pr_step hN0 hxv (dig_div hbx hdb (by omega))) (fun x hx => (fr7 x hx).trans ((fr6 x hx).trans ((fr5 x hx).trans (fr4 x hx))))
        | succ q ihq =>
          intro F3 f3 d3 hq8 ho hh hf3 hs hlo hfr3
          refine jr_iload hE dX8_product_16 0 rfl ?_
          refine jr_if_le (tgt := 43) hE dX8_product_18 (by decide) (fun c_18 => absurd c_18 (nI_nle (Nat.succ_pos q) (by omega))) (fun c_18 => ?_)
          refine jr_aload_n hE dX8_product_21 2 rfl ?_
          refine jr_get hE dX8_product_22 f7 ho rfl ?_
          refine jr_iload hE dX8_product_25 0 rfl ?_
          refine jr_aload_n hE dX8_product_27 2 rfl ?_
          refine jr_get hE dX8_product_28 f7 ho rfl ?_
          refine jr_iload hE dX8_product_31 0 rfl ?_
          refine jr_iconst (v := (1 : Int32)) hE dX8_product_33 (by decide) ?_
          refine jr_isub (z := nI q) hE dX8_product_34 (nI_pred q) ?_
          refine jr_lald (v := lN (d3 q)) hE dX8_product_35 hh (vp_in_nI (by omega) (by omega)) (by rw [nI_clamp (by omega)]; exact hf3 q (by omega)) ?_
          refine jr_last hE dX8_product_36 hh (vp_in_nI (by omega) (by omega)) (fun F1 g2 u3 => ?_)
          obtain ⟨f4, ef4⟩ : ∃ z, z = vp_updL f3 (nI (q + 1)).toNatClampNeg (lN (d3 q)) := ⟨_, rfl⟩
          rw [← ef4] at g2
          have g5 := ho.upk u3 hh (Nat.ne_of_beq_eq_false rfl)
          refine jr_iinc (v := nI q) (lv' := [(4, .int (nI q)), (3, .int (nI k)), (0, .ref o), (1, .ref oa), (2, .ref ob)]) hE dX8_product_37 0 rfl (by rw [im1]; exact nI_pred q) (by decide) rfl ?_
          refine jr_goto (tgt := 16) hE dX8_product_40 (by decide) ?_
          exact ihq F1 _ (du d3 (q + 1) (d3 q)) (by omega) g5 g2 (lst hf3 (by omega) ef4) (fun j hj hj2 => by
            by_cases e : j = q + 1
            · rw [e, du_s, hlo q (Nat.le_succ q)]; rfl
            · rw [du_n e]; exact hs j hj (by omega)) (fun j hj => by rw [du_n (by omega)]; exact hlo j (by omega)) (fun x hx => (u3 x (jne hx 0 rfl)).trans (hfr3 x hx))
      refine jr_iload_n hE dX8_product_8 0 rfl ?_
      refine jr_if_lt (tgt := 78) hE dX8_product_9 (by decide) (fun c_9 => absurd c_9 (nI_pos (by omega))) (fun c_9 => ?_)
      refine jr_bipush (v := (8 : Int32)) hE dX8_product_12 (by decide) ?_
      refine jr_istore (lv' := [(4, .int (8 : Int32)), (3, .int (nI k)), (0, .ref o), (1, .ref oa), (2, .ref ob)]) hE dX8_product_14 (by decide) rfl ?_
      exact inner 8 F2 f d (by decide) ho hh hf (fun j hj hj2 => absurd hj2 (by omega)) (fun j hj => rfl) (fun _ _ => rfl)
  refine jr_aload_n hE dX8_product_0 0 rfl ?_
  refine jr_lconst (v := (0 : Int64)) hE dX8_product_1 (by decide) ?_
  refine jr_kVv (ci := 8) (n := 1) (As := [.long (0 : Int64)]) (rest := []) hE dX8_product_2 (fun l => c_X8_becomeNumber l G o h x0 0) gX8_product_X8_becomeNumber rfl hB0.ob rfl (by decide +kernel) ⟨rfl, rfl, by decide, by decide⟩ (by decide) rfl rfl (Nat.le_of_ble_eq_true rfl) (⟨hB0, by decide⟩) (fun F1 q2 => ?_)
  obtain ⟨hB1, fr1⟩ := q2
  refine jr_bipush (v := (7 : Int32)) hE dX8_product_5 (by decide) ?_
  refine jr_istore_n (lv' := [(3, .int (7 : Int32)), (0, .ref o), (1, .ref oa), (2, .ref ob)]) hE dX8_product_7 (by decide) rfl ?_
  exact loop 8 F1 0 (by decide) hB1 (by rw [Nat.div_eq_of_lt (Nat.lt_trans hbb (by decide)), Nat.mul_zero, Nat.zero_mod]) (fun x hx => fr1 x hx)

theorem bnum_foldl (l : List Nat) : ∀ a, l.foldl (fun a b => a * 256 + b) a = a * 256 ^ l.length + bnum l := by
  unfold bnum
  induction l with
  | nil => intro a; simp
  | cons b l ih =>
    intro a
    rw [List.foldl_cons, ih, List.foldl_cons, ih (0 * 256 + b), List.length_cons, Nat.pow_succ, Nat.add_mul, Nat.zero_mul, Nat.zero_add, Nat.add_assoc, Nat.mul_assoc, Nat.mul_comm 256]
theorem bnum_app (l r : List Nat) : bnum (l ++ r) = bnum l * 256 ^ r.length + bnum r := by
  rw [bnum, List.foldl_append, bnum_foldl]; rfl
theorem wd_split (bs : List Nat) (st k : Nat) (h : st + 4 * (k + 1) ≤ bs.length) : bnum ((bs.drop st).take (4 * (k + 1))) = bnum ((bs.drop st).take 4) * 256 ^ (4 * k) + bnum ((bs.drop (st + 4)).take (4 * k)) := by
  rw [show 4 * (k + 1) = 4 + 4 * k by omega, List.take_add, bnum_app, List.drop_drop]
  congr 2
  rw [List.length_take, List.length_drop]
  congr 1
  omega
theorem tk_v {bs : List Nat} {d : Nat → Nat} {st : Nat} (h : st + 32 ≤ bs.length) (hd : ∀ j, j < 8 → d j = bnum ((bs.drop (st + 28 - 4 * j)).take 4)) : ∀ k, k ≤ 8 → dv d k = bnum ((bs.drop (st + 32 - 4 * k)).take (4 * k)) := by
  intro k
  induction k with
  | zero => intro _; rfl
  | succ k ih =>
    intro hk
    rw [dv, ih (by omega), hd k (by omega), wd_split bs _ k (by omega), show st + 32 - 4 * (k + 1) + 4 = st + 32 - 4 * k by omega, show st + 32 - 4 * (k + 1) = st + 28 - 4 * k by omega, show (256 : Nat) ^ (4 * k) = 2 ^ (32 * k) by rw [show (256 : Nat) = 2 ^ 8 from rfl, ← Nat.pow_mul]; congr 1; omega]
    omega
theorem jBy.num_lt {G : Nat → ClassId} {L : List Nat} {F : Nat → va_E} {o h cap : Nat} {bs : List Nat} (hB : jBy G L F o h cap bs) (st n : Nat) (hs : st + n ≤ bs.length) : bnum ((bs.drop st).take n) < 256 ^ n := by
  refine bnum_lt n _ (by rw [List.length_take, List.length_drop]; omega) (fun b hb => ?_)
  obtain ⟨k, hk⟩ := List.mem_iff_getElem?.mp (List.mem_of_mem_drop (List.mem_of_mem_take hb))
  have hkl := (List.getElem?_eq_some_iff.mp hk).1
  have := hB.lt hkl
  simpa [List.getD, hk] using this

theorem b2i_z (p : Prop) [Decidable p] : narrow .boolean (.int (b2i p)) = .int (b2i p) := by
  unfold b2i
  split <;> rfl

set_option maxHeartbeats 4000000 in
set_option maxRecDepth 100000 in
theorem c_X8_take (l : Launch) (G : Nat → ClassId) (o h ob hb cap st x : Nat) (bs : List Nat) : jKi l yX8_take wsX8_take ({ frames := 2, cells := 0, slots := 0, locals := 46 }) G [.ref o, .ref ob, .int (nI st)] (fun L F => jSc G L F o h x ∧ jBy G L F ob hb cap bs ∧ st + 32 ≤ bs.length ∧ [o, h, ob, hb].Nodup) (fun L F r F1 => jSc G L F1 o h (bnum ((bs.drop st).take 32)) ∧ (∀ x, x ∉ [h] → F1 x = F x) ∧ r = b2i (bnum ((bs.drop st).take 32) < NN)) := by
  refine jm_ki (cc := cX8_take) (maxL := 4) (rt := .boolean) (by decide) rfl (Nat.le_of_ble_eq_true rfl) ?_
  intro E L F hE hR hpre
  have hE : jOk E G _ cX8_take 4 RX8 wsX8_take := hE

  have f7 : jFl RX8 wsX8_take 7 8 0 := ⟨rfl, by decide, by decide +kernel, by decide +kernel⟩
  obtain ⟨⟨f, d, ho, hh, hf, hd, hd8, hx⟩, hB, hlen, hnd⟩ := hpre
  have hcp := hB.cap
  have loop : ∀ (r i : Nat) (F2 : Nat → va_E) (f2 : Nat → Int64) (d2 : Nat → Nat), i + r = 8 → jF L F2 o (.inr (8, [.ref h])) → jF L F2 h (.inl (G 2, 9, .inr (.inl f2))) → jBy G L F2 ob hb cap bs → (∀ j, j < 9 → f2 j = lN (d2 j)) → (∀ j, j < 8 → d2 j < 2 ^ 32) → d2 8 < 2 ^ 34 → (∀ j, j < i → d2 j = bnum ((bs.drop (st + 28 - 4 * j)).take 4)) → (∀ x, x ∉ [h] → F2 x = F x) → J E L F2 0 0 2 [(3, .int (nI i)), (0, .ref o), (1, .ref ob), (2, .int (nI st))] [] := by
    intro r
    induction r with
    | zero =>
      intro i F2 f2 d2 hin ho hh hB hf2 hd2 hd8 hz hfr
      refine jr_iload_n hE dX8_take_2 0 rfl ?_
      refine jr_bipush (v := (8 : Int32)) hE dX8_take_3 (by decide) ?_
      refine jr_icmp_ge (tgt := 33) hE dX8_take_5 (by decide) (fun c_5 => ?_) (fun c_5 => absurd (nI_le (a := 8) (by omega) (by omega)) c_5)
      refine jr_aload_n hE dX8_take_33 1 rfl ?_
      refine jr_get hE dX8_take_34 f7 ho rfl ?_
      refine jr_bipush (v := (8 : Int32)) hE dX8_take_37 (by decide) ?_
      refine jr_lconst (v := (0 : Int64)) hE dX8_take_39 (by decide) ?_
      refine jr_last hE dX8_take_40 hh (vp_in_nI (n := 8) (by decide) (by decide)) (fun F1 g2 u3 => ?_)
      obtain ⟨f4, ef4⟩ : ∃ z, z = vp_updL f2 (8 : Int32).toNatClampNeg (0 : Int64) := ⟨_, rfl⟩
      rw [← ef4] at g2
      have g5 := ho.upk u3 hh (Nat.ne_of_beq_eq_false rfl)
      subst hin
      have hS : jSc G L F1 o h (bnum ((bs.drop st).take 32)) := ⟨_, du d2 8 0, g5, g2, lst hf2 (by decide) (by rw [ef4]; rfl), du_lt_8 hd2, by rw [du_s]; decide, by rw [dv9, du_s, dv_du (Nat.le_refl _), Nat.zero_mul, Nat.add_zero]; exact tk_v hlen hz 8 (Nat.le_refl 8)⟩
      refine jr_aload_n hE dX8_take_41 1 rfl ?_
      refine jr_kVi (ci := 8) (n := 0) (As := []) (rest := []) hE dX8_take_42 (fun l => c_X8_isBelowN l G o h _) gX8_take_X8_isBelowN rfl hS.ob rfl (by decide +kernel) ⟨rfl, rfl, by decide, by decide⟩ (by decide) rfl rfl (Nat.le_of_ble_eq_true rfl) (⟨hS, hB.num_lt st 32 hlen⟩) (fun r8 F6 q7 => ?_)
      obtain ⟨e, rfl⟩ := q7
      subst e
      exact hR _ _ _ _ dX8_take_45 (b2i_z _) ⟨hS, fun x hx => (u3 x (jne hx 0 rfl)).trans (hfr x hx), rfl⟩
    | succ r ih =>
      intro i F2 f2 d2 hin ho hh hB hf2 hd2 hd8 hz hfr
      refine jr_iload_n hE dX8_take_2 0 rfl ?_
      refine jr_bipush (v := (8 : Int32)) hE dX8_take_3 (by decide) ?_
      refine jr_icmp_ge (tgt := 33) hE dX8_take_5 (by decide) (fun c_5 => absurd c_5 (nI_ge (b := 8) (by omega) (by decide))) (fun c_5 => ?_)
      refine jr_aload_n hE dX8_take_8 1 rfl ?_
      refine jr_get hE dX8_take_9 f7 ho rfl ?_
      refine jr_iload_n hE dX8_take_12 0 rfl ?_
      refine jr_aload_n hE dX8_take_13 2 rfl ?_
      refine jr_iload_n hE dX8_take_14 3 rfl ?_
      refine jr_bipush (v := (28 : Int32)) hE dX8_take_15 (by decide) ?_
      refine jr_iadd (z := nI (st + 28)) hE dX8_take_17 (nI_add st 28) ?_
      refine jr_iconst (v := (4 : Int32)) hE dX8_take_18 (by decide) ?_
      refine jr_iload_n hE dX8_take_19 0 rfl ?_
      refine jr_imul (z := nI (4 * i)) hE dX8_take_20 (pk_mul 4 i) ?_
      refine jr_isub (z := nI (st + 28 - 4 * i)) hE dX8_take_21 (pk_sub (by omega)) ?_
      refine jr_iconst (v := (4 : Int32)) hE dX8_take_22 (by decide) ?_
      refine jr_kVl (ci := 0) (n := 2) (As := [.int (nI (st + 28 - 4 * i)), .int (4 : Int32)]) (rest := [.int (nI i), .ref h]) hE dX8_take_23 (fun l => c_X0_number l G ob hb cap (st + 28 - 4 * i) 4 bs) gX8_take_X0_number rfl hB.ob rfl (by decide +kernel) ⟨rfl, rfl, by decide, by decide⟩ (by decide) rfl rfl (Nat.le_of_ble_eq_true rfl) (⟨hB, by omega, by decide⟩) (fun r3 F1 q2 => ?_)
      obtain ⟨e, rfl⟩ := q2
      subst e
      have hw := hB.num_lt (st + 28 - 4 * i) 4 (by omega)
      refine jr_last hE dX8_take_26 hh (vp_in_nI (by omega) (by omega)) (fun F4 g5 u6 => ?_)
      obtain ⟨f7, ef7⟩ : ∃ z, z = vp_updL f2 (nI i).toNatClampNeg (lN (bnum ((bs.drop (st + 28 - 4 * i)).take 4))) := ⟨_, rfl⟩
      rw [← ef7] at g5
      have g8 := ho.upk u6 hh (Nat.ne_of_beq_eq_false rfl)
      refine jr_iinc (v := nI (i + 1)) (lv' := [(3, .int (nI (i + 1))), (0, .ref o), (1, .ref ob), (2, .int (nI st))]) hE dX8_take_27 0 rfl (nI_1 _) (by decide) rfl ?_
      refine jr_goto (tgt := 2) hE dX8_take_30 (by decide) ?_
      exact ih (i + 1) F4 _ (du d2 i (bnum ((bs.drop (st + 28 - 4 * i)).take 4))) (by omega) g8 g5 (hB.fr (u6 ob (jn2 hnd 2 1 rfl rfl (by decide))) (u6 hb (jn2 hnd 3 1 rfl rfl (by decide)))) (lst hf2 (by omega) ef7) (du_lt hd2 hw) (by
        rw [du_n (by omega)]; exact hd8) (fun j hj => by
        by_cases q : j = i
        · rw [q, du_s]
        · rw [du_n q]; exact hz j (by omega)) (fun x hx => (u6 x (jne hx 0 rfl)).trans (hfr x hx))
  refine jr_iconst (v := (0 : Int32)) hE dX8_take_0 (by decide) ?_
  refine jr_istore_n (lv' := [(3, .int (0 : Int32)), (0, .ref o), (1, .ref ob), (2, .int (nI st))]) hE dX8_take_1 (by decide) rfl ?_
  exact loop 8 0 F f d rfl ho hh hB hf hd hd8 (fun j hj => absurd hj (Nat.not_lt_zero j)) (fun _ _ => rfl)

set_option maxHeartbeats 4000000 in
set_option maxRecDepth 100000 in
theorem c_X8_takeDigest (l : Launch) (G : Nat → ClassId) (o h ob hb cap x : Nat) (bs : List Nat) : jKv l yX8_takeDigest wsX8_takeDigest ({ frames := 3, cells := 0, slots := 0, locals := 69 }) G [.ref o, .ref ob] (fun L F => jSc G L F o h x ∧ jBy G L F ob hb cap bs ∧ bs.length = 32 ∧ [o, h, ob, hb].Nodup) (fun L F F1 => jSc G L F1 o h (bnum bs % NN) ∧ ∀ x, x ∉ [h] → F1 x = F x) := by
  refine jm_kv (cc := cX8_takeDigest) (maxL := 2) (by decide) rfl (Nat.le_of_ble_eq_true rfl) ?_
  intro E L F hE hR hpre
  have hE : jOk E G _ cX8_takeDigest 2 RX8 wsX8_takeDigest := hE
  obtain ⟨hS, hB, hlen, hnd⟩ := hpre
  refine jr_aload_n hE dX8_takeDigest_0 0 rfl ?_
  refine jr_aload_n hE dX8_takeDigest_1 1 rfl ?_
  refine jr_iconst (v := (0 : Int32)) hE dX8_takeDigest_2 (by decide) ?_
  refine jr_kVi (ci := 8) (n := 2) (As := [.ref ob, .int (0 : Int32)]) (rest := []) hE dX8_takeDigest_3 (fun l => c_X8_take l G o h ob hb cap 0 x bs) gX8_takeDigest_X8_take rfl hS.ob rfl (by decide +kernel) ⟨rfl, rfl, by decide, by decide⟩ (by decide) rfl rfl (Nat.le_of_ble_eq_true rfl) (⟨hS, hB, by omega, hnd⟩) (fun r3 F1 q2 => ?_)
  obtain ⟨hS1, fr1, rfl⟩ := q2
  refine jr_pop hE dX8_takeDigest_6 rfl ?_
  refine jr_aload_n hE dX8_takeDigest_7 0 rfl ?_
  refine jr_kVv (ci := 8) (n := 0) (As := []) (rest := []) hE dX8_takeDigest_8 (fun l => c_X8_reduce l G o h _) gX8_takeDigest_X8_reduce rfl hS1.ob rfl (by decide +kernel) ⟨rfl, rfl, by decide, by decide⟩ (by decide) rfl rfl (Nat.le_of_ble_eq_true rfl) (⟨hS1, Nat.lt_trans (hB.num_lt 0 32 (by omega)) (by decide)⟩) (fun F4 q5 => ?_)
  obtain ⟨hS2, fr2⟩ := q5
  exact hR F4 _ _ dX8_takeDigest_11 ⟨by rw [List.drop_zero, List.take_of_length_le (by omega)] at hS2; exact hS2, fun x hx => (fr2 x hx).trans (fr1 x hx)⟩

def bex (x : Nat) : Nat → List Nat
  | 0 => []
  | n + 1 => x / 256 ^ n % 256 :: bex x n
theorem bex_len (x : Nat) : ∀ n, (bex x n).length = n
  | 0 => rfl
  | n + 1 => by rw [bex, List.length_cons, bex_len x n]
theorem nb_bex {w : Nat} (h : w < 2 ^ 64) : ∀ n, nb (lN w) n = bex w n
  | 0 => rfl
  | n + 1 => by
    rw [nb, bex, nb_bex h n]
    congr 1
    unfold byt
    rw [wb_tn h, show (256 : Nat) ^ n = 2 ^ (8 * n) by rw [show (256 : Nat) = 2 ^ 8 from rfl, ← Nat.pow_mul]]
theorem bex_app {d : Nat → Nat} {x k : Nat} (hx : dv d 9 = x) (hd : ∀ j, j < 8 → d j < 2 ^ 32) (hk : k < 8) : ∀ n, n ≤ 4 → bex (d k) n ++ bex x (4 * k) = bex x (4 * k + n)
  | 0, _ => rfl
  | n + 1, h => by
    rw [bex, List.cons_append, bex_app hx hd hk n (by omega), ← Nat.add_assoc, bex, ← dig_eq hx hd hk]
    congr 1
    rw [show (256 : Nat) ^ (4 * k + n) = 2 ^ (32 * k) * 256 ^ n by rw [Nat.pow_add, show (256 : Nat) ^ (4 * k) = 2 ^ (32 * k) by rw [show (256 : Nat) = 2 ^ 8 from rfl, ← Nat.pow_mul]; congr 1; omega], ← Nat.div_div_eq_div_mul]
    generalize x / 2 ^ (32 * k) = y
    have e : (2 : Nat) ^ 32 = 256 ^ n * 256 ^ (4 - n) := by rw [← Nat.pow_add, show n + (4 - n) = 4 by omega]
    have e2 : (256 : Nat) ^ (4 - n) = 256 * 256 ^ (3 - n) := by rw [show 4 - n = (3 - n) + 1 by omega, Nat.pow_succ, Nat.mul_comm]
    have h1 := Nat.mod_add_div y (2 ^ 32)
    have h2 : y / 256 ^ n = y % 2 ^ 32 / 256 ^ n + 256 * (256 ^ (3 - n) * (y / 2 ^ 32)) := by
      conv => lhs; rw [← h1]
      rw [e, e2, Nat.mul_assoc, Nat.add_mul_div_left _ _ (Nat.pow_pos (by decide)), Nat.mul_assoc]
    rw [h2, Nat.add_mul_mod_self_left]

set_option maxHeartbeats 4000000 in
set_option maxRecDepth 100000 in
theorem c_X8_addTo (l : Launch) (G : Nat → ClassId) (o h ob hb cap x : Nat) (bs : List Nat) : jKv l yX8_addTo wsX8_addTo ({ frames := 2, cells := 0, slots := 0, locals := 45 }) G [.ref o, .ref ob] (fun L F => jSc G L F o h x ∧ jBy G L F ob hb cap bs ∧ bs.length + 32 ≤ cap ∧ [o, h, ob, hb].Nodup) (fun L F F1 => jBy G L F1 ob hb cap (bs ++ bex x 32) ∧ ∀ x, x ∉ [ob, hb] → F1 x = F x) := by
  refine jm_kv (cc := cX8_addTo) (maxL := 3) (by decide) rfl (Nat.le_of_ble_eq_true rfl) ?_
  intro E L F hE hR hpre
  have hE : jOk E G _ cX8_addTo 3 RX8 wsX8_addTo := hE

  have f7 : jFl RX8 wsX8_addTo 7 8 0 := ⟨rfl, by decide, by decide +kernel, by decide +kernel⟩
  obtain ⟨⟨f, d, ho, hh, hf, hd, hd8, hx⟩, hB, hlen, hnd⟩ := hpre
  have hcp := hB.cap
  have loop : ∀ (k : Nat) (F2 : Nat → va_E) (b1 : List Nat), k ≤ 8 → jF L F2 o (.inr (8, [.ref h])) → jF L F2 h (.inl (G 2, 9, .inr (.inl f))) → jBy G L F2 ob hb cap b1 → b1.length + 4 * k ≤ cap → b1 ++ bex x (4 * k) = bs ++ bex x 32 → (∀ x, x ∉ [ob, hb] → F2 x = F x) → J E L F2 0 0 3 [(2, .int (nI k - 1)), (0, .ref o), (1, .ref ob)] [] := by
    intro k
    induction k with
    | zero =>
      intro F2 b1 hk8 ho hh hB hl he hfr
      refine jr_iload_n hE dX8_addTo_3 0 rfl ?_
      refine jr_if_lt (tgt := 24) hE dX8_addTo_4 (by decide) (fun c_4 => ?_) (fun c_4 => absurd (by decide) c_4)
      exact hR F2 _ _ dX8_addTo_24 ⟨by rw [← he]; simpa [bex] using hB, hfr⟩
    | succ k ih =>
      intro F2 b1 hk8 ho hh hB hl he hfr
      rw [nI_pred]
      refine jr_iload_n hE dX8_addTo_3 0 rfl ?_
      refine jr_if_lt (tgt := 24) hE dX8_addTo_4 (by decide) (fun c_4 => absurd c_4 (nI_pos (by omega))) (fun c_4 => ?_)
      refine jr_aload_n hE dX8_addTo_7 2 rfl ?_
      refine jr_aload_n hE dX8_addTo_8 1 rfl ?_
      refine jr_get hE dX8_addTo_9 f7 ho rfl ?_
      refine jr_iload_n hE dX8_addTo_12 0 rfl ?_
      refine jr_lald (v := lN (d k)) hE dX8_addTo_13 hh (vp_in_nI (by omega) (by omega)) (by rw [nI_clamp (by omega)]; exact hf k (by omega)) ?_
      refine jr_iconst (v := (4 : Int32)) hE dX8_addTo_14 (by decide) ?_
      refine jr_kVv (ci := 0) (n := 2) (As := [.long (lN (d k)), .int (4 : Int32)]) (rest := []) hE dX8_addTo_15 (fun l => c_X0_addNumber l G ob hb cap 4 b1 (lN (d k))) gX8_addTo_X0_addNumber rfl hB.ob rfl (by decide +kernel) ⟨rfl, rfl, by decide, by decide⟩ (by decide) rfl rfl (Nat.le_of_ble_eq_true rfl) (⟨hB, by omega, by decide⟩) (fun F1 q2 => ?_)
      obtain ⟨hB1, fr1⟩ := q2
      refine jr_iinc (v := nI k - 1) (lv' := [(2, .int (nI k - 1)), (0, .ref o), (1, .ref ob)]) hE dX8_addTo_18 0 rfl (im1 _) (by decide) rfl ?_
      refine jr_goto (tgt := 3) hE dX8_addTo_21 (by decide) ?_
      exact ih F1 _ (by omega) (ho.fr (fr1 o (jn hnd 0 [2, 3] rfl rfl (by decide)))) (hh.fr (fr1 h (jn hnd 1 [2, 3] rfl rfl (by decide)))) hB1 (by rw [List.length_append, nb_len]; omega) (by rw [List.append_assoc, nb_bex (Nat.lt_trans (hd k (by omega)) (by decide)), bex_app hx hd (by omega) 4 (by decide)]; exact he) (fun x hx => (fr1 x hx).trans (hfr x hx))
  refine jr_bipush (v := (7 : Int32)) hE dX8_addTo_0 (by decide) ?_
  refine jr_istore_n (lv' := [(2, .int (7 : Int32)), (0, .ref o), (1, .ref ob)]) hE dX8_addTo_2 (by decide) rfl ?_
  exact loop 8 F bs (by decide) ho hh hB (by omega) rfl (fun _ _ => rfl)

