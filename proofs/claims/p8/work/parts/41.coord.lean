/-! COORDINATES: nine limbs of 29 bits, modulo P -/
def PP : Nat := 2 ^ 256 - 2 ^ 32 - 977
def iv (x : Int64) (X : Int) (K : Nat) : Prop := x.toInt = X ∧ -(K : Int) ≤ X ∧ X ≤ K
theorem iv_bm {z : Int} {R : Nat} (h1 : -(R : Int) ≤ z) (h2 : z ≤ R) (hR : R < 2 ^ 63) : z.bmod (2 ^ 64) = z := by
  apply Int.bmod_eq_of_le <;> omega
theorem iv_add {x y : Int64} {X Y : Int} {K M R : Nat} (h : iv x X K) (h' : iv y Y M) (hb : K + M ≤ R ∧ R < 2 ^ 63) : iv (x + y) (X + Y) R := by
  obtain ⟨rfl, a, b⟩ := h
  obtain ⟨rfl, a', b'⟩ := h'
  refine ⟨?_, by omega, by omega⟩
  rw [Int64.toInt_add]
  exact iv_bm (R := R) (by omega) (by omega) hb.2
theorem iv_sub {x y : Int64} {X Y : Int} {K M R : Nat} (h : iv x X K) (h' : iv y Y M) (hb : K + M ≤ R ∧ R < 2 ^ 63) : iv (x - y) (X - Y) R := by
  obtain ⟨rfl, a, b⟩ := h
  obtain ⟨rfl, a', b'⟩ := h'
  refine ⟨?_, by omega, by omega⟩
  rw [Int64.toInt_sub]
  exact iv_bm (R := R) (by omega) (by omega) hb.2
theorem abs_mul_le {X Y : Int} {K M : Nat} (a : -(K : Int) ≤ X) (b : X ≤ K) (a' : -(M : Int) ≤ Y) (b' : Y ≤ M) : -((K * M : Nat) : Int) ≤ X * Y ∧ X * Y ≤ ((K * M : Nat) : Int) := by
  have h1 : X.natAbs ≤ K := by omega
  have h2 : Y.natAbs ≤ M := by omega
  have h3 : (X * Y).natAbs ≤ K * M := by rw [Int.natAbs_mul]; exact Nat.mul_le_mul h1 h2
  generalize K * M = q at *
  generalize X * Y = z at *
  omega
theorem iv_mul {x y : Int64} {X Y : Int} {K M R : Nat} (h : iv x X K) (h' : iv y Y M) (hb : K * M ≤ R ∧ R < 2 ^ 63) : iv (x * y) (X * Y) R := by
  obtain ⟨rfl, a, b⟩ := h
  obtain ⟨rfl, a', b'⟩ := h'
  have hm := abs_mul_le a b a' b'
  have hq : ((K * M : Nat) : Int) ≤ (R : Int) := Int.ofNat_le.mpr hb.1
  refine ⟨?_, by omega, by omega⟩
  rw [Int64.toInt_mul]
  exact iv_bm (R := R) (by omega) (by omega) hb.2
theorem iv_lit {x : Int64} (n : Nat) (h : x.toInt = (n : Int)) : iv x (n : Int) n := ⟨h, by omega, by omega⟩
theorem iv_nm {t x : Int64} {X : Int} {K : Nat} (e : t = x) (h : iv x X K) : t.toInt = X ∧ iv t t.toInt K := by
  subst e
  exact ⟨h.1, rfl, by rw [h.1]; exact h.2.1, by rw [h.1]; exact h.2.2⟩
theorem iv_shr {x : Int64} {X p : Int} {K R k : Nat} {c : Int32} (h : iv x X K) (hs : ((c.toInt64 &&& 63).toBitVec.smod 64).toNat = k) (hp : p = 2 ^ k) (hb : K / 2 ^ k + 1 ≤ R) : iv (x >>> (c.toInt64 &&& 63)) (X / p) R := by
  obtain ⟨rfl, a, b⟩ := h
  have hpp : (0 : Int) < 2 ^ k := Int.pow_pos (by decide)
  have hk : ((K / 2 ^ k : Nat) : Int) = (K : Int) / 2 ^ k := by simp
  refine ⟨by rw [ls_toInt _ _ k hs, Int.shiftRight_eq_div_pow, hp]; norm_cast, ?_, ?_⟩
  · rw [hp]
    have h1 : -((K : Int) / 2 ^ k + 1) ≤ x.toInt / 2 ^ k := by
      apply Int.le_ediv_of_mul_le hpp
      have h2 := Int.lt_ediv_add_one_mul_self (K : Int) hpp
      rw [Int.neg_mul]; omega
    omega
  · rw [hp]
    have h1 : x.toInt / 2 ^ k ≤ (K : Int) / 2 ^ k := Int.ediv_le_ediv hpp b
    omega
theorem lshl_mul (x : Int64) {c : Int32} (k : Nat) (hk : k < 64) (hs : (c.toInt64 &&& 63) = lN k) : x <<< (c.toInt64 &&& 63) = x * lN (2 ^ k) := by
  obtain ⟨n, hn, rfl⟩ := wb_of x
  have h1 := wb_shl n hk
  rw [wb_c k hk] at h1
  rw [hs, h1, lN_mul]
theorem iv_shl {x : Int64} {X p : Int} {K R k : Nat} {c : Int32} (h : iv x X K) (hs : (c.toInt64 &&& 63) = lN k ∧ k < 63) (hp : p = 2 ^ k) (hb : K * 2 ^ k ≤ R ∧ R < 2 ^ 63) : iv (x <<< (c.toInt64 &&& 63)) (X * p) R := by
  rw [lshl_mul x k (by omega) hs.1]
  refine iv_mul h (M := 2 ^ k) ⟨?_, ?_, ?_⟩ hb
  · rw [pk_lT (Nat.pow_lt_pow_right (by decide) hs.2), hp]; norm_cast
  · rw [hp]; have : (0 : Int) < 2 ^ k := Int.pow_pos (by decide); have h2 : (0 : Int) ≤ ((2 ^ k : Nat) : Int) := Int.natCast_nonneg _; omega
  · rw [hp]; norm_cast; exact Nat.le_refl _
theorem iv_and {x c : Int64} {X p : Int} {K R : Nat} (h : iv x X K) (k : Nat) (hk : k < 63 ∧ c = lN (2 ^ k - 1)) (hp : p = 2 ^ k) (hb : 2 ^ k - 1 = R) : iv (x &&& c) (X % p) R := by
  obtain ⟨rfl, -, -⟩ := h
  have hpp : (0 : Int) < 2 ^ k := Int.pow_pos (by decide)
  have h0 := Int.emod_nonneg x.toInt (Int.ne_of_gt hpp)
  have h1 := Int.emod_lt_of_pos x.toInt hpp
  have hR : (R : Int) = 2 ^ k - 1 := by
    rw [← hb, Int.ofNat_sub Nat.one_le_two_pow]; norm_cast
  rw [hp]
  refine ⟨?_, by omega, by omega⟩
  obtain ⟨n, hn, rfl⟩ := wb_of x
  rw [hk.2, wb_mask hn (by omega), pk_lT (Nat.lt_trans (Nat.mod_lt _ (Nat.two_pow_pos k)) (Nat.pow_lt_pow_right (by decide) hk.1))]
  have h2 : (lN n).toInt % 2 ^ k = (n : Int) % 2 ^ k := by
    have h3 : (lN n).toInt = (n : Int).bmod (2 ^ 64) := by
      rw [← Int64.toInt_toBitVec, wb_tb, BitVec.toInt_ofNat']
    rw [h3]
    have h4 : ((2 : Int) ^ k) ∣ ((2 ^ 64 : Nat) : Int) := ⟨2 ^ (64 - k), by rw [← Int.pow_add, show k + (64 - k) = 64 by omega]; norm_cast⟩
    rw [← Int.emod_emod_of_dvd _ h4, Int.bmod_emod, Int.emod_emod_of_dvd _ h4]
  rw [h2]; norm_cast

abbrev cC (l : Nat → Int64) : va_E := .inr (1, [.long (l 0), .long (l 1), .long (l 2), .long (l 3), .long (l 4), .long (l 5), .long (l 6), .long (l 7), .long (l 8)])
def cl9 (a b c d e f g h i : Int64) : Nat → Int64 := fun j => [a, b, c, d, e, f, g, h, i].getD j 0
def cV (l : Nat → Int64) : Int := (l 0).toInt + (l 1).toInt * 536870912 + (l 2).toInt * 536870912 ^ 2 + (l 3).toInt * 536870912 ^ 3 + (l 4).toInt * 536870912 ^ 4 + (l 5).toInt * 536870912 ^ 5 + (l 6).toInt * 536870912 ^ 6 + (l 7).toInt * 536870912 ^ 7 + (l 8).toInt * 536870912 ^ 8
/-- every limb within K of nought -/
def cK (K K8 : Nat) (l : Nat → Int64) : Prop := (∀ i, i < 8 → iv (l i) (l i).toInt K) ∧ iv (l 8) (l 8).toInt K8
theorem cK.at {K K8 : Nat} {l : Nat → Int64} (h : cK K K8 l) (i : Nat) (hi : i < 8) : iv (l i) (l i).toInt K := h.1 i hi
theorem cK_of {K K8 : Nat} {a b c d e f g h i : Int64} (ha : iv a a.toInt K) (hb : iv b b.toInt K) (hc : iv c c.toInt K) (hd : iv d d.toInt K) (he : iv e e.toInt K) (hf : iv f f.toInt K) (hg : iv g g.toInt K) (hh : iv h h.toInt K) (hi : iv i i.toInt K8) : cK K K8 (cl9 a b c d e f g h i) := by
  refine ⟨fun j hj => ?_, hi⟩
  match j, hj with
  | 0, _ => exact ha
  | 1, _ => exact hb
  | 2, _ => exact hc
  | 3, _ => exact hd
  | 4, _ => exact he
  | 5, _ => exact hf
  | 6, _ => exact hg
  | 7, _ => exact hh
  | n + 8, hj => exact absurd hj (by omega)
theorem iv_le {x : Int64} {X : Int} {K R : Nat} (h : iv x X K) (hb : K ≤ R) : iv x X R := ⟨h.1, by have := h.2.1; omega, by have := h.2.2; omega⟩
def cM : Nat := 536887296
def cM8 : Nat := 16793600
/-- a coordinate that is x modulo P -/
def jCo (L : List Nat) (F : Nat → va_E) (a x : Nat) : Prop := ∃ l : Nat → Int64, jF L F a (cC l) ∧ cK 536887296 16793600 l ∧ cV l % (PP : Int) = (x : Int)
theorem jCo.fr {L : List Nat} {F F' : Nat → va_E} {a x : Nat} (h : jCo L F a x) (e : F' a = F a) : jCo L F' a x := by
  obtain ⟨l, h1, h2⟩ := h
  exact ⟨l, h1.fr e, h2⟩
theorem jCo.cell {L : List Nat} {F : Nat → va_E} {a x : Nat} (h : jCo L F a x) : ∃ l, jF L F a (cC l) := by
  obtain ⟨l, h1, h2⟩ := h
  exact ⟨l, h1⟩

theorem lo9 {m0 m1 m2 m3 m4 m5 m6 m7 m8 : Int64} {a b c d e f g h : Int} (h0 : m0.toInt = a % 536870912) (h1 : m1.toInt = b % 536870912) (h2 : m2.toInt = c % 536870912) (h3 : m3.toInt = d % 536870912) (h4 : m4.toInt = e % 536870912) (h5 : m5.toInt = f % 536870912) (h6 : m6.toInt = g % 536870912) (h7 : m7.toInt = h % 536870912) : ∀ i, i < 8 → 0 ≤ (cl9 m0 m1 m2 m3 m4 m5 m6 m7 m8 i).toInt ∧ (cl9 m0 m1 m2 m3 m4 m5 m6 m7 m8 i).toInt < 536870912 := by
  intro i hi
  match i, hi with
  | 0, _ => show 0 ≤ m0.toInt ∧ m0.toInt < 536870912; omega
  | 1, _ => show 0 ≤ m1.toInt ∧ m1.toInt < 536870912; omega
  | 2, _ => show 0 ≤ m2.toInt ∧ m2.toInt < 536870912; omega
  | 3, _ => show 0 ≤ m3.toInt ∧ m3.toInt < 536870912; omega
  | 4, _ => show 0 ≤ m4.toInt ∧ m4.toInt < 536870912; omega
  | 5, _ => show 0 ≤ m5.toInt ∧ m5.toInt < 536870912; omega
  | 6, _ => show 0 ≤ m6.toInt ∧ m6.toInt < 536870912; omega
  | 7, _ => show 0 ≤ m7.toInt ∧ m7.toInt < 536870912; omega
  | n + 8, hj => exact absurd hj (by omega)
theorem lo8 {m z : Int64} {a : Int} {K : Nat} (h : m.toInt = a % 16777216 + z.toInt) (hz : iv z z.toInt K) (hK : K ≤ 1024) : -1024 ≤ m.toInt := by
  have := hz.2.1
  omega
theorem PP_eq : (PP : Int) = 536870912 ^ 8 * 16777216 - 4294968273 := by decide

theorem carry_alg {lm8 z1 ov lm0 t0 m0 z5 z6 lm1 t1 m1 z10 lm2 t2 m2 z14 lm3 t3 m3 z18 lm4 t4 m4 z22 lm5 t5 m5 z26 lm6 t6 m6 z30 lm7 t7 m7 z34 m8 : Int} (h0 : z1 = (lm8 / 16777216)) (h1 : ov = z1) (h2 : t0 = (lm0 + (ov * (977 : Int)))) (h3 : m0 = (t0 % 536870912)) (h4 : z5 = (t0 / 536870912)) (h5 : z6 = (ov * 8)) (h6 : t1 = ((z5 + lm1) + z6)) (h7 : m1 = (t1 % 536870912)) (h8 : z10 = (t1 / 536870912)) (h9 : t2 = (z10 + lm2)) (h10 : m2 = (t2 % 536870912)) (h11 : z14 = (t2 / 536870912)) (h12 : t3 = (z14 + lm3)) (h13 : m3 = (t3 % 536870912)) (h14 : z18 = (t3 / 536870912)) (h15 : t4 = (z18 + lm4)) (h16 : m4 = (t4 % 536870912)) (h17 : z22 = (t4 / 536870912)) (h18 : t5 = (z22 + lm5)) (h19 : m5 = (t5 % 536870912)) (h20 : z26 = (t5 / 536870912)) (h21 : t6 = (z26 + lm6)) (h22 : m6 = (t6 % 536870912)) (h23 : z30 = (t6 / 536870912)) (h24 : t7 = (z30 + lm7)) (h25 : m7 = (t7 % 536870912)) (h26 : z34 = (t7 / 536870912)) (h27 : m8 = ((lm8 % 16777216) + z34)) : m0 + m1 * 536870912 + m2 * 536870912 ^ 2 + m3 * 536870912 ^ 3 + m4 * 536870912 ^ 4 + m5 * 536870912 ^ 5 + m6 * 536870912 ^ 6 + m7 * 536870912 ^ 7 + m8 * 536870912 ^ 8 = lm0 + lm1 * 536870912 + lm2 * 536870912 ^ 2 + lm3 * 536870912 ^ 3 + lm4 * 536870912 ^ 4 + lm5 * 536870912 ^ 5 + lm6 * 536870912 ^ 6 + lm7 * 536870912 ^ 7 + lm8 * 536870912 ^ 8 - (PP : Int) * (lm8 / 16777216) := by
  rw [PP_eq]
  omega

set_option maxHeartbeats 4000000 in
set_option maxRecDepth 100000 in
theorem c_X1_carry (l : Launch) (G : Nat → ClassId) (o : Nat) (lm : Nat → Int64) : jKv l yX1_carry wsX1_carry ({ frames := 0, cells := 0, slots := 0, locals := 0 }) G [.ref o] (fun L F => jF L F o (cC lm) ∧ cK 17179869184 17179869184 lm) (fun L F F1 => ∃ l1, jF L F1 o (cC l1) ∧ cK 536870912 16778240 l1 ∧ cV l1 = cV lm - (PP : Int) * ((lm 8).toInt / 16777216) ∧ (∀ i, i < 8 → 0 ≤ (l1 i).toInt ∧ (l1 i).toInt < 536870912) ∧ -1024 ≤ (l1 8).toInt ∧ ∀ x, x ∉ [o] → F1 x = F x) := by
  refine jm_kv (cc := cX1_carry) (maxL := 5) (by decide) rfl (Nat.le_of_ble_eq_true rfl) ?_
  intro E L F hE hR hpre
  have hE : jOk E G _ cX1_carry 5 RX1 wsX1_carry := hE
  obtain ⟨ho, hK⟩ := hpre
  have f34 : jFl RX1 wsX1_carry 34 1 8 := ⟨rfl, by decide, by decide +kernel, by decide +kernel⟩
  have f7 : jFl RX1 wsX1_carry 7 1 0 := ⟨rfl, by decide, by decide +kernel, by decide +kernel⟩
  have f13 : jFl RX1 wsX1_carry 13 1 1 := ⟨rfl, by decide, by decide +kernel, by decide +kernel⟩
  have f16 : jFl RX1 wsX1_carry 16 1 2 := ⟨rfl, by decide, by decide +kernel, by decide +kernel⟩
  have f19 : jFl RX1 wsX1_carry 19 1 3 := ⟨rfl, by decide, by decide +kernel, by decide +kernel⟩
  have f22 : jFl RX1 wsX1_carry 22 1 4 := ⟨rfl, by decide, by decide +kernel, by decide +kernel⟩
  have f25 : jFl RX1 wsX1_carry 25 1 5 := ⟨rfl, by decide, by decide +kernel, by decide +kernel⟩
  have f28 : jFl RX1 wsX1_carry 28 1 6 := ⟨rfl, by decide, by decide +kernel, by decide +kernel⟩
  have f31 : jFl RX1 wsX1_carry 31 1 7 := ⟨rfl, by decide, by decide +kernel, by decide +kernel⟩
  refine jr_aload_n hE dX1_carry_0 0 rfl ?_
  refine jr_get hE dX1_carry_1 f34 ho rfl ?_
  refine jr_bipush (v := (24 : Int32)) hE dX1_carry_4 (by decide) ?_
  refine jr_lshr hE dX1_carry_6 rfl ?_
  refine jr_topl (fun z1 ez1 => ?_)
  obtain ⟨E_z1, B_z1⟩ := iv_nm ez1 (iv_shr hK.2 (c := 24) (k := 24) (p := 16777216) (R := 1025) (by decide) (by decide) (by decide))
  refine jr_topl (fun ov eov => ?_)
  obtain ⟨E_ov, B_ov⟩ := iv_nm eov B_z1
  refine jr_lstore_n (lv' := [(1, .long ov), (0, .ref o)]) hE dX1_carry_7 (by decide) rfl ?_
  refine jr_aload_n hE dX1_carry_8 1 rfl ?_
  refine jr_get hE dX1_carry_9 f7 ho rfl ?_
  refine jr_lload_n hE dX1_carry_12 0 rfl ?_
  refine jr_ldc2 (v := (977 : Int64)) hE dX1_carry_13 (by decide +kernel) ?_
  refine jr_lmul hE dX1_carry_16 rfl ?_
  refine jr_ladd hE dX1_carry_17 rfl ?_
  refine jr_topl (fun t0 et0 => ?_)
  obtain ⟨E_t0, B_t0⟩ := iv_nm et0 (iv_add (hK.1 0 (by decide)) (iv_mul B_ov (iv_lit 977 (by decide)) (R := 1001425) (by decide)) (R := 17180870609) (by decide))
  refine jr_lstore_n (lv' := [(3, .long t0), (1, .long ov), (0, .ref o)]) hE dX1_carry_18 (by decide) rfl ?_
  refine jr_aload_n hE dX1_carry_19 2 rfl ?_
  refine jr_lload_n hE dX1_carry_20 0 rfl ?_
  refine jr_ldc2 (v := (536870911 : Int64)) hE dX1_carry_21 (by decide +kernel) ?_
  refine jr_land hE dX1_carry_24 rfl ?_
  refine jr_topl (fun m0 em0 => ?_)
  obtain ⟨E_m0, B_m0⟩ := iv_nm em0 (iv_and B_t0 (c := 536870911) (p := 536870912) (R := 536870911) 29 (by decide) (by decide) (by decide))
  refine jr_put (ty := .long) hE dX1_carry_25 f7 ho rfl (by decide +kernel) rfl rfl (Nat.le_of_ble_eq_true rfl) (fun F2 g3 u4 => ?_)
  have g3 : jF L F2 o (.inr (1, [.long m0, .long (lm 1), .long (lm 2), .long (lm 3), .long (lm 4), .long (lm 5), .long (lm 6), .long (lm 7), .long (lm 8)])) := g3
  refine jr_lload_n hE dX1_carry_28 0 rfl ?_
  refine jr_bipush (v := (29 : Int32)) hE dX1_carry_29 (by decide) ?_
  refine jr_lshr hE dX1_carry_31 rfl ?_
  refine jr_topl (fun z5 ez5 => ?_)
  obtain ⟨E_z5, B_z5⟩ := iv_nm ez5 (iv_shr B_t0 (c := 29) (k := 29) (p := 536870912) (R := 33) (by decide) (by decide) (by decide))
  refine jr_aload_n hE dX1_carry_32 2 rfl ?_
  refine jr_get hE dX1_carry_33 f13 g3 rfl ?_
  refine jr_ladd hE dX1_carry_36 rfl ?_
  refine jr_lload_n hE dX1_carry_37 1 rfl ?_
  refine jr_iconst (v := (3 : Int32)) hE dX1_carry_38 (by decide) ?_
  refine jr_lshl hE dX1_carry_39 rfl ?_
  refine jr_topl (fun z6 ez6 => ?_)
  obtain ⟨E_z6, B_z6⟩ := iv_nm ez6 (iv_shl B_ov (c := 3) (k := 3) (p := 8) (R := 8200) (by decide) (by decide) (by decide))
  refine jr_ladd hE dX1_carry_40 rfl ?_
  refine jr_topl (fun t1 et1 => ?_)
  obtain ⟨E_t1, B_t1⟩ := iv_nm et1 (iv_add (iv_add B_z5 (hK.1 1 (by decide)) (R := 17179869217) (by decide)) B_z6 (R := 17179877417) (by decide))
  refine jr_lstore_n (lv' := [(3, .long t1), (1, .long ov), (0, .ref o)]) hE dX1_carry_41 (by decide) rfl ?_
  refine jr_aload_n hE dX1_carry_42 2 rfl ?_
  refine jr_lload_n hE dX1_carry_43 0 rfl ?_
  refine jr_ldc2 (v := (536870911 : Int64)) hE dX1_carry_44 (by decide +kernel) ?_
  refine jr_land hE dX1_carry_47 rfl ?_
  refine jr_topl (fun m1 em1 => ?_)
  obtain ⟨E_m1, B_m1⟩ := iv_nm em1 (iv_and B_t1 (c := 536870911) (p := 536870912) (R := 536870911) 29 (by decide) (by decide) (by decide))
  refine jr_put (ty := .long) hE dX1_carry_48 f13 g3 rfl (by decide +kernel) rfl rfl (Nat.le_of_ble_eq_true rfl) (fun F7 g8 u9 => ?_)
  have g8 : jF L F7 o (.inr (1, [.long m0, .long m1, .long (lm 2), .long (lm 3), .long (lm 4), .long (lm 5), .long (lm 6), .long (lm 7), .long (lm 8)])) := g8
  refine jr_lload_n hE dX1_carry_51 0 rfl ?_
  refine jr_bipush (v := (29 : Int32)) hE dX1_carry_52 (by decide) ?_
  refine jr_lshr hE dX1_carry_54 rfl ?_
  refine jr_topl (fun z10 ez10 => ?_)
  obtain ⟨E_z10, B_z10⟩ := iv_nm ez10 (iv_shr B_t1 (c := 29) (k := 29) (p := 536870912) (R := 33) (by decide) (by decide) (by decide))
  refine jr_aload_n hE dX1_carry_55 2 rfl ?_
  refine jr_get hE dX1_carry_56 f16 g8 rfl ?_
  refine jr_ladd hE dX1_carry_59 rfl ?_
  refine jr_topl (fun t2 et2 => ?_)
  obtain ⟨E_t2, B_t2⟩ := iv_nm et2 (iv_add B_z10 (hK.1 2 (by decide)) (R := 17179869217) (by decide))
  refine jr_lstore_n (lv' := [(3, .long t2), (1, .long ov), (0, .ref o)]) hE dX1_carry_60 (by decide) rfl ?_
  refine jr_aload_n hE dX1_carry_61 2 rfl ?_
  refine jr_lload_n hE dX1_carry_62 0 rfl ?_
  refine jr_ldc2 (v := (536870911 : Int64)) hE dX1_carry_63 (by decide +kernel) ?_
  refine jr_land hE dX1_carry_66 rfl ?_
  refine jr_topl (fun m2 em2 => ?_)
  obtain ⟨E_m2, B_m2⟩ := iv_nm em2 (iv_and B_t2 (c := 536870911) (p := 536870912) (R := 536870911) 29 (by decide) (by decide) (by decide))
  refine jr_put (ty := .long) hE dX1_carry_67 f16 g8 rfl (by decide +kernel) rfl rfl (Nat.le_of_ble_eq_true rfl) (fun F11 g12 u13 => ?_)
  have g12 : jF L F11 o (.inr (1, [.long m0, .long m1, .long m2, .long (lm 3), .long (lm 4), .long (lm 5), .long (lm 6), .long (lm 7), .long (lm 8)])) := g12
  refine jr_lload_n hE dX1_carry_70 0 rfl ?_
  refine jr_bipush (v := (29 : Int32)) hE dX1_carry_71 (by decide) ?_
  refine jr_lshr hE dX1_carry_73 rfl ?_
  refine jr_topl (fun z14 ez14 => ?_)
  obtain ⟨E_z14, B_z14⟩ := iv_nm ez14 (iv_shr B_t2 (c := 29) (k := 29) (p := 536870912) (R := 33) (by decide) (by decide) (by decide))
  refine jr_aload_n hE dX1_carry_74 2 rfl ?_
  refine jr_get hE dX1_carry_75 f19 g12 rfl ?_
  refine jr_ladd hE dX1_carry_78 rfl ?_
  refine jr_topl (fun t3 et3 => ?_)
  obtain ⟨E_t3, B_t3⟩ := iv_nm et3 (iv_add B_z14 (hK.1 3 (by decide)) (R := 17179869217) (by decide))
  refine jr_lstore_n (lv' := [(3, .long t3), (1, .long ov), (0, .ref o)]) hE dX1_carry_79 (by decide) rfl ?_
  refine jr_aload_n hE dX1_carry_80 2 rfl ?_
  refine jr_lload_n hE dX1_carry_81 0 rfl ?_
  refine jr_ldc2 (v := (536870911 : Int64)) hE dX1_carry_82 (by decide +kernel) ?_
  refine jr_land hE dX1_carry_85 rfl ?_
  refine jr_topl (fun m3 em3 => ?_)
  obtain ⟨E_m3, B_m3⟩ := iv_nm em3 (iv_and B_t3 (c := 536870911) (p := 536870912) (R := 536870911) 29 (by decide) (by decide) (by decide))
  refine jr_put (ty := .long) hE dX1_carry_86 f19 g12 rfl (by decide +kernel) rfl rfl (Nat.le_of_ble_eq_true rfl) (fun F15 g16 u17 => ?_)
  have g16 : jF L F15 o (.inr (1, [.long m0, .long m1, .long m2, .long m3, .long (lm 4), .long (lm 5), .long (lm 6), .long (lm 7), .long (lm 8)])) := g16
  refine jr_lload_n hE dX1_carry_89 0 rfl ?_
  refine jr_bipush (v := (29 : Int32)) hE dX1_carry_90 (by decide) ?_
  refine jr_lshr hE dX1_carry_92 rfl ?_
  refine jr_topl (fun z18 ez18 => ?_)
  obtain ⟨E_z18, B_z18⟩ := iv_nm ez18 (iv_shr B_t3 (c := 29) (k := 29) (p := 536870912) (R := 33) (by decide) (by decide) (by decide))
  refine jr_aload_n hE dX1_carry_93 2 rfl ?_
  refine jr_get hE dX1_carry_94 f22 g16 rfl ?_
  refine jr_ladd hE dX1_carry_97 rfl ?_
  refine jr_topl (fun t4 et4 => ?_)
  obtain ⟨E_t4, B_t4⟩ := iv_nm et4 (iv_add B_z18 (hK.1 4 (by decide)) (R := 17179869217) (by decide))
  refine jr_lstore_n (lv' := [(3, .long t4), (1, .long ov), (0, .ref o)]) hE dX1_carry_98 (by decide) rfl ?_
  refine jr_aload_n hE dX1_carry_99 2 rfl ?_
  refine jr_lload_n hE dX1_carry_100 0 rfl ?_
  refine jr_ldc2 (v := (536870911 : Int64)) hE dX1_carry_101 (by decide +kernel) ?_
  refine jr_land hE dX1_carry_104 rfl ?_
  refine jr_topl (fun m4 em4 => ?_)
  obtain ⟨E_m4, B_m4⟩ := iv_nm em4 (iv_and B_t4 (c := 536870911) (p := 536870912) (R := 536870911) 29 (by decide) (by decide) (by decide))
  refine jr_put (ty := .long) hE dX1_carry_105 f22 g16 rfl (by decide +kernel) rfl rfl (Nat.le_of_ble_eq_true rfl) (fun F19 g20 u21 => ?_)
  have g20 : jF L F19 o (.inr (1, [.long m0, .long m1, .long m2, .long m3, .long m4, .long (lm 5), .long (lm 6), .long (lm 7), .long (lm 8)])) := g20
  refine jr_lload_n hE dX1_carry_108 0 rfl ?_
  refine jr_bipush (v := (29 : Int32)) hE dX1_carry_109 (by decide) ?_
  refine jr_lshr hE dX1_carry_111 rfl ?_
  refine jr_topl (fun z22 ez22 => ?_)
  obtain ⟨E_z22, B_z22⟩ := iv_nm ez22 (iv_shr B_t4 (c := 29) (k := 29) (p := 536870912) (R := 33) (by decide) (by decide) (by decide))
  refine jr_aload_n hE dX1_carry_112 2 rfl ?_
  refine jr_get hE dX1_carry_113 f25 g20 rfl ?_
  refine jr_ladd hE dX1_carry_116 rfl ?_
  refine jr_topl (fun t5 et5 => ?_)
  obtain ⟨E_t5, B_t5⟩ := iv_nm et5 (iv_add B_z22 (hK.1 5 (by decide)) (R := 17179869217) (by decide))
  refine jr_lstore_n (lv' := [(3, .long t5), (1, .long ov), (0, .ref o)]) hE dX1_carry_117 (by decide) rfl ?_
  refine jr_aload_n hE dX1_carry_118 2 rfl ?_
  refine jr_lload_n hE dX1_carry_119 0 rfl ?_
  refine jr_ldc2 (v := (536870911 : Int64)) hE dX1_carry_120 (by decide +kernel) ?_
  refine jr_land hE dX1_carry_123 rfl ?_
  refine jr_topl (fun m5 em5 => ?_)
  obtain ⟨E_m5, B_m5⟩ := iv_nm em5 (iv_and B_t5 (c := 536870911) (p := 536870912) (R := 536870911) 29 (by decide) (by decide) (by decide))
  refine jr_put (ty := .long) hE dX1_carry_124 f25 g20 rfl (by decide +kernel) rfl rfl (Nat.le_of_ble_eq_true rfl) (fun F23 g24 u25 => ?_)
  have g24 : jF L F23 o (.inr (1, [.long m0, .long m1, .long m2, .long m3, .long m4, .long m5, .long (lm 6), .long (lm 7), .long (lm 8)])) := g24
  refine jr_lload_n hE dX1_carry_127 0 rfl ?_
  refine jr_bipush (v := (29 : Int32)) hE dX1_carry_128 (by decide) ?_
  refine jr_lshr hE dX1_carry_130 rfl ?_
  refine jr_topl (fun z26 ez26 => ?_)
  obtain ⟨E_z26, B_z26⟩ := iv_nm ez26 (iv_shr B_t5 (c := 29) (k := 29) (p := 536870912) (R := 33) (by decide) (by decide) (by decide))
  refine jr_aload_n hE dX1_carry_131 2 rfl ?_
  refine jr_get hE dX1_carry_132 f28 g24 rfl ?_
  refine jr_ladd hE dX1_carry_135 rfl ?_
  refine jr_topl (fun t6 et6 => ?_)
  obtain ⟨E_t6, B_t6⟩ := iv_nm et6 (iv_add B_z26 (hK.1 6 (by decide)) (R := 17179869217) (by decide))
  refine jr_lstore_n (lv' := [(3, .long t6), (1, .long ov), (0, .ref o)]) hE dX1_carry_136 (by decide) rfl ?_
  refine jr_aload_n hE dX1_carry_137 2 rfl ?_
  refine jr_lload_n hE dX1_carry_138 0 rfl ?_
  refine jr_ldc2 (v := (536870911 : Int64)) hE dX1_carry_139 (by decide +kernel) ?_
  refine jr_land hE dX1_carry_142 rfl ?_
  refine jr_topl (fun m6 em6 => ?_)
  obtain ⟨E_m6, B_m6⟩ := iv_nm em6 (iv_and B_t6 (c := 536870911) (p := 536870912) (R := 536870911) 29 (by decide) (by decide) (by decide))
  refine jr_put (ty := .long) hE dX1_carry_143 f28 g24 rfl (by decide +kernel) rfl rfl (Nat.le_of_ble_eq_true rfl) (fun F27 g28 u29 => ?_)
  have g28 : jF L F27 o (.inr (1, [.long m0, .long m1, .long m2, .long m3, .long m4, .long m5, .long m6, .long (lm 7), .long (lm 8)])) := g28
  refine jr_lload_n hE dX1_carry_146 0 rfl ?_
  refine jr_bipush (v := (29 : Int32)) hE dX1_carry_147 (by decide) ?_
  refine jr_lshr hE dX1_carry_149 rfl ?_
  refine jr_topl (fun z30 ez30 => ?_)
  obtain ⟨E_z30, B_z30⟩ := iv_nm ez30 (iv_shr B_t6 (c := 29) (k := 29) (p := 536870912) (R := 33) (by decide) (by decide) (by decide))
  refine jr_aload_n hE dX1_carry_150 2 rfl ?_
  refine jr_get hE dX1_carry_151 f31 g28 rfl ?_
  refine jr_ladd hE dX1_carry_154 rfl ?_
  refine jr_topl (fun t7 et7 => ?_)
  obtain ⟨E_t7, B_t7⟩ := iv_nm et7 (iv_add B_z30 (hK.1 7 (by decide)) (R := 17179869217) (by decide))
  refine jr_lstore_n (lv' := [(3, .long t7), (1, .long ov), (0, .ref o)]) hE dX1_carry_155 (by decide) rfl ?_
  refine jr_aload_n hE dX1_carry_156 2 rfl ?_
  refine jr_lload_n hE dX1_carry_157 0 rfl ?_
  refine jr_ldc2 (v := (536870911 : Int64)) hE dX1_carry_158 (by decide +kernel) ?_
  refine jr_land hE dX1_carry_161 rfl ?_
  refine jr_topl (fun m7 em7 => ?_)
  obtain ⟨E_m7, B_m7⟩ := iv_nm em7 (iv_and B_t7 (c := 536870911) (p := 536870912) (R := 536870911) 29 (by decide) (by decide) (by decide))
  refine jr_put (ty := .long) hE dX1_carry_162 f31 g28 rfl (by decide +kernel) rfl rfl (Nat.le_of_ble_eq_true rfl) (fun F31 g32 u33 => ?_)
  have g32 : jF L F31 o (.inr (1, [.long m0, .long m1, .long m2, .long m3, .long m4, .long m5, .long m6, .long m7, .long (lm 8)])) := g32
  refine jr_aload_n hE dX1_carry_165 2 rfl ?_
  refine jr_aload_n hE dX1_carry_166 2 rfl ?_
  refine jr_get hE dX1_carry_167 f34 g32 rfl ?_
  refine jr_ldc2 (v := (16777215 : Int64)) hE dX1_carry_170 (by decide +kernel) ?_
  refine jr_land hE dX1_carry_173 rfl ?_
  refine jr_lload_n hE dX1_carry_174 0 rfl ?_
  refine jr_bipush (v := (29 : Int32)) hE dX1_carry_175 (by decide) ?_
  refine jr_lshr hE dX1_carry_177 rfl ?_
  refine jr_topl (fun z34 ez34 => ?_)
  obtain ⟨E_z34, B_z34⟩ := iv_nm ez34 (iv_shr B_t7 (c := 29) (k := 29) (p := 536870912) (R := 33) (by decide) (by decide) (by decide))
  refine jr_ladd hE dX1_carry_178 rfl ?_
  refine jr_topl (fun m8 em8 => ?_)
  obtain ⟨E_m8, B_m8⟩ := iv_nm em8 (iv_add (iv_and hK.2 (c := 16777215) (p := 16777216) (R := 16777215) 24 (by decide) (by decide) (by decide)) B_z34 (R := 16777248) (by decide))
  refine jr_put (ty := .long) hE dX1_carry_179 f34 g32 rfl (by decide +kernel) rfl rfl (Nat.le_of_ble_eq_true rfl) (fun F35 g36 u37 => ?_)
  have g36 : jF L F35 o (.inr (1, [.long m0, .long m1, .long m2, .long m3, .long m4, .long m5, .long m6, .long m7, .long m8])) := g36
  exact hR F35 _ _ dX1_carry_182 ⟨cl9 m0 m1 m2 m3 m4 m5 m6 m7 m8, g36, cK_of (iv_le B_m0 (by decide)) (iv_le B_m1 (by decide)) (iv_le B_m2 (by decide)) (iv_le B_m3 (by decide)) (iv_le B_m4 (by decide)) (iv_le B_m5 (by decide)) (iv_le B_m6 (by decide)) (iv_le B_m7 (by decide)) (iv_le B_m8 (by decide)), carry_alg E_z1 E_ov E_t0 E_m0 E_z5 E_z6 E_t1 E_m1 E_z10 E_t2 E_m2 E_z14 E_t3 E_m3 E_z18 E_t4 E_m4 E_z22 E_t5 E_m5 E_z26 E_t6 E_m6 E_z30 E_t7 E_m7 E_z34 E_m8, lo9 E_m0 E_m1 E_m2 E_m3 E_m4 E_m5 E_m6 E_m7, lo8 E_m8 B_z34 (by decide), fun z hz => ((u37 z (jne hz 0 rfl)).trans ((u33 z (jne hz 0 rfl)).trans ((u29 z (jne hz 0 rfl)).trans ((u25 z (jne hz 0 rfl)).trans ((u21 z (jne hz 0 rfl)).trans ((u17 z (jne hz 0 rfl)).trans ((u13 z (jne hz 0 rfl)).trans ((u9 z (jne hz 0 rfl)).trans (u4 z (jne hz 0 rfl))))))))))⟩

