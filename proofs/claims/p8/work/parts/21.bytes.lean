/-! BYTES: rows of bytes -/
def sb (b : Nat) : Int32 := (nI b).toInt8.toInt32
def bv (v : Int32) : Nat := v.toBitVec.toNat % 256
theorem bv_lt (v : Int32) : bv v < 256 := Nat.mod_lt _ (by decide)
theorem sb_and {b : Nat} (h : b < 256) : sb b &&& 255 = nI b := sc_k8 b h
theorem sb_bv (v : Int32) : vp_nar .byte v = sb (bv v) := by
  rw [vp_nar_byte]
  unfold sb bv nI
  congr 1
  apply Int8.toBitVec_inj.mp
  apply BitVec.eq_of_toNat_eq
  simp [Int32.toBitVec_toInt8, BitVec.signExtend_eq_setWidth_of_le, BitVec.toNat_setWidth]
def b2i (p : Prop) [Decidable p] : Int32 := if p then 1 else 0
theorem b2i_t {p : Prop} [Decidable p] (h : p) : b2i p = 1 := if_pos h
theorem b2i_f {p : Prop} [Decidable p] (h : ¬ p) : b2i p = 0 := if_neg h
def byt (v : Int64) (i : Nat) : Nat := v.toBitVec.toNat / 2 ^ (8 * i) % 256
def nb (v : Int64) : Nat → List Nat
  | 0 => []
  | k + 1 => byt v k :: nb v k
def bnum (l : List Nat) : Nat := l.foldl (fun a b => a * 256 + b) 0
theorem im1 (x : Int32) : x + Int32.ofInt (-1) = x - 1 := by
  rw [Int32.sub_eq_add_neg]; rfl
theorem bv_byt {v z : Int64} {k : Nat} (hk : k < 8) (hz : z = (v.toUInt64 >>> ((nI (8 * k)).toInt64.toUInt64 &&& Int64.toUInt64 63)).toInt64) : bv z.toInt32 = byt v k := by
  obtain ⟨n, hn, rfl⟩ := wb_of v
  rw [wb_shr hn (by omega)] at hz
  subst hz
  unfold bv byt
  rw [wb_tn hn, Int64.toBitVec_toInt32, BitVec.signExtend_eq_setWidth_of_le _ (by decide), BitVec.toNat_setWidth, wb_tn (Nat.lt_of_le_of_lt (Nat.div_le_self _ _) hn)]
  omega
def jBy (G : Nat → ClassId) (L : List Nat) (F : Nat → va_E) (o h cap : Nat) (bs : List Nat) : Prop :=
  ∃ f : Nat → Int32, jF L F o (.inr (0, [.ref h, .int (nI bs.length)])) ∧ jF L F h (.inl (G 0, cap, .inl f)) ∧ bs.length ≤ cap ∧ cap ≤ 100 ∧ (∀ j, j < bs.length → f j = sb (bs.getD j 0)) ∧ ∀ j, j < bs.length → bs.getD j 0 < 256
theorem jBy.fr {G : Nat → ClassId} {L : List Nat} {F F' : Nat → va_E} {o h cap : Nat} {bs : List Nat} (b : jBy G L F o h cap bs) (e1 : F' o = F o) (e2 : F' h = F h) : jBy G L F' o h cap bs := by
  obtain ⟨f, b1, b2, b3⟩ := b
  exact ⟨f, b1.fr e1, b2.fr e2, b3⟩
theorem jBy.ob {G : Nat → ClassId} {L : List Nat} {F : Nat → va_E} {o h cap : Nat} {bs : List Nat} (b : jBy G L F o h cap bs) : jF L F o (.inr (0, [.ref h, .int (nI bs.length)])) := by
  obtain ⟨f, b1, b2, b3⟩ := b
  exact b1
theorem jBy.lt {G : Nat → ClassId} {L : List Nat} {F : Nat → va_E} {o h cap : Nat} {bs : List Nat} (b : jBy G L F o h cap bs) {j : Nat} (hj : j < bs.length) : bs.getD j 0 < 256 := by
  obtain ⟨f, b1, b2, b3, b4, b5, b6⟩ := b
  exact b6 j hj
theorem jBy.cap {G : Nat → ClassId} {L : List Nat} {F : Nat → va_E} {o h cap : Nat} {bs : List Nat} (b : jBy G L F o h cap bs) : bs.length ≤ cap ∧ cap ≤ 100 := by
  obtain ⟨f, b1, b2, b3, b4, b5⟩ := b
  exact ⟨b3, b4⟩
theorem jne {x a : Nat} {W : List Nat} (hx : x ∉ W) (i : Nat) (hi : W[i]? = some a) : x ≠ a := fun e => hx (e ▸ List.mem_of_getElem? hi)
theorem jnsub {x : Nat} {W V : List Nat} (hx : x ∉ W) (is : List Nat) (h : is.map (fun j => W[j]?) = V.map some) : x ∉ V := by
  intro hv
  obtain ⟨k, hk⟩ := List.mem_iff_getElem?.mp hv
  have h1 : (is.map (fun j => W[j]?))[k]? = some (some x) := by rw [h, List.getElem?_map, hk]; rfl
  rw [List.getElem?_map] at h1
  cases hj : is[k]? with
  | none => rw [hj] at h1; cases h1
  | some j =>
    rw [hj] at h1
    exact hx (List.mem_of_getElem? (by simpa using h1))
theorem jBy.push {G : Nat → ClassId} {L : List Nat} {F : Nat → va_E} {o h cap : Nat} {bs : List Nat} {f g : Nat → Int32} {v : Int32} {n : Int32} (b1 : jF L F o (.inr (0, [.ref h, .int n]))) (hn : n = nI bs.length + 1) (b2 : jF L F h (.inl (G 0, cap, .inl g))) (hg : g = upd f (nI bs.length).toNatClampNeg (vp_nar .byte v)) (hl : bs.length < cap) (hc : cap ≤ 100) (hf : ∀ j, j < bs.length → f j = sb (bs.getD j 0)) (hb : ∀ j, j < bs.length → bs.getD j 0 < 256) : jBy G L F o h cap (bs ++ [bv v]) := by
  refine ⟨g, ?_, b2, by simp; omega, hc, ?_, ?_⟩
  · rw [List.length_append, List.length_singleton, nI_succ, ← hn]; exact b1
  · intro j hj
    rw [List.length_append, List.length_singleton] at hj
    rw [hg, nI_clamp (by omega)]
    rcases Nat.lt_or_ge j bs.length with q | q
    · rw [pk_un (by omega), hf j q]; simp only [List.getD, List.getElem?_append_left q]
    · have e : j = bs.length := by omega
      subst e
      rw [pk_us, sb_bv]; simp
  · intro j hj
    rw [List.length_append, List.length_singleton] at hj
    rcases Nat.lt_or_ge j bs.length with q | q
    · have := hb j q; simpa only [List.getD, List.getElem?_append_left q] using this
    · have e : j = bs.length := by omega
      subst e
      simpa using bv_lt v

theorem bv_i8 (v : Int32) : bv v.toInt8.toInt32 = bv v := by
  unfold bv
  have h : v.toInt8.toInt32.toBitVec = (v.toBitVec.setWidth 8).signExtend 32 := by
    rw [Int8.toBitVec_toInt32, Int32.toBitVec_toInt8]
    exact congrArg (BitVec.signExtend 32) (BitVec.signExtend_eq_setWidth_of_le v.toBitVec (by decide))
  rw [h]
  have h2 : ((v.toBitVec.setWidth 8).signExtend 32).setWidth 8 = v.toBitVec.setWidth 8 := by
    apply BitVec.eq_of_getLsbD_eq
    intro i hi
    simp [BitVec.getLsbD_signExtend, hi]
    omega
  have h3 := congrArg BitVec.toNat h2
  simpa [BitVec.toNat_setWidth] using h3
theorem bv_xor (x y : Int32) : bv (x ^^^ y) = bv x ^^^ bv y := by
  unfold bv
  rw [Int32.toBitVec_xor, BitVec.toNat_xor]
  exact Nat.xor_mod_two_pow (n := 8)
theorem bv_nI {n : Nat} (h : n < 256) : bv (nI n) = n := by
  unfold bv
  rw [pk_tn (by omega)]; omega
theorem bv_sb {b : Nat} (h : b < 256) : bv (sb b) = b := by
  unfold sb; rw [bv_i8, bv_nI h]
theorem sb_xor {b k : Nat} (hb : b < 256) (hk : k < 256) : vp_nar .byte (sb b ^^^ nI k).toInt8.toInt32 = sb (b ^^^ k) := by
  rw [sb_bv, bv_i8, bv_xor, bv_sb hb, bv_nI hk]
theorem xor_lt {b k : Nat} (hb : b < 256) (hk : k < 256) : b ^^^ k < 256 := Nat.xor_lt_two_pow (n := 8) hb hk
theorem jBy.set {G : Nat → ClassId} {L : List Nat} {F : Nat → va_E} {o h cap : Nat} {bs : List Nat} {f g : Nat → Int32} {k b : Nat} (b1 : jF L F o (.inr (0, [.ref h, .int (nI bs.length)]))) (b2 : jF L F h (.inl (G 0, cap, .inl g))) (hg : g = upd f (nI k).toNatClampNeg (sb b)) (hk : k < bs.length) (hbb : b < 256) (hl : bs.length ≤ cap) (hc : cap ≤ 100) (hf : ∀ j, j < bs.length → f j = sb (bs.getD j 0)) (hb : ∀ j, j < bs.length → bs.getD j 0 < 256) : jBy G L F o h cap (bs.set k b) := by
  refine ⟨g, by rw [List.length_set]; exact b1, b2, by simpa using hl, hc, ?_, ?_⟩
  · intro j hj
    rw [List.length_set] at hj
    rw [hg, nI_clamp (by omega)]
    by_cases e : j = k
    · subst e; rw [pk_us]; simp [List.getD, hj]
    · rw [pk_un e, hf j hj]; simp [List.getD, List.getElem?_set_ne (Ne.symm e)]
  · intro j hj
    rw [List.length_set] at hj
    by_cases e : j = k
    · subst e; simpa [List.getD, hj] using hbb
    · have := hb j hj; simpa [List.getD, List.getElem?_set_ne (Ne.symm e)] using this

set_option maxHeartbeats 4000000 in
set_option maxRecDepth 100000 in
theorem c_X0_get (l : Launch) (G : Nat → ClassId) (o h cap k : Nat) (bs : List Nat) : jKi l yX0_get wsX0_get ({ frames := 0, cells := 0, slots := 0, locals := 0 }) G [.ref o, .int (nI k)] (fun L F => jBy G L F o h cap bs ∧ k < bs.length) (fun L F r F1 => F = F1 ∧ r = nI (bs.getD k 0)) := by
  refine jm_ki (cc := cX0_get) (maxL := 2) (rt := .int) (by decide) rfl (Nat.le_of_ble_eq_true rfl) ?_
  intro E L F hE hR hpre
  have hE : jOk E G _ cX0_get 2 RX0 wsX0_get := hE
  obtain ⟨f, ho, hh, hbc, hcap, hf, hb⟩ := hpre.1
  have hk := hpre.2
  have f19 : jFl RX0 wsX0_get 19 0 0 := ⟨rfl, by decide, by decide +kernel, by decide +kernel⟩
  refine jr_iload_n hE dX0_get_0 1 rfl ?_
  refine jr_if_lt (tgt := 26) hE dX0_get_1 (by decide) (fun c_1 => absurd c_1 (nI_pos (by omega))) (fun c_1 => ?_)
  refine jr_iload_n hE dX0_get_4 1 rfl ?_
  refine jr_aload_n hE dX0_get_5 0 rfl ?_
  refine jr_get hE dX0_get_6 f19 ho rfl ?_
  refine jr_alen (v := nI cap) hE dX0_get_9 hh rfl rfl ?_
  refine jr_icmp_ge (tgt := 26) hE dX0_get_10 (by decide) (fun c_10 => absurd c_10 (nI_ge (by omega) (by omega))) (fun c_10 => ?_)
  refine jr_aload_n hE dX0_get_13 0 rfl ?_
  refine jr_get hE dX0_get_14 f19 ho rfl ?_
  refine jr_iload_n hE dX0_get_17 1 rfl ?_
  refine jr_bald (v := sb (bs.getD k 0)) hE dX0_get_18 hh (vp_in_nI (by omega) (by omega)) (by rw [nI_clamp (by omega)]; exact hf k hk) ?_
  refine jr_sipush (v := (255 : Int32)) hE dX0_get_19 (by decide) ?_
  refine jr_iand (z := nI (bs.getD k 0)) hE dX0_get_22 (sb_and (hb k hk)) ?_
  refine jr_goto (tgt := 27) hE dX0_get_23 (by decide) ?_
  exact hR F (nI (bs.getD k 0)) _ _ dX0_get_27 rfl ⟨rfl, rfl⟩

set_option maxHeartbeats 4000000 in
set_option maxRecDepth 100000 in
theorem c_X0_turn (l : Launch) (G : Nat → ClassId) (o h cap k mk : Nat) (bs : List Nat) : jKv l yX0_turn wsX0_turn ({ frames := 0, cells := 0, slots := 0, locals := 0 }) G [.ref o, .int (nI k), .int (nI mk)] (fun L F => jBy G L F o h cap bs ∧ k < bs.length ∧ mk < 256) (fun L F F1 => jBy G L F1 o h cap (bs.set k (bs.getD k 0 ^^^ mk)) ∧ ∀ x, x ∉ [h] → F1 x = F x) := by
  refine jm_kv (cc := cX0_turn) (maxL := 3) (by decide) rfl (Nat.le_of_ble_eq_true rfl) ?_
  intro E L F hE hR hpre
  have hE : jOk E G _ cX0_turn 3 RX0 wsX0_turn := hE
  obtain ⟨f, ho, hh, hbc, hcap, hf, hb⟩ := hpre.1
  have hk := hpre.2.1
  have hm := hpre.2.2
  have f19 : jFl RX0 wsX0_turn 19 0 0 := ⟨rfl, by decide, by decide +kernel, by decide +kernel⟩
  refine jr_iload_n hE dX0_turn_0 1 rfl ?_
  refine jr_if_lt (tgt := 28) hE dX0_turn_1 (by decide) (fun c_1 => absurd c_1 (nI_pos (by omega))) (fun c_1 => ?_)
  refine jr_iload_n hE dX0_turn_4 1 rfl ?_
  refine jr_aload_n hE dX0_turn_5 0 rfl ?_
  refine jr_get hE dX0_turn_6 f19 ho rfl ?_
  refine jr_alen (v := nI cap) hE dX0_turn_9 hh rfl rfl ?_
  refine jr_icmp_ge (tgt := 28) hE dX0_turn_10 (by decide) (fun c_10 => absurd c_10 (nI_ge (by omega) (by omega))) (fun c_10 => ?_)
  refine jr_aload_n hE dX0_turn_13 0 rfl ?_
  refine jr_get hE dX0_turn_14 f19 ho rfl ?_
  refine jr_iload_n hE dX0_turn_17 1 rfl ?_
  refine jr_aload_n hE dX0_turn_18 0 rfl ?_
  refine jr_get hE dX0_turn_19 f19 ho rfl ?_
  refine jr_iload_n hE dX0_turn_22 1 rfl ?_
  refine jr_bald (v := sb (bs.getD k 0)) hE dX0_turn_23 hh (vp_in_nI (by omega) (by omega)) (by rw [nI_clamp (by omega)]; exact hf k hk) ?_
  refine jr_iload_n hE dX0_turn_24 2 rfl ?_
  refine jr_ixor hE dX0_turn_25 rfl ?_
  refine jr_i2b hE dX0_turn_26 rfl ?_
  refine jr_bast hE dX0_turn_27 hh (vp_in_nI (by omega) (by omega)) (fun F1 g2 u3 => ?_)
  obtain ⟨f4, ef4⟩ : ∃ z, z = upd f (nI k).toNatClampNeg (vp_nar .byte (((sb (bs.getD k 0)) ^^^ (nI mk)).toInt8.toInt32)) := ⟨_, rfl⟩
  rw [← ef4] at g2
  have g5 := ho.upk u3 hh (Nat.ne_of_beq_eq_false rfl)
  exact hR F1 _ _ dX0_turn_28 ⟨jBy.set g5 g2 (by rw [ef4, sb_xor (hb k hk) hm]) hk (xor_lt (hb k hk) hm) hbc hcap hf hb, fun x hx => u3 x (jne hx 0 rfl)⟩

set_option maxHeartbeats 4000000 in
set_option maxRecDepth 100000 in
theorem c_X0_empty (l : Launch) (G : Nat → ClassId) (o h cap : Nat) (bs : List Nat) : jKv l yX0_empty wsX0_empty ({ frames := 0, cells := 0, slots := 0, locals := 0 }) G [.ref o] (fun L F => jBy G L F o h cap bs) (fun L F F1 => jBy G L F1 o h cap [] ∧ ∀ x, x ∉ [o] → F1 x = F x) := by
  refine jm_kv (cc := cX0_empty) (maxL := 1) (by decide) rfl (Nat.le_of_ble_eq_true rfl) ?_
  intro E L F hE hR hpre
  have hE : jOk E G _ cX0_empty 1 RX0 wsX0_empty := hE
  obtain ⟨f, ho, hh, hbc, hcap, hf, hb⟩ := hpre
  have f7 : jFl RX0 wsX0_empty 7 0 1 := ⟨rfl, by decide, by decide +kernel, by decide +kernel⟩
  refine jr_aload_n hE dX0_empty_0 0 rfl ?_
  refine jr_iconst (v := (0 : Int32)) hE dX0_empty_1 (by decide) ?_
  refine jr_put (ty := .int) hE dX0_empty_2 f7 ho rfl (by decide +kernel) rfl rfl (Nat.le_of_ble_eq_true rfl) (fun F1 g2 u3 => ?_)
  have g2 : jF L F1 o (.inr (0, [.ref h, .int (0 : Int32)])) := g2
  have g4 := hh.upk u3 ho (Nat.ne_of_beq_eq_false rfl)
  exact hR F1 _ _ dX0_empty_5 ⟨⟨f, g2, g4, Nat.zero_le _, hcap, fun j hj => absurd hj (Nat.not_lt_zero j), fun j hj => absurd hj (Nat.not_lt_zero j)⟩, fun x hx => u3 x (jne hx 0 rfl)⟩

theorem i8_i8 (v : Int32) : v.toInt8.toInt32.toInt8.toInt32 = v.toInt8.toInt32 := by
  have h := sb_bv v.toInt8.toInt32
  rw [vp_nar_byte, bv_i8] at h
  rw [h, ← sb_bv, vp_nar_byte]

set_option maxHeartbeats 4000000 in
set_option maxRecDepth 100000 in
theorem c_X0_add (l : Launch) (G : Nat → ClassId) (o h cap : Nat) (bs : List Nat) (v : Int32) : jKv l yX0_add wsX0_add ({ frames := 0, cells := 0, slots := 0, locals := 0 }) G [.ref o, .int v] (fun L F => jBy G L F o h cap bs ∧ bs.length < cap) (fun L F F1 => jBy G L F1 o h cap (bs ++ [bv v]) ∧ ∀ x, x ∉ [o, h] → F1 x = F x) := by
  refine jm_kv (cc := cX0_add) (maxL := 2) (by decide) rfl (Nat.le_of_ble_eq_true rfl) ?_
  intro E L F hE hR hpre
  have hE : jOk E G _ cX0_add 2 RX0 wsX0_add := hE
  obtain ⟨f, ho, hh, hbc, hcap, hf, hb⟩ := hpre.1
  have hk := hpre.2
  have f7 : jFl RX0 wsX0_add 7 0 1 := ⟨rfl, by decide, by decide +kernel, by decide +kernel⟩
  have f19 : jFl RX0 wsX0_add 19 0 0 := ⟨rfl, by decide, by decide +kernel, by decide +kernel⟩
  refine jr_aload_n hE dX0_add_0 0 rfl ?_
  refine jr_get hE dX0_add_1 f7 ho rfl ?_
  refine jr_if_lt (tgt := 40) hE dX0_add_4 (by decide) (fun c_4 => absurd c_4 (nI_pos (by omega))) (fun c_4 => ?_)
  refine jr_aload_n hE dX0_add_7 0 rfl ?_
  refine jr_get hE dX0_add_8 f7 ho rfl ?_
  refine jr_aload_n hE dX0_add_11 0 rfl ?_
  refine jr_get hE dX0_add_12 f19 ho rfl ?_
  refine jr_alen (v := nI cap) hE dX0_add_15 hh rfl rfl ?_
  refine jr_icmp_ge (tgt := 40) hE dX0_add_16 (by decide) (fun c_16 => absurd c_16 (nI_ge (by omega) (by omega))) (fun c_16 => ?_)
  refine jr_aload_n hE dX0_add_19 0 rfl ?_
  refine jr_get hE dX0_add_20 f19 ho rfl ?_
  refine jr_aload_n hE dX0_add_23 0 rfl ?_
  refine jr_get hE dX0_add_24 f7 ho rfl ?_
  refine jr_iload_n hE dX0_add_27 1 rfl ?_
  refine jr_i2b hE dX0_add_28 rfl ?_
  refine jr_bast hE dX0_add_29 hh (vp_in_nI (by omega) (by omega)) (fun F1 g2 u3 => ?_)
  obtain ⟨f4, ef4⟩ : ∃ z, z = upd f (nI bs.length).toNatClampNeg (vp_nar .byte v.toInt8.toInt32) := ⟨_, rfl⟩
  rw [← ef4] at g2
  have g5 := ho.upk u3 hh (Nat.ne_of_beq_eq_false rfl)
  refine jr_aload_n hE dX0_add_30 0 rfl ?_
  refine jr_dup hE dX0_add_31 rfl ?_
  refine jr_get hE dX0_add_32 f7 g5 rfl ?_
  refine jr_iconst (v := (1 : Int32)) hE dX0_add_35 (by decide) ?_
  refine jr_iadd hE dX0_add_36 rfl ?_
  refine jr_put (ty := .int) hE dX0_add_37 f7 g5 rfl (by decide +kernel) rfl rfl (Nat.le_of_ble_eq_true rfl) (fun F6 g7 u8 => ?_)
  have g7 : jF L F6 o (.inr (0, [.ref h, .int ((nI bs.length) + (1 : Int32))])) := g7
  have g9 := g2.upk u8 g5 (Nat.ne_of_beq_eq_false rfl)
  exact hR F6 _ _ dX0_add_40 ⟨jBy.push g7 rfl g9 (by rw [ef4, vp_nar_byte, vp_nar_byte, i8_i8]) (f := f) hk hcap hf hb, fun x hx => (u8 x (jne hx 0 rfl)).trans (u3 x (jne hx 1 rfl))⟩

theorem nb_len (v : Int64) : ∀ k, (nb v k).length = k
  | 0 => rfl
  | k + 1 => by rw [nb, List.length_cons, nb_len v k]

set_option maxHeartbeats 4000000 in
set_option maxRecDepth 100000 in
theorem c_X0_addNumber (l : Launch) (G : Nat → ClassId) (o h cap n : Nat) (bs : List Nat) (v : Int64) : jKv l yX0_addNumber wsX0_addNumber ({ frames := 1, cells := 0, slots := 0, locals := 21 }) G [.ref o, .long v, .int (nI n)] (fun L F => jBy G L F o h cap bs ∧ bs.length + n ≤ cap ∧ n ≤ 8) (fun L F F1 => jBy G L F1 o h cap (bs ++ nb v n) ∧ ∀ x, x ∉ [o, h] → F1 x = F x) := by
  refine jm_kv (cc := cX0_addNumber) (maxL := 5) (by decide) rfl (Nat.le_of_ble_eq_true rfl) ?_
  intro E L F hE hR hpre
  have hE : jOk E G _ cX0_addNumber 5 RX0 wsX0_addNumber := hE

  obtain ⟨hB, hlen, hn8⟩ := hpre
  have loop : ∀ (k : Nat) (F2 : Nat → va_E) (b1 : List Nat), k ≤ 8 → jBy G L F2 o h cap b1 → b1.length + k ≤ cap → b1 ++ nb v k = bs ++ nb v n → (∀ x, x ∉ [o, h] → F2 x = F x) → J E L F2 0 0 5 [(4, .int (nI k - 1)), (0, .ref o), (1, .long v), (3, .int (nI n))] [] := by
    intro k
    induction k with
    | zero =>
      intro F2 b1 hk8 hB hl he hfr
      refine jr_iload hE dX0_addNumber_5 0 rfl ?_
      refine jr_if_lt (tgt := 28) hE dX0_addNumber_7 (by decide) (fun c_7 => ?_) (fun c_7 => absurd (by decide) c_7)
      exact hR F2 _ _ dX0_addNumber_28 ⟨by rw [← he]; simpa [nb] using hB, hfr⟩
    | succ k ih =>
      intro F2 b1 hk8 hB hl he hfr
      rw [nI_pred]
      refine jr_iload hE dX0_addNumber_5 0 rfl ?_
      refine jr_if_lt (tgt := 28) hE dX0_addNumber_7 (by decide) (fun c_7 => absurd c_7 (nI_pos (by omega))) (fun c_7 => ?_)
      refine jr_aload_n hE dX0_addNumber_10 1 rfl ?_
      refine jr_lload_n hE dX0_addNumber_11 2 rfl ?_
      refine jr_bipush (v := (8 : Int32)) hE dX0_addNumber_12 (by decide) ?_
      refine jr_iload hE dX0_addNumber_14 0 rfl ?_
      refine jr_imul (z := nI (8 * k)) hE dX0_addNumber_16 (pk_mul 8 k) ?_
      refine jr_lushr hE dX0_addNumber_17 rfl ?_
      refine jr_topl (fun z1 ez1 => ?_)
      refine jr_l2i hE dX0_addNumber_18 rfl ?_
      refine jr_kVv (ci := 0) (n := 1) (As := [.int z1.toInt32]) (rest := []) hE dX0_addNumber_19 (fun l => c_X0_add l G o h cap b1 _) gX0_addNumber_X0_add rfl hB.ob rfl (by decide +kernel) ⟨rfl, rfl, by decide, by decide⟩ (by decide) rfl rfl (Nat.le_of_ble_eq_true rfl) (⟨hB, by omega⟩) (fun F2 q3 => ?_)
      obtain ⟨hB1, fr1⟩ := q3
      refine jr_iinc (v := nI k - 1) (lv' := [(4, .int (nI k - 1)), (0, .ref o), (1, .long v), (3, .int (nI n))]) hE dX0_addNumber_22 0 rfl (im1 _) (by decide) rfl ?_
      refine jr_goto (tgt := 5) hE dX0_addNumber_25 (by decide) ?_
      exact ih F2 (b1 ++ [bv z1.toInt32]) (by omega) hB1 (by simp; omega) (by rw [← he, bv_byt (by omega) ez1, nb]; simp) (fun x hx => (fr1 x hx).trans (hfr x hx))
  refine jr_iload_n hE dX0_addNumber_0 2 rfl ?_
  refine jr_iconst (v := (1 : Int32)) hE dX0_addNumber_1 (by decide) ?_
  refine jr_isub hE dX0_addNumber_2 rfl ?_
  refine jr_istore (lv' := [(4, .int ((nI n) - (1 : Int32))), (0, .ref o), (1, .long v), (3, .int (nI n))]) hE dX0_addNumber_3 (by decide) rfl ?_
  exact loop n F bs hn8 hB (by omega) rfl (fun _ _ => rfl)

theorem take_succ_getD {cs : List Nat} {st i : Nat} (h : st + i < cs.length) : (cs.drop st).take i ++ [cs.getD (st + i) 0] = (cs.drop st).take (i + 1) := by
  rw [List.take_add_one]
  congr 1
  rw [List.getElem?_drop, List.getElem?_eq_getElem h]
  simp [List.getD, h]

set_option maxHeartbeats 4000000 in
set_option maxRecDepth 100000 in
theorem c_X0_addPart (l : Launch) (G : Nat → ClassId) (o h cap o2 h2 cap2 st n : Nat) (bs cs : List Nat) : jKv l yX0_addPart wsX0_addPart ({ frames := 1, cells := 0, slots := 0, locals := 21 }) G [.ref o, .ref o2, .int (nI st), .int (nI n)] (fun L F => jBy G L F o h cap bs ∧ jBy G L F o2 h2 cap2 cs ∧ [o, h, o2, h2].Nodup ∧ bs.length + n ≤ cap ∧ st + n ≤ cs.length) (fun L F F1 => jBy G L F1 o h cap (bs ++ (cs.drop st).take n) ∧ ∀ x, x ∉ [o, h] → F1 x = F x) := by
  refine jm_kv (cc := cX0_addPart) (maxL := 5) (by decide) rfl (Nat.le_of_ble_eq_true rfl) ?_
  intro E L F hE hR hpre
  have hE : jOk E G _ cX0_addPart 5 RX0 wsX0_addPart := hE

  obtain ⟨hB, hC, hnd, hlen, hlen2⟩ := hpre
  have hcp := hB.cap
  have hcp2 := hC.cap
  have loop : ∀ (r i : Nat) (F2 : Nat → va_E) (b1 : List Nat), i + r = n → jBy G L F2 o h cap b1 → jBy G L F2 o2 h2 cap2 cs → b1.length + r ≤ cap → b1 = bs ++ (cs.drop st).take i → (∀ x, x ∉ [o, h] → F2 x = F x) → J E L F2 0 0 3 [(4, .int (nI i)), (0, .ref o), (1, .ref o2), (2, .int (nI st)), (3, .int (nI n))] [] := by
    intro r
    induction r with
    | zero =>
      intro i F2 b1 hin hB hC hl he hfr
      refine jr_iload hE dX0_addPart_3 0 rfl ?_
      refine jr_iload_n hE dX0_addPart_5 4 rfl ?_
      refine jr_icmp_ge (tgt := 27) hE dX0_addPart_6 (by decide) (fun c_6 => ?_) (fun c_6 => absurd (nI_le (by omega) (by omega)) c_6)
      exact hR F2 _ _ dX0_addPart_27 ⟨by rw [show n = i by omega, ← he]; exact hB, hfr⟩
    | succ r ih =>
      intro i F2 b1 hin hB hC hl he hfr
      refine jr_iload hE dX0_addPart_3 0 rfl ?_
      refine jr_iload_n hE dX0_addPart_5 4 rfl ?_
      refine jr_icmp_ge (tgt := 27) hE dX0_addPart_6 (by decide) (fun c_6 => absurd c_6 (nI_ge (by omega) (by omega))) (fun c_6 => ?_)
      refine jr_aload_n hE dX0_addPart_9 1 rfl ?_
      refine jr_aload_n hE dX0_addPart_10 2 rfl ?_
      refine jr_iload_n hE dX0_addPart_11 3 rfl ?_
      refine jr_iload hE dX0_addPart_12 0 rfl ?_
      refine jr_iadd (z := nI (st + i)) hE dX0_addPart_14 (nI_add _ _) ?_
      refine jr_kVi (ci := 0) (n := 1) (As := [.int (nI (st + i))]) (rest := [.ref o]) hE dX0_addPart_15 (fun l => c_X0_get l G o2 h2 cap2 (st + i) cs) gX0_addPart_X0_get rfl hC.ob rfl (by decide +kernel) ⟨rfl, rfl, by decide, by decide⟩ (by decide) rfl rfl (Nat.le_of_ble_eq_true rfl) (⟨hC, by omega⟩) (fun r3 F1 q2 => ?_)
      obtain ⟨rfl, rfl⟩ := q2
      have hc := hC.lt (show st + i < cs.length by omega)
      refine jr_kVv (ci := 0) (n := 1) (As := [.int (nI (cs.getD (st + i) 0))]) (rest := []) hE dX0_addPart_18 (fun l => c_X0_add l G o h cap b1 _) gX0_addPart_X0_add rfl hB.ob rfl (by decide +kernel) ⟨rfl, rfl, by decide, by decide⟩ (by decide) rfl rfl (Nat.le_of_ble_eq_true rfl) (⟨hB, by omega⟩) (fun F4 q5 => ?_)
      obtain ⟨hB1, fr1⟩ := q5
      refine jr_iinc (v := nI (i + 1)) (lv' := [(4, .int (nI (i + 1))), (0, .ref o), (1, .ref o2), (2, .int (nI st)), (3, .int (nI n))]) hE dX0_addPart_21 0 rfl (nI_1 _) (by decide) rfl ?_
      refine jr_goto (tgt := 3) hE dX0_addPart_24 (by decide) ?_
      exact ih (i + 1) F4 (b1 ++ [bv (nI (cs.getD (st + i) 0))]) (by omega) hB1 (hC.fr (fr1 o2 (jn hnd 2 [0, 1] rfl rfl (by decide))) (fr1 h2 (jn hnd 3 [0, 1] rfl rfl (by decide)))) (by simp; omega) (by rw [bv_nI hc, he, List.append_assoc, take_succ_getD (by omega)]) (fun x hx => (fr1 x hx).trans (hfr x hx))
  refine jr_iconst (v := (0 : Int32)) hE dX0_addPart_0 (by decide) ?_
  refine jr_istore (lv' := [(4, .int (0 : Int32)), (0, .ref o), (1, .ref o2), (2, .int (nI st)), (3, .int (nI n))]) hE dX0_addPart_1 (by decide) rfl ?_
  exact loop n 0 F bs (by omega) hB hC (by omega) (by simp) (fun _ _ => rfl)

set_option maxHeartbeats 4000000 in
set_option maxRecDepth 100000 in
theorem c_X0_addAll (l : Launch) (G : Nat → ClassId) (o h cap o2 h2 cap2 : Nat) (bs cs : List Nat) : jKv l yX0_addAll wsX0_addAll ({ frames := 2, cells := 0, slots := 0, locals := 45 }) G [.ref o, .ref o2] (fun L F => jBy G L F o h cap bs ∧ jBy G L F o2 h2 cap2 cs ∧ [o, h, o2, h2].Nodup ∧ bs.length + cs.length ≤ cap) (fun L F F1 => jBy G L F1 o h cap (bs ++ cs) ∧ ∀ x, x ∉ [o, h] → F1 x = F x) := by
  refine jm_kv (cc := cX0_addAll) (maxL := 2) (by decide) rfl (Nat.le_of_ble_eq_true rfl) ?_
  intro E L F hE hR hpre
  have hE : jOk E G _ cX0_addAll 2 RX0 wsX0_addAll := hE
  obtain ⟨hB, hC, hnd, hlen⟩ := hpre
  have f7 : jFl RX0 wsX0_addAll 7 0 1 := ⟨rfl, by decide, by decide +kernel, by decide +kernel⟩
  refine jr_aload_n hE dX0_addAll_0 0 rfl ?_
  refine jr_aload_n hE dX0_addAll_1 1 rfl ?_
  refine jr_iconst (v := (0 : Int32)) hE dX0_addAll_2 (by decide) ?_
  refine jr_aload_n hE dX0_addAll_3 1 rfl ?_
  refine jr_get hE dX0_addAll_4 f7 hC.ob rfl ?_
  refine jr_kVv (ci := 0) (n := 3) (As := [.ref o2, .int (0 : Int32), .int (nI cs.length)]) (rest := []) hE dX0_addAll_7 (fun l => c_X0_addPart l G o h cap o2 h2 cap2 0 cs.length bs cs) gX0_addAll_X0_addPart rfl hB.ob rfl (by decide +kernel) ⟨rfl, rfl, by decide, by decide⟩ (by decide) rfl rfl (Nat.le_of_ble_eq_true rfl) (⟨hB, hC, hnd, hlen, by omega⟩) (fun F1 q2 => ?_)
  obtain ⟨hB1, fr1⟩ := q2
  exact hR F1 _ _ dX0_addAll_10 ⟨by simpa using hB1, fr1⟩

set_option maxHeartbeats 4000000 in
set_option maxRecDepth 100000 in
theorem c_X0_become (l : Launch) (G : Nat → ClassId) (o h cap o2 h2 cap2 : Nat) (bs cs : List Nat) : jKv l yX0_become wsX0_become ({ frames := 3, cells := 0, slots := 0, locals := 66 }) G [.ref o, .ref o2] (fun L F => jBy G L F o h cap bs ∧ jBy G L F o2 h2 cap2 cs ∧ [o, h, o2, h2].Nodup ∧ cs.length ≤ cap) (fun L F F1 => jBy G L F1 o h cap cs ∧ ∀ x, x ∉ [o, h] → F1 x = F x) := by
  refine jm_kv (cc := cX0_become) (maxL := 2) (by decide) rfl (Nat.le_of_ble_eq_true rfl) ?_
  intro E L F hE hR hpre
  have hE : jOk E G _ cX0_become 2 RX0 wsX0_become := hE
  obtain ⟨hB, hC, hnd, hlen⟩ := hpre
  refine jr_aload_n hE dX0_become_0 0 rfl ?_
  refine jr_kVv (ci := 0) (n := 0) (As := []) (rest := []) hE dX0_become_1 (fun l => c_X0_empty l G o h cap bs) gX0_become_X0_empty rfl hB.ob rfl (by decide +kernel) ⟨rfl, rfl, by decide, by decide⟩ (by decide) rfl rfl (Nat.le_of_ble_eq_true rfl) (hB) (fun F1 q2 => ?_)
  obtain ⟨hB1, fr1⟩ := q2
  have hC1 := hC.fr (fr1 o2 (jn hnd 2 [0] rfl rfl (by decide))) (fr1 h2 (jn hnd 3 [0] rfl rfl (by decide)))
  refine jr_aload_n hE dX0_become_4 0 rfl ?_
  refine jr_aload_n hE dX0_become_5 1 rfl ?_
  refine jr_kVv (ci := 0) (n := 1) (As := [.ref o2]) (rest := []) hE dX0_become_6 (fun l => c_X0_addAll l G o h cap o2 h2 cap2 [] cs) gX0_become_X0_addAll rfl hB1.ob rfl (by decide +kernel) ⟨rfl, rfl, by decide, by decide⟩ (by decide) rfl rfl (Nat.le_of_ble_eq_true rfl) (⟨hB1, hC1, hnd, by simpa using hlen⟩) (fun F3 q4 => ?_)
  obtain ⟨hB2, fr2⟩ := q4
  exact hR F3 _ _ dX0_become_9 ⟨hB2, fun x hx => (fr2 x hx).trans (fr1 x (jnsub hx [0] rfl))⟩

theorem bnum_snoc (l : List Nat) (b : Nat) : bnum (l ++ [b]) = bnum l * 256 + b := by simp [bnum]
theorem bnum_lt (n : Nat) : ∀ (l : List Nat), l.length = n → (∀ b ∈ l, b < 256) → bnum l < 256 ^ n := by
  induction n with
  | zero => intro l hl _; rw [List.length_eq_zero_iff.mp hl]; decide
  | succ n ih =>
    intro l hl h
    have hne : l ≠ [] := by intro e; rw [e] at hl; cases hl
    have e := List.dropLast_concat_getLast hne
    have h1 := ih l.dropLast (by simp [hl]) (fun c hc => h c (List.dropLast_subset l hc))
    have h2 := h (l.getLast hne) (List.getLast_mem hne)
    rw [← e, bnum_snoc, Nat.pow_succ]
    omega
theorem num_step {x b : Nat} (hx : x < 2 ^ 56) (hb : b < 256) : lN x <<< ((8 : Int32).toInt64 &&& 63) ||| (nI b).toInt64 = lN (x * 256 + b) := by
  rw [show (8 : Int32) = nI 8 from rfl, wb_shl _ (by decide), nI_l (by omega), wb_or (by omega) (by omega)]
  congr 1
  have := Nat.two_pow_add_eq_or_of_lt (i := 8) (b := b) (by omega) x
  rw [Nat.mul_comm x (2 ^ 8), ← this]

set_option maxHeartbeats 4000000 in
set_option maxRecDepth 100000 in
theorem c_X0_number (l : Launch) (G : Nat → ClassId) (o h cap st n : Nat) (bs : List Nat) : jKl l yX0_number wsX0_number ({ frames := 1, cells := 0, slots := 0, locals := 21 }) G [.ref o, .int (nI st), .int (nI n)] (fun L F => jBy G L F o h cap bs ∧ st + n ≤ bs.length ∧ n ≤ 8) (fun L F r F1 => F = F1 ∧ r = lN (bnum ((bs.drop st).take n))) := by
  refine jm_kl (cc := cX0_number) (maxL := 6) (by decide) rfl (Nat.le_of_ble_eq_true rfl) ?_
  intro E L F hE hR hpre
  have hE : jOk E G _ cX0_number 6 RX0 wsX0_number := hE

  obtain ⟨hB, hlen, hn8⟩ := hpre
  have hcp := hB.cap
  have hlt : ∀ i, i < 8 → st + i ≤ bs.length → bnum ((bs.drop st).take i) < 2 ^ 56 := by
    intro i hi hs
    have h1 := bnum_lt i ((bs.drop st).take i) (by simp; omega) (fun b hb => by
      obtain ⟨k, hk⟩ := List.mem_iff_getElem?.mp (List.mem_of_mem_drop (List.mem_of_mem_take hb))
      have hkl := (List.getElem?_eq_some_iff.mp hk).1
      have := hB.lt hkl
      simpa [List.getD, hk] using this)
    have h2 : 256 ^ i ≤ 256 ^ 7 := Nat.pow_le_pow_right (by decide) (by omega)
    omega
  have loop : ∀ (r i : Nat), i + r = n → J E L F 0 0 5 [(5, .int (nI i)), (3, .long (lN (bnum ((bs.drop st).take i)))), (0, .ref o), (1, .int (nI st)), (2, .int (nI n))] [] := by
    intro r
    induction r with
    | zero =>
      intro i hin
      refine jr_iload hE dX0_number_5 0 rfl ?_
      refine jr_iload_n hE dX0_number_7 4 rfl ?_
      refine jr_icmp_ge (tgt := 32) hE dX0_number_8 (by decide) (fun c_8 => ?_) (fun c_8 => absurd (nI_le (by omega) (by omega)) c_8)
      refine jr_lload_n hE dX0_number_32 1 rfl ?_
      exact hR F _ _ _ dX0_number_33 ⟨rfl, by rw [show n = i by omega]⟩
    | succ r ih =>
      intro i hin
      have hx := hlt i (by omega) (by omega)
      refine jr_iload hE dX0_number_5 0 rfl ?_
      refine jr_iload_n hE dX0_number_7 4 rfl ?_
      refine jr_icmp_ge (tgt := 32) hE dX0_number_8 (by decide) (fun c_8 => absurd c_8 (nI_ge (by omega) (by omega))) (fun c_8 => ?_)
      refine jr_lload_n hE dX0_number_11 1 rfl ?_
      refine jr_bipush (v := (8 : Int32)) hE dX0_number_12 (by decide) ?_
      refine jr_lshl hE dX0_number_14 rfl ?_
      refine jr_topl (fun z1 ez1 => ?_)
      refine jr_aload_n hE dX0_number_15 2 rfl ?_
      refine jr_iload_n hE dX0_number_16 3 rfl ?_
      refine jr_iload hE dX0_number_17 0 rfl ?_
      refine jr_iadd (z := nI (st + i)) hE dX0_number_19 (nI_add _ _) ?_
      refine jr_kVi (ci := 0) (n := 1) (As := [.int (nI (st + i))]) (rest := [.long z1]) hE dX0_number_20 (fun l => c_X0_get l G o h cap (st + i) bs) gX0_number_X0_get rfl hB.ob rfl (by decide +kernel) ⟨rfl, rfl, by decide, by decide⟩ (by decide) rfl rfl (Nat.le_of_ble_eq_true rfl) (⟨hB, by omega⟩) (fun r4 F2 q3 => ?_)
      obtain ⟨rfl, rfl⟩ := q3
      have hc := hB.lt (show st + i < bs.length by omega)
      refine jr_i2l hE dX0_number_23 rfl ?_
      refine jr_lor (z := lN (bnum ((bs.drop st).take (i + 1)))) hE dX0_number_24 (by rw [ez1, num_step hx hc, ← bnum_snoc, take_succ_getD (by omega)]) ?_
      refine jr_lstore_n (lv' := [(3, .long (lN (bnum ((bs.drop st).take (i + 1))))), (5, .int (nI i)), (0, .ref o), (1, .int (nI st)), (2, .int (nI n))]) hE dX0_number_25 (by decide) rfl ?_
      refine jr_iinc (v := nI (i + 1)) (lv' := [(5, .int (nI (i + 1))), (3, .long (lN (bnum ((bs.drop st).take (i + 1))))), (0, .ref o), (1, .int (nI st)), (2, .int (nI n))]) hE dX0_number_26 1 rfl (nI_1 _) (by decide) rfl ?_
      refine jr_goto (tgt := 5) hE dX0_number_29 (by decide) ?_
      exact ih (i + 1) (by omega)
  refine jr_lconst (v := (0 : Int64)) hE dX0_number_0 (by decide) ?_
  refine jr_lstore_n (lv' := [(3, .long (0 : Int64)), (0, .ref o), (1, .int (nI st)), (2, .int (nI n))]) hE dX0_number_1 (by decide) rfl ?_
  refine jr_iconst (v := (0 : Int32)) hE dX0_number_2 (by decide) ?_
  refine jr_istore (lv' := [(5, .int (0 : Int32)), (3, .long (0 : Int64)), (0, .ref o), (1, .int (nI st)), (2, .int (nI n))]) hE dX0_number_3 (by decide) rfl ?_
  exact loop n 0 (by omega)

theorem like_of {bs cs : List Nat} (hl : bs.length = cs.length) (h : ∀ j, j < bs.length → bs.getD j 0 = cs.getD j 0) : bs = cs := by
  apply List.ext_getElem hl
  intro i h1 h2
  have := h i h1
  simpa [List.getD, h1, h2] using this

set_option maxHeartbeats 4000000 in
set_option maxRecDepth 100000 in
theorem c_X0_isLike (l : Launch) (G : Nat → ClassId) (o h cap o2 h2 cap2 : Nat) (bs cs : List Nat) : jKi l yX0_isLike wsX0_isLike ({ frames := 1, cells := 0, slots := 0, locals := 21 }) G [.ref o, .ref o2] (fun L F => jBy G L F o h cap bs ∧ jBy G L F o2 h2 cap2 cs) (fun L F r F1 => F = F1 ∧ r = b2i (bs = cs)) := by
  refine jm_ki (cc := cX0_isLike) (maxL := 4) (rt := .boolean) (by decide) rfl (Nat.le_of_ble_eq_true rfl) ?_
  intro E L F hE hR hpre
  have hE : jOk E G _ cX0_isLike 4 RX0 wsX0_isLike := hE

  have f7 : jFl RX0 wsX0_isLike 7 0 1 := ⟨rfl, by decide, by decide +kernel, by decide +kernel⟩
  obtain ⟨hB, hC⟩ := hpre
  have hcp := hB.cap
  have hcp2 := hC.cap
  have loop : ∀ (r i : Nat), i + r = bs.length → bs.length = cs.length → (∀ j, j < i → bs.getD j 0 = cs.getD j 0) → J E L F 0 0 19 [(3, .int (nI i)), (2, .int 1), (0, .ref o), (1, .ref o2)] [] := by
    intro r
    induction r with
    | zero =>
      intro i hin hle hpf
      refine jr_iload_n hE dX0_isLike_19 1 rfl ?_
      refine jr_if_eq (tgt := 56) hE dX0_isLike_20 (by decide) (fun c_20 => absurd c_20 (by decide)) (fun c_20 => ?_)
      refine jr_iload_n hE dX0_isLike_23 0 rfl ?_
      refine jr_aload_n hE dX0_isLike_24 2 rfl ?_
      refine jr_get hE dX0_isLike_25 f7 hB.ob rfl ?_
      refine jr_icmp_ge (tgt := 56) hE dX0_isLike_28 (by decide) (fun c_28 => ?_) (fun c_28 => absurd (nI_le (by omega) (by omega)) c_28)
      refine jr_iload_n hE dX0_isLike_56 1 rfl ?_
      exact hR F 1 _ _ dX0_isLike_57 rfl ⟨rfl, (b2i_t (like_of hle (fun j hj => hpf j (by omega)))).symm⟩
    | succ r ih =>
      intro i hin hle hpf
      refine jr_iload_n hE dX0_isLike_19 1 rfl ?_
      refine jr_if_eq (tgt := 56) hE dX0_isLike_20 (by decide) (fun c_20 => absurd c_20 (by decide)) (fun c_20 => ?_)
      refine jr_iload_n hE dX0_isLike_23 0 rfl ?_
      refine jr_aload_n hE dX0_isLike_24 2 rfl ?_
      refine jr_get hE dX0_isLike_25 f7 hB.ob rfl ?_
      refine jr_icmp_ge (tgt := 56) hE dX0_isLike_28 (by decide) (fun c_28 => absurd c_28 (nI_ge (by omega) (by omega))) (fun c_28 => ?_)
      refine jr_aload_n hE dX0_isLike_31 2 rfl ?_
      refine jr_iload_n hE dX0_isLike_32 0 rfl ?_
      refine jr_kVi (ci := 0) (n := 1) (As := [.int (nI i)]) (rest := []) hE dX0_isLike_33 (fun l => c_X0_get l G o h cap i bs) gX0_isLike_X0_get rfl hB.ob rfl (by decide +kernel) ⟨rfl, rfl, by decide, by decide⟩ (by decide) rfl rfl (Nat.le_of_ble_eq_true rfl) (⟨hB, by omega⟩) (fun r3 F1 q2 => ?_)
      obtain ⟨rfl, rfl⟩ := q2
      have hchB := hB.lt (show i < bs.length by omega)
      refine jr_aload_n hE dX0_isLike_36 3 rfl ?_
      refine jr_iload_n hE dX0_isLike_37 0 rfl ?_
      refine jr_kVi (ci := 0) (n := 1) (As := [.int (nI i)]) (rest := [.int (nI (bs.getD i 0))]) hE dX0_isLike_38 (fun l => c_X0_get l G o2 h2 cap2 i cs) gX0_isLike_X0_get rfl hC.ob rfl (by decide +kernel) ⟨rfl, rfl, by decide, by decide⟩ (by decide) rfl rfl (Nat.le_of_ble_eq_true rfl) (⟨hC, by omega⟩) (fun r6 F4 q5 => ?_)
      obtain ⟨rfl, rfl⟩ := q5
      have hchC := hC.lt (show i < cs.length by omega)
      refine jr_icmp_ne (tgt := 48) hE dX0_isLike_41 (by decide) (fun c41 => ?_) (fun c41 => ?_)
      · refine jr_iconst (v := (0 : Int32)) hE dX0_isLike_48 (by decide) ?_
        refine jr_istore_n (lv' := [(2, .int (0 : Int32)), (3, .int (nI i)), (0, .ref o), (1, .ref o2)]) hE dX0_isLike_49 (by decide) rfl ?_
        refine jr_iinc (v := nI (i + 1)) (lv' := [(3, .int (nI (i + 1))), (2, .int (0 : Int32)), (0, .ref o), (1, .ref o2)]) hE dX0_isLike_50 1 rfl (nI_1 _) (by decide) rfl ?_
        refine jr_goto (tgt := 19) hE dX0_isLike_53 (by decide) ?_
        refine jr_iload_n hE dX0_isLike_19 1 rfl ?_
        refine jr_if_eq (tgt := 56) hE dX0_isLike_20 (by decide) (fun c_20 => ?_) (fun c_20 => absurd (rfl) c_20)
        refine jr_iload_n hE dX0_isLike_56 1 rfl ?_
        exact hR F 0 _ _ dX0_isLike_57 rfl ⟨rfl, (b2i_f (fun e => c41 (by rw [e]))).symm⟩
      · refine jr_iconst (v := (1 : Int32)) hE dX0_isLike_44 (by decide) ?_
        refine jr_goto (tgt := 49) hE dX0_isLike_45 (by decide) ?_
        refine jr_istore_n (lv' := [(2, .int (1 : Int32)), (3, .int (nI i)), (0, .ref o), (1, .ref o2)]) hE dX0_isLike_49 (by decide) rfl ?_
        refine jr_iinc (v := nI (i + 1)) (lv' := [(3, .int (nI (i + 1))), (2, .int (1 : Int32)), (0, .ref o), (1, .ref o2)]) hE dX0_isLike_50 1 rfl (nI_1 _) (by decide) rfl ?_
        refine jr_goto (tgt := 19) hE dX0_isLike_53 (by decide) ?_
        exact ih (i + 1) (by omega) hle (fun j hj => by
          rcases Nat.lt_or_ge j i with q | q
          · exact hpf j q
          · rw [show j = i by omega]
            exact (nI_eq (by omega) (by omega)).mp c41)
  refine jr_aload_n hE dX0_isLike_0 0 rfl ?_
  refine jr_get hE dX0_isLike_1 f7 hB.ob rfl ?_
  refine jr_aload_n hE dX0_isLike_4 1 rfl ?_
  refine jr_get hE dX0_isLike_5 f7 hC.ob rfl ?_
  refine jr_icmp_ne (tgt := 15) hE dX0_isLike_8 (by decide) (fun c8 => ?_) (fun c8 => ?_)
  · refine jr_iconst (v := (0 : Int32)) hE dX0_isLike_15 (by decide) ?_
    have hne : bs ≠ cs := fun e => c8 (by rw [e])
    refine jr_istore_n (lv' := [(2, .int (0 : Int32)), (0, .ref o), (1, .ref o2)]) hE dX0_isLike_16 (by decide) rfl ?_
    refine jr_iconst (v := (0 : Int32)) hE dX0_isLike_17 (by decide) ?_
    refine jr_istore_n (lv' := [(3, .int (0 : Int32)), (2, .int (0 : Int32)), (0, .ref o), (1, .ref o2)]) hE dX0_isLike_18 (by decide) rfl ?_
    refine jr_iload_n hE dX0_isLike_19 1 rfl ?_
    refine jr_if_eq (tgt := 56) hE dX0_isLike_20 (by decide) (fun c_20 => ?_) (fun c_20 => absurd (rfl) c_20)
    refine jr_iload_n hE dX0_isLike_56 1 rfl ?_
    exact hR F 0 _ _ dX0_isLike_57 rfl ⟨rfl, (b2i_f hne).symm⟩
  · refine jr_iconst (v := (1 : Int32)) hE dX0_isLike_11 (by decide) ?_
    refine jr_goto (tgt := 16) hE dX0_isLike_12 (by decide) ?_
    refine jr_istore_n (lv' := [(2, .int (1 : Int32)), (0, .ref o), (1, .ref o2)]) hE dX0_isLike_16 (by decide) rfl ?_
    refine jr_iconst (v := (0 : Int32)) hE dX0_isLike_17 (by decide) ?_
    refine jr_istore_n (lv' := [(3, .int (0 : Int32)), (2, .int (1 : Int32)), (0, .ref o), (1, .ref o2)]) hE dX0_isLike_18 (by decide) rfl ?_
    exact loop bs.length 0 (by omega) ((nI_eq (by omega) (by omega)).mp c8) (fun j hj => absurd hj (Nat.not_lt_zero j))

