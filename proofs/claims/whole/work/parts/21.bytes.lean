/-! BYTES: rows of bytes -/
def sb (b : Nat) : Int32 := (nI b).toInt8.toInt32
def bv (v : Int32) : Nat := v.toBitVec.toNat % 256
theorem bv_lt (v : Int32) : bv v < 256 := Nat.mod_lt _ (by decide)
theorem sb_and {b : Nat} (h : b < 256) : sb b &&& 255 = nI b := sc_k8 b h
theorem sb_bv (v : Int32) : vp_nar .byte v = sb (bv v) := by
  rw [vp_nar_byte]
  unfold sb bv nI
  congr 1
  apply Int8.toBitVec_inj.mp
  apply BitVec.eq_of_toNat_eq
  simp [Int32.toBitVec_toInt8, BitVec.signExtend_eq_setWidth_of_le, BitVec.toNat_setWidth]
def jBy (G : Nat → ClassId) (L : List Nat) (F : Nat → va_E) (o h cap : Nat) (bs : List Nat) : Prop :=
  ∃ f : Nat → Int32, jF L F o (.inr (0, [.ref h, .int (nI bs.length)])) ∧ jF L F h (.inl (G 0, cap, .inl f)) ∧ bs.length ≤ cap ∧ cap ≤ 100 ∧ (∀ j, j < bs.length → f j = sb (bs.getD j 0)) ∧ ∀ j, j < bs.length → bs.getD j 0 < 256
theorem jBy.fr {G : Nat → ClassId} {L : List Nat} {F F' : Nat → va_E} {o h cap : Nat} {bs : List Nat} (b : jBy G L F o h cap bs) (e1 : F' o = F o) (e2 : F' h = F h) : jBy G L F' o h cap bs := by
  obtain ⟨f, b1, b2, b3⟩ := b
  exact ⟨f, b1.fr e1, b2.fr e2, b3⟩
theorem jne {x a : Nat} {W : List Nat} (hx : x ∉ W) (i : Nat) (hi : W[i]? = some a) : x ≠ a := fun e => hx (e ▸ List.mem_of_getElem? hi)
theorem jnsub {x : Nat} {W V : List Nat} (hx : x ∉ W) (is : List Nat) (h : is.map (fun j => W[j]?) = V.map some) : x ∉ V := by
  intro hv
  obtain ⟨k, hk⟩ := List.mem_iff_getElem?.mp hv
  have h1 : (is.map (fun j => W[j]?))[k]? = some (some x) := by rw [h, List.getElem?_map, hk]; rfl
  rw [List.getElem?_map] at h1
  cases hj : is[k]? with
  | none => rw [hj] at h1; cases h1
  | some j =>
    rw [hj] at h1
    exact hx (List.mem_of_getElem? (by simpa using h1))
theorem jBy.push {G : Nat → ClassId} {L : List Nat} {F : Nat → va_E} {o h cap : Nat} {bs : List Nat} {f g : Nat → Int32} {v : Int32} {n : Int32} (b1 : jF L F o (.inr (0, [.ref h, .int n]))) (hn : n = nI bs.length + 1) (b2 : jF L F h (.inl (G 0, cap, .inl g))) (hg : g = upd f (nI bs.length).toNatClampNeg (vp_nar .byte v)) (hl : bs.length < cap) (hc : cap ≤ 100) (hf : ∀ j, j < bs.length → f j = sb (bs.getD j 0)) (hb : ∀ j, j < bs.length → bs.getD j 0 < 256) : jBy G L F o h cap (bs ++ [bv v]) := by
  refine ⟨g, ?_, b2, by simp; omega, hc, ?_, ?_⟩
  · rw [List.length_append, List.length_singleton, nI_succ, ← hn]; exact b1
  · intro j hj
    rw [List.length_append, List.length_singleton] at hj
    rw [hg, nI_clamp (by omega)]
    rcases Nat.lt_or_ge j bs.length with q | q
    · rw [pk_un (by omega), hf j q]; simp only [List.getD, List.getElem?_append_left q]
    · have e : j = bs.length := by omega
      subst e
      rw [pk_us, sb_bv]; simp
  · intro j hj
    rw [List.length_append, List.length_singleton] at hj
    rcases Nat.lt_or_ge j bs.length with q | q
    · have := hb j q; simpa only [List.getD, List.getElem?_append_left q] using this
    · have e : j = bs.length := by omega
      subst e
      simpa using bv_lt v

theorem bv_i8 (v : Int32) : bv v.toInt8.toInt32 = bv v := by
  unfold bv
  have h : v.toInt8.toInt32.toBitVec = (v.toBitVec.setWidth 8).signExtend 32 := by
    rw [Int8.toBitVec_toInt32, Int32.toBitVec_toInt8]
    exact congrArg (BitVec.signExtend 32) (BitVec.signExtend_eq_setWidth_of_le v.toBitVec (by decide))
  rw [h]
  have h2 : ((v.toBitVec.setWidth 8).signExtend 32).setWidth 8 = v.toBitVec.setWidth 8 := by
    apply BitVec.eq_of_getLsbD_eq
    intro i hi
    simp [BitVec.getLsbD_signExtend, hi]
    omega
  have h3 := congrArg BitVec.toNat h2
  simpa [BitVec.toNat_setWidth] using h3
theorem bv_xor (x y : Int32) : bv (x ^^^ y) = bv x ^^^ bv y := by
  unfold bv
  rw [Int32.toBitVec_xor, BitVec.toNat_xor]
  exact Nat.xor_mod_two_pow (n := 8)
theorem bv_nI {n : Nat} (h : n < 256) : bv (nI n) = n := by
  unfold bv
  rw [pk_tn (by omega)]; omega
theorem bv_sb {b : Nat} (h : b < 256) : bv (sb b) = b := by
  unfold sb; rw [bv_i8, bv_nI h]
theorem sb_xor {b k : Nat} (hb : b < 256) (hk : k < 256) : vp_nar .byte (sb b ^^^ nI k).toInt8.toInt32 = sb (b ^^^ k) := by
  rw [sb_bv, bv_i8, bv_xor, bv_sb hb, bv_nI hk]
theorem xor_lt {b k : Nat} (hb : b < 256) (hk : k < 256) : b ^^^ k < 256 := Nat.xor_lt_two_pow (n := 8) hb hk
theorem jBy.set {G : Nat → ClassId} {L : List Nat} {F : Nat → va_E} {o h cap : Nat} {bs : List Nat} {f g : Nat → Int32} {i k b : Nat} (b1 : jF L F o (.inr (0, [.ref h, .int (nI bs.length)]))) (b2 : jF L F h (.inl (G 0, cap, .inl g))) (hg : g = upd f (nI k).toNatClampNeg (sb b)) (hk : k < bs.length) (hbb : b < 256) (hl : bs.length ≤ cap) (hc : cap ≤ 100) (hf : ∀ j, j < bs.length → f j = sb (bs.getD j 0)) (hb : ∀ j, j < bs.length → bs.getD j 0 < 256) : jBy G L F o h cap (bs.set k b) := by
  refine ⟨g, by rw [List.length_set]; exact b1, b2, by simpa using hl, hc, ?_, ?_⟩
  · intro j hj
    rw [List.length_set] at hj
    rw [hg, nI_clamp (by omega)]
    by_cases e : j = k
    · subst e; rw [pk_us]; simp [List.getD, hj]
    · rw [pk_un e, hf j hj]; simp [List.getD, List.getElem?_set_ne (Ne.symm e)]
  · intro j hj
    rw [List.length_set] at hj
    by_cases e : j = k
    · subst e; simpa [List.getD, hj] using hbb
    · have := hb j hj; simpa [List.getD, List.getElem?_set_ne (Ne.symm e)] using this

set_option maxHeartbeats 4000000 in
set_option maxRecDepth 100000 in
theorem c_X0_get (l : Launch) (G : Nat → ClassId) (o h cap k : Nat) (bs : List Nat) : jCi l yX0_get wsX0_get ({ frames := 0, cells := 0, slots := 0, locals := 0 }) 0 0 G [.ref o, .int (nI k)] (fun L F => jBy G L F o h cap bs ∧ k < bs.length) (fun L F r L1 F1 => L1 = L ∧ F1 = F ∧ r = nI (bs.getD k 0)) := by
  refine jm_i (cc := cX0_get) (maxL := 2) (rt := .int) (by decide) rfl (Nat.le_of_ble_eq_true rfl) ?_
  intro E T L F hE hR hpre
  have hE : jOk E G T _ cX0_get 2 RX0 wsX0_get := hE
  obtain ⟨f, ho, hh, hbc, hcap, hf, hb⟩ := hpre.1
  have hk := hpre.2
  have f19 : jFl RX0 wsX0_get 19 0 0 := ⟨rfl, by decide, by decide +kernel, by decide +kernel⟩
  refine jr_iload_n hE dX0_get_0 1 rfl ?_
  refine jr_if_lt (tgt := 26) hE dX0_get_1 (by decide) (fun c_1 => absurd c_1 (nI_pos (by omega))) (fun c_1 => ?_)
  refine jr_iload_n hE dX0_get_4 1 rfl ?_
  refine jr_aload_n hE dX0_get_5 0 rfl ?_
  refine jr_get hE dX0_get_6 f19 ho rfl ?_
  refine jr_alen (v := nI cap) hE dX0_get_9 hh rfl rfl ?_
  refine jr_icmp_ge (tgt := 26) hE dX0_get_10 (by decide) (fun c_10 => absurd c_10 (nI_ge (by omega) (by omega))) (fun c_10 => ?_)
  refine jr_aload_n hE dX0_get_13 0 rfl ?_
  refine jr_get hE dX0_get_14 f19 ho rfl ?_
  refine jr_iload_n hE dX0_get_17 1 rfl ?_
  refine jr_bald (v := sb (bs.getD k 0)) hE dX0_get_18 hh (vp_in_nI (by omega) (by omega)) (by rw [nI_clamp (by omega)]; exact hf k hk) ?_
  refine jr_sipush (v := 255) hE dX0_get_19 (by decide) ?_
  refine jr_iand (z := nI (bs.getD k 0)) hE dX0_get_22 (sb_and (hb k hk)) ?_
  refine jr_goto (tgt := 27) hE dX0_get_23 (by decide) ?_
  exact hR L F (nI (bs.getD k 0)) _ _ dX0_get_27 rfl ⟨rfl, rfl, rfl⟩

set_option maxHeartbeats 4000000 in
set_option maxRecDepth 100000 in
theorem c_X0_turn (l : Launch) (G : Nat → ClassId) (o h cap k mk : Nat) (bs : List Nat) : jCv l yX0_turn wsX0_turn ({ frames := 0, cells := 0, slots := 0, locals := 0 }) 0 0 G [.ref o, .int (nI k), .int (nI mk)] (fun L F => jBy G L F o h cap bs ∧ k < bs.length ∧ mk < 256) (fun L F L1 F1 => L1 = L ∧ jBy G L F1 o h cap (bs.set k (bs.getD k 0 ^^^ mk)) ∧ ∀ x, x ∉ [h] → F1 x = F x) := by
  refine jm_v (cc := cX0_turn) (maxL := 3) (by decide) rfl (Nat.le_of_ble_eq_true rfl) ?_
  intro E T L F hE hR hpre
  have hE : jOk E G T _ cX0_turn 3 RX0 wsX0_turn := hE
  obtain ⟨f, ho, hh, hbc, hcap, hf, hb⟩ := hpre.1
  have hk := hpre.2.1
  have hm := hpre.2.2
  have f19 : jFl RX0 wsX0_turn 19 0 0 := ⟨rfl, by decide, by decide +kernel, by decide +kernel⟩
  refine jr_iload_n hE dX0_turn_0 1 rfl ?_
  refine jr_if_lt (tgt := 28) hE dX0_turn_1 (by decide) (fun c_1 => absurd c_1 (nI_pos (by omega))) (fun c_1 => ?_)
  refine jr_iload_n hE dX0_turn_4 1 rfl ?_
  refine jr_aload_n hE dX0_turn_5 0 rfl ?_
  refine jr_get hE dX0_turn_6 f19 ho rfl ?_
  refine jr_alen (v := nI cap) hE dX0_turn_9 hh rfl rfl ?_
  refine jr_icmp_ge (tgt := 28) hE dX0_turn_10 (by decide) (fun c_10 => absurd c_10 (nI_ge (by omega) (by omega))) (fun c_10 => ?_)
  refine jr_aload_n hE dX0_turn_13 0 rfl ?_
  refine jr_get hE dX0_turn_14 f19 ho rfl ?_
  refine jr_iload_n hE dX0_turn_17 1 rfl ?_
  refine jr_aload_n hE dX0_turn_18 0 rfl ?_
  refine jr_get hE dX0_turn_19 f19 ho rfl ?_
  refine jr_iload_n hE dX0_turn_22 1 rfl ?_
  refine jr_bald (v := sb (bs.getD k 0)) hE dX0_turn_23 hh (vp_in_nI (by omega) (by omega)) (by rw [nI_clamp (by omega)]; exact hf k hk) ?_
  refine jr_iload_n hE dX0_turn_24 2 rfl ?_
  refine jr_ixor hE dX0_turn_25 rfl ?_
  refine jr_i2b hE dX0_turn_26 rfl ?_
  refine jr_bast hE dX0_turn_27 hh (vp_in_nI (by omega) (by omega)) (fun F1 g2 u3 => ?_)
  obtain ⟨f4, ef4⟩ : ∃ z, z = upd f (nI k).toNatClampNeg (vp_nar .byte (((sb (bs.getD k 0)) ^^^ (nI mk)).toInt8.toInt32)) := ⟨_, rfl⟩
  rw [← ef4] at g2
  have g5 := ho.upk u3 hh (Nat.ne_of_beq_eq_false rfl)
  exact hR L F1 _ _ dX0_turn_28 ⟨rfl, jBy.set g5 g2 (by rw [ef4, sb_xor (hb k hk) hm]) hk (xor_lt (hb k hk) hm) hbc hcap hf hb, fun x hx => u3 x (jne hx 0 rfl)⟩

set_option maxHeartbeats 4000000 in
set_option maxRecDepth 100000 in
theorem c_X0_empty (l : Launch) (G : Nat → ClassId) (o h cap : Nat) (bs : List Nat) : jCv l yX0_empty wsX0_empty ({ frames := 0, cells := 0, slots := 0, locals := 0 }) 0 0 G [.ref o] (fun L F => jBy G L F o h cap bs) (fun L F L1 F1 => L1 = L ∧ jBy G L F1 o h cap [] ∧ ∀ x, x ∉ [o] → F1 x = F x) := by
  refine jm_v (cc := cX0_empty) (maxL := 1) (by decide) rfl (Nat.le_of_ble_eq_true rfl) ?_
  intro E T L F hE hR hpre
  have hE : jOk E G T _ cX0_empty 1 RX0 wsX0_empty := hE
  obtain ⟨f, ho, hh, hbc, hcap, hf, hb⟩ := hpre
  have f7 : jFl RX0 wsX0_empty 7 0 1 := ⟨rfl, by decide, by decide +kernel, by decide +kernel⟩
  refine jr_aload_n hE dX0_empty_0 0 rfl ?_
  refine jr_iconst (v := 0) hE dX0_empty_1 (by decide) ?_
  refine jr_put (ty := .int) hE dX0_empty_2 f7 ho rfl (by decide +kernel) rfl rfl (Nat.le_of_ble_eq_true rfl) (fun F1 g2 u3 => ?_)
  have g2 : jF L F1 o (.inr (0, [.ref h, .int 0])) := g2
  have g4 := hh.upk u3 ho (Nat.ne_of_beq_eq_false rfl)
  exact hR L F1 _ _ dX0_empty_5 ⟨rfl, ⟨f, g2, g4, Nat.zero_le _, hcap, fun j hj => absurd hj (Nat.not_lt_zero j), fun j hj => absurd hj (Nat.not_lt_zero j)⟩, fun x hx => u3 x (jne hx 0 rfl)⟩

theorem i8_i8 (v : Int32) : v.toInt8.toInt32.toInt8.toInt32 = v.toInt8.toInt32 := by
  have h := sb_bv v.toInt8.toInt32
  rw [vp_nar_byte, bv_i8] at h
  rw [h, ← sb_bv, vp_nar_byte]

set_option maxHeartbeats 4000000 in
set_option maxRecDepth 100000 in
theorem c_X0_add (l : Launch) (G : Nat → ClassId) (o h cap : Nat) (bs : List Nat) (v : Int32) : jCv l yX0_add wsX0_add ({ frames := 0, cells := 0, slots := 0, locals := 0 }) 0 0 G [.ref o, .int v] (fun L F => jBy G L F o h cap bs ∧ bs.length < cap) (fun L F L1 F1 => L1 = L ∧ jBy G L F1 o h cap (bs ++ [bv v]) ∧ ∀ x, x ∉ [o, h] → F1 x = F x) := by
  refine jm_v (cc := cX0_add) (maxL := 2) (by decide) rfl (Nat.le_of_ble_eq_true rfl) ?_
  intro E T L F hE hR hpre
  have hE : jOk E G T _ cX0_add 2 RX0 wsX0_add := hE
  obtain ⟨f, ho, hh, hbc, hcap, hf, hb⟩ := hpre.1
  have hk := hpre.2
  have f7 : jFl RX0 wsX0_add 7 0 1 := ⟨rfl, by decide, by decide +kernel, by decide +kernel⟩
  have f19 : jFl RX0 wsX0_add 19 0 0 := ⟨rfl, by decide, by decide +kernel, by decide +kernel⟩
  refine jr_aload_n hE dX0_add_0 0 rfl ?_
  refine jr_get hE dX0_add_1 f7 ho rfl ?_
  refine jr_if_lt (tgt := 40) hE dX0_add_4 (by decide) (fun c_4 => absurd c_4 (nI_pos (by omega))) (fun c_4 => ?_)
  refine jr_aload_n hE dX0_add_7 0 rfl ?_
  refine jr_get hE dX0_add_8 f7 ho rfl ?_
  refine jr_aload_n hE dX0_add_11 0 rfl ?_
  refine jr_get hE dX0_add_12 f19 ho rfl ?_
  refine jr_alen (v := nI cap) hE dX0_add_15 hh rfl rfl ?_
  refine jr_icmp_ge (tgt := 40) hE dX0_add_16 (by decide) (fun c_16 => absurd c_16 (nI_ge (by omega) (by omega))) (fun c_16 => ?_)
  refine jr_aload_n hE dX0_add_19 0 rfl ?_
  refine jr_get hE dX0_add_20 f19 ho rfl ?_
  refine jr_aload_n hE dX0_add_23 0 rfl ?_
  refine jr_get hE dX0_add_24 f7 ho rfl ?_
  refine jr_iload_n hE dX0_add_27 1 rfl ?_
  refine jr_i2b hE dX0_add_28 rfl ?_
  refine jr_bast hE dX0_add_29 hh (vp_in_nI (by omega) (by omega)) (fun F1 g2 u3 => ?_)
  obtain ⟨f4, ef4⟩ : ∃ z, z = upd f (nI bs.length).toNatClampNeg (vp_nar .byte v.toInt8.toInt32) := ⟨_, rfl⟩
  rw [← ef4] at g2
  have g5 := ho.upk u3 hh (Nat.ne_of_beq_eq_false rfl)
  refine jr_aload_n hE dX0_add_30 0 rfl ?_
  refine jr_dup hE dX0_add_31 rfl ?_
  refine jr_get hE dX0_add_32 f7 g5 rfl ?_
  refine jr_iconst (v := 1) hE dX0_add_35 (by decide) ?_
  refine jr_iadd hE dX0_add_36 rfl ?_
  refine jr_put (ty := .int) hE dX0_add_37 f7 g5 rfl (by decide +kernel) rfl rfl (Nat.le_of_ble_eq_true rfl) (fun F6 g7 u8 => ?_)
  have g7 : jF L F6 o (.inr (0, [.ref h, .int ((nI bs.length) + 1)])) := g7
  have g9 := g2.upk u8 g5 (Nat.ne_of_beq_eq_false rfl)
  exact hR L F6 _ _ dX0_add_40 ⟨rfl, jBy.push g7 rfl g9 (by rw [ef4, vp_nar_byte, vp_nar_byte, i8_i8]) (f := f) hk hcap hf hb, fun x hx => (u8 x (jne hx 0 rfl)).trans (u3 x (jne hx 1 rfl))⟩
