/-! THE REFERENCE'S bytes: rows of ints -/
def bt (f : Nat → Int32) (j : Nat) : Nat := (f j).toBitVec.toNat
theorem bt_nI (f : Nat → Int32) (j : Nat) : f j = nI (bt f j) := Int32.toBitVec_inj.mp (by show _ = BitVec.ofNat 32 (f j).toBitVec.toNat; simp)
theorem bt_of {f : Nat → Int32} {j x : Nat} (h : f j = nI x) (hx : x < 2 ^ 32) : bt f j = x := by
  unfold bt
  rw [h]
  show (BitVec.ofNat 32 x).toNat = x
  rw [BitVec.toNat_ofNat, Nat.mod_eq_of_lt hx]
/-- the bytes from a place on -/
def bl (f : Nat → Int32) (s n : Nat) : List Nat := (List.range n).map (fun i => bt f (s + i))
theorem bl_len (f : Nat → Int32) (s n : Nat) : (bl f s n).length = n := by simp [bl]
theorem bl_s (f : Nat → Int32) (s n : Nat) : bl f s (n + 1) = bl f s n ++ [bt f (s + n)] := by simp [bl, List.range_succ]
theorem bl_get (f : Nat → Int32) (s n i : Nat) (h : i < n) : (bl f s n).getD i 0 = bt f (s + i) := by
  simp [bl, List.getD, List.getElem?_map, List.getElem?_range h]
theorem bl_sub (f : Nat → Int32) (s n a b : Nat) (h : a + b ≤ n) : ((bl f s n).drop a).take b = bl f (s + a) b := by
  apply List.ext_getElem
  · simp [bl]; omega
  · intro i h1 h2
    simp [bl, Nat.add_assoc]
theorem bl_cg {f g : Nat → Int32} {s n : Nat} (h : ∀ i, i < n → f (s + i) = g (s + i)) : bl f s n = bl g s n := by
  unfold bl
  apply List.map_congr_left
  intro i hi
  unfold bt
  rw [h i (List.mem_range.mp hi)]
theorem bl_app (f : Nat → Int32) (s n m : Nat) : bl f s (n + m) = bl f s n ++ bl f (s + n) m := by
  have h1 := List.take_append_drop n (bl f s (n + m))
  have h2 := bl_sub f s (n + m) 0 n (by omega)
  have h3 := bl_sub f s (n + m) n m (by omega)
  rw [List.drop_zero, Nat.add_zero] at h2
  rw [List.take_of_length_le (by rw [List.length_drop, bl_len]; omega)] at h3
  rw [h2, h3] at h1
  exact h1.symm
abbrev bB (f : Nat → Int32) (s n : Nat) : Prop := ∀ i, i < n → bt f (s + i) < 256
theorem bB.sub {f : Nat → Int32} {s n a b : Nat} (h : bB f s n) (hb : a + b ≤ n) : bB f (s + a) b := fun i hi => by
  rw [Nat.add_assoc]; exact h (a + i) (by omega)
theorem bB.num {f : Nat → Int32} {s n : Nat} (h : bB f s n) : bnum (bl f s n) < 256 ^ n := by
  refine bnum_lt n (bl f s n) (by rw [bl_len]) (fun b hb => ?_)
  simp only [bl, List.mem_map, List.mem_range] at hb
  obtain ⟨i, hi, rfl⟩ := hb
  exact h i hi
/-- a list is written from a place on -/
def wrt (f : Nat → Int32) (s : Nat) (l : List Nat) : Nat → Int32 := fun j => if s ≤ j ∧ j < s + l.length then nI (l.getD (j - s) 0) else f j
theorem wrt_nil (f : Nat → Int32) (s : Nat) : wrt f s [] = f := by
  funext j
  exact if_neg (by simp only [List.length_nil]; omega)
theorem wrt_out (f : Nat → Int32) (s : Nat) (l : List Nat) {j : Nat} (h : ¬ (s ≤ j ∧ j < s + l.length)) : wrt f s l j = f j := if_neg h
theorem wrt_in (f : Nat → Int32) (s : Nat) (l : List Nat) {i : Nat} (h : i < l.length) : wrt f s l (s + i) = nI (l.getD i 0) := by
  show (if _ then _ else _) = _
  rw [if_pos (by omega), show s + i - s = i by omega]
theorem bl_wrt (f : Nat → Int32) (s : Nat) (l : List Nat) (h : ∀ b, b ∈ l → b < 2 ^ 32) : bl (wrt f s l) s l.length = l := by
  apply List.ext_getElem
  · rw [bl_len]
  · intro i h1 h2
    have e := bl_get (wrt f s l) s l.length i h2
    rw [bt_of (wrt_in f s l h2) (by rw [List.getD_eq_getElem?_getD, List.getElem?_eq_getElem h2]; exact h _ (List.getElem_mem h2))] at e
    rw [List.getD_eq_getElem?_getD, List.getElem?_eq_getElem h1] at e
    rw [List.getD_eq_getElem?_getD, List.getElem?_eq_getElem h2] at e
    exact e
theorem bl_wrt_out (f : Nat → Int32) (s t n : Nat) (l : List Nat) (h : t + n ≤ s ∨ s + l.length ≤ t) : bl (wrt f s l) t n = bl f t n := bl_cg (fun i hi => wrt_out f s l (by omega))
theorem wrt_snoc {f g : Nat → Int32} {s i : Nat} {l : List Nat} {x : Int32} (hf : f = wrt g s l) (hi : l.length = i) {b : Nat} (hx : x = nI b) (hs : s + i < 2 ^ 31) : upd f (nI (s + i)).toNatClampNeg x = wrt g s (l ++ [b]) := by
  subst hf hx hi
  rw [nI_clamp hs]
  funext j
  show (if j = s + l.length then nI b else wrt g s l j) = (if _ then _ else _)
  by_cases e : j = s + l.length
  · rw [if_pos e, if_pos (by simp; omega), e, show s + l.length - s = l.length by omega]
    simp [List.getD]
  · rw [if_neg e]
    show (if _ then _ else _) = _
    by_cases q : s ≤ j ∧ j < s + l.length
    · rw [if_pos q, if_pos (by simp; omega)]
      congr 1
      rw [List.getD_eq_getElem?_getD, List.getD_eq_getElem?_getD, List.getElem?_append_left (by omega)]
    · rw [if_neg q, if_neg (by simp; omega)]
theorem bex_get (x n i : Nat) (h : i < n) : (bex x n).getD i 0 = x / 256 ^ (n - 1 - i) % 256 := by
  induction n generalizing i with
  | zero => omega
  | succ n ih =>
    cases i with
    | zero => simp [bex]
    | succ i =>
      rw [bex]
      show (bex x n).getD i 0 = _
      rw [ih i (by omega), show n + 1 - 1 - (i + 1) = n - 1 - i by omega]
theorem bex_lt (x : Nat) : ∀ n b, b ∈ bex x n → b < 256
  | 0, b, h => absurd h (by simp [bex])
  | n + 1, b, h => by
    rw [bex, List.mem_cons] at h
    rcases h with h | h
    · rw [h]; exact Nat.mod_lt _ (by decide)
    · exact bex_lt x n b h
theorem by_dig {x k : Nat} (hk : k < 32) : x / 2 ^ (32 * (7 - k / 4)) % 2 ^ 32 / 2 ^ (24 - 8 * (k % 4)) % 256 = x / 256 ^ (32 - 1 - k) % 256 := by
  have e : (256 : Nat) ^ (32 - 1 - k) = 2 ^ (32 * (7 - k / 4)) * 2 ^ (24 - 8 * (k % 4)) := by
    rw [show (256 : Nat) = 2 ^ 8 by rfl, ← Nat.pow_mul, ← Nat.pow_add]
    congr 1
    omega
  rw [e, ← Nat.div_div_eq_div_mul]
  generalize x / 2 ^ (32 * (7 - k / 4)) = z
  have hr : 24 - 8 * (k % 4) ≤ 24 := by omega
  generalize 24 - 8 * (k % 4) = r at *
  have e2 : (2 : Nat) ^ 32 = 2 ^ r * (256 * 2 ^ (24 - r)) := by
    rw [show (256 : Nat) * 2 ^ (24 - r) = 2 ^ (8 + (24 - r)) by rw [Nat.pow_add], ← Nat.pow_add, show r + (8 + (24 - r)) = 32 by omega]
  have e3 := Nat.div_add_mod z (2 ^ 32)
  generalize z / 2 ^ 32 = q at *
  generalize z % 2 ^ 32 = s at *
  rw [e2] at e3
  rw [← e3, show 2 ^ r * (256 * 2 ^ (24 - r)) * q + s = 2 ^ r * (256 * (2 ^ (24 - r) * q)) + s by rw [Nat.mul_assoc, Nat.mul_assoc], Nat.mul_add_div (Nat.two_pow_pos r), Nat.mul_add_mod]
theorem q4 : ∀ k, k < 32 → (nI k) / (4 : Int32) = nI (k / 4) := by decide +kernel
theorem r4 : ∀ k, k < 32 → (nI k) - (nI k) / (4 : Int32) * 4 = nI (k % 4) := by decide +kernel
theorem s7 : ∀ k, k < 32 → (7 : Int32) - nI (k / 4) = nI (7 - k / 4) := by decide +kernel
theorem m8 : ∀ k, k < 32 → (8 : Int32) * nI (k % 4) = nI (8 * (k % 4)) := by decide +kernel
theorem s24 : ∀ k, k < 32 → (24 : Int32) - nI (8 * (k % 4)) = nI (24 - 8 * (k % 4)) := by decide +kernel
theorem m4k : ∀ k, k < 8 → (4 : Int32) * nI k = nI (4 * k) := by decide +kernel
theorem an255 {n : Nat} (h : n < 2 ^ 64) : lN n &&& 255 = lN (n % 256) := wb_mask (k := 8) h (by decide)

set_option maxHeartbeats 4000000 in
set_option maxRecDepth 100000 in
theorem c_m_numberOf (l : Launch) (G : Nat → ClassId) (o : Nat) (a : Nat → Nat) (v : Nat → Int32) (n : Nat → Option Nat) (g : Nat → Nat → Int64) (w : Nat → Nat → Int32) (kt kb fr N : Nat) : jKv l yX12_numberOf wsX12_numberOf ({ frames := 0, cells := 0, slots := 0, locals := 0 }) G [.ref (a kt), .ref (a kb), .int (nI fr)] (fun L F => MW G L F o a v n g w ∧ l8 kt ∧ ik kb N ∧ fr + 32 ≤ N ∧ N < 2 ^ 30 ∧ bB (w kb) fr 32) (fun L F F1 => MW G L F1 o a v (uz n kt (some (bnum (bl (w kb) fr 32)))) g w ∧ mO o a F F1) := by
  refine jm_kv (cc := cX12_numberOf) (maxL := 7) (by decide) rfl (Nat.le_of_ble_eq_true rfl) ?_
  intro E L F hE hR hpre
  have hE : jOk E G _ cX12_numberOf 7 RX12 wsX12_numberOf := hE

  obtain ⟨⟨s, H0, hn, hg⟩, hkt, hkb, hN, hN2, hB⟩ := hpre
  have hlt : ∀ j, j < 8 → bnum (bl (w kb) (fr + (28 - 4 * j)) 4) < 2 ^ 32 := fun j hj => (hB.sub (a := 28 - 4 * j) (b := 4) (by omega)).num
  have hnum : dv (fun j => bnum (bl (w kb) (fr + (28 - 4 * j)) 4)) 8 = bnum (bl (w kb) fr 32) := by
    have h := tk_v (bs := bl (w kb) fr 32) (d := fun j => bnum (bl (w kb) (fr + (28 - 4 * j)) 4)) (st := 0) (by rw [bl_len]; decide) (fun j hj => by rw [show 0 + 28 - 4 * j = 28 - 4 * j by omega, bl_sub _ _ _ _ _ (by omega)]) 8 (Nat.le_refl 8)
    rw [show 0 + 32 - 4 * 8 = 0 by decide, show 4 * 8 = 32 by decide, List.drop_zero, List.take_of_length_le (by rw [bl_len]; decide)] at h
    exact h
  have loop : ∀ (r0 k : Nat) (F2 : Nat → va_E) (f : Nat → Int64), k + r0 = 8 → RW G L F2 o a v (uz s kt f) w → (∀ j, j < k → f j = lN (bnum (bl (w kb) (fr + (28 - 4 * j)) 4))) → mO o a F F2 → J E L F2 0 0 2 [(3, .int (nI k)), (0, .ref (a kt)), (1, .ref (a kb)), (2, .int (nI fr))] [] := by
    intro r0
    induction r0 with
    | zero =>
      intro k F2 f hk H hf O
      refine jr_iload_n hE dX12_numberOf_2 0 rfl ?_
      refine jr_bipush (v := (8 : Int32)) hE dX12_numberOf_3 (by decide) ?_
      refine jr_icmp_ge (tgt := 59) hE dX12_numberOf_5 (by decide) (fun c_5 => ?_) (fun c_5 => absurd (nI_le (a := 8) (by omega) (by omega)) c_5)
      exact hR F2 _ _ dX12_numberOf_59 ⟨⟨_, H, mw_set hn hg hkt (q := some (bnum (bl (w kb) fr 32))) (fun z e => by
        cases e
        exact ⟨fun j => bnum (bl (w kb) (fr + (28 - 4 * j)) 4), fun j hj => hf j (by omega), fun j hj => hlt j hj, hnum⟩)⟩, O⟩
    | succ r0 ih =>
      intro k F2 f hk H hf O
      have inner : ∀ (r1 i : Nat), i + r1 = 4 → J E L F2 0 0 14 [(6, .int (nI i)), (4, .long (lN (bnum (bl (w kb) (fr + (28 - 4 * k)) i)))), (3, .int (nI k)), (0, .ref (a kt)), (1, .ref (a kb)), (2, .int (nI fr))] [] := by
        intro r1
        induction r1 with
        | zero =>
          intro i hi
          refine jr_iload hE dX12_numberOf_14 0 rfl ?_
          refine jr_iconst (v := (4 : Int32)) hE dX12_numberOf_16 (by decide) ?_
          refine jr_icmp_ge (tgt := 48) hE dX12_numberOf_17 (by decide) (fun c_17 => ?_) (fun c_17 => absurd (nI_le (a := 4) (by omega) (by omega)) c_17)
          refine jr_aload_n hE dX12_numberOf_48 3 rfl ?_
          refine jr_iload_n hE dX12_numberOf_49 2 rfl ?_
          refine jr_lload hE dX12_numberOf_50 1 rfl ?_
          refine jr_last hE dX12_numberOf_52 (H.L (k := kt) (n := 8) hkt) (vp_in_nI (by omega) (by decide)) (fun F1 g2 u3 => ?_)
          have H4 := H.setL (k := kt) (n := 8) hkt g2 u3
          have O5 := O.st (k := kt) hkt.1 hkt.k u3
          rw [uz_uz, uz_s] at H4
          refine jr_iinc (v := nI (k + 1)) (lv' := [(3, .int (nI (k + 1))), (6, .int (nI i)), (4, .long (lN (bnum (bl (w kb) (fr + (28 - 4 * k)) i)))), (0, .ref (a kt)), (1, .ref (a kb)), (2, .int (nI fr))]) hE dX12_numberOf_53 2 rfl (nI_1 _) (by decide) rfl ?_
          refine jr_goto (tgt := 2) hE dX12_numberOf_56 (by decide) ?_
          refine jr_lv (lv' := [(3, .int (nI (k + 1))), (0, .ref (a kt)), (1, .ref (a kb)), (2, .int (nI fr))]) [0, 3, 4, 5] rfl ?_
          exact ih (k + 1) F1 _ (by omega) H4 (fun j hj => by
            by_cases e : j = k
            · rw [e, vL_s _ _ (by omega), show i = 4 by omega]
            · rw [vL_n _ _ (by omega) e]; exact hf j (by omega)) O5
        | succ r1 ihI =>
          intro i hi
          have hbb : bt (w kb) (fr + (28 - 4 * k) + i) < 256 := by rw [Nat.add_assoc]; exact hB (28 - 4 * k + i) (by omega)
          have hxx : bnum (bl (w kb) (fr + (28 - 4 * k)) i) < 2 ^ 56 := by
            have h1 := (hB.sub (a := 28 - 4 * k) (b := i) (by omega)).num
            have h2 : 256 ^ i ≤ 256 ^ 7 := Nat.pow_le_pow_right (by decide) (by omega)
            omega
          refine jr_iload hE dX12_numberOf_14 0 rfl ?_
          refine jr_iconst (v := (4 : Int32)) hE dX12_numberOf_16 (by decide) ?_
          refine jr_icmp_ge (tgt := 48) hE dX12_numberOf_17 (by decide) (fun c_17 => absurd c_17 (nI_ge (b := 4) (by omega) (by omega))) (fun c_17 => ?_)
          refine jr_lload hE dX12_numberOf_20 1 rfl ?_
          refine jr_bipush (v := (8 : Int32)) hE dX12_numberOf_22 (by decide) ?_
          refine jr_lshl hE dX12_numberOf_24 rfl ?_
          refine jr_topl (fun z1 ez1 => ?_)
          refine jr_aload_n hE dX12_numberOf_25 4 rfl ?_
          refine jr_iload_n hE dX12_numberOf_26 5 rfl ?_
          refine jr_bipush (v := (28 : Int32)) hE dX12_numberOf_27 (by decide) ?_
          refine jr_iadd (z := nI (fr + 28)) hE dX12_numberOf_29 (nI_add _ _) ?_
          refine jr_iconst (v := (4 : Int32)) hE dX12_numberOf_30 (by decide) ?_
          refine jr_iload_n hE dX12_numberOf_31 2 rfl ?_
          refine jr_imul (z := nI (4 * k)) hE dX12_numberOf_32 (m4k k (by omega)) ?_
          refine jr_isub (z := nI (fr + 28 - 4 * k)) hE dX12_numberOf_33 (pk_sub (by omega)) ?_
          refine jr_iload hE dX12_numberOf_34 0 rfl ?_
          refine jr_iadd (z := nI (fr + (28 - 4 * k) + i)) hE dX12_numberOf_36 (by rw [nI_add]; congr 1; omega) ?_
          refine jr_iald (v := nI (bt (w kb) (fr + (28 - 4 * k) + i))) hE dX12_numberOf_37 (H.I (k := kb) (n := N) hkb) (vp_in_nI (by omega) (by omega)) (by rw [nI_clamp (by omega)]; exact bt_nI _ _) ?_
          refine jr_i2l hE dX12_numberOf_38 rfl ?_
          refine jr_lor (z := lN (bnum (bl (w kb) (fr + (28 - 4 * k)) (i + 1)))) hE dX12_numberOf_39 (by rw [ez1, bl_s, bnum_snoc]; exact num_step hxx hbb) ?_
          refine jr_lstore (lv' := [(4, .long (lN (bnum (bl (w kb) (fr + (28 - 4 * k)) (i + 1))))), (6, .int (nI i)), (3, .int (nI k)), (0, .ref (a kt)), (1, .ref (a kb)), (2, .int (nI fr))]) hE dX12_numberOf_40 (by decide) rfl ?_
          refine jr_iinc (v := nI (i + 1)) (lv' := [(6, .int (nI (i + 1))), (4, .long (lN (bnum (bl (w kb) (fr + (28 - 4 * k)) (i + 1))))), (3, .int (nI k)), (0, .ref (a kt)), (1, .ref (a kb)), (2, .int (nI fr))]) hE dX12_numberOf_42 1 rfl (nI_1 _) (by decide) rfl ?_
          refine jr_goto (tgt := 14) hE dX12_numberOf_45 (by decide) ?_
          refine jr_lv (lv' := [(6, .int (nI (i + 1))), (4, .long (lN (bnum (bl (w kb) (fr + (28 - 4 * k)) (i + 1))))), (3, .int (nI k)), (0, .ref (a kt)), (1, .ref (a kb)), (2, .int (nI fr))]) [0, 1, 2, 3, 4, 5] rfl ?_
          exact ihI (i + 1) (by omega)
      refine jr_iload_n hE dX12_numberOf_2 0 rfl ?_
      refine jr_bipush (v := (8 : Int32)) hE dX12_numberOf_3 (by decide) ?_
      refine jr_icmp_ge (tgt := 59) hE dX12_numberOf_5 (by decide) (fun c_5 => absurd c_5 (nI_ge (b := 8) (by omega) (by omega))) (fun c_5 => ?_)
      refine jr_lconst (v := (0 : Int64)) hE dX12_numberOf_8 (by decide) ?_
      refine jr_lstore (lv' := [(4, .long (0 : Int64)), (3, .int (nI k)), (0, .ref (a kt)), (1, .ref (a kb)), (2, .int (nI fr))]) hE dX12_numberOf_9 (by decide) rfl ?_
      refine jr_iconst (v := (0 : Int32)) hE dX12_numberOf_11 (by decide) ?_
      refine jr_istore (lv' := [(6, .int (0 : Int32)), (4, .long (0 : Int64)), (3, .int (nI k)), (0, .ref (a kt)), (1, .ref (a kb)), (2, .int (nI fr))]) hE dX12_numberOf_12 (by decide) rfl ?_
      refine jr_lv (lv' := [(6, .int (0 : Int32)), (4, .long (0 : Int64)), (3, .int (nI k)), (0, .ref (a kt)), (1, .ref (a kb)), (2, .int (nI fr))]) [0, 1, 2, 3, 4, 5] rfl ?_
      exact inner 4 0 rfl
  refine jr_iconst (v := (0 : Int32)) hE dX12_numberOf_0 (by decide) ?_
  refine jr_istore_n (lv' := [(3, .int (0 : Int32)), (0, .ref (a kt)), (1, .ref (a kb)), (2, .int (nI fr))]) hE dX12_numberOf_1 (by decide) rfl ?_
  refine jr_lv (lv' := [(3, .int (0 : Int32)), (0, .ref (a kt)), (1, .ref (a kb)), (2, .int (nI fr))]) [0, 1, 2, 3] rfl ?_
  exact loop 8 0 F (s kt) rfl (by rw [uz_id]; exact H0) (fun j hj => absurd hj (Nat.not_lt_zero j)) (mO.rf o a F)

theorem bex_take {x k : Nat} (h : k < 32) : (bex x 32).take k ++ [(bex x 32).getD k 0] = (bex x 32).take (k + 1) := by
  rw [List.take_succ, List.getD_eq_getElem?_getD, List.getElem?_eq_getElem (by rw [bex_len]; exact h)]
  rfl

set_option maxHeartbeats 4000000 in
set_option maxRecDepth 100000 in
theorem c_m_bytesOf (l : Launch) (G : Nat → ClassId) (o : Nat) (a : Nat → Nat) (v : Nat → Int32) (n : Nat → Option Nat) (g : Nat → Nat → Int64) (w : Nat → Nat → Int32) (kb fr kv N x : Nat) : jKv l yX12_bytesOf wsX12_bytesOf ({ frames := 0, cells := 0, slots := 0, locals := 0 }) G [.ref (a kb), .int (nI fr), .ref (a kv)] (fun L F => MW G L F o a v n g w ∧ ik kb N ∧ l8 kv ∧ fr + 32 ≤ N ∧ N < 2 ^ 30 ∧ n kv = some x) (fun L F F1 => MW G L F1 o a v n g (uz w kb (wrt (w kb) fr (bex x 32))) ∧ mO o a F F1) := by
  refine jm_kv (cc := cX12_bytesOf) (maxL := 4) (by decide) rfl (Nat.le_of_ble_eq_true rfl) ?_
  intro E L F hE hR hpre
  have hE : jOk E G _ cX12_bytesOf 4 RX12 wsX12_bytesOf := hE

  obtain ⟨⟨s, H0, hn, hg⟩, hkb, hkv, hN, hN2, hx⟩ := hpre
  have hd := (hn kv x hx).dig
  have loop : ∀ (r0 k : Nat) (F2 : Nat → va_E) (f : Nat → Int32), k + r0 = 32 → RW G L F2 o a v s (uz w kb f) → f = wrt (w kb) fr ((bex x 32).take k) → mO o a F F2 → J E L F2 0 0 2 [(3, .int (nI k)), (0, .ref (a kb)), (1, .int (nI fr)), (2, .ref (a kv))] [] := by
    intro r0
    induction r0 with
    | zero =>
      intro k F2 f hk H hf O
      refine jr_iload_n hE dX12_bytesOf_2 0 rfl ?_
      refine jr_bipush (v := (32 : Int32)) hE dX12_bytesOf_3 (by decide) ?_
      refine jr_icmp_ge (tgt := 42) hE dX12_bytesOf_5 (by decide) (fun c_5 => ?_) (fun c_5 => absurd (nI_le (a := 32) (by omega) (by omega)) c_5)
      rw [List.take_of_length_le (by rw [bex_len]; omega)] at hf
      rw [hf] at H
      exact hR F2 _ _ dX12_bytesOf_42 ⟨⟨s, H, hn, hg⟩, O⟩
    | succ r0 ih =>
      intro k F2 f hk H hf O
      refine jr_iload_n hE dX12_bytesOf_2 0 rfl ?_
      refine jr_bipush (v := (32 : Int32)) hE dX12_bytesOf_3 (by decide) ?_
      refine jr_icmp_ge (tgt := 42) hE dX12_bytesOf_5 (by decide) (fun c_5 => absurd c_5 (nI_ge (b := 32) (by omega) (by omega))) (fun c_5 => ?_)
      refine jr_aload_n hE dX12_bytesOf_8 1 rfl ?_
      refine jr_iload_n hE dX12_bytesOf_9 2 rfl ?_
      refine jr_iload_n hE dX12_bytesOf_10 0 rfl ?_
      refine jr_iadd (z := nI (fr + k)) hE dX12_bytesOf_11 (nI_add _ _) ?_
      refine jr_aload_n hE dX12_bytesOf_12 3 rfl ?_
      refine jr_bipush (v := (7 : Int32)) hE dX12_bytesOf_13 (by decide) ?_
      refine jr_iload_n hE dX12_bytesOf_15 0 rfl ?_
      refine jr_iconst (v := (4 : Int32)) hE dX12_bytesOf_16 (by decide) ?_
      refine jr_idiv (z := nI (k / 4)) hE dX12_bytesOf_17 (by decide) (q4 k (by omega)) ?_
      refine jr_isub (z := nI (7 - k / 4)) hE dX12_bytesOf_18 (s7 k (by omega)) ?_
      refine jr_lald (v := lN (x / 2 ^ (32 * (7 - k / 4)) % 2 ^ 32)) hE dX12_bytesOf_19 (H.L (k := kv) (n := 8) hkv) (vp_in_nI (n := 7 - k / 4) (by omega) (by decide)) (by rw [nI_clamp (by omega)]; exact hd (7 - k / 4) (by omega)) ?_
      refine jr_bipush (v := (24 : Int32)) hE dX12_bytesOf_20 (by decide) ?_
      refine jr_bipush (v := (8 : Int32)) hE dX12_bytesOf_22 (by decide) ?_
      refine jr_iload_n hE dX12_bytesOf_24 0 rfl ?_
      refine jr_iconst (v := (4 : Int32)) hE dX12_bytesOf_25 (by decide) ?_
      refine jr_irem (z := nI (k % 4)) hE dX12_bytesOf_26 (by decide) (r4 k (by omega)) ?_
      refine jr_imul (z := nI (8 * (k % 4))) hE dX12_bytesOf_27 (m8 k (by omega)) ?_
      refine jr_isub (z := nI (24 - 8 * (k % 4))) hE dX12_bytesOf_28 (s24 k (by omega)) ?_
      refine jr_lshr (z := lN ((x / 2 ^ (32 * (7 - k / 4)) % 2 ^ 32) / 2 ^ (24 - 8 * (k % 4)))) hE dX12_bytesOf_29 (wb_sar (Nat.lt_trans (Nat.mod_lt _ (Nat.two_pow_pos 32)) (by decide)) (by omega)) ?_
      refine jr_ldc2 (v := (255 : Int64)) hE dX12_bytesOf_30 (by decide +kernel) ?_
      refine jr_land (z := lN ((bex x 32).getD k 0)) hE dX12_bytesOf_33 (by rw [an255 (Nat.lt_of_le_of_lt (Nat.div_le_self _ _) (Nat.lt_trans (Nat.mod_lt _ (Nat.two_pow_pos 32)) (by decide))), by_dig (by omega), bex_get _ _ _ (by omega)]) ?_
      refine jr_l2i (z := nI ((bex x 32).getD k 0)) hE dX12_bytesOf_34 (lN_i _) ?_
      refine jr_iast hE dX12_bytesOf_35 (H.I (k := kb) (n := N) hkb) (vp_in_nI (by omega) (by omega)) (fun F1 g2 u3 => ?_)
      have H4 := H.setI (k := kb) (n := N) hkb g2 u3
      have O5 := O.st (k := kb) hkb.1 hkb.k u3
      rw [uz_uz, uz_s] at H4
      refine jr_iinc (v := nI (k + 1)) (lv' := [(3, .int (nI (k + 1))), (0, .ref (a kb)), (1, .int (nI fr)), (2, .ref (a kv))]) hE dX12_bytesOf_36 0 rfl (nI_1 _) (by decide) rfl ?_
      refine jr_goto (tgt := 2) hE dX12_bytesOf_39 (by decide) ?_
      refine jr_lv (lv' := [(3, .int (nI (k + 1))), (0, .ref (a kb)), (1, .int (nI fr)), (2, .ref (a kv))]) [0, 1, 2, 3] rfl ?_
      exact ih (k + 1) F1 _ (by omega) H4 (by rw [wrt_snoc hf (by rw [List.length_take, bex_len]; omega) rfl (by omega), bex_take (by omega)]) O5
  refine jr_iconst (v := (0 : Int32)) hE dX12_bytesOf_0 (by decide) ?_
  refine jr_istore_n (lv' := [(3, .int (0 : Int32)), (0, .ref (a kb)), (1, .int (nI fr)), (2, .ref (a kv))]) hE dX12_bytesOf_1 (by decide) rfl ?_
  refine jr_lv (lv' := [(3, .int (0 : Int32)), (0, .ref (a kb)), (1, .int (nI fr)), (2, .ref (a kv))]) [0, 1, 2, 3] rfl ?_
  exact loop 32 0 F (w kb) rfl (by rw [uz_id]; exact H0) (by rw [List.take_zero, wrt_nil]) (mO.rf o a F)

