/-! SHA-256: bytes taken -/
abbrev SS : Type := (Nat → Int32) × (Nat → Int32) × Nat
def tkG (g : Nat → Int32) (n b : Nat) : Nat → Int32 := upd g (n / 4 % 16) (ls (g (n / 4 % 16)) 8 ||| nI b)
def tkB (s : SS) (b : Nat) : SS := if (s.2.2 + 1) % 64 = 0 then (shB s.1 (tkG s.2.1 s.2.2 b), wxt (tkG s.2.1 s.2.2 b) 48, s.2.2 + 1) else (s.1, tkG s.2.1 s.2.2 b, s.2.2 + 1)
def tkA (s : SS) (bs : List Nat) : SS := bs.foldl tkB s
theorem tkB_n (s : SS) (b : Nat) : (tkB s b).2.2 = s.2.2 + 1 := by
  unfold tkB
  split <;> rfl
theorem tkA_n (bs : List Nat) : ∀ s : SS, (tkA s bs).2.2 = s.2.2 + bs.length := by
  unfold tkA
  induction bs with
  | nil => intro s; rfl
  | cons b bs ih => intro s; rw [List.foldl_cons, ih, tkB_n, List.length_cons]; omega
theorem tkA_snoc (s : SS) (bs : List Nat) (b : Nat) : tkB (tkA s bs) b = tkA s (bs ++ [b]) := by simp [tkA]
theorem tkA_app (s : SS) (bs cs : List Nat) : tkA (tkA s bs) cs = tkA s (bs ++ cs) := by simp [tkA]
abbrev jSs (G : Nat → ClassId) (L : List Nat) (F : Nat → va_E) (sh st wd td : Nat) (s : SS) : Prop := jSh G L F sh st wd td s.1 s.2.1 s.2.2
theorem and255 (v : Int32) : v &&& 255 = nI (bv v) := pk_and v 8 (by decide)

theorem tkB_f {s : SS} {b : Nat} (h : ¬ (s.2.2 + 1) % 64 = 0) : tkB s b = (s.1, tkG s.2.1 s.2.2 b, s.2.2 + 1) := if_neg h
theorem tkB_t {s : SS} {b : Nat} (h : (s.2.2 + 1) % 64 = 0) : tkB s b = (shB s.1 (tkG s.2.1 s.2.2 b), wxt (tkG s.2.1 s.2.2 b) 48, s.2.2 + 1) := if_pos h

set_option maxHeartbeats 4000000 in
set_option maxRecDepth 100000 in
theorem c_X9_take (l : Launch) (G : Nat → ClassId) (sh st wd td : Nat) (s : SS) (v : Int32) : jKv l yX9_take wsX9_take ({ frames := 1, cells := 0, slots := 0, locals := 33 }) G [.ref sh, .int v] (fun L F => jSs G L F sh st wd td s ∧ s.2.2 < 1000000 ∧ [sh, st, wd].Nodup) (fun L F F1 => jSs G L F1 sh st wd td (tkB s (bv v)) ∧ ∀ z, z ∉ [sh, st, wd] → F1 z = F z) := by
  refine jm_kv (cc := cX9_take) (maxL := 3) (by decide) rfl (Nat.le_of_ble_eq_true rfl) ?_
  intro E L F hE hR hpre
  have hE : jOk E G _ cX9_take 3 RX9 wsX9_take := hE
  obtain ⟨⟨h0, h1, h2⟩, hn, hnd⟩ := hpre
  have f25 : jFl RX9 wsX9_take 25 9 3 := ⟨rfl, by decide, by decide +kernel, by decide +kernel⟩
  have f13 : jFl RX9 wsX9_take 13 9 1 := ⟨rfl, by decide, by decide +kernel, by decide +kernel⟩
  refine jr_aload_n hE dX9_take_0 0 rfl ?_
  refine jr_get hE dX9_take_1 f25 h0 rfl ?_
  refine jr_iconst (v := (2 : Int32)) hE dX9_take_4 (by decide) ?_
  refine jr_lushr (z := lN (s.2.2 / 4)) hE dX9_take_5 (wb_shr (n := s.2.2) (k := 2) (by omega) (by decide)) ?_
  refine jr_l2i (z := nI (s.2.2 / 4)) hE dX9_take_6 (lN_i _) ?_
  refine jr_bipush (v := (15 : Int32)) hE dX9_take_7 (by decide) ?_
  refine jr_iand (z := nI (s.2.2 / 4 % 16)) hE dX9_take_9 (pk_andN (m := 15) (by omega) 4 (by decide)) ?_
  refine jr_istore_n (lv' := [(2, .int (nI (s.2.2 / 4 % 16))), (0, .ref sh), (1, .int v)]) hE dX9_take_10 (by decide) rfl ?_
  refine jr_aload_n hE dX9_take_11 1 rfl ?_
  refine jr_get hE dX9_take_12 f13 h0 rfl ?_
  refine jr_iload_n hE dX9_take_15 0 rfl ?_
  refine jr_aload_n hE dX9_take_16 1 rfl ?_
  refine jr_get hE dX9_take_17 f13 h0 rfl ?_
  refine jr_iload_n hE dX9_take_20 0 rfl ?_
  refine jr_iald (v := s.2.1 (s.2.2 / 4 % 16)) hE dX9_take_21 h2 (vp_in_nI (by omega) (by decide)) (by rw [nI_clamp (by omega)]) ?_
  refine jr_bipush (v := (8 : Int32)) hE dX9_take_22 (by decide) ?_
  refine jr_ishl (z := ls (s.2.1 (s.2.2 / 4 % 16)) (8 : Int32)) hE dX9_take_24 rfl ?_
  refine jr_iload_n hE dX9_take_25 2 rfl ?_
  refine jr_sipush (v := (255 : Int32)) hE dX9_take_26 (by decide) ?_
  refine jr_iand (z := nI (bv v)) hE dX9_take_29 (and255 v) ?_
  refine jr_ior hE dX9_take_30 rfl ?_
  refine jr_iast hE dX9_take_31 h2 (vp_in_nI (by omega) (by decide)) (fun F1 g2 u3 => ?_)
  have g4 : jF L F1 wd (.inl (G 1, 64, .inl (tkG s.2.1 s.2.2 (bv v)))) := by rw [nI_clamp (by omega)] at g2; exact g2
  have g5 := h0.upk u3 h2 (Nat.ne_of_beq_eq_false rfl)
  have g6 := h1.up u3 (jn2 hnd 1 2 rfl rfl (by decide))
  refine jr_aload_n hE dX9_take_32 1 rfl ?_
  refine jr_dup hE dX9_take_33 rfl ?_
  refine jr_get hE dX9_take_34 f25 g5 rfl ?_
  refine jr_lconst (v := (1 : Int64)) hE dX9_take_37 (by decide) ?_
  refine jr_ladd (z := lN (s.2.2 + 1)) hE dX9_take_38 (lN_add _ 1) ?_
  refine jr_put (ty := .long) hE dX9_take_39 f25 g5 rfl (by decide +kernel) rfl rfl (Nat.le_of_ble_eq_true rfl) (fun F7 g8 u9 => ?_)
  have g8 : jF L F7 sh (.inr (9, [.ref st, .ref wd, .ref td, .long (lN (s.2.2 + 1))])) := g8
  have g10 := g6.upk u9 g5 (Nat.ne_of_beq_eq_false rfl)
  have g11 := g4.upk u9 g5 (Nat.ne_of_beq_eq_false rfl)
  refine jr_aload_n hE dX9_take_42 1 rfl ?_
  refine jr_get hE dX9_take_43 f25 g8 rfl ?_
  refine jr_ldc2 (v := (63 : Int64)) hE dX9_take_46 (by decide +kernel) ?_
  refine jr_land (z := lN ((s.2.2 + 1) % 64)) hE dX9_take_49 (wb_mask (n := s.2.2 + 1) (k := 6) (by omega) (by decide)) ?_
  refine jr_lconst (v := (0 : Int64)) hE dX9_take_50 (by decide) ?_
  refine jr_lcmp hE dX9_take_51 ?_
  refine jr_if_ne (tgt := 59) hE dX9_take_52 (by decide) (fun c52 => ?_) (fun c52 => ?_)
  · exact hR F7 _ _ dX9_take_59 ⟨by rw [tkB_f (fun e => c52 ((cmp0 (b := 0) (by omega) (by decide)).mpr e))]; exact ⟨g8, g10, g11⟩, fun z hz => (u9 z (jne hz 0 rfl)).trans (u3 z (jne hz 2 rfl))⟩
  · refine jr_aload_n hE dX9_take_55 1 rfl ?_
    refine jr_kVv (ci := 9) (n := 0) (As := []) (rest := []) hE dX9_take_56 (fun l => c_X9_stir l G sh st wd td (s.2.2 + 1) s.1 (tkG s.2.1 s.2.2 (bv v))) gX9_take_X9_stir rfl g8 rfl (by decide +kernel) ⟨rfl, rfl, by decide, by decide⟩ (by decide) rfl rfl (Nat.le_of_ble_eq_true rfl) (⟨⟨g8, g10, g11⟩, hnd⟩) (fun F12 q13 => ?_)
    obtain ⟨hS, r1⟩ := q13
    exact hR F12 _ _ dX9_take_59 ⟨by rw [tkB_t ((cmp0 (b := 0) (by omega) (by decide)).mp c52)]; exact hS, fun z hz => (r1 z (jnsub (V := [st, wd]) hz [1, 2] rfl)).trans ((fun z hz => (u9 z (jne hz 0 rfl)).trans (u3 z (jne hz 2 rfl))) z hz)⟩

set_option maxHeartbeats 4000000 in
set_option maxRecDepth 100000 in
theorem c_X9_takePart (l : Launch) (G : Nat → ClassId) (sh st wd td ob hb cap s0 n : Nat) (s : SS) (bs : List Nat) : jKv l yX9_takePart wsX9_takePart ({ frames := 2, cells := 0, slots := 0, locals := 55 }) G [.ref sh, .ref ob, .int (nI s0), .int (nI n)] (fun L F => jSs G L F sh st wd td s ∧ jBy G L F ob hb cap bs ∧ s.2.2 < 900000 ∧ s0 + n ≤ bs.length ∧ [sh, st, wd, ob, hb].Nodup) (fun L F F1 => jSs G L F1 sh st wd td (tkA s ((bs.drop s0).take n)) ∧ ∀ z, z ∉ [sh, st, wd] → F1 z = F z) := by
  refine jm_kv (cc := cX9_takePart) (maxL := 5) (by decide) rfl (Nat.le_of_ble_eq_true rfl) ?_
  intro E L F hE hR hpre
  have hE : jOk E G _ cX9_takePart 5 RX9 wsX9_takePart := hE

  obtain ⟨hS, hB, hn, hlen, hnd⟩ := hpre
  have hcp := hB.cap
  have loop : ∀ (r0 i : Nat) (F2 : Nat → va_E), i + r0 = n → jSs G L F2 sh st wd td (tkA s ((bs.drop s0).take i)) → jBy G L F2 ob hb cap bs → (∀ z, z ∉ [sh, st, wd] → F2 z = F z) → J E L F2 0 0 3 [(4, .int (nI i)), (0, .ref sh), (1, .ref ob), (2, .int (nI s0)), (3, .int (nI n))] [] := by
    intro r0
    induction r0 with
    | zero =>
      intro i F2 hi hS hB hfr
      refine jr_iload hE dX9_takePart_3 0 rfl ?_
      refine jr_iload_n hE dX9_takePart_5 4 rfl ?_
      refine jr_icmp_ge (tgt := 27) hE dX9_takePart_6 (by decide) (fun c_6 => ?_) (fun c_6 => absurd (nI_le (by omega) (by omega)) c_6)
      exact hR F2 _ _ dX9_takePart_27 ⟨by rw [show n = i by omega]; exact hS, hfr⟩
    | succ r0 ih =>
      intro i F2 hi hS hB hfr
      refine jr_iload hE dX9_takePart_3 0 rfl ?_
      refine jr_iload_n hE dX9_takePart_5 4 rfl ?_
      refine jr_icmp_ge (tgt := 27) hE dX9_takePart_6 (by decide) (fun c_6 => absurd c_6 (nI_ge (by omega) (by omega))) (fun c_6 => ?_)
      refine jr_aload_n hE dX9_takePart_9 1 rfl ?_
      refine jr_aload_n hE dX9_takePart_10 2 rfl ?_
      refine jr_iload_n hE dX9_takePart_11 3 rfl ?_
      refine jr_iload hE dX9_takePart_12 0 rfl ?_
      refine jr_iadd (z := nI (s0 + i)) hE dX9_takePart_14 (nI_add _ _) ?_
      refine jr_kVi (ci := 0) (n := 1) (As := [.int (nI (s0 + i))]) (rest := [.ref sh]) hE dX9_takePart_15 (fun l => c_X0_get l G ob hb cap (s0 + i) bs) gX9_takePart_X0_get rfl hB.ob rfl (by decide +kernel) ⟨rfl, rfl, by decide, by decide⟩ (by decide) rfl rfl (Nat.le_of_ble_eq_true rfl) (⟨hB, by omega⟩) (fun r3 F1 q2 => ?_)
      obtain ⟨e, hr0⟩ := q2
      subst e
      subst hr0
      have hc := hB.lt (show s0 + i < bs.length by omega)
      refine jr_kVv (ci := 9) (n := 1) (As := [.int (nI (bs.getD (s0 + i) 0))]) (rest := []) hE dX9_takePart_18 (fun l => c_X9_take l G sh st wd td _ _) gX9_takePart_X9_take rfl hS.1 rfl (by decide +kernel) ⟨rfl, rfl, by decide, by decide⟩ (by decide) rfl rfl (Nat.le_of_ble_eq_true rfl) (⟨hS, by rw [tkA_n]; simp only [List.length_take, List.length_drop]; omega, jnd hnd [0, 1, 2] rfl (by decide)⟩) (fun F4 q5 => ?_)
      obtain ⟨hS1, r1⟩ := q5
      refine jr_iinc (v := nI (i + 1)) (lv' := [(4, .int (nI (i + 1))), (0, .ref sh), (1, .ref ob), (2, .int (nI s0)), (3, .int (nI n))]) hE dX9_takePart_21 0 rfl (nI_1 _) (by decide) rfl ?_
      refine jr_goto (tgt := 3) hE dX9_takePart_24 (by decide) ?_
      exact ih (i + 1) F4 (by omega) (by rw [bv_nI hc, tkA_snoc, take_succ_getD (by omega)] at hS1; exact hS1) (hB.fr (r1 ob (jn hnd 3 [0, 1, 2] rfl rfl (by decide))) (r1 hb (jn hnd 4 [0, 1, 2] rfl rfl (by decide)))) (fun z hz => (r1 z hz).trans (hfr z hz))
  refine jr_iconst (v := (0 : Int32)) hE dX9_takePart_0 (by decide) ?_
  refine jr_istore (lv' := [(4, .int (0 : Int32)), (0, .ref sh), (1, .ref ob), (2, .int (nI s0)), (3, .int (nI n))]) hE dX9_takePart_1 (by decide) rfl ?_
  exact loop n 0 F (by omega) (by simpa [tkA] using hS) hB (fun _ _ => rfl)

set_option maxHeartbeats 4000000 in
set_option maxRecDepth 100000 in
theorem c_X9_takeAll (l : Launch) (G : Nat → ClassId) (sh st wd td ob hb cap : Nat) (s : SS) (bs : List Nat) : jKv l yX9_takeAll wsX9_takeAll ({ frames := 2, cells := 0, slots := 0, locals := 55 }) G [.ref sh, .ref ob] (fun L F => jSs G L F sh st wd td s ∧ jBy G L F ob hb cap bs ∧ s.2.2 < 900000 ∧ [sh, st, wd, ob, hb].Nodup) (fun L F F1 => jSs G L F1 sh st wd td (tkA s bs) ∧ ∀ z, z ∉ [sh, st, wd] → F1 z = F z) := by
  refine jm_kv (cc := cX9_takeAll) (maxL := 3) (by decide) rfl (Nat.le_of_ble_eq_true rfl) ?_
  intro E L F hE hR hpre
  have hE : jOk E G _ cX9_takeAll 3 RX9 wsX9_takeAll := hE

  have f86 : jFl RX9 wsX9_takeAll 86 0 1 := ⟨rfl, by decide, by decide +kernel, by decide +kernel⟩
  obtain ⟨hS, hB, hn, hnd⟩ := hpre
  have hcp := hB.cap
  have loop : ∀ (r0 i : Nat) (F2 : Nat → va_E), i + r0 = bs.length → jSs G L F2 sh st wd td (tkA s (bs.take i)) → jBy G L F2 ob hb cap bs → (∀ z, z ∉ [sh, st, wd] → F2 z = F z) → J E L F2 0 0 2 [(2, .int (nI i)), (0, .ref sh), (1, .ref ob)] [] := by
    intro r0
    induction r0 with
    | zero =>
      intro i F2 hi hS hB hfr
      refine jr_iload_n hE dX9_takeAll_2 0 rfl ?_
      refine jr_aload_n hE dX9_takeAll_3 2 rfl ?_
      refine jr_get hE dX9_takeAll_4 f86 hB.ob rfl ?_
      refine jr_icmp_ge (tgt := 25) hE dX9_takeAll_7 (by decide) (fun c_7 => ?_) (fun c_7 => absurd (nI_le (by omega) (by omega)) c_7)
      exact hR F2 _ _ dX9_takeAll_25 ⟨by rw [show i = bs.length by omega, List.take_length] at hS; exact hS, hfr⟩
    | succ r0 ih =>
      intro i F2 hi hS hB hfr
      refine jr_iload_n hE dX9_takeAll_2 0 rfl ?_
      refine jr_aload_n hE dX9_takeAll_3 2 rfl ?_
      refine jr_get hE dX9_takeAll_4 f86 hB.ob rfl ?_
      refine jr_icmp_ge (tgt := 25) hE dX9_takeAll_7 (by decide) (fun c_7 => absurd c_7 (nI_ge (by omega) (by omega))) (fun c_7 => ?_)
      refine jr_aload_n hE dX9_takeAll_10 1 rfl ?_
      refine jr_aload_n hE dX9_takeAll_11 2 rfl ?_
      refine jr_iload_n hE dX9_takeAll_12 0 rfl ?_
      refine jr_kVi (ci := 0) (n := 1) (As := [.int (nI i)]) (rest := [.ref sh]) hE dX9_takeAll_13 (fun l => c_X0_get l G ob hb cap (i) bs) gX9_takeAll_X0_get rfl hB.ob rfl (by decide +kernel) ⟨rfl, rfl, by decide, by decide⟩ (by decide) rfl rfl (Nat.le_of_ble_eq_true rfl) (⟨hB, by omega⟩) (fun r3 F1 q2 => ?_)
      obtain ⟨e, hr0⟩ := q2
      subst e
      subst hr0
      have hc := hB.lt (show i < bs.length by omega)
      refine jr_kVv (ci := 9) (n := 1) (As := [.int (nI (bs.getD (i) 0))]) (rest := []) hE dX9_takeAll_16 (fun l => c_X9_take l G sh st wd td _ _) gX9_takeAll_X9_take rfl hS.1 rfl (by decide +kernel) ⟨rfl, rfl, by decide, by decide⟩ (by decide) rfl rfl (Nat.le_of_ble_eq_true rfl) (⟨hS, by rw [tkA_n]; simp only [List.length_take]; omega, jnd hnd [0, 1, 2] rfl (by decide)⟩) (fun F4 q5 => ?_)
      obtain ⟨hS1, r1⟩ := q5
      refine jr_iinc (v := nI (i + 1)) (lv' := [(2, .int (nI (i + 1))), (0, .ref sh), (1, .ref ob)]) hE dX9_takeAll_19 0 rfl (nI_1 _) (by decide) rfl ?_
      refine jr_goto (tgt := 2) hE dX9_takeAll_22 (by decide) ?_
      exact ih (i + 1) F4 (by omega) (by have hh := take_succ_getD (cs := bs) (st := 0) (i := i) (by omega); rw [List.drop_zero, Nat.zero_add] at hh; rw [bv_nI hc, tkA_snoc, hh] at hS1; exact hS1) (hB.fr (r1 ob (jn hnd 3 [0, 1, 2] rfl rfl (by decide))) (r1 hb (jn hnd 4 [0, 1, 2] rfl rfl (by decide)))) (fun z hz => (r1 z hz).trans (hfr z hz))
  refine jr_iconst (v := (0 : Int32)) hE dX9_takeAll_0 (by decide) ?_
  refine jr_istore_n (lv' := [(2, .int (0 : Int32)), (0, .ref sh), (1, .ref ob)]) hE dX9_takeAll_1 (by decide) rfl ?_
  exact loop bs.length 0 F (by omega) (by simpa [tkA] using hS) hB (fun _ _ => rfl)

