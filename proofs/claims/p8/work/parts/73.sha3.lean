set_option maxHeartbeats 4000000 in
set_option maxRecDepth 100000 in
theorem c_X9_takeNumber (l : Launch) (G : Nat → ClassId) (sh st wd td : Nat) (s : SS) (v : Int64) : jKv l yX9_takeNumber wsX9_takeNumber ({ frames := 2, cells := 0, slots := 0, locals := 55 }) G [.ref sh, .long v] (fun L F => jSs G L F sh st wd td s ∧ s.2.2 < 900000 ∧ [sh, st, wd].Nodup) (fun L F F1 => jSs G L F1 sh st wd td (tkA s (nb v 8)) ∧ ∀ z, z ∉ [sh, st, wd] → F1 z = F z) := by
  refine jm_kv (cc := cX9_takeNumber) (maxL := 4) (by decide) rfl (Nat.le_of_ble_eq_true rfl) ?_
  intro E L F hE hR hpre
  have hE : jOk E G _ cX9_takeNumber 4 RX9 wsX9_takeNumber := hE

  obtain ⟨hS, hn, hnd⟩ := hpre
  have loop : ∀ (k : Nat) (F2 : Nat → va_E) (s1 : SS), k ≤ 8 → jSs G L F2 sh st wd td s1 → s1.2.2 + k < 950000 → tkA s1 (nb v k) = tkA s (nb v 8) → (∀ z, z ∉ [sh, st, wd] → F2 z = F z) → J E L F2 0 0 3 [(3, .int (nI k - 1)), (0, .ref sh), (1, .long v)] [] := by
    intro k
    induction k with
    | zero =>
      intro F2 s1 hk hS hn he hfr
      refine jr_iload_n hE dX9_takeNumber_3 0 rfl ?_
      refine jr_if_lt (tgt := 24) hE dX9_takeNumber_4 (by decide) (fun c_4 => ?_) (fun c_4 => absurd (by decide) c_4)
      exact hR F2 _ _ dX9_takeNumber_24 ⟨by rw [← he]; simpa [nb, tkA] using hS, hfr⟩
    | succ k ih =>
      intro F2 s1 hk hS hn he hfr
      rw [nI_pred]
      refine jr_iload_n hE dX9_takeNumber_3 0 rfl ?_
      refine jr_if_lt (tgt := 24) hE dX9_takeNumber_4 (by decide) (fun c_4 => absurd c_4 (nI_pos (by omega))) (fun c_4 => ?_)
      refine jr_aload_n hE dX9_takeNumber_7 1 rfl ?_
      refine jr_lload_n hE dX9_takeNumber_8 2 rfl ?_
      refine jr_bipush (v := (8 : Int32)) hE dX9_takeNumber_9 (by decide) ?_
      refine jr_iload_n hE dX9_takeNumber_11 0 rfl ?_
      refine jr_imul (z := nI (8 * k)) hE dX9_takeNumber_12 (pk_mul 8 k) ?_
      refine jr_lushr hE dX9_takeNumber_13 rfl ?_
      refine jr_topl (fun z1 ez1 => ?_)
      refine jr_l2i hE dX9_takeNumber_14 rfl ?_
      refine jr_kVv (ci := 9) (n := 1) (As := [.int z1.toInt32]) (rest := []) hE dX9_takeNumber_15 (fun l => c_X9_take l G sh st wd td _ _) gX9_takeNumber_X9_take rfl hS.1 rfl (by decide +kernel) ⟨rfl, rfl, by decide, by decide⟩ (by decide) rfl rfl (Nat.le_of_ble_eq_true rfl) (⟨hS, by omega, jnd hnd [0, 1, 2] rfl (by decide)⟩) (fun F2 q3 => ?_)
      obtain ⟨hS1, r1⟩ := q3
      refine jr_iinc (v := nI k - 1) (lv' := [(3, .int (nI k - 1)), (0, .ref sh), (1, .long v)]) hE dX9_takeNumber_18 0 rfl (im1 _) (by decide) rfl ?_
      refine jr_goto (tgt := 3) hE dX9_takeNumber_21 (by decide) ?_
      exact ih F2 _ (by omega) hS1 (by rw [tkB_n]; omega) (by rw [bv_byt (by omega) ez1, ← he, nb]; rfl) (fun z hz => (r1 z hz).trans (hfr z hz))
  refine jr_bipush (v := (7 : Int32)) hE dX9_takeNumber_0 (by decide) ?_
  refine jr_istore_n (lv' := [(3, .int (7 : Int32)), (0, .ref sh), (1, .long v)]) hE dX9_takeNumber_2 (by decide) rfl ?_
  exact loop 8 F s (by decide) hS (by omega) rfl (fun _ _ => rfl)

def bgf (f : Nat → Int32) : Nat → Nat → Int32
  | 0 => f
  | n + 1 => upd (bgf f n) n (jSTART.getD n 0)

set_option maxHeartbeats 4000000 in
set_option maxRecDepth 100000 in
theorem c_X9_begin (l : Launch) (G : Nat → ClassId) (sh st wd td : Nat) (s : SS) : jKv l yX9_begin wsX9_begin ({ frames := 0, cells := 0, slots := 0, locals := 0 }) G [.ref sh] (fun L F => jSs G L F sh st wd td s ∧ [sh, st, wd].Nodup) (fun L F F1 => jSs G L F1 sh st wd td (bgf s.1 8, s.2.1, 0) ∧ ∀ z, z ∉ [sh, st] → F1 z = F z) := by
  refine jm_kv (cc := cX9_begin) (maxL := 2) (by decide) rfl (Nat.le_of_ble_eq_true rfl) ?_
  intro E L F hE hR hpre
  have hE : jOk E G _ cX9_begin 2 RX9 wsX9_begin := hE

  have f25 : jFl RX9 wsX9_begin 25 9 3 := ⟨rfl, by decide, by decide +kernel, by decide +kernel⟩
  have f7 : jFl RX9 wsX9_begin 7 9 0 := ⟨rfl, by decide, by decide +kernel, by decide +kernel⟩
  obtain ⟨⟨h0, h1, h2⟩, hnd⟩ := hpre
  have loop : ∀ (r0 i : Nat) (F2 : Nat → va_E), i + r0 = 8 → jF L F2 sh (.inr (9, [.ref st, .ref wd, .ref td, .long 0])) → jF L F2 st (.inl (G 1, 8, .inl (bgf s.1 i))) → jF L F2 wd (.inl (G 1, 64, .inl s.2.1)) → (∀ z, z ∉ [sh, st] → F2 z = F z) → J E L F2 0 0 7 [(1, .int (nI i)), (0, .ref sh)] [] := by
    intro r0
    induction r0 with
    | zero =>
      intro i F2 hi h0 h1 h2 hfr
      refine jr_iload_n hE dX9_begin_7 0 rfl ?_
      refine jr_bipush (v := (8 : Int32)) hE dX9_begin_8 (by decide) ?_
      refine jr_icmp_ge (tgt := 30) hE dX9_begin_10 (by decide) (fun c_10 => ?_) (fun c_10 => absurd (nI_le (a := 8) (by omega) (by omega)) c_10)
      have hi8 : i = 8 := by omega
      subst hi8
      exact hR F2 _ _ dX9_begin_30 ⟨⟨h0, h1, h2⟩, hfr⟩
    | succ r0 ih =>
      intro i F2 hi h0 h1 h2 hfr
      refine jr_iload_n hE dX9_begin_7 0 rfl ?_
      refine jr_bipush (v := (8 : Int32)) hE dX9_begin_8 (by decide) ?_
      refine jr_icmp_ge (tgt := 30) hE dX9_begin_10 (by decide) (fun c_10 => absurd c_10 (nI_ge (b := 8) (by omega) (by decide))) (fun c_10 => ?_)
      refine jr_aload_n hE dX9_begin_13 1 rfl ?_
      refine jr_get hE dX9_begin_14 f7 h0 rfl ?_
      refine jr_iload_n hE dX9_begin_17 0 rfl ?_
      refine jr_gsSTART hE dX9_begin_18 (by decide +kernel) ?_
      refine jr_iload_n hE dX9_begin_21 0 rfl ?_
      refine jr_ldSTART (v := (jSTART.getD i 0)) hE dX9_begin_22 (vp_in_nI (by omega) (by decide)) (by rw [nI_clamp (by omega)]) ?_
      refine jr_iast hE dX9_begin_23 h1 (vp_in_nI (by omega) (by decide)) (fun F1 g2 u3 => ?_)
      have g4 : jF L F1 st (.inl (G 1, 8, .inl (bgf s.1 (i + 1)))) := by rw [nI_clamp (by omega)] at g2; exact g2
      have g5 := h0.upk u3 h1 (Nat.ne_of_beq_eq_false rfl)
      have g6 := h2.up u3 (jn2 hnd 2 1 rfl rfl (by decide))
      refine jr_iinc (v := nI (i + 1)) (lv' := [(1, .int (nI (i + 1))), (0, .ref sh)]) hE dX9_begin_24 0 rfl (nI_1 _) (by decide) rfl ?_
      refine jr_goto (tgt := 7) hE dX9_begin_27 (by decide) ?_
      exact ih (i + 1) F1 (by omega) g5 g4 g6 (fun z hz => (u3 z (jne hz 1 rfl)).trans (hfr z hz))
  refine jr_aload_n hE dX9_begin_0 0 rfl ?_
  refine jr_lconst (v := (0 : Int64)) hE dX9_begin_1 (by decide) ?_
  refine jr_put (ty := .long) hE dX9_begin_2 f25 h0 rfl (by decide +kernel) rfl rfl (Nat.le_of_ble_eq_true rfl) (fun F1 g2 u3 => ?_)
  have g2 : jF L F1 sh (.inr (9, [.ref st, .ref wd, .ref td, .long (0 : Int64)])) := g2
  have g4 := h1.upk u3 h0 (Nat.ne_of_beq_eq_false rfl)
  have g5 := h2.upk u3 h0 (Nat.ne_of_beq_eq_false rfl)
  refine jr_iconst (v := (0 : Int32)) hE dX9_begin_5 (by decide) ?_
  refine jr_istore_n (lv' := [(1, .int (0 : Int32)), (0, .ref sh)]) hE dX9_begin_6 (by decide) rfl ?_
  exact loop 8 0 F1 rfl g2 g4 g5 (fun z hz => u3 z (jne hz 0 rfl))

def padz (n : Nat) : Nat := (119 - n % 64) % 64
def finS (s : SS) : SS := tkA (tkB s 128) (List.replicate (padz s.2.2) 0)
def finG (s : SS) : Nat → Int32 := upd (upd (finS s).2.1 14 0) 15 (nI (s.2.2 * 8))
def dgl (f : Nat → Int32) : Nat → List Nat
  | 0 => []
  | n + 1 => dgl f n ++ nb (f n).toInt64 4
theorem dgl_len (f : Nat → Int32) : ∀ n, (dgl f n).length = 4 * n
  | 0 => rfl
  | n + 1 => by rw [dgl, List.length_append, nb_len, dgl_len f n]; omega
/-- the digest of what was taken -/
def dgst (s : SS) : List Nat := dgl (shB (finS s).1 (finG s)) 8
theorem finS_n (s : SS) : (finS s).2.2 = s.2.2 + 1 + padz s.2.2 := by
  unfold finS
  rw [tkA_n, tkB_n, List.length_replicate]

set_option maxHeartbeats 4000000 in
set_option maxRecDepth 100000 in
theorem c_X9_finish (l : Launch) (G : Nat → ClassId) (sh st wd td ob hb cap : Nat) (s : SS) (bs : List Nat) : jKv l yX9_finish wsX9_finish ({ frames := 2, cells := 0, slots := 0, locals := 55 }) G [.ref sh, .ref ob] (fun L F => jSs G L F sh st wd td s ∧ jBy G L F ob hb cap bs ∧ s.2.2 < 900000 ∧ 32 ≤ cap ∧ [sh, st, wd, ob, hb].Nodup) (fun L F F1 => jBy G L F1 ob hb cap (dgst s) ∧ (∃ s1, jSs G L F1 sh st wd td s1) ∧ ∀ z, z ∉ [sh, st, wd, ob, hb] → F1 z = F z) := by
  refine jm_kv (cc := cX9_finish) (maxL := 5) (by decide) rfl (Nat.le_of_ble_eq_true rfl) ?_
  intro E L F hE hR hpre
  have hE : jOk E G _ cX9_finish 5 RX9 wsX9_finish := hE

  have f25 : jFl RX9 wsX9_finish 25 9 3 := ⟨rfl, by decide, by decide +kernel, by decide +kernel⟩
  have f13 : jFl RX9 wsX9_finish 13 9 1 := ⟨rfl, by decide, by decide +kernel, by decide +kernel⟩
  have f7 : jFl RX9 wsX9_finish 7 9 0 := ⟨rfl, by decide, by decide +kernel, by decide +kernel⟩
  obtain ⟨hS, hB0, hn, hcap, hnd⟩ := hpre
  have hB := hB0
  have loop2 : ∀ (r0 i : Nat) (F2 : Nat → va_E) (g3 : Nat → Int32), i + r0 = 8 → jSs G L F2 sh st wd td ((shB (finS s).1 (finG s)), g3, (finS s).2.2) → jBy G L F2 ob hb cap (dgl (shB (finS s).1 (finG s)) i) → (∀ z, z ∉ [sh, st, wd, ob, hb] → F2 z = F z) → J E L F2 0 0 84 [(4, .int (nI i)), (2, .long (lN (s.2.2 * 8))), (0, .ref sh), (1, .ref ob)] [] := by
    intro r0
    induction r0 with
    | zero =>
      intro i F2 g3 hi hS hB hfr
      refine jr_iload hE dX9_finish_84 0 rfl ?_
      refine jr_bipush (v := (8 : Int32)) hE dX9_finish_86 (by decide) ?_
      refine jr_icmp_ge (tgt := 110) hE dX9_finish_88 (by decide) (fun c_88 => ?_) (fun c_88 => absurd (nI_le (a := 8) (by omega) (by omega)) c_88)
      have hi8 : i = 8 := by omega
      subst hi8
      exact hR F2 _ _ dX9_finish_110 ⟨hB, ⟨(_, g3, _), hS⟩, hfr⟩
    | succ r0 ih =>
      intro i F2 g3 hi hS hB hfr
      refine jr_iload hE dX9_finish_84 0 rfl ?_
      refine jr_bipush (v := (8 : Int32)) hE dX9_finish_86 (by decide) ?_
      refine jr_icmp_ge (tgt := 110) hE dX9_finish_88 (by decide) (fun c_88 => absurd c_88 (nI_ge (b := 8) (by omega) (by decide))) (fun c_88 => ?_)
      refine jr_aload_n hE dX9_finish_91 3 rfl ?_
      refine jr_aload_n hE dX9_finish_92 2 rfl ?_
      refine jr_get hE dX9_finish_93 f7 hS.1 rfl ?_
      refine jr_iload hE dX9_finish_96 0 rfl ?_
      refine jr_iald (v := (shB (finS s).1 (finG s)) i) hE dX9_finish_98 hS.2.1 (vp_in_nI (by omega) (by decide)) (by rw [nI_clamp (by omega)]) ?_
      refine jr_i2l hE dX9_finish_99 rfl ?_
      refine jr_iconst (v := (4 : Int32)) hE dX9_finish_100 (by decide) ?_
      refine jr_kVv (ci := 0) (n := 2) (As := [.long (((shB (finS s).1 (finG s)) i).toInt64), .int (4 : Int32)]) (rest := []) hE dX9_finish_101 (fun l => c_X0_addNumber l G ob hb cap 4 _ _) gX9_finish_X0_addNumber rfl hB.ob rfl (by decide +kernel) ⟨rfl, rfl, by decide, by decide⟩ (by decide) rfl rfl (Nat.le_of_ble_eq_true rfl) (⟨hB, by rw [dgl_len]; omega, by decide⟩) (fun F1 q2 => ?_)
      obtain ⟨hB1, r1⟩ := q2
      refine jr_iinc (v := nI (i + 1)) (lv' := [(4, .int (nI (i + 1))), (2, .long (lN (s.2.2 * 8))), (0, .ref sh), (1, .ref ob)]) hE dX9_finish_104 0 rfl (nI_1 _) (by decide) rfl ?_
      refine jr_goto (tgt := 84) hE dX9_finish_107 (by decide) ?_
      exact ih (i + 1) F1 g3 (by omega) (hS.fr (r1 sh (jn hnd 0 [3, 4] rfl rfl (by decide))) (r1 st (jn hnd 1 [3, 4] rfl rfl (by decide))) (r1 wd (jn hnd 2 [3, 4] rfl rfl (by decide)))) hB1 (fun z hz => (r1 z (jnsub (V := [ob, hb]) hz [3, 4] rfl)).trans (hfr z hz))
  have loop1 : ∀ (r0 i : Nat) (F2 : Nat → va_E), i + r0 = padz s.2.2 → jSs G L F2 sh st wd td (tkA (tkB s 128) (List.replicate i 0)) → jBy G L F2 ob hb cap bs → (∀ z, z ∉ [sh, st, wd] → F2 z = F z) → J E L F2 0 0 19 [(4, .int (nI i)), (2, .long (lN (s.2.2 * 8))), (0, .ref sh), (1, .ref ob)] [] := by
    intro r0
    induction r0 with
    | zero =>
      intro i F2 hi hS hB hfr
      have hpz : padz s.2.2 < 64 := Nat.mod_lt _ (by decide)
      have hcnt : (tkA (tkB s 128) (List.replicate i 0)).2.2 = s.2.2 + 1 + i := by rw [tkA_n, tkB_n, List.length_replicate]
      refine jr_iload hE dX9_finish_19 0 rfl ?_
      refine jr_bipush (v := (64 : Int32)) hE dX9_finish_21 (by decide) ?_
      refine jr_icmp_ge (tgt := 52) hE dX9_finish_23 (by decide) (fun c_23 => absurd c_23 (nI_ge (b := 64) (by unfold padz at hi; omega) (by decide))) (fun c_23 => ?_)
      refine jr_aload_n hE dX9_finish_26 2 rfl ?_
      refine jr_get hE dX9_finish_27 f25 hS.1 rfl ?_
      refine jr_ldc2 (v := (63 : Int64)) hE dX9_finish_30 (by decide +kernel) ?_
      refine jr_land (z := lN ((s.2.2 + 1 + i) % 64)) hE dX9_finish_33 (by rw [hcnt]; exact wb_mask (n := s.2.2 + 1 + i) (k := 6) (by omega) (by decide)) ?_
      refine jr_ldc2 (v := (56 : Int64)) hE dX9_finish_34 (by decide +kernel) ?_
      refine jr_lcmp hE dX9_finish_37 ?_
      refine jr_if_eq (tgt := 52) hE dX9_finish_38 (by decide) (fun c38 => ?_) (fun c38 => absurd ((cmp0 (b := 56) (by omega) (by decide)).mpr (by unfold padz at hi; omega)) c38)
      have hS : jSs G L F2 sh st wd td (finS s) := by have e := hS; rw [show i = padz s.2.2 by omega] at e; exact e
      refine jr_aload_n hE dX9_finish_52 2 rfl ?_
      refine jr_get hE dX9_finish_53 f13 hS.1 rfl ?_
      refine jr_bipush (v := (14 : Int32)) hE dX9_finish_56 (by decide) ?_
      refine jr_lload_n hE dX9_finish_58 1 rfl ?_
      refine jr_bipush (v := (32 : Int32)) hE dX9_finish_59 (by decide) ?_
      refine jr_lushr (z := lN (s.2.2 * 8 / 2 ^ 32)) hE dX9_finish_61 (s32 (s.2.2 * 8) (by omega)) ?_
      refine jr_l2i (z := (0 : Int32)) hE dX9_finish_62 (by rw [Nat.div_eq_of_lt (by omega)]; rfl) ?_
      refine jr_iast hE dX9_finish_63 hS.2.2 (vp_in_nI (n := 14) (by decide) (by decide)) (fun F1 g2 u3 => ?_)
      have g4 : jF L F1 wd (.inl (G 1, 64, .inl (upd (finS s).2.1 14 0))) := by exact g2
      have g5 := hS.1.upk u3 hS.2.2 (Nat.ne_of_beq_eq_false rfl)
      have g6 := hS.2.1.up u3 (jn2 hnd 1 2 rfl rfl (by decide))
      refine jr_aload_n hE dX9_finish_64 2 rfl ?_
      refine jr_get hE dX9_finish_65 f13 g5 rfl ?_
      refine jr_bipush (v := (15 : Int32)) hE dX9_finish_68 (by decide) ?_
      refine jr_lload_n hE dX9_finish_70 1 rfl ?_
      refine jr_l2i (z := nI (s.2.2 * 8)) hE dX9_finish_71 (lN_i _) ?_
      refine jr_iast hE dX9_finish_72 g4 (vp_in_nI (n := 15) (by decide) (by decide)) (fun F7 g8 u9 => ?_)
      have g10 : jF L F7 wd (.inl (G 1, 64, .inl (finG s))) := by exact g8
      have g11 := g5.upk u9 g4 (Nat.ne_of_beq_eq_false rfl)
      have g12 := g6.up u9 (jn2 hnd 1 2 rfl rfl (by decide))
      refine jr_aload_n hE dX9_finish_73 2 rfl ?_
      refine jr_kVv (ci := 9) (n := 0) (As := []) (rest := []) hE dX9_finish_74 (fun l => c_X9_stir l G sh st wd td (finS s).2.2 (finS s).1 (finG s)) gX9_finish_X9_stir rfl g11 rfl (by decide +kernel) ⟨rfl, rfl, by decide, by decide⟩ (by decide) rfl rfl (Nat.le_of_ble_eq_true rfl) (⟨⟨g11, g12, g10⟩, jnd hnd [0, 1, 2] rfl (by decide)⟩) (fun F13 q14 => ?_)
      obtain ⟨hSt, r2⟩ := q14
      have rA : ∀ z, z ∉ [sh, st, wd] → F13 z = F z := fun z hz => (r2 z (jnsub (V := [st, wd]) hz [1, 2] rfl)).trans ((u9 z (jne hz 2 rfl)).trans ((u3 z (jne hz 2 rfl)).trans (hfr z hz)))
      have hB2 : jBy G L F13 ob hb cap bs := hB0.fr (rA ob (jn hnd 3 [0, 1, 2] rfl rfl (by decide))) (rA hb (jn hnd 4 [0, 1, 2] rfl rfl (by decide)))
      refine jr_aload_n hE dX9_finish_77 3 rfl ?_
      refine jr_kVv (ci := 0) (n := 0) (As := []) (rest := []) hE dX9_finish_78 (fun l => c_X0_empty l G ob hb cap bs) gX9_finish_X0_empty rfl hB2.ob rfl (by decide +kernel) ⟨rfl, rfl, by decide, by decide⟩ (by decide) rfl rfl (Nat.le_of_ble_eq_true rfl) (hB2) (fun F15 q16 => ?_)
      obtain ⟨hB3, r3⟩ := q16
      have rB : ∀ z, z ∉ [sh, st, wd, ob, hb] → F15 z = F z := fun z hz => (r3 z (jnsub (V := [ob]) hz [3] rfl)).trans (rA z (jnsub (V := [sh, st, wd]) hz [0, 1, 2] rfl))
      have hS3 := hSt.fr (r3 sh (jn hnd 0 [3] rfl rfl (by decide))) (r3 st (jn hnd 1 [3] rfl rfl (by decide))) (r3 wd (jn hnd 2 [3] rfl rfl (by decide)))
      refine jr_iconst (v := (0 : Int32)) hE dX9_finish_81 (by decide) ?_
      refine jr_istore (lv' := [(4, .int (0 : Int32)), (2, .long (lN (s.2.2 * 8))), (0, .ref sh), (1, .ref ob)]) hE dX9_finish_82 (by decide) rfl ?_
      refine jr_lv (lv' := [(4, .int (0 : Int32)), (2, .long (lN (s.2.2 * 8))), (0, .ref sh), (1, .ref ob)]) [0, 1, 2, 3] rfl ?_
      exact loop2 8 0 F15 _ rfl hS3 hB3 rB
    | succ r0 ih =>
      intro i F2 hi hS hB hfr
      have hpz : padz s.2.2 < 64 := Nat.mod_lt _ (by decide)
      have hcnt : (tkA (tkB s 128) (List.replicate i 0)).2.2 = s.2.2 + 1 + i := by rw [tkA_n, tkB_n, List.length_replicate]
      refine jr_iload hE dX9_finish_19 0 rfl ?_
      refine jr_bipush (v := (64 : Int32)) hE dX9_finish_21 (by decide) ?_
      refine jr_icmp_ge (tgt := 52) hE dX9_finish_23 (by decide) (fun c_23 => absurd c_23 (nI_ge (b := 64) (by unfold padz at hi; omega) (by decide))) (fun c_23 => ?_)
      refine jr_aload_n hE dX9_finish_26 2 rfl ?_
      refine jr_get hE dX9_finish_27 f25 hS.1 rfl ?_
      refine jr_ldc2 (v := (63 : Int64)) hE dX9_finish_30 (by decide +kernel) ?_
      refine jr_land (z := lN ((s.2.2 + 1 + i) % 64)) hE dX9_finish_33 (by rw [hcnt]; exact wb_mask (n := s.2.2 + 1 + i) (k := 6) (by omega) (by decide)) ?_
      refine jr_ldc2 (v := (56 : Int64)) hE dX9_finish_34 (by decide +kernel) ?_
      refine jr_lcmp hE dX9_finish_37 ?_
      refine jr_if_eq (tgt := 52) hE dX9_finish_38 (by decide) (fun c38 => absurd c38 (fun e => (by have h1 := (cmp0 (b := 56) (by omega) (by decide)).mp e; unfold padz at hi; omega))) (fun c38 => ?_)
      refine jr_aload_n hE dX9_finish_41 2 rfl ?_
      refine jr_iconst (v := (0 : Int32)) hE dX9_finish_42 (by decide) ?_
      refine jr_kVv (ci := 9) (n := 1) (As := [.int (0 : Int32)]) (rest := []) hE dX9_finish_43 (fun l => c_X9_take l G sh st wd td _ _) gX9_finish_X9_take rfl hS.1 rfl (by decide +kernel) ⟨rfl, rfl, by decide, by decide⟩ (by decide) rfl rfl (Nat.le_of_ble_eq_true rfl) (⟨hS, by rw [hcnt]; unfold padz at hi; omega, jnd hnd [0, 1, 2] rfl (by decide)⟩) (fun F1 q2 => ?_)
      obtain ⟨hS1, r1⟩ := q2
      refine jr_iinc (v := nI (i + 1)) (lv' := [(4, .int (nI (i + 1))), (2, .long (lN (s.2.2 * 8))), (0, .ref sh), (1, .ref ob)]) hE dX9_finish_46 0 rfl (nI_1 _) (by decide) rfl ?_
      refine jr_goto (tgt := 19) hE dX9_finish_49 (by decide) ?_
      exact ih (i + 1) F1 (by omega) (by rw [show bv (0 : Int32) = 0 by decide, tkA_snoc, ← List.replicate_succ'] at hS1; exact hS1) (hB.fr (r1 ob (jn hnd 3 [0, 1, 2] rfl rfl (by decide))) (r1 hb (jn hnd 4 [0, 1, 2] rfl rfl (by decide)))) (fun z hz => (r1 z hz).trans (hfr z hz))
  refine jr_aload_n hE dX9_finish_0 0 rfl ?_
  refine jr_get hE dX9_finish_1 f25 hS.1 rfl ?_
  refine jr_ldc2 (v := (8 : Int64)) hE dX9_finish_4 (by decide +kernel) ?_
  refine jr_lmul (z := lN (s.2.2 * 8)) hE dX9_finish_7 (lN_mul _ 8) ?_
  refine jr_lstore_n (lv' := [(2, .long (lN (s.2.2 * 8))), (0, .ref sh), (1, .ref ob)]) hE dX9_finish_8 (by decide) rfl ?_
  refine jr_aload_n hE dX9_finish_9 1 rfl ?_
  refine jr_sipush (v := (128 : Int32)) hE dX9_finish_10 (by decide) ?_
  refine jr_kVv (ci := 9) (n := 1) (As := [.int (128 : Int32)]) (rest := []) hE dX9_finish_13 (fun l => c_X9_take l G sh st wd td _ _) gX9_finish_X9_take rfl hS.1 rfl (by decide +kernel) ⟨rfl, rfl, by decide, by decide⟩ (by decide) rfl rfl (Nat.le_of_ble_eq_true rfl) (⟨hS, by omega, jnd hnd [0, 1, 2] rfl (by decide)⟩) (fun F1 q2 => ?_)
  obtain ⟨hS1, r1⟩ := q2
  refine jr_iconst (v := (0 : Int32)) hE dX9_finish_16 (by decide) ?_
  refine jr_istore (lv' := [(4, .int (0 : Int32)), (2, .long (lN (s.2.2 * 8))), (0, .ref sh), (1, .ref ob)]) hE dX9_finish_17 (by decide) rfl ?_
  refine jr_lv (lv' := [(4, .int (0 : Int32)), (2, .long (lN (s.2.2 * 8))), (0, .ref sh), (1, .ref ob)]) [0, 1, 2, 3] rfl ?_
  exact loop1 (padz s.2.2) 0 F1 (by omega) (by rw [show bv (128 : Int32) = 128 by decide] at hS1; simpa [tkA] using hS1) (hB.fr (r1 ob (jn hnd 3 [0, 1, 2] rfl rfl (by decide))) (r1 hb (jn hnd 4 [0, 1, 2] rfl rfl (by decide)))) r1

