/-! POWERS -/
def stemv (x : Nat) : Nat := x ^ 28948022309329048855892746252171976963317496166410141009864396001977208667915 % PP
theorem sqn_pow (x e : Nat) : ∀ n, sqn (x ^ e % PP) n = x ^ (e * 2 ^ n) % PP
  | 0 => by rw [sqn, Nat.pow_zero, Nat.mul_one]
  | n + 1 => by
    rw [sqn, sqn_pow x e n, ← Nat.mul_mod, ← Nat.pow_add, Nat.pow_succ, ← Nat.mul_assoc, Nat.mul_two]
theorem rs_pow (x e f n : Nat) : sqn (x ^ e % PP) n * (x ^ f % PP) % PP = x ^ (e * 2 ^ n + f) % PP := by
  rw [sqn_pow, ← Nat.mul_mod, ← Nat.pow_add]
/-- the Powers object pw with its six coordinates -/
abbrev cPw (a b c d e f : Nat) : va_E := .inr (7, [.ref a, .ref b, .ref c, .ref d, .ref e, .ref f])
def jPw (L : List Nat) (F : Nat → va_E) (pw a b c d e f : Nat) : Prop := jF L F pw (cPw a b c d e f) ∧ (∃ l, jF L F a (cC l)) ∧ (∃ l, jF L F b (cC l)) ∧ (∃ l, jF L F c (cC l)) ∧ (∃ l, jF L F d (cC l)) ∧ (∃ l, jF L F e (cC l)) ∧ (∃ l, jF L F f (cC l))

set_option maxHeartbeats 4000000 in
set_option maxRecDepth 100000 in
theorem c_X7_stem (l : Launch) (G : Nat → ClassId) (pw o a x2 x3 x22 x44 x88 run x : Nat) : jKv l yX7_stem wsX7_stem ({ frames := 2, cells := 0, slots := 0, locals := 104 }) G [.ref pw, .ref o, .ref a] (fun L F => jPw L F pw x2 x3 x22 x44 x88 run ∧ (∃ lo, jF L F o (cC lo)) ∧ jCo L F a x ∧ [o, a, x2, x3, x22, x44, x88, run].Nodup) (fun L F F1 => (jCo L F1 o (stemv x) ∧ jPw L F1 pw x2 x3 x22 x44 x88 run) ∧ ∀ z, z ∉ [o, x2, x3, x22, x44, x88, run] → F1 z = F z) := by
  refine jm_kv (cc := cX7_stem) (maxL := 3) (by decide) rfl (Nat.le_of_ble_eq_true rfl) ?_
  intro E L F hE hR hpre
  have hE : jOk E G _ cX7_stem 3 RX7 wsX7_stem := hE
  obtain ⟨⟨hpw, ⟨l1, hc_x2⟩, ⟨l2, hc_x3⟩, ⟨l3, hc_x22⟩, ⟨l4, hc_x44⟩, ⟨l5, hc_x88⟩, ⟨l6, hc_run⟩⟩, ⟨lo, hco⟩, hA0, hnd⟩ := hpre
  have hA : jCo L F a (x ^ 1 % PP) := by rw [Nat.pow_one, Nat.mod_eq_of_lt (co_lt hA0)]; exact hA0
  have hpk : ∀ t, t ∈ [o, x2, x3, x22, x44, x88, run] → pw = t → False := by
    intro t ht e
    have kk : ∀ {b : Nat} {l : Nat → Int64}, jF L F b (cC l) → pw ≠ b := fun hb => hpw.ne hb (Nat.ne_of_beq_eq_false rfl)
    simp only [List.mem_cons, List.not_mem_nil, or_false] at ht
    rcases ht with rfl | rfl | rfl | rfl | rfl | rfl | rfl
    · exact kk hco e
    · exact kk hc_x2 e
    · exact kk hc_x3 e
    · exact kk hc_x22 e
    · exact kk hc_x44 e
    · exact kk hc_x88 e
    · exact kk hc_run e
  have f10 : jFl RX7 wsX7_stem 10 7 0 := ⟨rfl, by decide, by decide +kernel, by decide +kernel⟩
  have f16 : jFl RX7 wsX7_stem 16 7 1 := ⟨rfl, by decide, by decide +kernel, by decide +kernel⟩
  have f28 : jFl RX7 wsX7_stem 28 7 5 := ⟨rfl, by decide, by decide +kernel, by decide +kernel⟩
  have f19 : jFl RX7 wsX7_stem 19 7 2 := ⟨rfl, by decide, by decide +kernel, by decide +kernel⟩
  have f22 : jFl RX7 wsX7_stem 22 7 3 := ⟨rfl, by decide, by decide +kernel, by decide +kernel⟩
  have f25 : jFl RX7 wsX7_stem 25 7 4 := ⟨rfl, by decide, by decide +kernel, by decide +kernel⟩
  refine jr_aload_n hE dX7_stem_0 0 rfl ?_
  refine jr_get hE dX7_stem_1 f10 hpw rfl ?_
  refine jr_aload_n hE dX7_stem_4 2 rfl ?_
  refine jr_iconst (v := (1 : Int32)) hE dX7_stem_5 (by decide) ?_
  refine jr_aload_n hE dX7_stem_6 2 rfl ?_
  refine jr_kVv (ci := 1) (n := 3) (As := [.ref a, .int (1 : Int32), .ref a]) (rest := []) hE dX7_stem_7 (fun l => c_X1_raise l G x2 a a 1 (x ^ 1 % PP) (x ^ 1 % PP) _) gX7_stem_X1_raise rfl hc_x2 rfl (by decide +kernel) ⟨rfl, rfl, by decide, by decide⟩ (by decide) rfl rfl (Nat.le_of_ble_eq_true rfl) (⟨hc_x2, hA, hA, jnd hnd [2, 1] rfl (by decide), by decide⟩) (fun F1 q2 => ?_)
  obtain ⟨n0, r0⟩ := q2
  rw [rs_pow] at n0
  have h0_x2 : jCo L F1 x2 (x ^ 3 % PP) := n0
  have h0_a := hA.fr (r0 a (jn hnd 1 [2] rfl rfl (by decide)))
  have k0_x3 := hc_x3.fr (r0 x3 (jn hnd 3 [2] rfl rfl (by decide)))
  have k0_x22 := hc_x22.fr (r0 x22 (jn hnd 4 [2] rfl rfl (by decide)))
  have k0_x44 := hc_x44.fr (r0 x44 (jn hnd 5 [2] rfl rfl (by decide)))
  have k0_x88 := hc_x88.fr (r0 x88 (jn hnd 6 [2] rfl rfl (by decide)))
  have k0_run := hc_run.fr (r0 run (jn hnd 7 [2] rfl rfl (by decide)))
  have k0_oo := hco.fr (r0 o (jn hnd 0 [2] rfl rfl (by decide)))
  have p0 := hpw.fr (r0 pw (fun e => hpk x2 (by simp) (by simpa using e)))
  refine jr_aload_n hE dX7_stem_10 0 rfl ?_
  refine jr_get hE dX7_stem_11 f16 p0 rfl ?_
  refine jr_aload_n hE dX7_stem_14 0 rfl ?_
  refine jr_get hE dX7_stem_15 f10 p0 rfl ?_
  refine jr_iconst (v := (1 : Int32)) hE dX7_stem_18 (by decide) ?_
  refine jr_aload_n hE dX7_stem_19 2 rfl ?_
  refine jr_kVv (ci := 1) (n := 3) (As := [.ref x2, .int (1 : Int32), .ref a]) (rest := []) hE dX7_stem_20 (fun l => c_X1_raise l G x3 x2 a 1 (x ^ 3 % PP) (x ^ 1 % PP) _) gX7_stem_X1_raise rfl k0_x3 rfl (by decide +kernel) ⟨rfl, rfl, by decide, by decide⟩ (by decide) rfl rfl (Nat.le_of_ble_eq_true rfl) (⟨k0_x3, h0_x2, h0_a, jnd hnd [3, 1] rfl (by decide), by decide⟩) (fun F3 q4 => ?_)
  obtain ⟨n1, r1⟩ := q4
  rw [rs_pow] at n1
  have h1_x3 : jCo L F3 x3 (x ^ 7 % PP) := n1
  have h1_a := h0_a.fr (r1 a (jn hnd 1 [3] rfl rfl (by decide)))
  have h1_x2 := h0_x2.fr (r1 x2 (jn hnd 2 [3] rfl rfl (by decide)))
  have k1_x22 := k0_x22.fr (r1 x22 (jn hnd 4 [3] rfl rfl (by decide)))
  have k1_x44 := k0_x44.fr (r1 x44 (jn hnd 5 [3] rfl rfl (by decide)))
  have k1_x88 := k0_x88.fr (r1 x88 (jn hnd 6 [3] rfl rfl (by decide)))
  have k1_run := k0_run.fr (r1 run (jn hnd 7 [3] rfl rfl (by decide)))
  have k1_oo := k0_oo.fr (r1 o (jn hnd 0 [3] rfl rfl (by decide)))
  have p1 := p0.fr (r1 pw (fun e => hpk x3 (by simp) (by simpa using e)))
  refine jr_aload_n hE dX7_stem_23 0 rfl ?_
  refine jr_get hE dX7_stem_24 f28 p1 rfl ?_
  refine jr_aload_n hE dX7_stem_27 0 rfl ?_
  refine jr_get hE dX7_stem_28 f16 p1 rfl ?_
  refine jr_iconst (v := (3 : Int32)) hE dX7_stem_31 (by decide) ?_
  refine jr_aload_n hE dX7_stem_32 0 rfl ?_
  refine jr_get hE dX7_stem_33 f16 p1 rfl ?_
  refine jr_kVv (ci := 1) (n := 3) (As := [.ref x3, .int (3 : Int32), .ref x3]) (rest := []) hE dX7_stem_36 (fun l => c_X1_raise l G run x3 x3 3 (x ^ 7 % PP) (x ^ 7 % PP) _) gX7_stem_X1_raise rfl k1_run rfl (by decide +kernel) ⟨rfl, rfl, by decide, by decide⟩ (by decide) rfl rfl (Nat.le_of_ble_eq_true rfl) (⟨k1_run, h1_x3, h1_x3, jnd hnd [7, 3] rfl (by decide), by decide⟩) (fun F5 q6 => ?_)
  obtain ⟨n2, r2⟩ := q6
  rw [rs_pow] at n2
  have h2_run : jCo L F5 run (x ^ 63 % PP) := n2
  have h2_a := h1_a.fr (r2 a (jn hnd 1 [7] rfl rfl (by decide)))
  have h2_x2 := h1_x2.fr (r2 x2 (jn hnd 2 [7] rfl rfl (by decide)))
  have h2_x3 := h1_x3.fr (r2 x3 (jn hnd 3 [7] rfl rfl (by decide)))
  have k2_x22 := k1_x22.fr (r2 x22 (jn hnd 4 [7] rfl rfl (by decide)))
  have k2_x44 := k1_x44.fr (r2 x44 (jn hnd 5 [7] rfl rfl (by decide)))
  have k2_x88 := k1_x88.fr (r2 x88 (jn hnd 6 [7] rfl rfl (by decide)))
  have k2_oo := k1_oo.fr (r2 o (jn hnd 0 [7] rfl rfl (by decide)))
  have p2 := p1.fr (r2 pw (fun e => hpk run (by simp) (by simpa using e)))
  refine jr_aload_n hE dX7_stem_39 0 rfl ?_
  refine jr_get hE dX7_stem_40 f28 p2 rfl ?_
  refine jr_aload_n hE dX7_stem_43 0 rfl ?_
  refine jr_get hE dX7_stem_44 f28 p2 rfl ?_
  refine jr_iconst (v := (3 : Int32)) hE dX7_stem_47 (by decide) ?_
  refine jr_aload_n hE dX7_stem_48 0 rfl ?_
  refine jr_get hE dX7_stem_49 f16 p2 rfl ?_
  obtain ⟨lw3, w3⟩ := h2_run.cell
  refine jr_kVv (ci := 1) (n := 3) (As := [.ref run, .int (3 : Int32), .ref x3]) (rest := []) hE dX7_stem_52 (fun l => c_X1_raise l G run run x3 3 (x ^ 63 % PP) (x ^ 7 % PP) _) gX7_stem_X1_raise rfl w3 rfl (by decide +kernel) ⟨rfl, rfl, by decide, by decide⟩ (by decide) rfl rfl (Nat.le_of_ble_eq_true rfl) (⟨w3, h2_run, h2_x3, jnd hnd [7, 3] rfl (by decide), by decide⟩) (fun F7 q8 => ?_)
  obtain ⟨n3, r3⟩ := q8
  rw [rs_pow] at n3
  have h3_run : jCo L F7 run (x ^ 511 % PP) := n3
  have h3_a := h2_a.fr (r3 a (jn hnd 1 [7] rfl rfl (by decide)))
  have h3_x2 := h2_x2.fr (r3 x2 (jn hnd 2 [7] rfl rfl (by decide)))
  have h3_x3 := h2_x3.fr (r3 x3 (jn hnd 3 [7] rfl rfl (by decide)))
  have k3_x22 := k2_x22.fr (r3 x22 (jn hnd 4 [7] rfl rfl (by decide)))
  have k3_x44 := k2_x44.fr (r3 x44 (jn hnd 5 [7] rfl rfl (by decide)))
  have k3_x88 := k2_x88.fr (r3 x88 (jn hnd 6 [7] rfl rfl (by decide)))
  have k3_oo := k2_oo.fr (r3 o (jn hnd 0 [7] rfl rfl (by decide)))
  have p3 := p2.fr (r3 pw (fun e => hpk run (by simp) (by simpa using e)))
  refine jr_aload_n hE dX7_stem_55 0 rfl ?_
  refine jr_get hE dX7_stem_56 f28 p3 rfl ?_
  refine jr_aload_n hE dX7_stem_59 0 rfl ?_
  refine jr_get hE dX7_stem_60 f28 p3 rfl ?_
  refine jr_iconst (v := (2 : Int32)) hE dX7_stem_63 (by decide) ?_
  refine jr_aload_n hE dX7_stem_64 0 rfl ?_
  refine jr_get hE dX7_stem_65 f10 p3 rfl ?_
  obtain ⟨lw4, w4⟩ := h3_run.cell
  refine jr_kVv (ci := 1) (n := 3) (As := [.ref run, .int (2 : Int32), .ref x2]) (rest := []) hE dX7_stem_68 (fun l => c_X1_raise l G run run x2 2 (x ^ 511 % PP) (x ^ 3 % PP) _) gX7_stem_X1_raise rfl w4 rfl (by decide +kernel) ⟨rfl, rfl, by decide, by decide⟩ (by decide) rfl rfl (Nat.le_of_ble_eq_true rfl) (⟨w4, h3_run, h3_x2, jnd hnd [7, 2] rfl (by decide), by decide⟩) (fun F9 q10 => ?_)
  obtain ⟨n4, r4⟩ := q10
  rw [rs_pow] at n4
  have h4_run : jCo L F9 run (x ^ 2047 % PP) := n4
  have h4_a := h3_a.fr (r4 a (jn hnd 1 [7] rfl rfl (by decide)))
  have h4_x2 := h3_x2.fr (r4 x2 (jn hnd 2 [7] rfl rfl (by decide)))
  have h4_x3 := h3_x3.fr (r4 x3 (jn hnd 3 [7] rfl rfl (by decide)))
  have k4_x22 := k3_x22.fr (r4 x22 (jn hnd 4 [7] rfl rfl (by decide)))
  have k4_x44 := k3_x44.fr (r4 x44 (jn hnd 5 [7] rfl rfl (by decide)))
  have k4_x88 := k3_x88.fr (r4 x88 (jn hnd 6 [7] rfl rfl (by decide)))
  have k4_oo := k3_oo.fr (r4 o (jn hnd 0 [7] rfl rfl (by decide)))
  have p4 := p3.fr (r4 pw (fun e => hpk run (by simp) (by simpa using e)))
  refine jr_aload_n hE dX7_stem_71 0 rfl ?_
  refine jr_get hE dX7_stem_72 f19 p4 rfl ?_
  refine jr_aload_n hE dX7_stem_75 0 rfl ?_
  refine jr_get hE dX7_stem_76 f28 p4 rfl ?_
  refine jr_bipush (v := (11 : Int32)) hE dX7_stem_79 (by decide) ?_
  refine jr_aload_n hE dX7_stem_81 0 rfl ?_
  refine jr_get hE dX7_stem_82 f28 p4 rfl ?_
  refine jr_kVv (ci := 1) (n := 3) (As := [.ref run, .int (11 : Int32), .ref run]) (rest := []) hE dX7_stem_85 (fun l => c_X1_raise l G x22 run run 11 (x ^ 2047 % PP) (x ^ 2047 % PP) _) gX7_stem_X1_raise rfl k4_x22 rfl (by decide +kernel) ⟨rfl, rfl, by decide, by decide⟩ (by decide) rfl rfl (Nat.le_of_ble_eq_true rfl) (⟨k4_x22, h4_run, h4_run, jnd hnd [4, 7] rfl (by decide), by decide⟩) (fun F11 q12 => ?_)
  obtain ⟨n5, r5⟩ := q12
  rw [rs_pow] at n5
  have h5_x22 : jCo L F11 x22 (x ^ 4194303 % PP) := n5
  have h5_a := h4_a.fr (r5 a (jn hnd 1 [4] rfl rfl (by decide)))
  have h5_x2 := h4_x2.fr (r5 x2 (jn hnd 2 [4] rfl rfl (by decide)))
  have h5_x3 := h4_x3.fr (r5 x3 (jn hnd 3 [4] rfl rfl (by decide)))
  have h5_run := h4_run.fr (r5 run (jn hnd 7 [4] rfl rfl (by decide)))
  have k5_x44 := k4_x44.fr (r5 x44 (jn hnd 5 [4] rfl rfl (by decide)))
  have k5_x88 := k4_x88.fr (r5 x88 (jn hnd 6 [4] rfl rfl (by decide)))
  have k5_oo := k4_oo.fr (r5 o (jn hnd 0 [4] rfl rfl (by decide)))
  have p5 := p4.fr (r5 pw (fun e => hpk x22 (by simp) (by simpa using e)))
  refine jr_aload_n hE dX7_stem_88 0 rfl ?_
  refine jr_get hE dX7_stem_89 f22 p5 rfl ?_
  refine jr_aload_n hE dX7_stem_92 0 rfl ?_
  refine jr_get hE dX7_stem_93 f19 p5 rfl ?_
  refine jr_bipush (v := (22 : Int32)) hE dX7_stem_96 (by decide) ?_
  refine jr_aload_n hE dX7_stem_98 0 rfl ?_
  refine jr_get hE dX7_stem_99 f19 p5 rfl ?_
  refine jr_kVv (ci := 1) (n := 3) (As := [.ref x22, .int (22 : Int32), .ref x22]) (rest := []) hE dX7_stem_102 (fun l => c_X1_raise l G x44 x22 x22 22 (x ^ 4194303 % PP) (x ^ 4194303 % PP) _) gX7_stem_X1_raise rfl k5_x44 rfl (by decide +kernel) ⟨rfl, rfl, by decide, by decide⟩ (by decide) rfl rfl (Nat.le_of_ble_eq_true rfl) (⟨k5_x44, h5_x22, h5_x22, jnd hnd [5, 4] rfl (by decide), by decide⟩) (fun F13 q14 => ?_)
  obtain ⟨n6, r6⟩ := q14
  rw [rs_pow] at n6
  have h6_x44 : jCo L F13 x44 (x ^ 17592186044415 % PP) := n6
  have h6_a := h5_a.fr (r6 a (jn hnd 1 [5] rfl rfl (by decide)))
  have h6_x2 := h5_x2.fr (r6 x2 (jn hnd 2 [5] rfl rfl (by decide)))
  have h6_x3 := h5_x3.fr (r6 x3 (jn hnd 3 [5] rfl rfl (by decide)))
  have h6_run := h5_run.fr (r6 run (jn hnd 7 [5] rfl rfl (by decide)))
  have h6_x22 := h5_x22.fr (r6 x22 (jn hnd 4 [5] rfl rfl (by decide)))
  have k6_x88 := k5_x88.fr (r6 x88 (jn hnd 6 [5] rfl rfl (by decide)))
  have k6_oo := k5_oo.fr (r6 o (jn hnd 0 [5] rfl rfl (by decide)))
  have p6 := p5.fr (r6 pw (fun e => hpk x44 (by simp) (by simpa using e)))
  refine jr_aload_n hE dX7_stem_105 0 rfl ?_
  refine jr_get hE dX7_stem_106 f25 p6 rfl ?_
  refine jr_aload_n hE dX7_stem_109 0 rfl ?_
  refine jr_get hE dX7_stem_110 f22 p6 rfl ?_
  refine jr_bipush (v := (44 : Int32)) hE dX7_stem_113 (by decide) ?_
  refine jr_aload_n hE dX7_stem_115 0 rfl ?_
  refine jr_get hE dX7_stem_116 f22 p6 rfl ?_
  refine jr_kVv (ci := 1) (n := 3) (As := [.ref x44, .int (44 : Int32), .ref x44]) (rest := []) hE dX7_stem_119 (fun l => c_X1_raise l G x88 x44 x44 44 (x ^ 17592186044415 % PP) (x ^ 17592186044415 % PP) _) gX7_stem_X1_raise rfl k6_x88 rfl (by decide +kernel) ⟨rfl, rfl, by decide, by decide⟩ (by decide) rfl rfl (Nat.le_of_ble_eq_true rfl) (⟨k6_x88, h6_x44, h6_x44, jnd hnd [6, 5] rfl (by decide), by decide⟩) (fun F15 q16 => ?_)
  obtain ⟨n7, r7⟩ := q16
  rw [rs_pow] at n7
  have h7_x88 : jCo L F15 x88 (x ^ 309485009821345068724781055 % PP) := n7
  have h7_a := h6_a.fr (r7 a (jn hnd 1 [6] rfl rfl (by decide)))
  have h7_x2 := h6_x2.fr (r7 x2 (jn hnd 2 [6] rfl rfl (by decide)))
  have h7_x3 := h6_x3.fr (r7 x3 (jn hnd 3 [6] rfl rfl (by decide)))
  have h7_run := h6_run.fr (r7 run (jn hnd 7 [6] rfl rfl (by decide)))
  have h7_x22 := h6_x22.fr (r7 x22 (jn hnd 4 [6] rfl rfl (by decide)))
  have h7_x44 := h6_x44.fr (r7 x44 (jn hnd 5 [6] rfl rfl (by decide)))
  have k7_oo := k6_oo.fr (r7 o (jn hnd 0 [6] rfl rfl (by decide)))
  have p7 := p6.fr (r7 pw (fun e => hpk x88 (by simp) (by simpa using e)))
  refine jr_aload_n hE dX7_stem_122 0 rfl ?_
  refine jr_get hE dX7_stem_123 f28 p7 rfl ?_
  refine jr_aload_n hE dX7_stem_126 0 rfl ?_
  refine jr_get hE dX7_stem_127 f25 p7 rfl ?_
  refine jr_bipush (v := (88 : Int32)) hE dX7_stem_130 (by decide) ?_
  refine jr_aload_n hE dX7_stem_132 0 rfl ?_
  refine jr_get hE dX7_stem_133 f25 p7 rfl ?_
  obtain ⟨lw8, w8⟩ := h7_run.cell
  refine jr_kVv (ci := 1) (n := 3) (As := [.ref x88, .int (88 : Int32), .ref x88]) (rest := []) hE dX7_stem_136 (fun l => c_X1_raise l G run x88 x88 88 (x ^ 309485009821345068724781055 % PP) (x ^ 309485009821345068724781055 % PP) _) gX7_stem_X1_raise rfl w8 rfl (by decide +kernel) ⟨rfl, rfl, by decide, by decide⟩ (by decide) rfl rfl (Nat.le_of_ble_eq_true rfl) (⟨w8, h7_x88, h7_x88, jnd hnd [7, 6] rfl (by decide), by decide⟩) (fun F17 q18 => ?_)
  obtain ⟨n8, r8⟩ := q18
  rw [rs_pow] at n8
  have h8_run : jCo L F17 run (x ^ 95780971304118053647396689196894323976171195136475135 % PP) := n8
  have h8_a := h7_a.fr (r8 a (jn hnd 1 [7] rfl rfl (by decide)))
  have h8_x2 := h7_x2.fr (r8 x2 (jn hnd 2 [7] rfl rfl (by decide)))
  have h8_x3 := h7_x3.fr (r8 x3 (jn hnd 3 [7] rfl rfl (by decide)))
  have h8_x22 := h7_x22.fr (r8 x22 (jn hnd 4 [7] rfl rfl (by decide)))
  have h8_x44 := h7_x44.fr (r8 x44 (jn hnd 5 [7] rfl rfl (by decide)))
  have h8_x88 := h7_x88.fr (r8 x88 (jn hnd 6 [7] rfl rfl (by decide)))
  have k8_oo := k7_oo.fr (r8 o (jn hnd 0 [7] rfl rfl (by decide)))
  have p8 := p7.fr (r8 pw (fun e => hpk run (by simp) (by simpa using e)))
  refine jr_aload_n hE dX7_stem_139 0 rfl ?_
  refine jr_get hE dX7_stem_140 f28 p8 rfl ?_
  refine jr_aload_n hE dX7_stem_143 0 rfl ?_
  refine jr_get hE dX7_stem_144 f28 p8 rfl ?_
  refine jr_bipush (v := (44 : Int32)) hE dX7_stem_147 (by decide) ?_
  refine jr_aload_n hE dX7_stem_149 0 rfl ?_
  refine jr_get hE dX7_stem_150 f22 p8 rfl ?_
  obtain ⟨lw9, w9⟩ := h8_run.cell
  refine jr_kVv (ci := 1) (n := 3) (As := [.ref run, .int (44 : Int32), .ref x44]) (rest := []) hE dX7_stem_153 (fun l => c_X1_raise l G run run x44 44 (x ^ 95780971304118053647396689196894323976171195136475135 % PP) (x ^ 17592186044415 % PP) _) gX7_stem_X1_raise rfl w9 rfl (by decide +kernel) ⟨rfl, rfl, by decide, by decide⟩ (by decide) rfl rfl (Nat.le_of_ble_eq_true rfl) (⟨w9, h8_run, h8_x44, jnd hnd [7, 5] rfl (by decide), by decide⟩) (fun F19 q20 => ?_)
  obtain ⟨n9, r9⟩ := q20
  rw [rs_pow] at n9
  have h9_run : jCo L F19 run (x ^ 1684996666696914987166688442938726917102321526408785780068975640575 % PP) := n9
  have h9_a := h8_a.fr (r9 a (jn hnd 1 [7] rfl rfl (by decide)))
  have h9_x2 := h8_x2.fr (r9 x2 (jn hnd 2 [7] rfl rfl (by decide)))
  have h9_x3 := h8_x3.fr (r9 x3 (jn hnd 3 [7] rfl rfl (by decide)))
  have h9_x22 := h8_x22.fr (r9 x22 (jn hnd 4 [7] rfl rfl (by decide)))
  have h9_x44 := h8_x44.fr (r9 x44 (jn hnd 5 [7] rfl rfl (by decide)))
  have h9_x88 := h8_x88.fr (r9 x88 (jn hnd 6 [7] rfl rfl (by decide)))
  have k9_oo := k8_oo.fr (r9 o (jn hnd 0 [7] rfl rfl (by decide)))
  have p9 := p8.fr (r9 pw (fun e => hpk run (by simp) (by simpa using e)))
  refine jr_aload_n hE dX7_stem_156 0 rfl ?_
  refine jr_get hE dX7_stem_157 f28 p9 rfl ?_
  refine jr_aload_n hE dX7_stem_160 0 rfl ?_
  refine jr_get hE dX7_stem_161 f28 p9 rfl ?_
  refine jr_iconst (v := (3 : Int32)) hE dX7_stem_164 (by decide) ?_
  refine jr_aload_n hE dX7_stem_165 0 rfl ?_
  refine jr_get hE dX7_stem_166 f16 p9 rfl ?_
  obtain ⟨lw10, w10⟩ := h9_run.cell
  refine jr_kVv (ci := 1) (n := 3) (As := [.ref run, .int (3 : Int32), .ref x3]) (rest := []) hE dX7_stem_169 (fun l => c_X1_raise l G run run x3 3 (x ^ 1684996666696914987166688442938726917102321526408785780068975640575 % PP) (x ^ 7 % PP) _) gX7_stem_X1_raise rfl w10 rfl (by decide +kernel) ⟨rfl, rfl, by decide, by decide⟩ (by decide) rfl rfl (Nat.le_of_ble_eq_true rfl) (⟨w10, h9_run, h9_x3, jnd hnd [7, 3] rfl (by decide), by decide⟩) (fun F21 q22 => ?_)
  obtain ⟨n10, r10⟩ := q22
  rw [rs_pow] at n10
  have h10_run : jCo L F21 run (x ^ 13479973333575319897333507543509815336818572211270286240551805124607 % PP) := n10
  have h10_a := h9_a.fr (r10 a (jn hnd 1 [7] rfl rfl (by decide)))
  have h10_x2 := h9_x2.fr (r10 x2 (jn hnd 2 [7] rfl rfl (by decide)))
  have h10_x3 := h9_x3.fr (r10 x3 (jn hnd 3 [7] rfl rfl (by decide)))
  have h10_x22 := h9_x22.fr (r10 x22 (jn hnd 4 [7] rfl rfl (by decide)))
  have h10_x44 := h9_x44.fr (r10 x44 (jn hnd 5 [7] rfl rfl (by decide)))
  have h10_x88 := h9_x88.fr (r10 x88 (jn hnd 6 [7] rfl rfl (by decide)))
  have k10_oo := k9_oo.fr (r10 o (jn hnd 0 [7] rfl rfl (by decide)))
  have p10 := p9.fr (r10 pw (fun e => hpk run (by simp) (by simpa using e)))
  refine jr_aload_n hE dX7_stem_172 0 rfl ?_
  refine jr_get hE dX7_stem_173 f28 p10 rfl ?_
  refine jr_aload_n hE dX7_stem_176 0 rfl ?_
  refine jr_get hE dX7_stem_177 f28 p10 rfl ?_
  refine jr_bipush (v := (23 : Int32)) hE dX7_stem_180 (by decide) ?_
  refine jr_aload_n hE dX7_stem_182 0 rfl ?_
  refine jr_get hE dX7_stem_183 f19 p10 rfl ?_
  obtain ⟨lw11, w11⟩ := h10_run.cell
  refine jr_kVv (ci := 1) (n := 3) (As := [.ref run, .int (23 : Int32), .ref x22]) (rest := []) hE dX7_stem_186 (fun l => c_X1_raise l G run run x22 23 (x ^ 13479973333575319897333507543509815336818572211270286240551805124607 % PP) (x ^ 4194303 % PP) _) gX7_stem_X1_raise rfl w11 rfl (by decide +kernel) ⟨rfl, rfl, by decide, by decide⟩ (by decide) rfl rfl (Nat.le_of_ble_eq_true rfl) (⟨w11, h10_run, h10_x22, jnd hnd [7, 4] rfl (by decide), by decide⟩) (fun F23 q24 => ?_)
  obtain ⟨n11, r11⟩ := q24
  rw [rs_pow] at n11
  have h11_run : jCo L F23 run (x ^ 113078212145816597093331040047546785012958969400039613319782796882723471359 % PP) := n11
  have h11_a := h10_a.fr (r11 a (jn hnd 1 [7] rfl rfl (by decide)))
  have h11_x2 := h10_x2.fr (r11 x2 (jn hnd 2 [7] rfl rfl (by decide)))
  have h11_x3 := h10_x3.fr (r11 x3 (jn hnd 3 [7] rfl rfl (by decide)))
  have h11_x22 := h10_x22.fr (r11 x22 (jn hnd 4 [7] rfl rfl (by decide)))
  have h11_x44 := h10_x44.fr (r11 x44 (jn hnd 5 [7] rfl rfl (by decide)))
  have h11_x88 := h10_x88.fr (r11 x88 (jn hnd 6 [7] rfl rfl (by decide)))
  have k11_oo := k10_oo.fr (r11 o (jn hnd 0 [7] rfl rfl (by decide)))
  have p11 := p10.fr (r11 pw (fun e => hpk run (by simp) (by simpa using e)))
  refine jr_aload_n hE dX7_stem_189 0 rfl ?_
  refine jr_get hE dX7_stem_190 f28 p11 rfl ?_
  refine jr_aload_n hE dX7_stem_193 0 rfl ?_
  refine jr_get hE dX7_stem_194 f28 p11 rfl ?_
  refine jr_iconst (v := (5 : Int32)) hE dX7_stem_197 (by decide) ?_
  refine jr_aload_n hE dX7_stem_198 2 rfl ?_
  obtain ⟨lw12, w12⟩ := h11_run.cell
  refine jr_kVv (ci := 1) (n := 3) (As := [.ref run, .int (5 : Int32), .ref a]) (rest := []) hE dX7_stem_199 (fun l => c_X1_raise l G run run a 5 (x ^ 113078212145816597093331040047546785012958969400039613319782796882723471359 % PP) (x ^ 1 % PP) _) gX7_stem_X1_raise rfl w12 rfl (by decide +kernel) ⟨rfl, rfl, by decide, by decide⟩ (by decide) rfl rfl (Nat.le_of_ble_eq_true rfl) (⟨w12, h11_run, h11_a, jnd hnd [7, 1] rfl (by decide), by decide⟩) (fun F25 q26 => ?_)
  obtain ⟨n12, r12⟩ := q26
  rw [rs_pow] at n12
  have h12_run : jCo L F25 run (x ^ 3618502788666131106986593281521497120414687020801267626233049500247151083489 % PP) := n12
  have h12_a := h11_a.fr (r12 a (jn hnd 1 [7] rfl rfl (by decide)))
  have h12_x2 := h11_x2.fr (r12 x2 (jn hnd 2 [7] rfl rfl (by decide)))
  have h12_x3 := h11_x3.fr (r12 x3 (jn hnd 3 [7] rfl rfl (by decide)))
  have h12_x22 := h11_x22.fr (r12 x22 (jn hnd 4 [7] rfl rfl (by decide)))
  have h12_x44 := h11_x44.fr (r12 x44 (jn hnd 5 [7] rfl rfl (by decide)))
  have h12_x88 := h11_x88.fr (r12 x88 (jn hnd 6 [7] rfl rfl (by decide)))
  have k12_oo := k11_oo.fr (r12 o (jn hnd 0 [7] rfl rfl (by decide)))
  have p12 := p11.fr (r12 pw (fun e => hpk run (by simp) (by simpa using e)))
  refine jr_aload_n hE dX7_stem_202 0 rfl ?_
  refine jr_get hE dX7_stem_203 f28 p12 rfl ?_
  refine jr_aload_n hE dX7_stem_206 0 rfl ?_
  refine jr_get hE dX7_stem_207 f28 p12 rfl ?_
  refine jr_iconst (v := (3 : Int32)) hE dX7_stem_210 (by decide) ?_
  refine jr_aload_n hE dX7_stem_211 0 rfl ?_
  refine jr_get hE dX7_stem_212 f10 p12 rfl ?_
  obtain ⟨lw13, w13⟩ := h12_run.cell
  refine jr_kVv (ci := 1) (n := 3) (As := [.ref run, .int (3 : Int32), .ref x2]) (rest := []) hE dX7_stem_215 (fun l => c_X1_raise l G run run x2 3 (x ^ 3618502788666131106986593281521497120414687020801267626233049500247151083489 % PP) (x ^ 3 % PP) _) gX7_stem_X1_raise rfl w13 rfl (by decide +kernel) ⟨rfl, rfl, by decide, by decide⟩ (by decide) rfl rfl (Nat.le_of_ble_eq_true rfl) (⟨w13, h12_run, h12_x2, jnd hnd [7, 2] rfl (by decide), by decide⟩) (fun F27 q28 => ?_)
  obtain ⟨n13, r13⟩ := q28
  rw [rs_pow] at n13
  have h13_run : jCo L F27 run (x ^ 28948022309329048855892746252171976963317496166410141009864396001977208667915 % PP) := n13
  have h13_a := h12_a.fr (r13 a (jn hnd 1 [7] rfl rfl (by decide)))
  have h13_x2 := h12_x2.fr (r13 x2 (jn hnd 2 [7] rfl rfl (by decide)))
  have h13_x3 := h12_x3.fr (r13 x3 (jn hnd 3 [7] rfl rfl (by decide)))
  have h13_x22 := h12_x22.fr (r13 x22 (jn hnd 4 [7] rfl rfl (by decide)))
  have h13_x44 := h12_x44.fr (r13 x44 (jn hnd 5 [7] rfl rfl (by decide)))
  have h13_x88 := h12_x88.fr (r13 x88 (jn hnd 6 [7] rfl rfl (by decide)))
  have k13_oo := k12_oo.fr (r13 o (jn hnd 0 [7] rfl rfl (by decide)))
  have p13 := p12.fr (r13 pw (fun e => hpk run (by simp) (by simpa using e)))
  refine jr_aload_n hE dX7_stem_218 1 rfl ?_
  refine jr_aload_n hE dX7_stem_219 0 rfl ?_
  refine jr_get hE dX7_stem_220 f28 p13 rfl ?_
  refine jr_kVv (ci := 1) (n := 1) (As := [.ref run]) (rest := []) hE dX7_stem_223 (fun l => c_X1_become l G o run _ _) gX7_stem_X1_become rfl k13_oo rfl (by decide +kernel) ⟨rfl, rfl, by decide, by decide⟩ (by decide) rfl rfl (Nat.le_of_ble_eq_true rfl) (⟨k13_oo, h13_run⟩) (fun F29 q30 => ?_)
  obtain ⟨hO, rl⟩ := q30
  have hO : jCo L F29 o (stemv x) := hO
  exact hR F29 _ _ dX7_stem_226 ⟨⟨hO, ⟨(p13.fr (rl pw (fun e => hpk o (by simp) (by simpa using e)))), (h13_x2.fr (rl x2 (jn hnd 2 [0] rfl rfl (by decide)))).cell, (h13_x3.fr (rl x3 (jn hnd 3 [0] rfl rfl (by decide)))).cell, (h13_x22.fr (rl x22 (jn hnd 4 [0] rfl rfl (by decide)))).cell, (h13_x44.fr (rl x44 (jn hnd 5 [0] rfl rfl (by decide)))).cell, (h13_x88.fr (rl x88 (jn hnd 6 [0] rfl rfl (by decide)))).cell, (h13_run.fr (rl run (jn hnd 7 [0] rfl rfl (by decide)))).cell⟩⟩, fun z hz => ((((((((((((((rl z (jnsub (V := [o]) hz [0] rfl)).trans (r13 z (jnsub (V := [run]) hz [6] rfl))).trans (r12 z (jnsub (V := [run]) hz [6] rfl))).trans (r11 z (jnsub (V := [run]) hz [6] rfl))).trans (r10 z (jnsub (V := [run]) hz [6] rfl))).trans (r9 z (jnsub (V := [run]) hz [6] rfl))).trans (r8 z (jnsub (V := [run]) hz [6] rfl))).trans (r7 z (jnsub (V := [x88]) hz [5] rfl))).trans (r6 z (jnsub (V := [x44]) hz [4] rfl))).trans (r5 z (jnsub (V := [x22]) hz [3] rfl))).trans (r4 z (jnsub (V := [run]) hz [6] rfl))).trans (r3 z (jnsub (V := [run]) hz [6] rfl))).trans (r2 z (jnsub (V := [run]) hz [6] rfl))).trans (r1 z (jnsub (V := [x3]) hz [2] rfl))).trans (r0 z (jnsub (V := [x2]) hz [1] rfl))⟩

