/-! MULTIPLES of a point, by windows of four bits -/
def mtJ (P : JP) : Nat → JP
  | 0 => P
  | 1 => P
  | n + 2 => plJ (mtJ P (n + 1)) P
def tws : Nat → JP → JP
  | 0, A => A
  | n + 1, A => twJ (tws n A)
def wnJ (M : Nat → JP) (kv : Nat) : Nat → JP → JP
  | 0, A => A
  | n + 1, A => wnJ M kv n (if kv / 16 ^ n % 16 = 0 then tws 4 A else plJ (tws 4 A) (M (kv / 16 ^ n % 16)))
def tmJ (O P : JP) (kv : Nat) : JP := wnJ (mtJ P) kv 64 (true, O.2)
def jTm (G : Nat → ClassId) (L : List Nat) (F : Nat → va_E) (cv g ms pw one u s h r t : Nat) (f : Nat → Option Nat) (m : Nat → Nat → Nat) (o ox oy oz ko kh kv : Nat) (P : Nat → JP) (O : JP) : Prop :=
  jCu L F cv g ms pw one u s h r t ∧ jF L F ms (.inl (G 7, 16, .inr (.inr (.inr (.inr f))))) ∧ (∀ j, j < 16 → jPt L F (m j 0) (m j 1) (m j 2) (m j 3) (P j)) ∧ jPt L F o ox oy oz O ∧ jSc G L F ko kh kv
theorem jTm.m {G : Nat → ClassId} {L : List Nat} {F F1 : Nat → va_E} {cv g ms pw one u s h r t o ox oy oz ko kh kv : Nat} {f : Nat → Option Nat} {m : Nat → Nat → Nat} {P : Nat → JP} {O Q : JP} (H : jTm G L F cv g ms pw one u s h r t f m o ox oy oz ko kh kv P O) (n1 : ∀ i j, i < 16 → j < 16 → i ≠ j → [cv, u, s, h, r, t, ms, m i 0, m i 1, m i 2, m i 3, m j 0, m j 1, m j 2, m j 3].Nodup) (n2 : ∀ i, i < 16 → [cv, u, s, h, r, t, ms, o, ox, oy, oz, m i 0, m i 1, m i 2, m i 3, ko, kh].Nodup) {i : Nat} (hi : i < 16) (c : jCu L F1 cv g ms pw one u s h r t) (q : jPt L F1 (m i 0) (m i 1) (m i 2) (m i 3) Q) (rr : ∀ z, z ∉ [u, s, h, r, t, m i 0, m i 1, m i 2, m i 3] → F1 z = F z) : jTm G L F1 cv g ms pw one u s h r t f m o ox oy oz ko kh kv (fun j => if j = i then Q else P j) O := by
  obtain ⟨a1, a2, a3, a4, a5⟩ := H
  have n := n2 i hi
  refine ⟨c, a2.fr (rr ms (jn n 6 [1, 2, 3, 4, 5, 11, 12, 13, 14] rfl rfl (by decide))), fun j hj => ?_, a4.fr (rr o (jn n 7 [1, 2, 3, 4, 5, 11, 12, 13, 14] rfl rfl (by decide))) (rr ox (jn n 8 [1, 2, 3, 4, 5, 11, 12, 13, 14] rfl rfl (by decide))) (rr oy (jn n 9 [1, 2, 3, 4, 5, 11, 12, 13, 14] rfl rfl (by decide))) (rr oz (jn n 10 [1, 2, 3, 4, 5, 11, 12, 13, 14] rfl rfl (by decide))), a5.fr (rr ko (jn n 15 [1, 2, 3, 4, 5, 11, 12, 13, 14] rfl rfl (by decide))) (rr kh (jn n 16 [1, 2, 3, 4, 5, 11, 12, 13, 14] rfl rfl (by decide)))⟩
  by_cases e : j = i
  · subst e
    simp only [if_pos]
    exact q
  · simp only [if_neg e]
    have k := n1 j i hj hi e
    exact (a3 j hj).fr (rr _ (jn k 7 [1, 2, 3, 4, 5, 11, 12, 13, 14] rfl rfl (by decide))) (rr _ (jn k 8 [1, 2, 3, 4, 5, 11, 12, 13, 14] rfl rfl (by decide))) (rr _ (jn k 9 [1, 2, 3, 4, 5, 11, 12, 13, 14] rfl rfl (by decide))) (rr _ (jn k 10 [1, 2, 3, 4, 5, 11, 12, 13, 14] rfl rfl (by decide)))
theorem jTm.o {G : Nat → ClassId} {L : List Nat} {F F1 : Nat → va_E} {cv g ms pw one u s h r t o ox oy oz ko kh kv : Nat} {f : Nat → Option Nat} {m : Nat → Nat → Nat} {P : Nat → JP} {O Q : JP} (H : jTm G L F cv g ms pw one u s h r t f m o ox oy oz ko kh kv P O) (n2 : ∀ i, i < 16 → [cv, u, s, h, r, t, ms, o, ox, oy, oz, m i 0, m i 1, m i 2, m i 3, ko, kh].Nodup) (c : jCu L F1 cv g ms pw one u s h r t) (q : jPt L F1 o ox oy oz Q) (rr : ∀ z, z ∉ [u, s, h, r, t, o, ox, oy, oz] → F1 z = F z) : jTm G L F1 cv g ms pw one u s h r t f m o ox oy oz ko kh kv P Q := by
  obtain ⟨a1, a2, a3, a4, a5⟩ := H
  have n0 := n2 0 (by decide)
  refine ⟨c, a2.fr (rr ms (jn n0 6 [1, 2, 3, 4, 5, 7, 8, 9, 10] rfl rfl (by decide))), fun j hj => ?_, q, a5.fr (rr ko (jn n0 15 [1, 2, 3, 4, 5, 7, 8, 9, 10] rfl rfl (by decide))) (rr kh (jn n0 16 [1, 2, 3, 4, 5, 7, 8, 9, 10] rfl rfl (by decide)))⟩
  have n := n2 j hj
  exact (a3 j hj).fr (rr _ (jn n 11 [1, 2, 3, 4, 5, 7, 8, 9, 10] rfl rfl (by decide))) (rr _ (jn n 12 [1, 2, 3, 4, 5, 7, 8, 9, 10] rfl rfl (by decide))) (rr _ (jn n 13 [1, 2, 3, 4, 5, 7, 8, 9, 10] rfl rfl (by decide))) (rr _ (jn n 14 [1, 2, 3, 4, 5, 7, 8, 9, 10] rfl rfl (by decide)))
def jFm (u s h r t o ox oy oz : Nat) (m : Nat → Nat → Nat) (F F0 : Nat → va_E) : Prop := ∀ z, z ∉ [u, s, h, r, t, o, ox, oy, oz] → (∀ i j, i < 16 → j < 4 → z ≠ m i j) → F z = F0 z
theorem jFm.m {u s h r t o ox oy oz : Nat} {m : Nat → Nat → Nat} {F F1 F0 : Nat → va_E} (H : jFm u s h r t o ox oy oz m F F0) {i : Nat} (hi : i < 16) (rr : ∀ z, z ∉ [u, s, h, r, t, m i 0, m i 1, m i 2, m i 3] → F1 z = F z) : jFm u s h r t o ox oy oz m F1 F0 := by
  intro z hz hm
  refine (rr z ?_).trans (H z hz hm)
  have e0 := hm i 0 hi (by decide)
  have e1 := hm i 1 hi (by decide)
  have e2 := hm i 2 hi (by decide)
  have e3 := hm i 3 hi (by decide)
  simp only [List.mem_cons, List.not_mem_nil, or_false, not_or] at hz ⊢
  exact ⟨hz.1, hz.2.1, hz.2.2.1, hz.2.2.2.1, hz.2.2.2.2.1, e0, e1, e2, e3⟩
theorem jFm.o {u s h r t o ox oy oz : Nat} {m : Nat → Nat → Nat} {F F1 F0 : Nat → va_E} (H : jFm u s h r t o ox oy oz m F F0) (rr : ∀ z, z ∉ [u, s, h, r, t, o, ox, oy, oz] → F1 z = F z) : jFm u s h r t o ox oy oz m F1 F0 := fun z hz hm => (rr z hz).trans (H z hz hm)
theorem mtJ_s {P : JP} {i : Nat} (h : 2 ≤ i) : mtJ P i = plJ (mtJ P (i - 1)) P := by
  match i, h with
  | n + 2, _ => rfl

set_option maxHeartbeats 4000000 in
set_option maxRecDepth 100000 in
theorem c_X2_times (l : Launch) (G : Nat → ClassId) (cv g ms pw one u s h r t o ox oy oz p px py pz ko kh kv : Nat) (f : Nat → Option Nat) (m : Nat → Nat → Nat) (O P : JP) : jKv l yX2_times wsX2_times ({ frames := 4, cells := 0, slots := 0, locals := 123 }) G [.ref cv, .ref o, .ref p, .ref ko] (fun L F => jCu L F cv g ms pw one u s h r t ∧ (∃ P0 : Nat → JP, jF L F ms (.inl (G 7, 16, .inr (.inr (.inr (.inr f))))) ∧ ∀ j, j < 16 → jPt L F (m j 0) (m j 1) (m j 2) (m j 3) (P0 j)) ∧ (∀ i, i < 16 → f i = some (m i 0)) ∧ jPt L F o ox oy oz O ∧ jPt L F p px py pz P ∧ jSc G L F ko kh kv ∧ kv < 2 ^ 256 ∧ (∀ i j, i < 16 → j < 16 → i ≠ j → [cv, u, s, h, r, t, ms, m i 0, m i 1, m i 2, m i 3, m j 0, m j 1, m j 2, m j 3].Nodup) ∧ (∀ i, i < 16 → [cv, u, s, h, r, t, ms, o, ox, oy, oz, m i 0, m i 1, m i 2, m i 3, ko, kh].Nodup) ∧ [p, px, py, pz, m 1 0, m 1 1, m 1 2, m 1 3].Nodup) (fun L F F1 => jCu L F1 cv g ms pw one u s h r t ∧ (∃ P0 : Nat → JP, jF L F1 ms (.inl (G 7, 16, .inr (.inr (.inr (.inr f))))) ∧ ∀ j, j < 16 → jPt L F1 (m j 0) (m j 1) (m j 2) (m j 3) (P0 j)) ∧ jPt L F1 o ox oy oz (tmJ O P kv) ∧ jSc G L F1 ko kh kv ∧ jFm u s h r t o ox oy oz m F1 F) := by
  refine jm_kv (cc := cX2_times) (maxL := 6) (by decide) rfl (Nat.le_of_ble_eq_true rfl) ?_
  intro E L F hE hR hpre
  have hE : jOk E G _ cX2_times 6 RX2 wsX2_times := hE

  have f16 : jFl RX2 wsX2_times 16 2 1 := ⟨rfl, by decide, by decide +kernel, by decide +kernel⟩
  have f82 : jFl RX2 wsX2_times 82 6 3 := ⟨rfl, by decide, by decide +kernel, by decide +kernel⟩
  obtain ⟨hCu, ⟨P0, ⟨hms, hT⟩⟩, hf, hO, hP, hK, hkv, n1, n2, n3⟩ := hpre
  have H0 : jTm G L F cv g ms pw one u s h r t f m o ox oy oz ko kh kv P0 O := ⟨hCu, hms, hT, hO, hK⟩
  have loop2 : ∀ (P2 : Nat → JP), (∀ j, 1 ≤ j → j < 16 → P2 j = mtJ P j) → ∀ (k : Nat) (F2 : Nat → va_E) (A : JP), k ≤ 64 → jTm G L F2 cv g ms pw one u s h r t f m o ox oy oz ko kh kv P2 A → wnJ (mtJ P) kv k A = tmJ O P kv → jFm u s h r t o ox oy oz m F2 F → J E L F2 0 0 71 [(4, .int (nI k - 1)), (0, .ref cv), (1, .ref o), (2, .ref p), (3, .ref ko)] [] := by
    intro P2 hv k
    induction k with
    | zero =>
      intro F2 A hk H he K
      refine jr_iload hE dX2_times_71 0 rfl ?_
      refine jr_if_lt (tgt := 134) hE dX2_times_73 (by decide) (fun c_73 => ?_) (fun c_73 => absurd (by decide) c_73)
      exact hR F2 _ _ dX2_times_134 ⟨H.1, ⟨P2, H.2.1, H.2.2.1⟩, by rw [← he]; exact H.2.2.2.1, H.2.2.2.2, K⟩
    | succ k ih =>
      intro F2 A hk H he K
      rw [nI_pred]
      have inner : ∀ (r0 j : Nat) (F3 : Nat → va_E) (B : JP), j + r0 = 4 → jTm G L F3 cv g ms pw one u s h r t f m o ox oy oz ko kh kv P2 B → B = tws j A → jFm u s h r t o ox oy oz m F3 F → J E L F3 0 0 79 [(5, .int (nI j)), (4, .int (nI k)), (0, .ref cv), (1, .ref o), (2, .ref p), (3, .ref ko)] [] := by
        intro r0
        induction r0 with
        | zero =>
          intro j F3 B hj H hB K
          refine jr_iload hE dX2_times_79 0 rfl ?_
          refine jr_iconst (v := (4 : Int32)) hE dX2_times_81 (by decide) ?_
          refine jr_icmp_ge (tgt := 96) hE dX2_times_82 (by decide) (fun c_82 => ?_) (fun c_82 => absurd (nI_le (a := 4) (by omega) (by omega)) c_82)
          refine jr_aload_n hE dX2_times_96 5 rfl ?_
          refine jr_iload hE dX2_times_97 1 rfl ?_
          refine jr_kVi (ci := 8) (n := 1) (As := [.int (nI k)]) (rest := []) hE dX2_times_99 (fun l => c_X8_digit l G ko kh kv k) gX2_times_X8_digit rfl H.2.2.2.2.ob rfl (by decide +kernel) ⟨rfl, rfl, by decide, by decide⟩ (by decide) rfl rfl (Nat.le_of_ble_eq_true rfl) (⟨H.2.2.2.2, by omega⟩) (fun r3 F1 q2 => ?_)
          obtain ⟨e, hr0⟩ := q2
          subst e
          subst hr0
          refine jr_istore (lv' := [(5, .int (nI (kv / 16 ^ k % 16))), (4, .int (nI k)), (0, .ref cv), (1, .ref o), (2, .ref p), (3, .ref ko)]) hE dX2_times_102 (by decide) rfl ?_
          have hdl : kv / 16 ^ k % 16 < 16 := Nat.mod_lt _ (by decide)
          obtain ⟨dv0, hdv⟩ : ∃ d, d = kv / 16 ^ k % 16 := ⟨_, rfl⟩
          rw [← hdv] at hdl ⊢
          refine jr_iload hE dX2_times_104 0 rfl ?_
          refine jr_if_le (tgt := 128) hE dX2_times_106 (by decide) (fun c106 => ?_) (fun c106 => ?_)
          · refine jr_iinc (v := nI k - 1) (lv' := [(4, .int (nI k - 1)), (5, .int (nI dv0)), (0, .ref cv), (1, .ref o), (2, .ref p), (3, .ref ko)]) hE dX2_times_128 1 rfl (im1 _) (by decide) rfl ?_
            refine jr_goto (tgt := 71) hE dX2_times_131 (by decide) ?_
            refine jr_lv (lv' := [(4, .int (nI k - 1)), (0, .ref cv), (1, .ref o), (2, .ref p), (3, .ref ko)]) [0, 2, 3, 4, 5] rfl ?_
            exact ih F3 _ (by omega) H (by rw [← he, wnJ, ← hdv, if_pos (show dv0 = 0 by
              rcases Nat.eq_zero_or_pos dv0 with q | q
              · exact q
              · exact absurd c106 (nI_nle q (by omega))), hB, show j = 4 by omega]) K
          · refine jr_iload hE dX2_times_109 0 rfl ?_
            refine jr_bipush (v := (16 : Int32)) hE dX2_times_111 (by decide) ?_
            refine jr_icmp_ge (tgt := 128) hE dX2_times_113 (by decide) (fun c_113 => absurd c_113 (nI_ge (b := 16) hdl (by decide))) (fun c_113 => ?_)
            refine jr_aload_n hE dX2_times_116 2 rfl ?_
            refine jr_aload_n hE dX2_times_117 3 rfl ?_
            refine jr_aload_n hE dX2_times_118 2 rfl ?_
            refine jr_get hE dX2_times_119 f16 H.1.1 rfl ?_
            refine jr_iload hE dX2_times_122 0 rfl ?_
            refine jr_aald (v := (m dv0 0)) hE dX2_times_124 H.2.1 rfl (vp_in_nI hdl (by decide)) (by rw [nI_clamp (by omega)]; exact hf dv0 hdl) ?_
            refine jr_kVv (ci := 2) (n := 2) (As := [.ref o, .ref (m dv0 0)]) (rest := []) hE dX2_times_125 (fun l => c_X2_plus l G cv g ms pw one u s h r t o ox oy oz (m dv0 0) (m dv0 1) (m dv0 2) (m dv0 3) _ _) gX2_times_X2_plus rfl H.1.1 rfl (by decide +kernel) ⟨rfl, rfl, by decide, by decide⟩ (by decide) rfl rfl (Nat.le_of_ble_eq_true rfl) (⟨H.1, H.2.2.2.1, H.2.2.1 dv0 hdl, jnd (n2 dv0 hdl) [0, 1, 2, 3, 4, 5, 7, 8, 9, 10, 11, 12, 13, 14] rfl (by decide)⟩) (fun F4 q5 => ?_)
            obtain ⟨c6, b6, r6⟩ := q5
            have H6 := H.o n2 c6 b6 r6
            have K6 := K.o r6
            refine jr_iinc (v := nI k - 1) (lv' := [(4, .int (nI k - 1)), (5, .int (nI dv0)), (0, .ref cv), (1, .ref o), (2, .ref p), (3, .ref ko)]) hE dX2_times_128 1 rfl (im1 _) (by decide) rfl ?_
            refine jr_goto (tgt := 71) hE dX2_times_131 (by decide) ?_
            refine jr_lv (lv' := [(4, .int (nI k - 1)), (0, .ref cv), (1, .ref o), (2, .ref p), (3, .ref ko)]) [0, 2, 3, 4, 5] rfl ?_
            exact ih F4 _ (by omega) H6 (by
              have hd0 : dv0 ≠ 0 := fun e => c106 (by rw [e]; decide)
              rw [← he, wnJ, ← hdv, if_neg hd0, hB, show j = 4 by omega, hv dv0 (by omega) hdl]) K6
        | succ r0 ihj =>
          intro j F3 B hj H hB K
          refine jr_iload hE dX2_times_79 0 rfl ?_
          refine jr_iconst (v := (4 : Int32)) hE dX2_times_81 (by decide) ?_
          refine jr_icmp_ge (tgt := 96) hE dX2_times_82 (by decide) (fun c_82 => absurd c_82 (nI_ge (b := 4) (by omega) (by decide))) (fun c_82 => ?_)
          refine jr_aload_n hE dX2_times_85 2 rfl ?_
          refine jr_aload_n hE dX2_times_86 3 rfl ?_
          refine jr_kVv (ci := 2) (n := 1) (As := [.ref o]) (rest := []) hE dX2_times_87 (fun l => c_X2_twice l G cv g ms pw one u s h r t o ox oy oz _) gX2_times_X2_twice rfl H.1.1 rfl (by decide +kernel) ⟨rfl, rfl, by decide, by decide⟩ (by decide) rfl rfl (Nat.le_of_ble_eq_true rfl) (⟨H.1, H.2.2.2.1, jnd (n2 0 (by decide)) [0, 1, 2, 3, 4, 5, 7, 8, 9, 10] rfl (by decide)⟩) (fun F1 q2 => ?_)
          obtain ⟨c5, b5, r5⟩ := q2
          have rr5 : ∀ z, z ∉ [u, s, h, r, t, o, ox, oy, oz] → F1 z = F3 z := fun z hz => r5 z (jnsub (V := [u, s, r, ox, oy, oz]) hz [0, 1, 3, 6, 7, 8] rfl)
          have H5 := H.o n2 c5 b5 rr5
          have K5 := K.o rr5
          refine jr_iinc (v := nI (j + 1)) (lv' := [(5, .int (nI (j + 1))), (4, .int (nI k)), (0, .ref cv), (1, .ref o), (2, .ref p), (3, .ref ko)]) hE dX2_times_90 0 rfl (nI_1 _) (by decide) rfl ?_
          refine jr_goto (tgt := 79) hE dX2_times_93 (by decide) ?_
          exact ihj (j + 1) F1 _ (by omega) H5 (by rw [hB]; rfl) K5
      refine jr_iload hE dX2_times_71 0 rfl ?_
      refine jr_if_lt (tgt := 134) hE dX2_times_73 (by decide) (fun c_73 => absurd c_73 (nI_pos (by omega))) (fun c_73 => ?_)
      refine jr_iconst (v := (0 : Int32)) hE dX2_times_76 (by decide) ?_
      refine jr_istore (lv' := [(5, .int (0 : Int32)), (4, .int (nI k)), (0, .ref cv), (1, .ref o), (2, .ref p), (3, .ref ko)]) hE dX2_times_77 (by decide) rfl ?_
      exact inner 4 0 F2 A rfl H rfl K
  have loop1 : ∀ (r0 i : Nat) (F2 : Nat → va_E) (P2 : Nat → JP), i + r0 = 16 → 2 ≤ i → jTm G L F2 cv g ms pw one u s h r t f m o ox oy oz ko kh kv P2 O → (∀ j, 1 ≤ j → j < i → P2 j = mtJ P j) → jFm u s h r t o ox oy oz m F2 F → J E L F2 0 0 13 [(4, .int (nI i)), (0, .ref cv), (1, .ref o), (2, .ref p), (3, .ref ko)] [] := by
    intro r0
    induction r0 with
    | zero =>
      intro i F2 P2 hir h2 H hv K
      refine jr_iload hE dX2_times_13 0 rfl ?_
      refine jr_bipush (v := (16 : Int32)) hE dX2_times_15 (by decide) ?_
      refine jr_icmp_ge (tgt := 62) hE dX2_times_17 (by decide) (fun c_17 => ?_) (fun c_17 => absurd (nI_le (a := 16) (by omega) (by omega)) c_17)
      refine jr_aload_n hE dX2_times_62 2 rfl ?_
      refine jr_iconst (v := (1 : Int32)) hE dX2_times_63 (by decide) ?_
      refine jr_put (ty := .boolean) hE dX2_times_64 f82 H.2.2.2.1.1 rfl (by decide +kernel) (bi_nar true) (bi_fit true) (Nat.le_of_ble_eq_true rfl) (fun F1 g2 u3 => ?_)
      have g2 : jF L F1 o (.inr (6, [.ref ox, .ref oy, .ref oz, .int (1 : Int32)])) := g2
      have g4 := H.1.1.upk u3 H.2.2.2.1.1 (Nat.ne_of_beq_eq_false rfl)
      have g5 := H.2.1.upk u3 H.2.2.2.1.1 (Nat.ne_of_beq_eq_false rfl)
      refine jr_bipush (v := (63 : Int32)) hE dX2_times_67 (by decide) ?_
      refine jr_istore (lv' := [(4, .int (63 : Int32)), (0, .ref cv), (1, .ref o), (2, .ref p), (3, .ref ko)]) hE dX2_times_69 (by decide) rfl ?_
      have rr : ∀ z, z ∉ [u, s, h, r, t, o, ox, oy, oz] → F1 z = F2 z := fun z hz => u3 z (jne hz 5 rfl)
      have H4 : jTm G L F1 cv g ms pw one u s h r t f m o ox oy oz ko kh kv P2 (true, O.2) := H.o n2 (H.1.fr (u3 cv (jn2 (n2 0 (by decide)) 0 7 rfl rfl (by decide))) (u3 u (jn2 (n2 0 (by decide)) 1 7 rfl rfl (by decide))) (u3 s (jn2 (n2 0 (by decide)) 2 7 rfl rfl (by decide))) (u3 h (jn2 (n2 0 (by decide)) 3 7 rfl rfl (by decide))) (u3 r (jn2 (n2 0 (by decide)) 4 7 rfl rfl (by decide))) (u3 t (jn2 (n2 0 (by decide)) 5 7 rfl rfl (by decide)))) ⟨g2, H.2.2.2.1.2.1.fr (u3 ox (jn2 (n2 0 (by decide)) 8 7 rfl rfl (by decide))), H.2.2.2.1.2.2.1.fr (u3 oy (jn2 (n2 0 (by decide)) 9 7 rfl rfl (by decide))), H.2.2.2.1.2.2.2.fr (u3 oz (jn2 (n2 0 (by decide)) 10 7 rfl rfl (by decide)))⟩ rr
      exact loop2 P2 (fun j hj hj2 => hv j hj (by omega)) 64 F1 (true, O.2) (by decide) H4 rfl (K.o rr)
    | succ r0 ih =>
      intro i F2 P2 hir h2 H hv K
      have hi : i < 16 := by omega
      refine jr_iload hE dX2_times_13 0 rfl ?_
      refine jr_bipush (v := (16 : Int32)) hE dX2_times_15 (by decide) ?_
      refine jr_icmp_ge (tgt := 62) hE dX2_times_17 (by decide) (fun c_17 => absurd c_17 (nI_ge (b := 16) (by omega) (by decide))) (fun c_17 => ?_)
      refine jr_aload_n hE dX2_times_20 1 rfl ?_
      refine jr_get hE dX2_times_21 f16 H.1.1 rfl ?_
      refine jr_iload hE dX2_times_24 0 rfl ?_
      refine jr_aald (v := (m i 0)) hE dX2_times_26 H.2.1 rfl (vp_in_nI (by omega) (by decide)) (by rw [nI_clamp (by omega)]; exact hf i hi) ?_
      refine jr_aload_n hE dX2_times_27 1 rfl ?_
      refine jr_get hE dX2_times_28 f16 H.1.1 rfl ?_
      refine jr_iload hE dX2_times_31 0 rfl ?_
      refine jr_iconst (v := (1 : Int32)) hE dX2_times_33 (by decide) ?_
      refine jr_isub (z := nI (i - 1)) hE dX2_times_34 (pk_sub (b := 1) (by omega)) ?_
      refine jr_aald (v := (m (i - 1) 0)) hE dX2_times_35 H.2.1 rfl (vp_in_nI (by omega) (by decide)) (by rw [nI_clamp (by omega)]; exact hf (i - 1) (by omega)) ?_
      refine jr_kVv (ci := 6) (n := 1) (As := [.ref (m (i - 1) 0)]) (rest := []) hE dX2_times_36 (fun l => c_X6_become l G (m i 0) (m i 1) (m i 2) (m i 3) (m (i - 1) 0) (m (i - 1) 1) (m (i - 1) 2) (m (i - 1) 3) _ _) gX2_times_X6_become rfl ((H.2.2.1 i hi).1) rfl (by decide +kernel) ⟨rfl, rfl, by decide, by decide⟩ (by decide) rfl rfl (Nat.le_of_ble_eq_true rfl) (⟨H.2.2.1 i hi, H.2.2.1 (i - 1) (by omega), jnd (n1 i (i - 1) hi (by omega) (by omega)) [7, 8, 9, 10, 11, 12, 13, 14] rfl (by decide)⟩) (fun F1 q2 => ?_)
      obtain ⟨b2, r2⟩ := q2
      have H2 : jTm G L F1 cv g ms pw one u s h r t f m o ox oy oz ko kh kv (fun j => if j = i then P2 (i - 1) else P2 j) O := H.m n1 n2 hi (H.1.fr (r2 cv (jn (n2 i hi) 0 [11, 12, 13, 14] rfl rfl (by decide))) (r2 u (jn (n2 i hi) 1 [11, 12, 13, 14] rfl rfl (by decide))) (r2 s (jn (n2 i hi) 2 [11, 12, 13, 14] rfl rfl (by decide))) (r2 h (jn (n2 i hi) 3 [11, 12, 13, 14] rfl rfl (by decide))) (r2 r (jn (n2 i hi) 4 [11, 12, 13, 14] rfl rfl (by decide))) (r2 t (jn (n2 i hi) 5 [11, 12, 13, 14] rfl rfl (by decide)))) b2 (fun z hz => r2 z (jnsub (V := [m i 0, m i 1, m i 2, m i 3]) hz [5, 6, 7, 8] rfl))
      have K2 := K.m hi (fun z hz => r2 z (jnsub (V := [m i 0, m i 1, m i 2, m i 3]) hz [5, 6, 7, 8] rfl))
      have t1 := H2.2.2.1 1 (by decide)
      simp only [if_neg (show ¬ (1 : Nat) = i by omega)] at t1
      refine jr_aload_n hE dX2_times_39 1 rfl ?_
      refine jr_aload_n hE dX2_times_40 1 rfl ?_
      refine jr_get hE dX2_times_41 f16 H2.1.1 rfl ?_
      refine jr_iload hE dX2_times_44 0 rfl ?_
      refine jr_aald (v := (m i 0)) hE dX2_times_46 H2.2.1 rfl (vp_in_nI (by omega) (by decide)) (by rw [nI_clamp (by omega)]; exact hf i hi) ?_
      refine jr_aload_n hE dX2_times_47 1 rfl ?_
      refine jr_get hE dX2_times_48 f16 H2.1.1 rfl ?_
      refine jr_iconst (v := (1 : Int32)) hE dX2_times_51 (by decide) ?_
      refine jr_aald (v := (m 1 0)) hE dX2_times_52 H2.2.1 rfl (vp_in_nI (n := 1) (by decide) (by decide)) (hf 1 (by decide)) ?_
      refine jr_kVv (ci := 2) (n := 2) (As := [.ref (m i 0), .ref (m 1 0)]) (rest := []) hE dX2_times_53 (fun l => c_X2_plus l G cv g ms pw one u s h r t (m i 0) (m i 1) (m i 2) (m i 3) (m 1 0) (m 1 1) (m 1 2) (m 1 3) _ _) gX2_times_X2_plus rfl H2.1.1 rfl (by decide +kernel) ⟨rfl, rfl, by decide, by decide⟩ (by decide) rfl rfl (Nat.le_of_ble_eq_true rfl) (⟨H2.1, by have := H2.2.2.1 i hi; simp only [if_pos] at this; exact this, t1, jnd (n1 i 1 hi (by decide) (by omega)) [0, 1, 2, 3, 4, 5, 7, 8, 9, 10, 11, 12, 13, 14] rfl (by decide)⟩) (fun F3 q4 => ?_)
      obtain ⟨c3, b3, r3⟩ := q4
      have H3 := H2.m n1 n2 hi c3 b3 r3
      have K3 := K2.m hi r3
      refine jr_iinc (v := nI (i + 1)) (lv' := [(4, .int (nI (i + 1))), (0, .ref cv), (1, .ref o), (2, .ref p), (3, .ref ko)]) hE dX2_times_56 0 rfl (nI_1 _) (by decide) rfl ?_
      refine jr_goto (tgt := 13) hE dX2_times_59 (by decide) ?_
      exact ih (i + 1) F3 _ (by omega) (by omega) H3 (fun j hj hj2 => by
        by_cases e : j = i
        · subst e
          simp only [if_pos]
          rw [mtJ_s h2, hv (j - 1) (by omega) (by omega), hv 1 (by decide) (by omega)]
          rfl
        · simp only [if_neg e]
          exact hv j hj (by omega)) K3
  refine jr_aload_n hE dX2_times_0 0 rfl ?_
  refine jr_get hE dX2_times_1 f16 H0.1.1 rfl ?_
  refine jr_iconst (v := (1 : Int32)) hE dX2_times_4 (by decide) ?_
  refine jr_aald (v := (m 1 0)) hE dX2_times_5 H0.2.1 rfl (vp_in_nI (n := 1) (by decide) (by decide)) (hf 1 (by decide)) ?_
  refine jr_aload_n hE dX2_times_6 2 rfl ?_
  refine jr_kVv (ci := 6) (n := 1) (As := [.ref p]) (rest := []) hE dX2_times_7 (fun l => c_X6_become l G (m 1 0) (m 1 1) (m 1 2) (m 1 3) p px py pz (P0 1) P) gX2_times_X6_become rfl ((H0.2.2.1 1 (by decide)).1) rfl (by decide +kernel) ⟨rfl, rfl, by decide, by decide⟩ (by decide) rfl rfl (Nat.le_of_ble_eq_true rfl) (⟨H0.2.2.1 1 (by decide), hP, jnd n3 [4, 5, 6, 7, 0, 1, 2, 3] rfl (by decide)⟩) (fun F1 q2 => ?_)
  obtain ⟨b1, r1⟩ := q2
  have H1 : jTm G L F1 cv g ms pw one u s h r t f m o ox oy oz ko kh kv (fun j => if j = 1 then P else P0 j) O := H0.m n1 n2 (by decide) (H0.1.fr (r1 cv (jn (n2 1 (by decide)) 0 [11, 12, 13, 14] rfl rfl (by decide))) (r1 u (jn (n2 1 (by decide)) 1 [11, 12, 13, 14] rfl rfl (by decide))) (r1 s (jn (n2 1 (by decide)) 2 [11, 12, 13, 14] rfl rfl (by decide))) (r1 h (jn (n2 1 (by decide)) 3 [11, 12, 13, 14] rfl rfl (by decide))) (r1 r (jn (n2 1 (by decide)) 4 [11, 12, 13, 14] rfl rfl (by decide))) (r1 t (jn (n2 1 (by decide)) 5 [11, 12, 13, 14] rfl rfl (by decide)))) b1 (fun z hz => r1 z (jnsub (V := [m 1 0, m 1 1, m 1 2, m 1 3]) hz [5, 6, 7, 8] rfl))
  have K1 : jFm u s h r t o ox oy oz m F1 F := jFm.m (fun _ _ _ => rfl) (by decide) (fun z hz => r1 z (jnsub (V := [m 1 0, m 1 1, m 1 2, m 1 3]) hz [5, 6, 7, 8] rfl))
  refine jr_iconst (v := (2 : Int32)) hE dX2_times_10 (by decide) ?_
  refine jr_istore (lv' := [(4, .int (2 : Int32)), (0, .ref cv), (1, .ref o), (2, .ref p), (3, .ref ko)]) hE dX2_times_11 (by decide) rfl ?_
  exact loop1 14 2 F1 _ rfl (Nat.le_refl 2) H1 (fun j hj hj2 => by rw [show j = 1 by omega]; rfl) K1

