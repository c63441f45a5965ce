/-- the 33 bytes of a settled point -/
def ptb (P : JP) : List Nat := if P.1 = true then List.replicate 33 0 else (if P.2.2.1 % 2 = 1 then 3 else 2) :: bex P.2.1 32
theorem ptb_len (P : JP) : (ptb P).length = 33 := by
  unfold ptb
  split
  · simp
  · simp [bex_len]

theorem ptb_s {P : JP} (h : P.1 = false) {b : Nat} (hb : (if P.2.2.1 % 2 = 1 then 3 else 2) = b) : ptb P = [b] ++ bex P.2.1 32 := by
  unfold ptb
  rw [if_neg (by rw [h]; decide), hb]; rfl
theorem ptb_n {P : JP} (h : P.1 = true) : ptb P = List.replicate 33 0 := if_pos h

set_option maxHeartbeats 4000000 in
set_option maxRecDepth 100000 in
theorem c_X6_addTo (l : Launch) (G : Nat → ClassId) (p px py pz ob hb cap : Nat) (P : JP) (bs : List Nat) : jKv l yX6_addTo wsX6_addTo ({ frames := 3, cells := 0, slots := 0, locals := 71 }) G [.ref p, .ref ob] (fun L F => jPt L F p px py pz P ∧ jBy G L F ob hb cap bs ∧ bs.length + 33 ≤ cap ∧ [p, px, py, pz, ob, hb].Nodup) (fun L F F1 => jPt L F1 p px py pz P ∧ jBy G L F1 ob hb cap (bs ++ ptb P) ∧ ∀ z, z ∉ [px, py, ob, hb] → F1 z = F z) := by
  refine jm_kv (cc := cX6_addTo) (maxL := 3) (by decide) rfl (Nat.le_of_ble_eq_true rfl) ?_
  intro E L F hE hR hpre
  have hE : jOk E G _ cX6_addTo 3 RX6 wsX6_addTo := hE

  have f22 : jFl RX6 wsX6_addTo 22 6 3 := ⟨rfl, by decide, by decide +kernel, by decide +kernel⟩
  have f16 : jFl RX6 wsX6_addTo 16 6 1 := ⟨rfl, by decide, by decide +kernel, by decide +kernel⟩
  have f10 : jFl RX6 wsX6_addTo 10 6 0 := ⟨rfl, by decide, by decide +kernel, by decide +kernel⟩
  obtain ⟨⟨hp0, hp1, hp2, hp3⟩, hB, hlen, hnd⟩ := hpre
  have hcp := hB.cap
  have loop : P.1 = true → ∀ (r0 i : Nat) (F2 : Nat → va_E), i + r0 = 33 → jBy G L F2 ob hb cap (bs ++ List.replicate i 0) → bs.length + i + r0 ≤ cap → (∀ z, z ∉ [ob, hb] → F2 z = F z) → jPt L F2 p px py pz P → J E L F2 0 0 9 [(2, .int (nI i)), (0, .ref p), (1, .ref ob)] [] := by
    intro hn r0
    induction r0 with
    | zero =>
      intro i F2 hi hB hl hfr hPt
      refine jr_iload_n hE dX6_addTo_9 0 rfl ?_
      refine jr_bipush (v := (33 : Int32)) hE dX6_addTo_10 (by decide) ?_
      refine jr_icmp_ge (tgt := 26) hE dX6_addTo_12 (by decide) (fun c_12 => ?_) (fun c_12 => absurd (nI_le (a := 33) (by omega) (by omega)) c_12)
      exact hR F2 _ _ dX6_addTo_26 ⟨hPt, by rw [ptb_n hn, show 33 = i by omega]; exact hB, fun z hz => hfr z (jnsub (V := [ob, hb]) hz [2, 3] rfl)⟩
    | succ r0 ih =>
      intro i F2 hi hB hl hfr hPt
      refine jr_iload_n hE dX6_addTo_9 0 rfl ?_
      refine jr_bipush (v := (33 : Int32)) hE dX6_addTo_10 (by decide) ?_
      refine jr_icmp_ge (tgt := 26) hE dX6_addTo_12 (by decide) (fun c_12 => absurd c_12 (nI_ge (b := 33) (by omega) (by decide))) (fun c_12 => ?_)
      refine jr_aload_n hE dX6_addTo_15 2 rfl ?_
      refine jr_iconst (v := (0 : Int32)) hE dX6_addTo_16 (by decide) ?_
      refine jr_kVv (ci := 0) (n := 1) (As := [.int (0 : Int32)]) (rest := []) hE dX6_addTo_17 (fun l => c_X0_add l G ob hb cap _ 0) gX6_addTo_X0_add rfl hB.ob rfl (by decide +kernel) ⟨rfl, rfl, by decide, by decide⟩ (by decide) rfl rfl (Nat.le_of_ble_eq_true rfl) (⟨hB, by simp only [List.length_append, List.length_replicate]; omega⟩) (fun F1 q2 => ?_)
      obtain ⟨hB1, fr1⟩ := q2
      refine jr_iinc (v := nI (i + 1)) (lv' := [(2, .int (nI (i + 1))), (0, .ref p), (1, .ref ob)]) hE dX6_addTo_20 0 rfl (nI_1 _) (by decide) rfl ?_
      refine jr_goto (tgt := 9) hE dX6_addTo_23 (by decide) ?_
      exact ih (i + 1) F1 (by omega) (by rw [List.replicate_succ', ← List.append_assoc]; exact hB1) (by omega) (fun z hz => (fr1 z hz).trans (hfr z hz)) (hPt.fr (fr1 p (jn hnd 0 [4, 5] rfl rfl (by decide))) (fr1 px (jn hnd 1 [4, 5] rfl rfl (by decide))) (fr1 py (jn hnd 2 [4, 5] rfl rfl (by decide))) (fr1 pz (jn hnd 3 [4, 5] rfl rfl (by decide))))
  refine jr_aload_n hE dX6_addTo_0 0 rfl ?_
  refine jr_get hE dX6_addTo_1 f22 hp0 rfl ?_
  refine jr_if_eq (tgt := 27) hE dX6_addTo_4 (by decide) (fun c4 => ?_) (fun c4 => ?_)
  · have hn := bi_eq c4
    refine jr_aload_n hE dX6_addTo_27 1 rfl ?_
    refine jr_aload_n hE dX6_addTo_28 0 rfl ?_
    refine jr_get hE dX6_addTo_29 f16 hp0 rfl ?_
    obtain ⟨lw1T, w1T⟩ := hp2.cell
    refine jr_kVi (ci := 1) (n := 0) (As := []) (rest := [.ref ob]) hE dX6_addTo_32 (fun l => c_X1_isOdd l G py P.2.2.1) gX6_addTo_X1_isOdd rfl w1T rfl (by decide +kernel) ⟨rfl, rfl, by decide, by decide⟩ (by decide) rfl rfl (Nat.le_of_ble_eq_true rfl) (hp2) (fun r5 F3 q4 => ?_)
    have l2T := co_lt hp2
    obtain ⟨d2T, r2T, rfl⟩ := q4
    have p2T := d2T.co' l2T
    have h1T_px := hp1.fr (r2T px (jn hnd 1 [2] rfl rfl (by decide)))
    have h1T_pz := hp3.fr (r2T pz (jn hnd 3 [2] rfl rfl (by decide)))
    have h1T_ob := hB.fr (r2T ob (jn hnd 4 [2] rfl rfl (by decide))) (r2T hb (jn hnd 5 [2] rfl rfl (by decide)))
    have g1T_p := hp0.fr (r2T p (jn hnd 0 [2] rfl rfl (by decide)))
    refine jr_if_eq (tgt := 42) hE dX6_addTo_35 (by decide) (fun c35 => ?_) (fun c35 => ?_)
    · refine jr_iconst (v := (2 : Int32)) hE dX6_addTo_42 (by decide) ?_
      refine jr_kVv (ci := 0) (n := 1) (As := [.int (2 : Int32)]) (rest := []) hE dX6_addTo_43 (fun l => c_X0_add l G ob hb cap bs 2) gX6_addTo_X0_add rfl h1T_ob.ob rfl (by decide +kernel) ⟨rfl, rfl, by decide, by decide⟩ (by decide) rfl rfl (Nat.le_of_ble_eq_true rfl) (⟨h1T_ob, by omega⟩) (fun F7 q8 => ?_)
      obtain ⟨a6TT, r6TT⟩ := q8
      have a6TT : jBy G L F7 ob hb cap (bs ++ [2]) := a6TT
      have h2TT_px := h1T_px.fr (r6TT px (jn hnd 1 [4, 5] rfl rfl (by decide)))
      have h2TT_pz := h1T_pz.fr (r6TT pz (jn hnd 3 [4, 5] rfl rfl (by decide)))
      have h2TT_py := p2T.fr (r6TT py (jn hnd 2 [4, 5] rfl rfl (by decide)))
      have g2TT_p := g1T_p.fr (r6TT p (jn hnd 0 [4, 5] rfl rfl (by decide)))
      refine jr_aload_n hE dX6_addTo_46 0 rfl ?_
      refine jr_get hE dX6_addTo_47 f10 g2TT_p rfl ?_
      refine jr_aload_n hE dX6_addTo_50 1 rfl ?_
      obtain ⟨lw10TT, w10TT⟩ := h2TT_px.cell
      refine jr_kVv (ci := 1) (n := 1) (As := [.ref ob]) (rest := []) hE dX6_addTo_51 (fun l => c_X1_addTo l G px ob hb cap P.2.1 (bs ++ [2])) gX6_addTo_X1_addTo rfl w10TT rfl (by decide +kernel) ⟨rfl, rfl, by decide, by decide⟩ (by decide) rfl rfl (Nat.le_of_ble_eq_true rfl) (⟨h2TT_px, a6TT, by simp only [List.length_append, List.length_singleton]; omega, jnd hnd [1, 4, 5] rfl (by decide)⟩) (fun F11 q12 => ?_)
      have l9TT := co_lt h2TT_px
      obtain ⟨d9TT, a9TT, r9TT⟩ := q12
      have p9TT := d9TT.co' l9TT
      have h3TT_pz := h2TT_pz.fr (r9TT pz (jn hnd 3 [1, 4, 5] rfl rfl (by decide)))
      have h3TT_py := h2TT_py.fr (r9TT py (jn hnd 2 [1, 4, 5] rfl rfl (by decide)))
      have g3TT_p := g2TT_p.fr (r9TT p (jn hnd 0 [1, 4, 5] rfl rfl (by decide)))
      exact hR F11 _ _ dX6_addTo_54 ⟨⟨g3TT_p, p9TT, h3TT_py, h3TT_pz⟩, by rw [ptb_s hn (if_neg (b2i_0 c35))]; have q := a9TT; rw [List.append_assoc] at q; exact q, fun z hz => (r9TT z (jnsub (V := [px, ob, hb]) hz [0, 2, 3] rfl)).trans ((r6TT z (jnsub (V := [ob, hb]) hz [2, 3] rfl)).trans (r2T z (jnsub (V := [py]) hz [1] rfl)))⟩
    · refine jr_iconst (v := (3 : Int32)) hE dX6_addTo_38 (by decide) ?_
      refine jr_goto (tgt := 43) hE dX6_addTo_39 (by decide) ?_
      refine jr_kVv (ci := 0) (n := 1) (As := [.int (3 : Int32)]) (rest := []) hE dX6_addTo_43 (fun l => c_X0_add l G ob hb cap bs 3) gX6_addTo_X0_add rfl h1T_ob.ob rfl (by decide +kernel) ⟨rfl, rfl, by decide, by decide⟩ (by decide) rfl rfl (Nat.le_of_ble_eq_true rfl) (⟨h1T_ob, by omega⟩) (fun F14 q15 => ?_)
      obtain ⟨a13TF, r13TF⟩ := q15
      have a13TF : jBy G L F14 ob hb cap (bs ++ [3]) := a13TF
      have h2TF_px := h1T_px.fr (r13TF px (jn hnd 1 [4, 5] rfl rfl (by decide)))
      have h2TF_pz := h1T_pz.fr (r13TF pz (jn hnd 3 [4, 5] rfl rfl (by decide)))
      have h2TF_py := p2T.fr (r13TF py (jn hnd 2 [4, 5] rfl rfl (by decide)))
      have g2TF_p := g1T_p.fr (r13TF p (jn hnd 0 [4, 5] rfl rfl (by decide)))
      refine jr_aload_n hE dX6_addTo_46 0 rfl ?_
      refine jr_get hE dX6_addTo_47 f10 g2TF_p rfl ?_
      refine jr_aload_n hE dX6_addTo_50 1 rfl ?_
      obtain ⟨lw17TF, w17TF⟩ := h2TF_px.cell
      refine jr_kVv (ci := 1) (n := 1) (As := [.ref ob]) (rest := []) hE dX6_addTo_51 (fun l => c_X1_addTo l G px ob hb cap P.2.1 (bs ++ [3])) gX6_addTo_X1_addTo rfl w17TF rfl (by decide +kernel) ⟨rfl, rfl, by decide, by decide⟩ (by decide) rfl rfl (Nat.le_of_ble_eq_true rfl) (⟨h2TF_px, a13TF, by simp only [List.length_append, List.length_singleton]; omega, jnd hnd [1, 4, 5] rfl (by decide)⟩) (fun F18 q19 => ?_)
      have l16TF := co_lt h2TF_px
      obtain ⟨d16TF, a16TF, r16TF⟩ := q19
      have p16TF := d16TF.co' l16TF
      have h3TF_pz := h2TF_pz.fr (r16TF pz (jn hnd 3 [1, 4, 5] rfl rfl (by decide)))
      have h3TF_py := h2TF_py.fr (r16TF py (jn hnd 2 [1, 4, 5] rfl rfl (by decide)))
      have g3TF_p := g2TF_p.fr (r16TF p (jn hnd 0 [1, 4, 5] rfl rfl (by decide)))
      exact hR F18 _ _ dX6_addTo_54 ⟨⟨g3TF_p, p16TF, h3TF_py, h3TF_pz⟩, by rw [ptb_s hn (if_pos (b2i_1 c35))]; have q := a16TF; rw [List.append_assoc] at q; exact q, fun z hz => (r16TF z (jnsub (V := [px, ob, hb]) hz [0, 2, 3] rfl)).trans ((r13TF z (jnsub (V := [ob, hb]) hz [2, 3] rfl)).trans (r2T z (jnsub (V := [py]) hz [1] rfl)))⟩
  · have hn := bi_ne c4
    refine jr_iconst (v := (0 : Int32)) hE dX6_addTo_7 (by decide) ?_
    refine jr_istore_n (lv' := [(2, .int (0 : Int32)), (0, .ref p), (1, .ref ob)]) hE dX6_addTo_8 (by decide) rfl ?_
    exact loop hn 33 0 F (by decide) (by simpa using hB) (by omega) (fun _ _ => rfl) ⟨hp0, hp1, hp2, hp3⟩

