/-! Single: hideSecret, drawNonce, makeSignature -/
theorem pb_x {A : EP} (h : A ≠ none) : ((pbE A).drop 1).take 32 = bex (exE A) 32 := by
  obtain ⟨x, rfl⟩ := Option.ne_none_iff_exists'.mp h
  show (bex x.1 32).take 32 = _
  rw [List.take_of_length_le (by rw [bex_len]; exact Nat.le_refl _)]
  rfl
theorem pb_3 {A : EP} (h : A ≠ none) : (pbE A).getD 0 0 = 3 ↔ eyN A % 2 = 1 := by
  obtain ⟨x, rfl⟩ := Option.ne_none_iff_exists'.mp h
  have e : (pbE (some x)).getD 0 0 = if x.2 % 2 = 1 then 3 else 2 := rfl
  rw [e]
  show _ ↔ x.2 % 2 = 1
  split
  · rename_i q
    exact ⟨fun _ => q, fun _ => rfl⟩
  · rename_i q
    exact ⟨fun z => absurd z (by decide), fun z => absurd z q⟩
/-- the digest with its first bytes turned -/
def xk (D E : List Nat) (i : Nat) : List Nat := (List.range 32).map (fun t => if t < i then E.getD t 0 ^^^ D.getD t 0 else D.getD t 0)
theorem xk_len (D E : List Nat) (i : Nat) : (xk D E i).length = 32 := by simp [xk]
theorem xk_get {D E : List Nat} {i t : Nat} (h : t < 32) : (xk D E i).getD t 0 = if t < i then E.getD t 0 ^^^ D.getD t 0 else D.getD t 0 := by
  simp [xk, List.getD, List.getElem?_map, List.getElem?_range h]
theorem xk_0 {D E : List Nat} (h : D.length = 32) : xk D E 0 = D := by
  apply List.ext_getElem
  · rw [xk_len, h]
  · intro t h1 h2
    have e := xk_get (D := D) (E := E) (i := 0) (t := t) (by omega)
    rw [if_neg (Nat.not_lt_zero t), gD_in _ h1, gD_in _ h2] at e
    exact e
theorem xk_s {D E : List Nat} {i : Nat} (h : i < 32) : (xk D E i).set i ((xk D E i).getD i 0 ^^^ E.getD i 0) = xk D E (i + 1) := by
  apply List.ext_getElem
  · rw [List.length_set, xk_len, xk_len]
  · intro t h1 h2
    have ht : t < 32 := by rw [xk_len] at h2; exact h2
    have e1 := xk_get (D := D) (E := E) (i := i + 1) ht
    rw [gD_in _ h2] at e1
    rw [e1, List.getElem_set]
    have e0 := xk_get (D := D) (E := E) (i := i) ht
    split
    · rename_i q
      subst q
      rw [e0, if_neg (Nat.lt_irrefl i), if_pos (Nat.lt_succ_self i), Nat.xor_comm]
    · rename_i q
      rw [gD_in _ (by rw [xk_len]; exact ht)] at e0
      rw [e0]
      by_cases q2 : t < i
      · rw [if_pos q2, if_pos (by omega)]
      · rw [if_neg q2, if_neg (by omega)]
theorem xk_32 (D E : List Nat) : xk D E 32 = xorL E D := by
  unfold xk xorL
  apply List.map_congr_left
  intro t ht
  rw [if_pos (List.mem_range.mp ht)]

set_option maxHeartbeats 4000000 in
set_option maxRecDepth 100000 in
theorem c_s_hideSecret (l : Launch) (G : Nat → ClassId) (c : Nat → Nat) (B : Nat → List Nat) (S : Nat → Nat) (P : Nat → JP) (q : SS) (X : Nat) (v : Nat → Int32) (t k : Nat) : jKv l yX10_hideSecret wsX10_hideSecret ({ frames := 5, cells := 0, slots := 0, locals := 108 }) G [.ref (c 6), .int (nI t), .ref (c (270 + 2 * k))] (fun L F => CW G L F c B S P q X v ∧ t < 8 ∧ k < 17 ∧ (B k).length ≤ 100) (fun L F F1 => ∃ B' q', CW G L F1 c B' S P q' X v ∧ (∀ i, i ∉ [17, 19, 20] → B' i = B i) ∧ B' 19 = xorL (bex (S 0) 32) (sha (sha (tgb t) ++ sha (tgb t) ++ B k)) ∧ cO c F F1) := by
  refine jm_kv (cc := cX10_hideSecret) (maxL := 4) (by decide) rfl (Nat.le_of_ble_eq_true rfl) ?_
  intro E L F hE hR hpre
  have hE : jOk E G _ cX10_hideSecret 4 RX10 wsX10_hideSecret := hE
  obtain ⟨W0, ht, hk, hlk⟩ := hpre
  have f60 : jFl RX10 wsX10_hideSecret 60 10 4 := ⟨rfl, by decide, by decide +kernel, by decide +kernel⟩
  have f25 : jFl RX10 wsX10_hideSecret 25 10 3 := ⟨rfl, by decide, by decide +kernel, by decide +kernel⟩
  have f57 : jFl RX10 wsX10_hideSecret 57 10 12 := ⟨rfl, by decide, by decide +kernel, by decide +kernel⟩
  have f10 : jFl RX10 wsX10_hideSecret 10 10 1 := ⟨rfl, by decide, by decide +kernel, by decide +kernel⟩
  refine jr_aload_n hE dX10_hideSecret_0 0 rfl ?_
  refine jr_get hE dX10_hideSecret_1 f60 W0.o6 rfl ?_
  refine jr_iload_n hE dX10_hideSecret_4 1 rfl ?_
  refine jr_kVv (ci := 9) (n := 1) (As := [.int (nI t)]) (rest := []) hE dX10_hideSecret_5 (fun l => c_X9_beginT l G (c 3) (c 4) (c 5) (c (270 + 2 * 17)) (c (271 + 2 * 17)) (bcap 17) t q (B 17)) gX10_hideSecret_X9_beginBy rfl W0.sh.1 rfl (by decide +kernel) ⟨rfl, rfl, by decide, by decide⟩ (by decide) rfl rfl (Nat.le_of_ble_eq_true rfl) (W0.beginTpre (i := t) (by omega)) (fun F1 q2 => ?_)
  obtain ⟨q3, W3, D3, P3⟩ := W0.beginT (i := t) (by omega) q2
  have O3 := (cO.rf c F).tr P3
  obtain ⟨B3, eB3, hB3, yB3⟩ := uz_ab B 17 (sha (tgb t))
  rw [eB3] at W3
  have nB3 : ∀ z, z ≠ 17 → B3 z = B z := fun z hz => hB3 z (fun e => hz (List.mem_singleton.mp e))
  have T3 : ∀ b, b ∈ (sha (tgb t) ++ sha (tgb t)) → b < 256 := app_lt (sha_lt _) (sha_lt _)
  refine jr_aload_n hE dX10_hideSecret_8 0 rfl ?_
  refine jr_get hE dX10_hideSecret_9 f60 W3.o6 rfl ?_
  refine jr_aload_n hE dX10_hideSecret_12 2 rfl ?_
  have hB4 : B3 k = (B k) := (nB3 k (by omega)).trans rfl
  refine jr_kVv (ci := 9) (n := 1) (As := [.ref (c (270 + 2 * k))]) (rest := []) hE dX10_hideSecret_13 (fun l => c_X9_takeAll l G (c 3) (c 4) (c 5) (c (270 + 2 * 17)) (c (270 + 2 * k)) (c (271 + 2 * k)) (bcap k) q3 (B k)) gX10_hideSecret_X9_takeAll rfl W3.sh.1 rfl (by decide +kernel) ⟨rfl, rfl, by decide, by decide⟩ (by decide) rfl rfl (Nat.le_of_ble_eq_true rfl) (⟨W3.sh, (by have q := W3.by k (by omega); rw [show B3 k = (B k) from hB4] at q; exact q), (W3.shB k (by omega) trivial D3 (by simp only [List.length_append, List.length_cons, List.length_nil, List.length_take, List.length_drop, sha_len, bex_len, pbE_len, xorL_len, List.length_replicate]; omega)).2.2.1, (W3.shB k (by omega) trivial D3 (by simp only [List.length_append, List.length_cons, List.length_nil, List.length_take, List.length_drop, sha_len, bex_len, pbE_len, xorL_len, List.length_replicate]; omega)).2.2.2⟩) (fun F5 q6 => ?_)
  have Dq6 := W3.takeA D3 q6
  obtain ⟨q7, W7, D7, P7⟩ := Dq6
  have O7 := O3.tr P7
  have T7 : ∀ b, b ∈ (sha (tgb t) ++ sha (tgb t) ++ (B k)) → b < 256 := app_lt T3 (by have q := W3.bB k (by omega); rw [show B3 k = (B k) from hB4] at q; exact q)
  refine jr_aload_n hE dX10_hideSecret_16 0 rfl ?_
  refine jr_get hE dX10_hideSecret_17 f60 W7.o6 rfl ?_
  refine jr_aload_n hE dX10_hideSecret_20 0 rfl ?_
  refine jr_get hE dX10_hideSecret_21 f25 W7.o6 rfl ?_
  refine jr_kVv (ci := 9) (n := 1) (As := [.ref (c (270 + 2 * 19))]) (rest := []) hE dX10_hideSecret_24 (fun l => c_X9_finish l G (c 3) (c 4) (c 5) (c (270 + 2 * 17)) (c (270 + 2 * 19)) (c (271 + 2 * 19)) (bcap 19) q7 (B3 19)) gX10_hideSecret_X9_finish rfl W7.sh.1 rfl (by decide +kernel) ⟨rfl, rfl, by decide, by decide⟩ (by decide) rfl rfl (Nat.le_of_ble_eq_true rfl) (⟨W7.sh, W7.by 19 (by decide), (W7.shB 19 (by decide) trivial D7 (by simp only [List.length_append, List.length_cons, List.length_nil, List.length_take, List.length_drop, sha_len, bex_len, pbE_len, xorL_len, List.length_replicate]; omega)).2.2.1, by decide, (W7.shB 19 (by decide) trivial D7 (by simp only [List.length_append, List.length_cons, List.length_nil, List.length_take, List.length_drop, sha_len, bex_len, pbE_len, xorL_len, List.length_replicate]; omega)).2.2.2⟩) (fun F8 q9 => ?_)
  obtain ⟨q10, W10, P10⟩ := W7.finP (i := 19) (by decide) D7 T7 (by simp only [List.length_append, List.length_cons, List.length_nil, List.length_take, List.length_drop, sha_len, bex_len, pbE_len, xorL_len, List.length_replicate]; omega) q9
  have O10 := O7.tr P10
  obtain ⟨B10, eB10, hB10, yB10⟩ := uz_ab B3 19 (sha (sha (tgb t) ++ sha (tgb t) ++ (B k)))
  rw [eB10] at W10
  have nB10 : ∀ z, z ≠ 19 → B10 z = B3 z := fun z hz => hB10 z (fun e => hz (List.mem_singleton.mp e))
  refine jr_aload_n hE dX10_hideSecret_27 0 rfl ?_
  refine jr_get hE dX10_hideSecret_28 f57 W10.o6 rfl ?_
  refine jr_kVv (ci := 0) (n := 0) (As := []) (rest := []) hE dX10_hideSecret_31 (fun l => c_X0_empty l G (c (270 + 2 * 20)) (c (271 + 2 * 20)) (bcap 20) (B10 20)) gX10_hideSecret_X0_empty rfl ((W10.by 20 (by decide)).ob) rfl (by decide +kernel) ⟨rfl, rfl, by decide, by decide⟩ (by decide) rfl rfl (Nat.le_of_ble_eq_true rfl) (W10.by 20 (by decide)) (fun F11 q12 => ?_)
  obtain ⟨h13, u13⟩ := q12
  obtain ⟨W13, P13⟩ := W10.setBo (i := 20) (bs := []) (by decide) h13 u13
  have O13 := O10.tr P13
  obtain ⟨B13, eB13, hB13, yB13⟩ := uz_ab B10 20 ([])
  rw [eB13] at W13
  have nB13 : ∀ z, z ≠ 20 → B13 z = B10 z := fun z hz => hB13 z (fun e => hz (List.mem_singleton.mp e))
  refine jr_aload_n hE dX10_hideSecret_34 0 rfl ?_
  refine jr_get hE dX10_hideSecret_35 f10 W13.o6 rfl ?_
  refine jr_aload_n hE dX10_hideSecret_38 0 rfl ?_
  refine jr_get hE dX10_hideSecret_39 f57 W13.o6 rfl ?_
  refine jr_kVv (ci := 8) (n := 1) (As := [.ref (c (270 + 2 * 20))]) (rest := []) hE dX10_hideSecret_42 (fun l => c_X8_addTo l G (c (210 + 2 * 0)) (c (211 + 2 * 0)) (c (270 + 2 * 20)) (c (271 + 2 * 20)) (bcap 20) (S 0) ([])) gX10_hideSecret_X8_addTo rfl ((W13.sc 0 (by decide)).ob) rfl (by decide +kernel) ⟨rfl, rfl, by decide, by decide⟩ (by decide) rfl rfl (Nat.le_of_ble_eq_true rfl) (⟨(by have q := W13.sc 0 (by decide); rw [show S 0 = (S 0) from rfl] at q; exact q), (by have q := W13.by 20 (by decide); rw [show B13 20 = [] from yB13] at q; exact q), by decide, cnd W13.1 [210 + 2 * 0, 211 + 2 * 0, 270 + 2 * 20, 271 + 2 * 20] (by decide) (by decide)⟩) (fun F14 q15 => ?_)
  rw [List.nil_append] at q15
  obtain ⟨h16, u16⟩ := q15
  obtain ⟨W16, P16⟩ := W13.setB (i := 20) (bs := (bex (S 0) 32)) (by decide) h16 u16
  have O16 := O13.tr P16
  obtain ⟨B16, eB16, hB16, yB16⟩ := uz_ab B13 20 (bex (S 0) 32)
  rw [eB16] at W16
  have nB16 : ∀ z, z ≠ 20 → B16 z = B13 z := fun z hz => hB16 z (fun e => hz (List.mem_singleton.mp e))
  refine jr_iconst (v := (0 : Int32)) hE dX10_hideSecret_45 (by decide) ?_
  refine jr_istore_n (lv' := [(3, .int (0 : Int32)), (0, .ref (c 6)), (1, .int (nI t)), (2, .ref (c (270 + 2 * k)))]) hE dX10_hideSecret_46 (by decide) rfl ?_
  have hB17 : B16 19 = (sha (sha (tgb t) ++ sha (tgb t) ++ (B k))) := ((nB16 19 (by decide)).trans (nB13 19 (by decide))).trans yB10
  have loop : ∀ (r0 i : Nat) (F4 : Nat → va_E) (B4 : Nat → List Nat), i + r0 = 32 → CW G L F4 c B4 S P q10 X v → (∀ z, z ≠ 19 → B4 z = B16 z) → B4 19 = xk (sha (sha (tgb t) ++ sha (tgb t) ++ B k)) (bex (S 0) 32) i → cO c F F4 → J E L F4 0 0 47 [(3, .int (nI i)), (0, .ref (c 6)), (1, .int (nI t)), (2, .ref (c (270 + 2 * k)))] [] := by
    intro r0
    induction r0 with
    | zero =>
      intro i F4 B4 hi W4 hBf hx O4
      have hiN : i = 32 := by omega
      subst hiN
      refine jr_iload_n hE dX10_hideSecret_47 0 rfl ?_
      refine jr_bipush (v := (32 : Int32)) hE dX10_hideSecret_48 (by decide) ?_
      refine jr_icmp_ge (tgt := 75) hE dX10_hideSecret_50 (by decide) (fun c_50 => ?_) (fun c_50 => absurd (nI_le (a := 32) (by omega) (by omega)) c_50)
      exact hR F4 _ _ dX10_hideSecret_75 ⟨_, _, W4, (fun z hz => ((hBf z (jne hz 1 rfl)).trans ((nB16 z (jne hz 2 rfl)).trans ((nB13 z (jne hz 2 rfl)).trans ((nB10 z (jne hz 1 rfl)).trans (nB3 z (jne hz 0 rfl))))))), hx.trans (xk_32 _ _), O4⟩
    | succ r0 ih =>
      intro i F4 B4 hi W4 hBf hx O4
      refine jr_iload_n hE dX10_hideSecret_47 0 rfl ?_
      refine jr_bipush (v := (32 : Int32)) hE dX10_hideSecret_48 (by decide) ?_
      refine jr_icmp_ge (tgt := 75) hE dX10_hideSecret_50 (by decide) (fun c_50 => absurd c_50 (nI_ge (b := 32) (by omega) (by omega))) (fun c_50 => ?_)
      refine jr_aload_n hE dX10_hideSecret_53 1 rfl ?_
      refine jr_get hE dX10_hideSecret_54 f25 W4.o6 rfl ?_
      refine jr_iload_n hE dX10_hideSecret_57 0 rfl ?_
      refine jr_aload_n hE dX10_hideSecret_58 1 rfl ?_
      refine jr_get hE dX10_hideSecret_59 f57 W4.o6 rfl ?_
      refine jr_iload_n hE dX10_hideSecret_62 0 rfl ?_
      have hB18 : B4 20 = (bex (S 0) 32) := (hBf 20 (by decide)).trans yB16
      refine jr_kVi (ci := 0) (n := 1) (As := [.int (nI i)]) (rest := [.int (nI i), .ref (c (270 + 2 * 19))]) hE dX10_hideSecret_63 (fun l => c_X0_get l G (c (270 + 2 * 20)) (c (271 + 2 * 20)) (bcap 20) i (bex (S 0) 32)) gX10_hideSecret_X0_get rfl ((W4.by 20 (by decide)).ob) rfl (by decide +kernel) ⟨rfl, rfl, by decide, by decide⟩ (by decide) rfl rfl (Nat.le_of_ble_eq_true rfl) (⟨by have q := W4.by 20 (by decide); rw [show B4 20 = (bex (S 0) 32) from hB18] at q; exact q, by rw [bex_len]; omega⟩) (fun r21 F19 q20 => ?_)
      obtain ⟨eq20, rq20⟩ := q20
      subst eq20 rq20
      refine jr_kVv (ci := 0) (n := 2) (As := [.int (nI i), .int (nI ((bex (S 0) 32).getD i 0))]) (rest := []) hE dX10_hideSecret_66 (fun l => c_X0_turn l G (c (270 + 2 * 19)) (c (271 + 2 * 19)) (bcap 19) i ((bex (S 0) 32).getD i 0) (xk (sha (sha (tgb t) ++ sha (tgb t) ++ B k)) (bex (S 0) 32) i)) gX10_hideSecret_X0_turn rfl ((W4.by 19 (by decide)).ob) rfl (by decide +kernel) ⟨rfl, rfl, by decide, by decide⟩ (by decide) rfl rfl (Nat.le_of_ble_eq_true rfl) (⟨(by have q := W4.by 19 (by decide); rw [show B4 19 = (xk (sha (sha (tgb t) ++ sha (tgb t) ++ B k)) (bex (S 0) 32) i) from hx] at q; exact q), by rw [xk_len]; omega, gd_lt (bex_lt _ _) i⟩) (fun F22 q23 => ?_)
      obtain ⟨h24, u24⟩ := q23
      obtain ⟨W24, P24⟩ := W4.setBh (i := 19) (bs := ((xk (sha (sha (tgb t) ++ sha (tgb t) ++ B k)) (bex (S 0) 32) i).set i ((xk (sha (sha (tgb t) ++ sha (tgb t) ++ B k)) (bex (S 0) 32) i).getD i 0 ^^^ ((bex (S 0) 32).getD i 0)))) (by decide) h24 u24
      have O24 := O4.tr P24
      obtain ⟨B24, eB24, hB24, yB24⟩ := uz_ab B4 19 ((xk (sha (sha (tgb t) ++ sha (tgb t) ++ B k)) (bex (S 0) 32) i).set i ((xk (sha (sha (tgb t) ++ sha (tgb t) ++ B k)) (bex (S 0) 32) i).getD i 0 ^^^ ((bex (S 0) 32).getD i 0)))
      rw [eB24] at W24
      have nB24 : ∀ z, z ≠ 19 → B24 z = B4 z := fun z hz => hB24 z (fun e => hz (List.mem_singleton.mp e))
      refine jr_iinc (v := nI (i + 1)) (lv' := [(3, .int (nI (i + 1))), (0, .ref (c 6)), (1, .int (nI t)), (2, .ref (c (270 + 2 * k)))]) hE dX10_hideSecret_69 0 rfl (nI_1 _) (by decide) rfl ?_
      refine jr_goto (tgt := 47) hE dX10_hideSecret_72 (by decide) ?_
      refine jr_lv (lv' := [(3, .int (nI (i + 1))), (0, .ref (c 6)), (1, .int (nI t)), (2, .ref (c (270 + 2 * k)))]) [0, 1, 2, 3] rfl ?_
      exact ih (i + 1) F22 B24 (by omega) W24 (fun z hz => ((nB24 z hz).trans (hBf z hz))) (yB24.trans (xk_s (by omega))) O24
  exact loop 32 0 F14 B16 (by omega) W16 (fun z hz => rfl) (hB17.trans (xk_0 (sha_len _)).symm) O16

set_option maxHeartbeats 4000000 in
set_option maxRecDepth 100000 in
theorem c_s_drawNonce (l : Launch) (G : Nat → ClassId) (c : Nat → Nat) (B : Nat → List Nat) (S : Nat → Nat) (P : Nat → JP) (q : SS) (X : Nat) (v : Nat → Int32) (i k : Nat) : jKi l yX10_drawNonce wsX10_drawNonce ({ frames := 6, cells := 0, slots := 0, locals := 131 }) G [.ref (c 6), .ref (c (270 + 2 * i)), .ref (c (270 + 2 * k))] (fun L F => CW G L F c B S P q X v ∧ i < 17 ∧ k < 17 ∧ (B i).length ≤ 100 ∧ (B k).length ≤ 100 ∧ B 18 = pbE (emul PP (S 0) GE) ∧ (emul PP (S 0) GE) ≠ none ∧ S 0 < NN) (fun L F r F1 => ∃ B' S' q', CW G L F1 c B' S' P q' X v ∧ (∀ i, i ∉ [17, 19, 20] → B' i = B i) ∧ (∀ i, i ∉ [0, 1] → S' i = S i) ∧ S' 0 = sgD (S 0) ∧ S' 1 = sgK (S 0) (B i) (B k) ∧ r = b2i (sgK (S 0) (B i) (B k) ≠ 0) ∧ cO c F F1) := by
  refine jm_ki (cc := cX10_drawNonce) (maxL := 3) (rt := .boolean) (by decide) rfl (Nat.le_of_ble_eq_true rfl) ?_
  intro E L F hE hR hpre
  have hE : jOk E G _ cX10_drawNonce 3 RX10 wsX10_drawNonce := hE
  obtain ⟨W0, hi, hk, hli, hlk, hown, hA, hd⟩ := hpre
  have n3 : ∀ {x : Nat}, x < 256 → (nI x = (3 : Int32) ↔ x = 3) := fun h => nI_eq (by omega) (by decide)
  have hb3 := n3 (gd_lt (pbE_lt (emul PP (S 0) GE)) 0)
  have f21 : jFl RX10 wsX10_drawNonce 21 10 2 := ⟨rfl, by decide, by decide +kernel, by decide +kernel⟩
  have f60 : jFl RX10 wsX10_drawNonce 60 10 4 := ⟨rfl, by decide, by decide +kernel, by decide +kernel⟩
  have f25 : jFl RX10 wsX10_drawNonce 25 10 3 := ⟨rfl, by decide, by decide +kernel, by decide +kernel⟩
  have f28 : jFl RX10 wsX10_drawNonce 28 10 5 := ⟨rfl, by decide, by decide +kernel, by decide +kernel⟩
  have f10 : jFl RX10 wsX10_drawNonce 10 10 1 := ⟨rfl, by decide, by decide +kernel, by decide +kernel⟩
  refine jr_aload_n hE dX10_drawNonce_0 0 rfl ?_
  refine jr_get hE dX10_drawNonce_1 f21 W0.o6 rfl ?_
  refine jr_iconst (v := (0 : Int32)) hE dX10_drawNonce_4 (by decide) ?_
  refine jr_kVi (ci := 0) (n := 1) (As := [.int (0 : Int32)]) (rest := []) hE dX10_drawNonce_5 (fun l => c_X0_get l G (c (270 + 2 * 18)) (c (271 + 2 * 18)) (bcap 18) 0 (pbE (emul PP (S 0) GE))) gX10_drawNonce_X0_get rfl ((W0.by 18 (by decide)).ob) rfl (by decide +kernel) ⟨rfl, rfl, by decide, by decide⟩ (by decide) rfl rfl (Nat.le_of_ble_eq_true rfl) (⟨by have q := W0.by 18 (by decide); rw [show B 18 = (pbE (emul PP (S 0) GE)) from hown] at q; exact q, by rw [pbE_len]; decide⟩) (fun r3 F1 q2 => ?_)
  obtain ⟨eq2, rq2⟩ := q2
  subst eq2 rq2
  refine jr_iconst (v := (3 : Int32)) hE dX10_drawNonce_8 (by decide) ?_
  refine jr_icmp_ne (tgt := 19) hE dX10_drawNonce_9 (by decide) (fun c9b => (fun c9 => ?_) (fun e => c9b (hb3.mpr e))) (fun c9b => (fun c9 => ?_) (hb3.mp c9b))
  · refine jr_aload_n hE dX10_drawNonce_19 0 rfl ?_
    refine jr_iconst (v := (0 : Int32)) hE dX10_drawNonce_20 (by decide) ?_
    refine jr_aload_n hE dX10_drawNonce_21 2 rfl ?_
    refine jr_kVv (ci := 10) (n := 2) (As := [.int (0 : Int32), .ref (c (270 + 2 * k))]) (rest := []) hE dX10_drawNonce_22 (fun l => c_s_hideSecret l G c B S P q X v 0 k) gX10_drawNonce_X10_hideSecret rfl W0.o6 rfl (by decide +kernel) ⟨rfl, rfl, by decide, by decide⟩ (by decide) rfl rfl (Nat.le_of_ble_eq_true rfl) (⟨W0, by decide, (by omega), (by rw [show B k = B k from rfl]; exact hlk)⟩) (fun F4 q5 => ?_)
    obtain ⟨B6, q6, W6, hB6, f6_0, P6⟩ := q5
    have O6 := (cO.rf c F).tr P6
    refine jr_aload_n hE dX10_drawNonce_25 0 rfl ?_
    refine jr_get hE dX10_drawNonce_26 f60 W6.o6 rfl ?_
    refine jr_iconst (v := (1 : Int32)) hE dX10_drawNonce_29 (by decide) ?_
    refine jr_kVv (ci := 9) (n := 1) (As := [.int (1 : Int32)]) (rest := []) hE dX10_drawNonce_30 (fun l => c_X9_beginT l G (c 3) (c 4) (c 5) (c (270 + 2 * 17)) (c (271 + 2 * 17)) (bcap 17) 1 q6 (B6 17)) gX10_drawNonce_X9_beginBy rfl W6.sh.1 rfl (by decide +kernel) ⟨rfl, rfl, by decide, by decide⟩ (by decide) rfl rfl (Nat.le_of_ble_eq_true rfl) (W6.beginTpre (i := 1) (by decide)) (fun F7 q8 => ?_)
    obtain ⟨q9, W9, D9, P9⟩ := W6.beginT (i := 1) (by decide) q8
    have O9 := O6.tr P9
    obtain ⟨B9, eB9, hB9, yB9⟩ := uz_ab B6 17 (sha (tgb 1))
    rw [eB9] at W9
    have nB9 : ∀ z, z ≠ 17 → B9 z = B6 z := fun z hz => hB9 z (fun e => hz (List.mem_singleton.mp e))
    have T9 : ∀ b, b ∈ (sha (tgb 1) ++ sha (tgb 1)) → b < 256 := app_lt (sha_lt _) (sha_lt _)
    refine jr_aload_n hE dX10_drawNonce_33 0 rfl ?_
    refine jr_get hE dX10_drawNonce_34 f60 W9.o6 rfl ?_
    refine jr_aload_n hE dX10_drawNonce_37 0 rfl ?_
    refine jr_get hE dX10_drawNonce_38 f25 W9.o6 rfl ?_
    have hB10 : B9 19 = (xorL (bex (sgD (S 0)) 32) (sha (sha (tgb 0) ++ sha (tgb 0) ++ B k))) := (nB9 19 (by decide)).trans (by have q := f6_0; rw [show S 0 = sgD (S 0) from (rfl.trans (by unfold sgD; rw [ngN_0 (odd_f (fun h => c9 ((pb_3 hA).mpr h)))])), show B k = B k from rfl] at q; exact q)
    refine jr_kVv (ci := 9) (n := 1) (As := [.ref (c (270 + 2 * 19))]) (rest := []) hE dX10_drawNonce_41 (fun l => c_X9_takeAll l G (c 3) (c 4) (c 5) (c (270 + 2 * 17)) (c (270 + 2 * 19)) (c (271 + 2 * 19)) (bcap 19) q9 (xorL (bex (sgD (S 0)) 32) (sha (sha (tgb 0) ++ sha (tgb 0) ++ B k)))) gX10_drawNonce_X9_takeAll rfl W9.sh.1 rfl (by decide +kernel) ⟨rfl, rfl, by decide, by decide⟩ (by decide) rfl rfl (Nat.le_of_ble_eq_true rfl) (⟨W9.sh, (by have q := W9.by 19 (by decide); rw [show B9 19 = (xorL (bex (sgD (S 0)) 32) (sha (sha (tgb 0) ++ sha (tgb 0) ++ B k))) from hB10] at q; exact q), (W9.shB 19 (by decide) trivial D9 (by simp only [List.length_append, List.length_cons, List.length_nil, List.length_take, List.length_drop, sha_len, bex_len, pbE_len, xorL_len, List.length_replicate]; omega)).2.2.1, (W9.shB 19 (by decide) trivial D9 (by simp only [List.length_append, List.length_cons, List.length_nil, List.length_take, List.length_drop, sha_len, bex_len, pbE_len, xorL_len, List.length_replicate]; omega)).2.2.2⟩) (fun F11 q12 => ?_)
    have Dq12 := W9.takeA D9 q12
    obtain ⟨q13, W13, D13, P13⟩ := Dq12
    have O13 := O9.tr P13
    have T13 : ∀ b, b ∈ (sha (tgb 1) ++ sha (tgb 1) ++ (xorL (bex (sgD (S 0)) 32) (sha (sha (tgb 0) ++ sha (tgb 0) ++ B k)))) → b < 256 := app_lt T9 (by have q := W9.bB 19 (by decide); rw [show B9 19 = (xorL (bex (sgD (S 0)) 32) (sha (sha (tgb 0) ++ sha (tgb 0) ++ B k))) from hB10] at q; exact q)
    refine jr_aload_n hE dX10_drawNonce_44 0 rfl ?_
    refine jr_get hE dX10_drawNonce_45 f60 W13.o6 rfl ?_
    refine jr_aload_n hE dX10_drawNonce_48 0 rfl ?_
    refine jr_get hE dX10_drawNonce_49 f21 W13.o6 rfl ?_
    refine jr_iconst (v := (1 : Int32)) hE dX10_drawNonce_52 (by decide) ?_
    refine jr_bipush (v := (32 : Int32)) hE dX10_drawNonce_53 (by decide) ?_
    have hB14 : B9 18 = (pbE (emul PP (S 0) GE)) := ((nB9 18 (by decide)).trans (hB6 18 (by decide))).trans hown
    refine jr_kVv (ci := 9) (n := 3) (As := [.ref (c (270 + 2 * 18)), .int (1 : Int32), .int (32 : Int32)]) (rest := []) hE dX10_drawNonce_55 (fun l => c_X9_takePart l G (c 3) (c 4) (c 5) (c (270 + 2 * 17)) (c (270 + 2 * 18)) (c (271 + 2 * 18)) (bcap 18) 1 32 q13 (pbE (emul PP (S 0) GE))) gX10_drawNonce_X9_takePart rfl W13.sh.1 rfl (by decide +kernel) ⟨rfl, rfl, by decide, by decide⟩ (by decide) rfl rfl (Nat.le_of_ble_eq_true rfl) (⟨W13.sh, (by have q := W13.by 18 (by decide); rw [show B9 18 = (pbE (emul PP (S 0) GE)) from hB14] at q; exact q), (W13.shB 18 (by decide) trivial D13 (by simp only [List.length_append, List.length_cons, List.length_nil, List.length_take, List.length_drop, sha_len, bex_len, pbE_len, xorL_len, List.length_replicate]; omega)).2.2.1, by rw [pbE_len]; decide, (W13.shB 18 (by decide) trivial D13 (by simp only [List.length_append, List.length_cons, List.length_nil, List.length_take, List.length_drop, sha_len, bex_len, pbE_len, xorL_len, List.length_replicate]; omega)).2.2.2⟩) (fun F15 q16 => ?_)
    rw [show ((pbE (emul PP (S 0) GE)).drop 1).take 32 = bex (exE (emul PP (S 0) GE)) 32 from pb_x hA] at q16
    obtain ⟨q17, W17, D17, P17⟩ := W13.takeA D13 q16
    have O17 := O13.tr P17
    have T17 : ∀ b, b ∈ (sha (tgb 1) ++ sha (tgb 1) ++ (xorL (bex (sgD (S 0)) 32) (sha (sha (tgb 0) ++ sha (tgb 0) ++ B k))) ++ bex (exE (emul PP (S 0) GE)) 32) → b < 256 := app_lt T13 (bex_lt _ _)
    refine jr_aload_n hE dX10_drawNonce_58 0 rfl ?_
    refine jr_get hE dX10_drawNonce_59 f60 W17.o6 rfl ?_
    refine jr_aload_n hE dX10_drawNonce_62 1 rfl ?_
    have hB18 : B9 i = (B i) := ((nB9 i (by omega)).trans (hB6 i (by simp only [List.mem_cons, List.not_mem_nil, or_false, not_or]; omega))).trans rfl
    refine jr_kVv (ci := 9) (n := 1) (As := [.ref (c (270 + 2 * i))]) (rest := []) hE dX10_drawNonce_63 (fun l => c_X9_takeAll l G (c 3) (c 4) (c 5) (c (270 + 2 * 17)) (c (270 + 2 * i)) (c (271 + 2 * i)) (bcap i) q17 (B i)) gX10_drawNonce_X9_takeAll rfl W17.sh.1 rfl (by decide +kernel) ⟨rfl, rfl, by decide, by decide⟩ (by decide) rfl rfl (Nat.le_of_ble_eq_true rfl) (⟨W17.sh, (by have q := W17.by i (by omega); rw [show B9 i = (B i) from hB18] at q; exact q), (W17.shB i (by omega) trivial D17 (by simp only [List.length_append, List.length_cons, List.length_nil, List.length_take, List.length_drop, sha_len, bex_len, pbE_len, xorL_len, List.length_replicate]; omega)).2.2.1, (W17.shB i (by omega) trivial D17 (by simp only [List.length_append, List.length_cons, List.length_nil, List.length_take, List.length_drop, sha_len, bex_len, pbE_len, xorL_len, List.length_replicate]; omega)).2.2.2⟩) (fun F19 q20 => ?_)
    have Dq20 := W17.takeA D17 q20
    obtain ⟨q21, W21, D21, P21⟩ := Dq20
    have O21 := O17.tr P21
    have T21 : ∀ b, b ∈ (sha (tgb 1) ++ sha (tgb 1) ++ (xorL (bex (sgD (S 0)) 32) (sha (sha (tgb 0) ++ sha (tgb 0) ++ B k))) ++ bex (exE (emul PP (S 0) GE)) 32 ++ (B i)) → b < 256 := app_lt T17 (by have q := W17.bB i (by omega); rw [show B9 i = (B i) from hB18] at q; exact q)
    refine jr_aload_n hE dX10_drawNonce_66 0 rfl ?_
    refine jr_get hE dX10_drawNonce_67 f60 W21.o6 rfl ?_
    refine jr_aload_n hE dX10_drawNonce_70 0 rfl ?_
    refine jr_get hE dX10_drawNonce_71 f25 W21.o6 rfl ?_
    refine jr_kVv (ci := 9) (n := 1) (As := [.ref (c (270 + 2 * 19))]) (rest := []) hE dX10_drawNonce_74 (fun l => c_X9_finish l G (c 3) (c 4) (c 5) (c (270 + 2 * 17)) (c (270 + 2 * 19)) (c (271 + 2 * 19)) (bcap 19) q21 (B9 19)) gX10_drawNonce_X9_finish rfl W21.sh.1 rfl (by decide +kernel) ⟨rfl, rfl, by decide, by decide⟩ (by decide) rfl rfl (Nat.le_of_ble_eq_true rfl) (⟨W21.sh, W21.by 19 (by decide), (W21.shB 19 (by decide) trivial D21 (by simp only [List.length_append, List.length_cons, List.length_nil, List.length_take, List.length_drop, sha_len, bex_len, pbE_len, xorL_len, List.length_replicate]; omega)).2.2.1, by decide, (W21.shB 19 (by decide) trivial D21 (by simp only [List.length_append, List.length_cons, List.length_nil, List.length_take, List.length_drop, sha_len, bex_len, pbE_len, xorL_len, List.length_replicate]; omega)).2.2.2⟩) (fun F22 q23 => ?_)
    obtain ⟨q24, W24, P24⟩ := W21.finP (i := 19) (by decide) D21 T21 (by simp only [List.length_append, List.length_cons, List.length_nil, List.length_take, List.length_drop, sha_len, bex_len, pbE_len, xorL_len, List.length_replicate]; omega) q23
    have O24 := O21.tr P24
    obtain ⟨B24, eB24, hB24, yB24⟩ := uz_ab B9 19 (sha (sha (tgb 1) ++ sha (tgb 1) ++ (xorL (bex (sgD (S 0)) 32) (sha (sha (tgb 0) ++ sha (tgb 0) ++ B k))) ++ bex (exE (emul PP (S 0) GE)) 32 ++ (B i)))
    rw [eB24] at W24
    have nB24 : ∀ z, z ≠ 19 → B24 z = B9 z := fun z hz => hB24 z (fun e => hz (List.mem_singleton.mp e))
    refine jr_aload_n hE dX10_drawNonce_77 0 rfl ?_
    refine jr_get hE dX10_drawNonce_78 f28 W24.o6 rfl ?_
    refine jr_aload_n hE dX10_drawNonce_81 0 rfl ?_
    refine jr_get hE dX10_drawNonce_82 f25 W24.o6 rfl ?_
    refine jr_kVv (ci := 8) (n := 1) (As := [.ref (c (270 + 2 * 19))]) (rest := []) hE dX10_drawNonce_85 (fun l => c_X8_takeDigest l G (c (210 + 2 * 1)) (c (211 + 2 * 1)) (c (270 + 2 * 19)) (c (271 + 2 * 19)) (bcap 19) (S 1) (sha (sha (tgb 1) ++ sha (tgb 1) ++ (xorL (bex (sgD (S 0)) 32) (sha (sha (tgb 0) ++ sha (tgb 0) ++ B k))) ++ bex (exE (emul PP (S 0) GE)) 32 ++ (B i)))) gX10_drawNonce_X8_takeDigest rfl ((W24.sc 1 (by decide)).ob) rfl (by decide +kernel) ⟨rfl, rfl, by decide, by decide⟩ (by decide) rfl rfl (Nat.le_of_ble_eq_true rfl) (⟨(W24.sc 1 (by decide)), (by have q := W24.by 19 (by decide); rw [show B24 19 = (sha (sha (tgb 1) ++ sha (tgb 1) ++ (xorL (bex (sgD (S 0)) 32) (sha (sha (tgb 0) ++ sha (tgb 0) ++ B k))) ++ bex (exE (emul PP (S 0) GE)) 32 ++ (B i))) from yB24] at q; exact q), sha_len _, cnd W24.1 [210 + 2 * 1, 211 + 2 * 1, 270 + 2 * 19, 271 + 2 * 19] (by decide) (by decide)⟩) (fun F25 q26 => ?_)
    obtain ⟨KS, eKS⟩ : ∃ y : Nat, y = (bnum (sha (sha (tgb 1) ++ sha (tgb 1) ++ (xorL (bex (sgD (S 0)) 32) (sha (sha (tgb 0) ++ sha (tgb 0) ++ B k))) ++ bex (exE (emul PP (S 0) GE)) 32 ++ (B i))) % NN) := ⟨_, rfl⟩
    rw [← eKS] at q26
    obtain ⟨h27, u27⟩ := q26
    obtain ⟨W27, P27⟩ := W24.setS (i := 1) (x := KS) (by decide) h27 u27
    have O27 := O24.tr P27
    obtain ⟨S27, eS27, hS27, yS27⟩ := uz_ab S 1 KS
    rw [eS27] at W27
    have nS27 : ∀ z, z ≠ 1 → S27 z = S z := fun z hz => hS27 z (fun e => hz (List.mem_singleton.mp e))
    have lKS : KS < NN := by rw [eKS]; exact Nat.mod_lt _ NN0
    have eKs : KS = sgK (S 0) (B i) (B k) := by rw [eKS]; rfl
    refine jr_aload_n hE dX10_drawNonce_88 0 rfl ?_
    refine jr_get hE dX10_drawNonce_89 f28 W27.o6 rfl ?_
    refine jr_kVi (ci := 8) (n := 0) (As := []) (rest := []) hE dX10_drawNonce_92 (fun l => c_X8_isZero l G (c (210 + 2 * 1)) (c (211 + 2 * 1)) KS) gX10_drawNonce_X8_isZero rfl ((W27.sc 1 (by decide)).ob) rfl (by decide +kernel) ⟨rfl, rfl, by decide, by decide⟩ (by decide) rfl rfl (Nat.le_of_ble_eq_true rfl) ((by have q := W27.sc 1 (by decide); rw [show S27 1 = KS from yS27] at q; exact q)) (fun r30 F28 q29 => ?_)
    obtain ⟨eq29, rq29⟩ := q29
    subst eq29 rq29
    refine jr_if_ne (tgt := 102) hE dX10_drawNonce_95 (by decide) (fun c95 => ?_) (fun c95 => ?_)
    · refine jr_iconst (v := (0 : Int32)) hE dX10_drawNonce_102 (by decide) ?_
      have hS31 : S27 0 = (sgD (S 0)) := (nS27 0 (by decide)).trans (rfl.trans (by unfold sgD; rw [ngN_0 (odd_f (fun h => c9 ((pb_3 hA).mpr h)))]))
      exact hR F25 _ _ _ dX10_drawNonce_103 rfl ⟨_, _, _, W27, (fun z hz => ((nB24 z (jne hz 1 rfl)).trans ((nB9 z (jne hz 0 rfl)).trans (hB6 z (jnsub (V := [17, 19, 20]) hz [0, 1, 2] rfl))))), (fun z hz => (nS27 z (jne hz 1 rfl))), hS31, yS27.trans eKs, (b2i_f (fun h : sgK (S 0) (B i) (B k) ≠ 0 => h (eKs.symm.trans (b2i_1 (p := KS = 0) c95)))).symm, O27⟩
    · refine jr_iconst (v := (1 : Int32)) hE dX10_drawNonce_98 (by decide) ?_
      refine jr_goto (tgt := 103) hE dX10_drawNonce_99 (by decide) ?_
      have hS32 : S27 0 = (sgD (S 0)) := (nS27 0 (by decide)).trans (rfl.trans (by unfold sgD; rw [ngN_0 (odd_f (fun h => c9 ((pb_3 hA).mpr h)))]))
      exact hR F25 _ _ _ dX10_drawNonce_103 rfl ⟨_, _, _, W27, (fun z hz => ((nB24 z (jne hz 1 rfl)).trans ((nB9 z (jne hz 0 rfl)).trans (hB6 z (jnsub (V := [17, 19, 20]) hz [0, 1, 2] rfl))))), (fun z hz => (nS27 z (jne hz 1 rfl))), hS32, yS27.trans eKs, (b2i_t (show sgK (S 0) (B i) (B k) ≠ 0 from fun h => b2i_0 c95 (eKs.trans h))).symm, O27⟩
  · refine jr_aload_n hE dX10_drawNonce_12 0 rfl ?_
    refine jr_get hE dX10_drawNonce_13 f10 W0.o6 rfl ?_
    refine jr_kVv (ci := 8) (n := 0) (As := []) (rest := []) hE dX10_drawNonce_16 (fun l => c_X8_negate l G (c (210 + 2 * 0)) (c (211 + 2 * 0)) (S 0)) gX10_drawNonce_X8_negate rfl ((W0.sc 0 (by decide)).ob) rfl (by decide +kernel) ⟨rfl, rfl, by decide, by decide⟩ (by decide) rfl rfl (Nat.le_of_ble_eq_true rfl) (⟨(by have q := W0.sc 0 (by decide); rw [show S 0 = (S 0) from rfl] at q; exact q), hd⟩) (fun F33 q34 => ?_)
    rw [ngN_if] at q34
    obtain ⟨h35, u35⟩ := q34
    obtain ⟨W35, P35⟩ := W0.setS (i := 0) (x := (ngN true (S 0))) (by decide) h35 u35
    have O35 := (cO.rf c F).tr P35
    obtain ⟨S35, eS35, hS35, yS35⟩ := uz_ab S 0 (ngN true (S 0))
    rw [eS35] at W35
    have nS35 : ∀ z, z ≠ 0 → S35 z = S z := fun z hz => hS35 z (fun e => hz (List.mem_singleton.mp e))
    refine jr_aload_n hE dX10_drawNonce_19 0 rfl ?_
    refine jr_iconst (v := (0 : Int32)) hE dX10_drawNonce_20 (by decide) ?_
    refine jr_aload_n hE dX10_drawNonce_21 2 rfl ?_
    refine jr_kVv (ci := 10) (n := 2) (As := [.int (0 : Int32), .ref (c (270 + 2 * k))]) (rest := []) hE dX10_drawNonce_22 (fun l => c_s_hideSecret l G c B S35 P q X v 0 k) gX10_drawNonce_X10_hideSecret rfl W35.o6 rfl (by decide +kernel) ⟨rfl, rfl, by decide, by decide⟩ (by decide) rfl rfl (Nat.le_of_ble_eq_true rfl) (⟨W35, by decide, (by omega), (by rw [show B k = B k from rfl]; exact hlk)⟩) (fun F36 q37 => ?_)
    obtain ⟨B38, q38, W38, hB38, f38_0, P38⟩ := q37
    have O38 := O35.tr P38
    refine jr_aload_n hE dX10_drawNonce_25 0 rfl ?_
    refine jr_get hE dX10_drawNonce_26 f60 W38.o6 rfl ?_
    refine jr_iconst (v := (1 : Int32)) hE dX10_drawNonce_29 (by decide) ?_
    refine jr_kVv (ci := 9) (n := 1) (As := [.int (1 : Int32)]) (rest := []) hE dX10_drawNonce_30 (fun l => c_X9_beginT l G (c 3) (c 4) (c 5) (c (270 + 2 * 17)) (c (271 + 2 * 17)) (bcap 17) 1 q38 (B38 17)) gX10_drawNonce_X9_beginBy rfl W38.sh.1 rfl (by decide +kernel) ⟨rfl, rfl, by decide, by decide⟩ (by decide) rfl rfl (Nat.le_of_ble_eq_true rfl) (W38.beginTpre (i := 1) (by decide)) (fun F39 q40 => ?_)
    obtain ⟨q41, W41, D41, P41⟩ := W38.beginT (i := 1) (by decide) q40
    have O41 := O38.tr P41
    obtain ⟨B41, eB41, hB41, yB41⟩ := uz_ab B38 17 (sha (tgb 1))
    rw [eB41] at W41
    have nB41 : ∀ z, z ≠ 17 → B41 z = B38 z := fun z hz => hB41 z (fun e => hz (List.mem_singleton.mp e))
    have T41 : ∀ b, b ∈ (sha (tgb 1) ++ sha (tgb 1)) → b < 256 := app_lt (sha_lt _) (sha_lt _)
    refine jr_aload_n hE dX10_drawNonce_33 0 rfl ?_
    refine jr_get hE dX10_drawNonce_34 f60 W41.o6 rfl ?_
    refine jr_aload_n hE dX10_drawNonce_37 0 rfl ?_
    refine jr_get hE dX10_drawNonce_38 f25 W41.o6 rfl ?_
    have hB42 : B41 19 = (xorL (bex (sgD (S 0)) 32) (sha (sha (tgb 0) ++ sha (tgb 0) ++ B k))) := (nB41 19 (by decide)).trans (by have q := f38_0; rw [show S35 0 = sgD (S 0) from (yS35.trans (by unfold sgD; rw [odd_t ((pb_3 hA).mp c9)])), show B k = B k from rfl] at q; exact q)
    refine jr_kVv (ci := 9) (n := 1) (As := [.ref (c (270 + 2 * 19))]) (rest := []) hE dX10_drawNonce_41 (fun l => c_X9_takeAll l G (c 3) (c 4) (c 5) (c (270 + 2 * 17)) (c (270 + 2 * 19)) (c (271 + 2 * 19)) (bcap 19) q41 (xorL (bex (sgD (S 0)) 32) (sha (sha (tgb 0) ++ sha (tgb 0) ++ B k)))) gX10_drawNonce_X9_takeAll rfl W41.sh.1 rfl (by decide +kernel) ⟨rfl, rfl, by decide, by decide⟩ (by decide) rfl rfl (Nat.le_of_ble_eq_true rfl) (⟨W41.sh, (by have q := W41.by 19 (by decide); rw [show B41 19 = (xorL (bex (sgD (S 0)) 32) (sha (sha (tgb 0) ++ sha (tgb 0) ++ B k))) from hB42] at q; exact q), (W41.shB 19 (by decide) trivial D41 (by simp only [List.length_append, List.length_cons, List.length_nil, List.length_take, List.length_drop, sha_len, bex_len, pbE_len, xorL_len, List.length_replicate]; omega)).2.2.1, (W41.shB 19 (by decide) trivial D41 (by simp only [List.length_append, List.length_cons, List.length_nil, List.length_take, List.length_drop, sha_len, bex_len, pbE_len, xorL_len, List.length_replicate]; omega)).2.2.2⟩) (fun F43 q44 => ?_)
    have Dq44 := W41.takeA D41 q44
    obtain ⟨q45, W45, D45, P45⟩ := Dq44
    have O45 := O41.tr P45
    have T45 : ∀ b, b ∈ (sha (tgb 1) ++ sha (tgb 1) ++ (xorL (bex (sgD (S 0)) 32) (sha (sha (tgb 0) ++ sha (tgb 0) ++ B k)))) → b < 256 := app_lt T41 (by have q := W41.bB 19 (by decide); rw [show B41 19 = (xorL (bex (sgD (S 0)) 32) (sha (sha (tgb 0) ++ sha (tgb 0) ++ B k))) from hB42] at q; exact q)
    refine jr_aload_n hE dX10_drawNonce_44 0 rfl ?_
    refine jr_get hE dX10_drawNonce_45 f60 W45.o6 rfl ?_
    refine jr_aload_n hE dX10_drawNonce_48 0 rfl ?_
    refine jr_get hE dX10_drawNonce_49 f21 W45.o6 rfl ?_
    refine jr_iconst (v := (1 : Int32)) hE dX10_drawNonce_52 (by decide) ?_
    refine jr_bipush (v := (32 : Int32)) hE dX10_drawNonce_53 (by decide) ?_
    have hB46 : B41 18 = (pbE (emul PP (S 0) GE)) := ((nB41 18 (by decide)).trans (hB38 18 (by decide))).trans hown
    refine jr_kVv (ci := 9) (n := 3) (As := [.ref (c (270 + 2 * 18)), .int (1 : Int32), .int (32 : Int32)]) (rest := []) hE dX10_drawNonce_55 (fun l => c_X9_takePart l G (c 3) (c 4) (c 5) (c (270 + 2 * 17)) (c (270 + 2 * 18)) (c (271 + 2 * 18)) (bcap 18) 1 32 q45 (pbE (emul PP (S 0) GE))) gX10_drawNonce_X9_takePart rfl W45.sh.1 rfl (by decide +kernel) ⟨rfl, rfl, by decide, by decide⟩ (by decide) rfl rfl (Nat.le_of_ble_eq_true rfl) (⟨W45.sh, (by have q := W45.by 18 (by decide); rw [show B41 18 = (pbE (emul PP (S 0) GE)) from hB46] at q; exact q), (W45.shB 18 (by decide) trivial D45 (by simp only [List.length_append, List.length_cons, List.length_nil, List.length_take, List.length_drop, sha_len, bex_len, pbE_len, xorL_len, List.length_replicate]; omega)).2.2.1, by rw [pbE_len]; decide, (W45.shB 18 (by decide) trivial D45 (by simp only [List.length_append, List.length_cons, List.length_nil, List.length_take, List.length_drop, sha_len, bex_len, pbE_len, xorL_len, List.length_replicate]; omega)).2.2.2⟩) (fun F47 q48 => ?_)
    rw [show ((pbE (emul PP (S 0) GE)).drop 1).take 32 = bex (exE (emul PP (S 0) GE)) 32 from pb_x hA] at q48
    obtain ⟨q49, W49, D49, P49⟩ := W45.takeA D45 q48
    have O49 := O45.tr P49
    have T49 : ∀ b, b ∈ (sha (tgb 1) ++ sha (tgb 1) ++ (xorL (bex (sgD (S 0)) 32) (sha (sha (tgb 0) ++ sha (tgb 0) ++ B k))) ++ bex (exE (emul PP (S 0) GE)) 32) → b < 256 := app_lt T45 (bex_lt _ _)
    refine jr_aload_n hE dX10_drawNonce_58 0 rfl ?_
    refine jr_get hE dX10_drawNonce_59 f60 W49.o6 rfl ?_
    refine jr_aload_n hE dX10_drawNonce_62 1 rfl ?_
    have hB50 : B41 i = (B i) := ((nB41 i (by omega)).trans (hB38 i (by simp only [List.mem_cons, List.not_mem_nil, or_false, not_or]; omega))).trans rfl
    refine jr_kVv (ci := 9) (n := 1) (As := [.ref (c (270 + 2 * i))]) (rest := []) hE dX10_drawNonce_63 (fun l => c_X9_takeAll l G (c 3) (c 4) (c 5) (c (270 + 2 * 17)) (c (270 + 2 * i)) (c (271 + 2 * i)) (bcap i) q49 (B i)) gX10_drawNonce_X9_takeAll rfl W49.sh.1 rfl (by decide +kernel) ⟨rfl, rfl, by decide, by decide⟩ (by decide) rfl rfl (Nat.le_of_ble_eq_true rfl) (⟨W49.sh, (by have q := W49.by i (by omega); rw [show B41 i = (B i) from hB50] at q; exact q), (W49.shB i (by omega) trivial D49 (by simp only [List.length_append, List.length_cons, List.length_nil, List.length_take, List.length_drop, sha_len, bex_len, pbE_len, xorL_len, List.length_replicate]; omega)).2.2.1, (W49.shB i (by omega) trivial D49 (by simp only [List.length_append, List.length_cons, List.length_nil, List.length_take, List.length_drop, sha_len, bex_len, pbE_len, xorL_len, List.length_replicate]; omega)).2.2.2⟩) (fun F51 q52 => ?_)
    have Dq52 := W49.takeA D49 q52
    obtain ⟨q53, W53, D53, P53⟩ := Dq52
    have O53 := O49.tr P53
    have T53 : ∀ b, b ∈ (sha (tgb 1) ++ sha (tgb 1) ++ (xorL (bex (sgD (S 0)) 32) (sha (sha (tgb 0) ++ sha (tgb 0) ++ B k))) ++ bex (exE (emul PP (S 0) GE)) 32 ++ (B i)) → b < 256 := app_lt T49 (by have q := W49.bB i (by omega); rw [show B41 i = (B i) from hB50] at q; exact q)
    refine jr_aload_n hE dX10_drawNonce_66 0 rfl ?_
    refine jr_get hE dX10_drawNonce_67 f60 W53.o6 rfl ?_
    refine jr_aload_n hE dX10_drawNonce_70 0 rfl ?_
    refine jr_get hE dX10_drawNonce_71 f25 W53.o6 rfl ?_
    refine jr_kVv (ci := 9) (n := 1) (As := [.ref (c (270 + 2 * 19))]) (rest := []) hE dX10_drawNonce_74 (fun l => c_X9_finish l G (c 3) (c 4) (c 5) (c (270 + 2 * 17)) (c (270 + 2 * 19)) (c (271 + 2 * 19)) (bcap 19) q53 (B41 19)) gX10_drawNonce_X9_finish rfl W53.sh.1 rfl (by decide +kernel) ⟨rfl, rfl, by decide, by decide⟩ (by decide) rfl rfl (Nat.le_of_ble_eq_true rfl) (⟨W53.sh, W53.by 19 (by decide), (W53.shB 19 (by decide) trivial D53 (by simp only [List.length_append, List.length_cons, List.length_nil, List.length_take, List.length_drop, sha_len, bex_len, pbE_len, xorL_len, List.length_replicate]; omega)).2.2.1, by decide, (W53.shB 19 (by decide) trivial D53 (by simp only [List.length_append, List.length_cons, List.length_nil, List.length_take, List.length_drop, sha_len, bex_len, pbE_len, xorL_len, List.length_replicate]; omega)).2.2.2⟩) (fun F54 q55 => ?_)
    obtain ⟨q56, W56, P56⟩ := W53.finP (i := 19) (by decide) D53 T53 (by simp only [List.length_append, List.length_cons, List.length_nil, List.length_take, List.length_drop, sha_len, bex_len, pbE_len, xorL_len, List.length_replicate]; omega) q55
    have O56 := O53.tr P56
    obtain ⟨B56, eB56, hB56, yB56⟩ := uz_ab B41 19 (sha (sha (tgb 1) ++ sha (tgb 1) ++ (xorL (bex (sgD (S 0)) 32) (sha (sha (tgb 0) ++ sha (tgb 0) ++ B k))) ++ bex (exE (emul PP (S 0) GE)) 32 ++ (B i)))
    rw [eB56] at W56
    have nB56 : ∀ z, z ≠ 19 → B56 z = B41 z := fun z hz => hB56 z (fun e => hz (List.mem_singleton.mp e))
    refine jr_aload_n hE dX10_drawNonce_77 0 rfl ?_
    refine jr_get hE dX10_drawNonce_78 f28 W56.o6 rfl ?_
    refine jr_aload_n hE dX10_drawNonce_81 0 rfl ?_
    refine jr_get hE dX10_drawNonce_82 f25 W56.o6 rfl ?_
    refine jr_kVv (ci := 8) (n := 1) (As := [.ref (c (270 + 2 * 19))]) (rest := []) hE dX10_drawNonce_85 (fun l => c_X8_takeDigest l G (c (210 + 2 * 1)) (c (211 + 2 * 1)) (c (270 + 2 * 19)) (c (271 + 2 * 19)) (bcap 19) (S35 1) (sha (sha (tgb 1) ++ sha (tgb 1) ++ (xorL (bex (sgD (S 0)) 32) (sha (sha (tgb 0) ++ sha (tgb 0) ++ B k))) ++ bex (exE (emul PP (S 0) GE)) 32 ++ (B i)))) gX10_drawNonce_X8_takeDigest rfl ((W56.sc 1 (by decide)).ob) rfl (by decide +kernel) ⟨rfl, rfl, by decide, by decide⟩ (by decide) rfl rfl (Nat.le_of_ble_eq_true rfl) (⟨(W56.sc 1 (by decide)), (by have q := W56.by 19 (by decide); rw [show B56 19 = (sha (sha (tgb 1) ++ sha (tgb 1) ++ (xorL (bex (sgD (S 0)) 32) (sha (sha (tgb 0) ++ sha (tgb 0) ++ B k))) ++ bex (exE (emul PP (S 0) GE)) 32 ++ (B i))) from yB56] at q; exact q), sha_len _, cnd W56.1 [210 + 2 * 1, 211 + 2 * 1, 270 + 2 * 19, 271 + 2 * 19] (by decide) (by decide)⟩) (fun F57 q58 => ?_)
    obtain ⟨KS, eKS⟩ : ∃ y : Nat, y = (bnum (sha (sha (tgb 1) ++ sha (tgb 1) ++ (xorL (bex (sgD (S 0)) 32) (sha (sha (tgb 0) ++ sha (tgb 0) ++ B k))) ++ bex (exE (emul PP (S 0) GE)) 32 ++ (B i))) % NN) := ⟨_, rfl⟩
    rw [← eKS] at q58
    obtain ⟨h59, u59⟩ := q58
    obtain ⟨W59, P59⟩ := W56.setS (i := 1) (x := KS) (by decide) h59 u59
    have O59 := O56.tr P59
    obtain ⟨S59, eS59, hS59, yS59⟩ := uz_ab S35 1 KS
    rw [eS59] at W59
    have nS59 : ∀ z, z ≠ 1 → S59 z = S35 z := fun z hz => hS59 z (fun e => hz (List.mem_singleton.mp e))
    have lKS : KS < NN := by rw [eKS]; exact Nat.mod_lt _ NN0
    have eKs : KS = sgK (S 0) (B i) (B k) := by rw [eKS]; rfl
    refine jr_aload_n hE dX10_drawNonce_88 0 rfl ?_
    refine jr_get hE dX10_drawNonce_89 f28 W59.o6 rfl ?_
    refine jr_kVi (ci := 8) (n := 0) (As := []) (rest := []) hE dX10_drawNonce_92 (fun l => c_X8_isZero l G (c (210 + 2 * 1)) (c (211 + 2 * 1)) KS) gX10_drawNonce_X8_isZero rfl ((W59.sc 1 (by decide)).ob) rfl (by decide +kernel) ⟨rfl, rfl, by decide, by decide⟩ (by decide) rfl rfl (Nat.le_of_ble_eq_true rfl) ((by have q := W59.sc 1 (by decide); rw [show S59 1 = KS from yS59] at q; exact q)) (fun r62 F60 q61 => ?_)
    obtain ⟨eq61, rq61⟩ := q61
    subst eq61 rq61
    refine jr_if_ne (tgt := 102) hE dX10_drawNonce_95 (by decide) (fun c95 => ?_) (fun c95 => ?_)
    · refine jr_iconst (v := (0 : Int32)) hE dX10_drawNonce_102 (by decide) ?_
      have hS63 : S59 0 = (sgD (S 0)) := (nS59 0 (by decide)).trans (yS35.trans (by unfold sgD; rw [odd_t ((pb_3 hA).mp c9)]))
      exact hR F57 _ _ _ dX10_drawNonce_103 rfl ⟨_, _, _, W59, (fun z hz => ((nB56 z (jne hz 1 rfl)).trans ((nB41 z (jne hz 0 rfl)).trans (hB38 z (jnsub (V := [17, 19, 20]) hz [0, 1, 2] rfl))))), (fun z hz => ((nS59 z (jne hz 1 rfl)).trans (nS35 z (jne hz 0 rfl)))), hS63, yS59.trans eKs, (b2i_f (fun h : sgK (S 0) (B i) (B k) ≠ 0 => h (eKs.symm.trans (b2i_1 (p := KS = 0) c95)))).symm, O59⟩
    · refine jr_iconst (v := (1 : Int32)) hE dX10_drawNonce_98 (by decide) ?_
      refine jr_goto (tgt := 103) hE dX10_drawNonce_99 (by decide) ?_
      have hS64 : S59 0 = (sgD (S 0)) := (nS59 0 (by decide)).trans (yS35.trans (by unfold sgD; rw [odd_t ((pb_3 hA).mp c9)]))
      exact hR F57 _ _ _ dX10_drawNonce_103 rfl ⟨_, _, _, W59, (fun z hz => ((nB56 z (jne hz 1 rfl)).trans ((nB41 z (jne hz 0 rfl)).trans (hB38 z (jnsub (V := [17, 19, 20]) hz [0, 1, 2] rfl))))), (fun z hz => ((nS59 z (jne hz 1 rfl)).trans (nS35 z (jne hz 0 rfl)))), hS64, yS59.trans eKs, (b2i_t (show sgK (S 0) (B i) (B k) ≠ 0 from fun h => b2i_0 c95 (eKs.trans h))).symm, O59⟩

set_option maxHeartbeats 4000000 in
set_option maxRecDepth 100000 in
theorem c_s_makeSignature (l : Launch) (G : Nat → ClassId) (c : Nat → Nat) (B : Nat → List Nat) (S : Nat → Nat) (P : Nat → JP) (q : SS) (X : Nat) (v : Nat → Int32) (i d : Nat) : jKv l yX10_makeSignature wsX10_makeSignature ({ frames := 6, cells := 0, slots := 0, locals := 148 }) G [.ref (c 6), .ref (c (270 + 2 * i)), .ref (c (270 + 2 * 16))] (fun L F => CW G L F c B S P q X v ∧ i < 16 ∧ (B i).length ≤ 100 ∧ B 18 = pbE (emul PP d GE) ∧ (emul PP d GE) ≠ none ∧ S 0 < NN ∧ S 1 < NN ∧ (emul PP (S 1) GE) ≠ none ∧ rep (P 16) GE) (fun L F F1 => ∃ B' S' P' q', CW G L F1 c B' S' P' q' X v ∧ (∀ i, i ∉ [16, 17, 19] → B' i = B i) ∧ (∀ i, i ∉ [1, 2, 3] → S' i = S i) ∧ (∀ i, i ∉ [17] → P' i = P i) ∧ B' 16 = bex (exE (emul PP (S 1) GE)) 32 ++ bex ((ngN (eyO (emul PP (S 1) GE)) (S 1) + chS (exE (emul PP (S 1) GE)) (exE (emul PP d GE)) (B i) * S 0 % NN) % NN) 32 ∧ cO c F F1) := by
  refine jm_kv (cc := cX10_makeSignature) (maxL := 3) (by decide) rfl (Nat.le_of_ble_eq_true rfl) ?_
  intro E L F hE hR hpre
  have hE : jOk E G _ cX10_makeSignature 3 RX10 wsX10_makeSignature := hE
  obtain ⟨W0, hi, hli, hown, hA, hd, hk, hK, hG⟩ := hpre
  have f64 : jFl RX10 wsX10_makeSignature 64 10 0 := ⟨rfl, by decide, by decide +kernel, by decide +kernel⟩
  have f43 : jFl RX10 wsX10_makeSignature 43 10 9 := ⟨rfl, by decide, by decide +kernel, by decide +kernel⟩
  have f80 : jFl RX10 wsX10_makeSignature 80 2 0 := ⟨rfl, by decide, by decide +kernel, by decide +kernel⟩
  have f28 : jFl RX10 wsX10_makeSignature 28 10 5 := ⟨rfl, by decide, by decide +kernel, by decide +kernel⟩
  have f134 : jFl RX10 wsX10_makeSignature 134 6 1 := ⟨rfl, by decide, by decide +kernel, by decide +kernel⟩
  have f140 : jFl RX10 wsX10_makeSignature 140 6 0 := ⟨rfl, by decide, by decide +kernel, by decide +kernel⟩
  have f31 : jFl RX10 wsX10_makeSignature 31 10 6 := ⟨rfl, by decide, by decide +kernel, by decide +kernel⟩
  have f21 : jFl RX10 wsX10_makeSignature 21 10 2 := ⟨rfl, by decide, by decide +kernel, by decide +kernel⟩
  have f34 : jFl RX10 wsX10_makeSignature 34 10 7 := ⟨rfl, by decide, by decide +kernel, by decide +kernel⟩
  have f10 : jFl RX10 wsX10_makeSignature 10 10 1 := ⟨rfl, by decide, by decide +kernel, by decide +kernel⟩
  refine jr_aload_n hE dX10_makeSignature_0 0 rfl ?_
  refine jr_get hE dX10_makeSignature_1 f64 W0.o6 rfl ?_
  refine jr_aload_n hE dX10_makeSignature_4 0 rfl ?_
  refine jr_get hE dX10_makeSignature_5 f43 W0.o6 rfl ?_
  refine jr_aload_n hE dX10_makeSignature_8 0 rfl ?_
  refine jr_get hE dX10_makeSignature_9 f64 W0.o6 rfl ?_
  refine jr_get hE dX10_makeSignature_12 f80 W0.cv rfl ?_
  refine jr_aload_n hE dX10_makeSignature_15 0 rfl ?_
  refine jr_get hE dX10_makeSignature_16 f28 W0.o6 rfl ?_
  obtain ⟨f1, jm1, gm1⟩ := W0.cu.2.2.2.1
  have hk1 : S 1 < 2 ^ 256 := by rw [show S 1 = (S 1) from rfl]; exact Nat.lt_trans hk NN_256
  refine jr_kVv (ci := 2) (n := 3) (As := [.ref (c (40 + 4 * 17)), .ref (c (40 + 4 * 16)), .ref (c (210 + 2 * 1))]) (rest := []) hE dX10_makeSignature_19 (fun l => c_X2_times l G (c 9) (c (40 + 4 * 16)) (c 11) (c 10) (c 12) (c 13) (c 14) (c 15) (c 16) (c 17) (c (40 + 4 * 17)) (c (41 + 4 * 17)) (c (42 + 4 * 17)) (c (43 + 4 * 17)) (c (40 + 4 * 16)) (c (41 + 4 * 16)) (c (42 + 4 * 16)) (c (43 + 4 * 16)) (c (210 + 2 * 1)) (c (211 + 2 * 1)) (S 1) f1 (fun i k => c (ck i k)) (P 17) (P 16)) gX10_makeSignature_X2_times rfl W0.cv rfl (by decide +kernel) ⟨rfl, rfl, by decide, by decide⟩ (by decide) rfl rfl (Nat.le_of_ble_eq_true rfl) (W0.timesPre jm1 gm1 17 16 1 (by decide) (by decide) (by decide) (by decide) (by decide) hk1) (fun F2 q3 => ?_)
  obtain ⟨W4, P4⟩ := W0.timesP gm1 (i := 17) (by decide) (by decide) q3
  have O4 := (cO.rf c F).tr P4
  obtain ⟨P4, eP4, hP4, yP4⟩ := uz_ab P 17 (tmJ (P 17) (P 16) (S 1))
  rw [eP4] at W4
  have nP4 : ∀ z, z ≠ 17 → P4 z = P z := fun z hz => hP4 z (fun e => hz (List.mem_singleton.mp e))
  have hr4 : rep (P4 17) (emul PP (S 1) GE) := by rw [yP4]; exact (by have q := rep_tm (O := P 17) hG hk1; rw [show S 1 = (S 1) from rfl] at q ⊢; exact q)
  refine jr_aload_n hE dX10_makeSignature_22 0 rfl ?_
  refine jr_get hE dX10_makeSignature_23 f64 W4.o6 rfl ?_
  refine jr_aload_n hE dX10_makeSignature_26 0 rfl ?_
  refine jr_get hE dX10_makeSignature_27 f43 W4.o6 rfl ?_
  refine jr_kVv (ci := 2) (n := 1) (As := [.ref (c (40 + 4 * 17))]) (rest := []) hE dX10_makeSignature_30 (fun l => c_X2_settle l G (c 9) (c (40 + 4 * 16)) (c 11) (c 10) (c 12) (c 13) (c 14) (c 15) (c 16) (c 17) (c 18) (c 19) (c 20) (c 21) (c 22) (c 23) (c (40 + 4 * 17)) (c (41 + 4 * 17)) (c (42 + 4 * 17)) (c (43 + 4 * 17)) (P4 17)) gX10_makeSignature_X2_settle rfl W4.cv rfl (by decide +kernel) ⟨rfl, rfl, by decide, by decide⟩ (by decide) rfl rfl (Nat.le_of_ble_eq_true rfl) (W4.settlePre 17 (by decide) (by decide)) (fun F5 q6 => ?_)
  obtain ⟨g7, gp7, go7, h7, u7⟩ := q6
  obtain ⟨W7, P7⟩ := W4.settle (i := 17) (by decide) (by decide) g7 gp7 go7 h7 u7
  have O7 := O4.tr P7
  obtain ⟨P7, eP7, hP7, yP7⟩ := uz_ab P4 17 (stJ (P4 17))
  rw [eP7] at W7
  have nP7 : ∀ z, z ≠ 17 → P7 z = P4 z := fun z hz => hP7 z (fun e => hz (List.mem_singleton.mp e))
  have hr7 : stl (P7 17) (emul PP (S 1) GE) := by rw [yP7]; exact rep_stl hr4
  refine jr_aload_n hE dX10_makeSignature_33 0 rfl ?_
  refine jr_get hE dX10_makeSignature_34 f43 W7.o6 rfl ?_
  refine jr_get hE dX10_makeSignature_37 f134 (W7.pt 17 (by decide) (by decide)).1 rfl ?_
  obtain ⟨hx8, hy8, hz8⟩ := hr7.xy hK
  have hX8 : (P7 17).2.1 = exE (emul PP (S 1) GE) := by rw [hx8]
  have hY8 : (P7 17).2.2.1 = eyN (emul PP (S 1) GE) := by rw [hx8]
  refine jr_kVi (ci := 1) (n := 0) (As := []) (rest := []) hE dX10_makeSignature_40 (fun l => c_X1_isOdd l G (c (42 + 4 * 17)) (P7 17).2.2.1) gX10_makeSignature_X1_isOdd rfl ((W7.pt 17 (by decide) (by decide)).2.2.1.cell.choose_spec) rfl (by decide +kernel) ⟨rfl, rfl, by decide, by decide⟩ (by decide) rfl rfl (Nat.le_of_ble_eq_true rfl) ((W7.pt 17 (by decide) (by decide)).2.2.1) (fun r11 F9 q10 => ?_)
  obtain ⟨h12, u12, r11e⟩ := q10
  rw [hY8] at r11e
  subst r11e
  obtain ⟨W12, P12⟩ := W7.oddP (i := 17) (by decide) (by decide) (by rw [hY8]; exact hz8) h12 u12
  have O12 := O7.tr P12
  refine jr_if_eq (tgt := 53) hE dX10_makeSignature_43 (by decide) (fun c43 => ?_) (fun c43 => ?_)
  · refine jr_aload_n hE dX10_makeSignature_53 2 rfl ?_
    refine jr_kVv (ci := 0) (n := 0) (As := []) (rest := []) hE dX10_makeSignature_54 (fun l => c_X0_empty l G (c (270 + 2 * 16)) (c (271 + 2 * 16)) (bcap 16) (B 16)) gX10_makeSignature_X0_empty rfl ((W12.by 16 (by decide)).ob) rfl (by decide +kernel) ⟨rfl, rfl, by decide, by decide⟩ (by decide) rfl rfl (Nat.le_of_ble_eq_true rfl) (W12.by 16 (by decide)) (fun F13 q14 => ?_)
    obtain ⟨h15, u15⟩ := q14
    obtain ⟨W15, P15⟩ := W12.setBo (i := 16) (bs := []) (by decide) h15 u15
    have O15 := O12.tr P15
    obtain ⟨B15, eB15, hB15, yB15⟩ := uz_ab B 16 ([])
    rw [eB15] at W15
    have nB15 : ∀ z, z ≠ 16 → B15 z = B z := fun z hz => hB15 z (fun e => hz (List.mem_singleton.mp e))
    refine jr_aload_n hE dX10_makeSignature_57 0 rfl ?_
    refine jr_get hE dX10_makeSignature_58 f43 W15.o6 rfl ?_
    refine jr_get hE dX10_makeSignature_61 f140 (W15.pt 17 (by decide) (by decide)).1 rfl ?_
    refine jr_aload_n hE dX10_makeSignature_64 2 rfl ?_
    obtain ⟨hx16, hy16, hz16⟩ := hr7.xy hK
    have hX16 : (P7 17).2.1 = exE (emul PP (S 1) GE) := by rw [hx16]
    have hY16 : (P7 17).2.2.1 = eyN (emul PP (S 1) GE) := by rw [hx16]
    refine jr_kVv (ci := 1) (n := 1) (As := [.ref (c (270 + 2 * 16))]) (rest := []) hE dX10_makeSignature_65 (fun l => c_X1_addTo l G (c (41 + 4 * 17)) (c (270 + 2 * 16)) (c (271 + 2 * 16)) (bcap 16) (P7 17).2.1 ([])) gX10_makeSignature_X1_addTo rfl ((W15.pt 17 (by decide) (by decide)).2.1.cell.choose_spec) rfl (by decide +kernel) ⟨rfl, rfl, by decide, by decide⟩ (by decide) rfl rfl (Nat.le_of_ble_eq_true rfl) (⟨(W15.pt 17 (by decide) (by decide)).2.1, (by have q := W15.by 16 (by decide); rw [show B15 16 = [] from yB15] at q; exact q), by decide, cnd W15.1 [41 + 4 * 17, 270 + 2 * 16, 271 + 2 * 16] (by decide) (by decide)⟩) (fun F17 q18 => ?_)
    rw [show bex (P7 17).2.1 32 = bex (exE (emul PP (S 1) GE)) 32 from by rw [hX16]] at q18
    rw [List.nil_append] at q18
    obtain ⟨W19, P19⟩ := W15.xaddP (i := 17) (k := 16) (by decide) (by decide) (by decide) (by rw [hX16]; exact hy16) q18
    have O19 := O15.tr P19
    obtain ⟨B19, eB19, hB19, yB19⟩ := uz_ab B15 16 (bex (exE (emul PP (S 1) GE)) 32)
    rw [eB19] at W19
    have nB19 : ∀ z, z ≠ 16 → B19 z = B15 z := fun z hz => hB19 z (fun e => hz (List.mem_singleton.mp e))
    refine jr_aload_n hE dX10_makeSignature_68 0 rfl ?_
    refine jr_aload_n hE dX10_makeSignature_69 0 rfl ?_
    refine jr_get hE dX10_makeSignature_70 f31 W19.o6 rfl ?_
    refine jr_aload_n hE dX10_makeSignature_73 2 rfl ?_
    refine jr_aload_n hE dX10_makeSignature_74 0 rfl ?_
    refine jr_get hE dX10_makeSignature_75 f21 W19.o6 rfl ?_
    refine jr_iconst (v := (1 : Int32)) hE dX10_makeSignature_78 (by decide) ?_
    refine jr_aload_n hE dX10_makeSignature_79 1 rfl ?_
    have hB20 : B19 18 = (pbE (emul PP d GE)) := ((nB19 18 (by decide)).trans (nB15 18 (by decide))).trans hown
    have hB21 : B19 i = (B i) := ((nB19 i (by omega)).trans (nB15 i (by omega))).trans rfl
    refine jr_kVv (ci := 10) (n := 5) (As := [.ref (c (210 + 2 * 2)), .ref (c (270 + 2 * 16)), .ref (c (270 + 2 * 18)), .int (1 : Int32), .ref (c (270 + 2 * i))]) (rest := []) hE dX10_makeSignature_80 (fun l => c_s_challenge l G c B19 S P7 q X v 2 16 18 1 i) gX10_makeSignature_X10_challenge rfl W19.o6 rfl (by decide +kernel) ⟨rfl, rfl, by decide, by decide⟩ (by decide) rfl rfl (Nat.le_of_ble_eq_true rfl) (⟨W19, by decide, by decide, by decide, by omega, by decide, by decide, by omega, by decide, by decide, by omega, (by rw [yB19, bex_len]; exact Nat.le_refl _), (by rw [hB20, pbE_len]; decide), (by rw [show B19 i = B i from hB21]; exact hli)⟩) (fun F22 q23 => ?_)
    obtain ⟨B24, S24, q24, W24, hB24, hS24, f24_0, P24⟩ := q23
    have O24 := O19.tr P24
    refine jr_aload_n hE dX10_makeSignature_83 0 rfl ?_
    refine jr_get hE dX10_makeSignature_84 f34 W24.o6 rfl ?_
    refine jr_aload_n hE dX10_makeSignature_87 0 rfl ?_
    refine jr_get hE dX10_makeSignature_88 f31 W24.o6 rfl ?_
    refine jr_aload_n hE dX10_makeSignature_91 0 rfl ?_
    refine jr_get hE dX10_makeSignature_92 f10 W24.o6 rfl ?_
    have hS25 : S24 0 = (S 0) := (hS24 0 (by decide)).trans rfl
    refine jr_kVv (ci := 8) (n := 2) (As := [.ref (c (210 + 2 * 2)), .ref (c (210 + 2 * 0))]) (rest := []) hE dX10_makeSignature_95 (fun l => c_X8_product l G (c (210 + 2 * 3)) (c (211 + 2 * 3)) (c (210 + 2 * 2)) (c (211 + 2 * 2)) (c (210 + 2 * 0)) (c (211 + 2 * 0)) (S24 3) (chS (exE (emul PP (S 1) GE)) (exE (emul PP d GE)) (B i)) (S 0)) gX10_makeSignature_X8_product rfl ((W24.sc 3 (by decide)).ob) rfl (by decide +kernel) ⟨rfl, rfl, by decide, by decide⟩ (by decide) rfl rfl (Nat.le_of_ble_eq_true rfl) (⟨(W24.sc 3 (by decide)), (by have q := W24.sc 2 (by decide); rw [show S24 2 = (chS (exE (emul PP (S 1) GE)) (exE (emul PP d GE)) (B i)) from (by have q := f24_0; rw [yB19, hB20, show B19 i = B i from hB21, List.drop_zero, List.take_of_length_le (by rw [bex_len]; exact Nat.le_refl _), pb_x hA] at q; exact q)] at q; exact q), (by have q := W24.sc 0 (by decide); rw [show S24 0 = (S 0) from hS25] at q; exact q), (Nat.mod_lt _ NN0), hd, cnd W24.1 [210 + 2 * 3, 211 + 2 * 3, 210 + 2 * 2, 211 + 2 * 2, 210 + 2 * 0, 211 + 2 * 0] (by decide) (by decide)⟩) (fun F26 q27 => ?_)
    obtain ⟨h28, u28⟩ := q27
    obtain ⟨W28, P28⟩ := W24.setS (i := 3) (x := ((chS (exE (emul PP (S 1) GE)) (exE (emul PP d GE)) (B i)) * (S 0) % NN)) (by decide) h28 u28
    have O28 := O24.tr P28
    obtain ⟨S28, eS28, hS28, yS28⟩ := uz_ab S24 3 ((chS (exE (emul PP (S 1) GE)) (exE (emul PP d GE)) (B i)) * (S 0) % NN)
    rw [eS28] at W28
    have nS28 : ∀ z, z ≠ 3 → S28 z = S24 z := fun z hz => hS28 z (fun e => hz (List.mem_singleton.mp e))
    refine jr_aload_n hE dX10_makeSignature_98 0 rfl ?_
    refine jr_get hE dX10_makeSignature_99 f34 W28.o6 rfl ?_
    refine jr_aload_n hE dX10_makeSignature_102 0 rfl ?_
    refine jr_get hE dX10_makeSignature_103 f34 W28.o6 rfl ?_
    refine jr_aload_n hE dX10_makeSignature_106 0 rfl ?_
    refine jr_get hE dX10_makeSignature_107 f28 W28.o6 rfl ?_
    have hS29 : S28 1 = (ngN (eyO (emul PP (S 1) GE)) (S 1)) := ((nS28 1 (by decide)).trans (hS24 1 (by decide))).trans (rfl.trans (by rw [ngN_0 (odd_f (b2i_0 c43))]))
    refine jr_kVv (ci := 8) (n := 2) (As := [.ref (c (210 + 2 * 3)), .ref (c (210 + 2 * 1))]) (rest := []) hE dX10_makeSignature_110 (fun l => c_X8_sum l G (c (210 + 2 * 3)) (c (211 + 2 * 3)) (c (210 + 2 * 1)) (c (211 + 2 * 1)) ((chS (exE (emul PP (S 1) GE)) (exE (emul PP d GE)) (B i)) * (S 0) % NN) (ngN (eyO (emul PP (S 1) GE)) (S 1))) gX10_makeSignature_X8_sum rfl ((W28.sc 3 (by decide)).ob) rfl (by decide +kernel) ⟨rfl, rfl, by decide, by decide⟩ (by decide) rfl rfl (Nat.le_of_ble_eq_true rfl) (⟨(by have q := W28.sc 3 (by decide); rw [show S28 3 = ((chS (exE (emul PP (S 1) GE)) (exE (emul PP d GE)) (B i)) * (S 0) % NN) from yS28] at q; exact q), (by have q := W28.sc 1 (by decide); rw [show S28 1 = (ngN (eyO (emul PP (S 1) GE)) (S 1)) from hS29] at q; exact q), Nat.lt_trans (Nat.mod_lt _ NN0) NN_256, Nat.lt_trans (ngN_lt hk) NN_256, cnd W28.1 [210 + 2 * 3, 211 + 2 * 3, 210 + 2 * 1, 211 + 2 * 1] (by decide) (by decide)⟩) (fun F30 q31 => ?_)
    obtain ⟨h32, u32⟩ := q31
    obtain ⟨W32, P32⟩ := W28.setS (i := 3) (x := ((((chS (exE (emul PP (S 1) GE)) (exE (emul PP d GE)) (B i)) * (S 0) % NN) + (ngN (eyO (emul PP (S 1) GE)) (S 1))) % NN)) (by decide) h32 u32
    have O32 := O28.tr P32
    obtain ⟨S32, eS32, hS32, yS32⟩ := uz_ab S28 3 ((((chS (exE (emul PP (S 1) GE)) (exE (emul PP d GE)) (B i)) * (S 0) % NN) + (ngN (eyO (emul PP (S 1) GE)) (S 1))) % NN)
    rw [eS32] at W32
    have nS32 : ∀ z, z ≠ 3 → S32 z = S28 z := fun z hz => hS32 z (fun e => hz (List.mem_singleton.mp e))
    refine jr_aload_n hE dX10_makeSignature_113 0 rfl ?_
    refine jr_get hE dX10_makeSignature_114 f34 W32.o6 rfl ?_
    refine jr_aload_n hE dX10_makeSignature_117 2 rfl ?_
    have hB33 : B24 16 = (bex (exE (emul PP (S 1) GE)) 32) := (hB24 16 (by decide)).trans yB19
    refine jr_kVv (ci := 8) (n := 1) (As := [.ref (c (270 + 2 * 16))]) (rest := []) hE dX10_makeSignature_118 (fun l => c_X8_addTo l G (c (210 + 2 * 3)) (c (211 + 2 * 3)) (c (270 + 2 * 16)) (c (271 + 2 * 16)) (bcap 16) ((((chS (exE (emul PP (S 1) GE)) (exE (emul PP d GE)) (B i)) * (S 0) % NN) + (ngN (eyO (emul PP (S 1) GE)) (S 1))) % NN) (bex (exE (emul PP (S 1) GE)) 32)) gX10_makeSignature_X8_addTo rfl ((W32.sc 3 (by decide)).ob) rfl (by decide +kernel) ⟨rfl, rfl, by decide, by decide⟩ (by decide) rfl rfl (Nat.le_of_ble_eq_true rfl) (⟨(by have q := W32.sc 3 (by decide); rw [show S32 3 = ((((chS (exE (emul PP (S 1) GE)) (exE (emul PP d GE)) (B i)) * (S 0) % NN) + (ngN (eyO (emul PP (S 1) GE)) (S 1))) % NN) from yS32] at q; exact q), (by have q := W32.by 16 (by decide); rw [show B24 16 = (bex (exE (emul PP (S 1) GE)) 32) from hB33] at q; exact q), by rw [bex_len]; decide, cnd W32.1 [210 + 2 * 3, 211 + 2 * 3, 270 + 2 * 16, 271 + 2 * 16] (by decide) (by decide)⟩) (fun F34 q35 => ?_)
    obtain ⟨h36, u36⟩ := q35
    obtain ⟨W36, P36⟩ := W32.setB (i := 16) (bs := ((bex (exE (emul PP (S 1) GE)) 32) ++ bex ((((chS (exE (emul PP (S 1) GE)) (exE (emul PP d GE)) (B i)) * (S 0) % NN) + (ngN (eyO (emul PP (S 1) GE)) (S 1))) % NN) 32)) (by decide) h36 u36
    have O36 := O32.tr P36
    obtain ⟨B36, eB36, hB36, yB36⟩ := uz_ab B24 16 ((bex (exE (emul PP (S 1) GE)) 32) ++ bex ((((chS (exE (emul PP (S 1) GE)) (exE (emul PP d GE)) (B i)) * (S 0) % NN) + (ngN (eyO (emul PP (S 1) GE)) (S 1))) % NN) 32)
    rw [eB36] at W36
    have nB36 : ∀ z, z ≠ 16 → B36 z = B24 z := fun z hz => hB36 z (fun e => hz (List.mem_singleton.mp e))
    exact hR F34 _ _ dX10_makeSignature_121 ⟨_, _, _, _, W36, (fun z hz => ((nB36 z (jne hz 0 rfl)).trans ((hB24 z (jnsub (V := [17, 19]) hz [1, 2] rfl)).trans ((nB19 z (jne hz 0 rfl)).trans (nB15 z (jne hz 0 rfl)))))), (fun z hz => ((nS32 z (jne hz 2 rfl)).trans ((nS28 z (jne hz 2 rfl)).trans (hS24 z (jnsub (V := [2]) hz [1] rfl))))), (fun z hz => ((nP7 z (jne hz 0 rfl)).trans (nP4 z (jne hz 0 rfl)))), yB36.trans (by rw [Nat.add_comm (ngN (eyO (emul PP (S 1) GE)) (S 1))]), O36⟩
  · refine jr_aload_n hE dX10_makeSignature_46 0 rfl ?_
    refine jr_get hE dX10_makeSignature_47 f28 W12.o6 rfl ?_
    refine jr_kVv (ci := 8) (n := 0) (As := []) (rest := []) hE dX10_makeSignature_50 (fun l => c_X8_negate l G (c (210 + 2 * 1)) (c (211 + 2 * 1)) (S 1)) gX10_makeSignature_X8_negate rfl ((W12.sc 1 (by decide)).ob) rfl (by decide +kernel) ⟨rfl, rfl, by decide, by decide⟩ (by decide) rfl rfl (Nat.le_of_ble_eq_true rfl) (⟨(by have q := W12.sc 1 (by decide); rw [show S 1 = (S 1) from rfl] at q; exact q), hk⟩) (fun F37 q38 => ?_)
    rw [ngN_if] at q38
    obtain ⟨h39, u39⟩ := q38
    obtain ⟨W39, P39⟩ := W12.setS (i := 1) (x := (ngN true (S 1))) (by decide) h39 u39
    have O39 := O12.tr P39
    obtain ⟨S39, eS39, hS39, yS39⟩ := uz_ab S 1 (ngN true (S 1))
    rw [eS39] at W39
    have nS39 : ∀ z, z ≠ 1 → S39 z = S z := fun z hz => hS39 z (fun e => hz (List.mem_singleton.mp e))
    refine jr_aload_n hE dX10_makeSignature_53 2 rfl ?_
    refine jr_kVv (ci := 0) (n := 0) (As := []) (rest := []) hE dX10_makeSignature_54 (fun l => c_X0_empty l G (c (270 + 2 * 16)) (c (271 + 2 * 16)) (bcap 16) (B 16)) gX10_makeSignature_X0_empty rfl ((W39.by 16 (by decide)).ob) rfl (by decide +kernel) ⟨rfl, rfl, by decide, by decide⟩ (by decide) rfl rfl (Nat.le_of_ble_eq_true rfl) (W39.by 16 (by decide)) (fun F40 q41 => ?_)
    obtain ⟨h42, u42⟩ := q41
    obtain ⟨W42, P42⟩ := W39.setBo (i := 16) (bs := []) (by decide) h42 u42
    have O42 := O39.tr P42
    obtain ⟨B42, eB42, hB42, yB42⟩ := uz_ab B 16 ([])
    rw [eB42] at W42
    have nB42 : ∀ z, z ≠ 16 → B42 z = B z := fun z hz => hB42 z (fun e => hz (List.mem_singleton.mp e))
    refine jr_aload_n hE dX10_makeSignature_57 0 rfl ?_
    refine jr_get hE dX10_makeSignature_58 f43 W42.o6 rfl ?_
    refine jr_get hE dX10_makeSignature_61 f140 (W42.pt 17 (by decide) (by decide)).1 rfl ?_
    refine jr_aload_n hE dX10_makeSignature_64 2 rfl ?_
    obtain ⟨hx43, hy43, hz43⟩ := hr7.xy hK
    have hX43 : (P7 17).2.1 = exE (emul PP (S 1) GE) := by rw [hx43]
    have hY43 : (P7 17).2.2.1 = eyN (emul PP (S 1) GE) := by rw [hx43]
    refine jr_kVv (ci := 1) (n := 1) (As := [.ref (c (270 + 2 * 16))]) (rest := []) hE dX10_makeSignature_65 (fun l => c_X1_addTo l G (c (41 + 4 * 17)) (c (270 + 2 * 16)) (c (271 + 2 * 16)) (bcap 16) (P7 17).2.1 ([])) gX10_makeSignature_X1_addTo rfl ((W42.pt 17 (by decide) (by decide)).2.1.cell.choose_spec) rfl (by decide +kernel) ⟨rfl, rfl, by decide, by decide⟩ (by decide) rfl rfl (Nat.le_of_ble_eq_true rfl) (⟨(W42.pt 17 (by decide) (by decide)).2.1, (by have q := W42.by 16 (by decide); rw [show B42 16 = [] from yB42] at q; exact q), by decide, cnd W42.1 [41 + 4 * 17, 270 + 2 * 16, 271 + 2 * 16] (by decide) (by decide)⟩) (fun F44 q45 => ?_)
    rw [show bex (P7 17).2.1 32 = bex (exE (emul PP (S 1) GE)) 32 from by rw [hX43]] at q45
    rw [List.nil_append] at q45
    obtain ⟨W46, P46⟩ := W42.xaddP (i := 17) (k := 16) (by decide) (by decide) (by decide) (by rw [hX43]; exact hy43) q45
    have O46 := O42.tr P46
    obtain ⟨B46, eB46, hB46, yB46⟩ := uz_ab B42 16 (bex (exE (emul PP (S 1) GE)) 32)
    rw [eB46] at W46
    have nB46 : ∀ z, z ≠ 16 → B46 z = B42 z := fun z hz => hB46 z (fun e => hz (List.mem_singleton.mp e))
    refine jr_aload_n hE dX10_makeSignature_68 0 rfl ?_
    refine jr_aload_n hE dX10_makeSignature_69 0 rfl ?_
    refine jr_get hE dX10_makeSignature_70 f31 W46.o6 rfl ?_
    refine jr_aload_n hE dX10_makeSignature_73 2 rfl ?_
    refine jr_aload_n hE dX10_makeSignature_74 0 rfl ?_
    refine jr_get hE dX10_makeSignature_75 f21 W46.o6 rfl ?_
    refine jr_iconst (v := (1 : Int32)) hE dX10_makeSignature_78 (by decide) ?_
    refine jr_aload_n hE dX10_makeSignature_79 1 rfl ?_
    have hB47 : B46 18 = (pbE (emul PP d GE)) := ((nB46 18 (by decide)).trans (nB42 18 (by decide))).trans hown
    have hB48 : B46 i = (B i) := ((nB46 i (by omega)).trans (nB42 i (by omega))).trans rfl
    refine jr_kVv (ci := 10) (n := 5) (As := [.ref (c (210 + 2 * 2)), .ref (c (270 + 2 * 16)), .ref (c (270 + 2 * 18)), .int (1 : Int32), .ref (c (270 + 2 * i))]) (rest := []) hE dX10_makeSignature_80 (fun l => c_s_challenge l G c B46 S39 P7 q X v 2 16 18 1 i) gX10_makeSignature_X10_challenge rfl W46.o6 rfl (by decide +kernel) ⟨rfl, rfl, by decide, by decide⟩ (by decide) rfl rfl (Nat.le_of_ble_eq_true rfl) (⟨W46, by decide, by decide, by decide, by omega, by decide, by decide, by omega, by decide, by decide, by omega, (by rw [yB46, bex_len]; exact Nat.le_refl _), (by rw [hB47, pbE_len]; decide), (by rw [show B46 i = B i from hB48]; exact hli)⟩) (fun F49 q50 => ?_)
    obtain ⟨B51, S51, q51, W51, hB51, hS51, f51_0, P51⟩ := q50
    have O51 := O46.tr P51
    refine jr_aload_n hE dX10_makeSignature_83 0 rfl ?_
    refine jr_get hE dX10_makeSignature_84 f34 W51.o6 rfl ?_
    refine jr_aload_n hE dX10_makeSignature_87 0 rfl ?_
    refine jr_get hE dX10_makeSignature_88 f31 W51.o6 rfl ?_
    refine jr_aload_n hE dX10_makeSignature_91 0 rfl ?_
    refine jr_get hE dX10_makeSignature_92 f10 W51.o6 rfl ?_
    have hS52 : S51 0 = (S 0) := ((hS51 0 (by decide)).trans (nS39 0 (by decide))).trans rfl
    refine jr_kVv (ci := 8) (n := 2) (As := [.ref (c (210 + 2 * 2)), .ref (c (210 + 2 * 0))]) (rest := []) hE dX10_makeSignature_95 (fun l => c_X8_product l G (c (210 + 2 * 3)) (c (211 + 2 * 3)) (c (210 + 2 * 2)) (c (211 + 2 * 2)) (c (210 + 2 * 0)) (c (211 + 2 * 0)) (S51 3) (chS (exE (emul PP (S 1) GE)) (exE (emul PP d GE)) (B i)) (S 0)) gX10_makeSignature_X8_product rfl ((W51.sc 3 (by decide)).ob) rfl (by decide +kernel) ⟨rfl, rfl, by decide, by decide⟩ (by decide) rfl rfl (Nat.le_of_ble_eq_true rfl) (⟨(W51.sc 3 (by decide)), (by have q := W51.sc 2 (by decide); rw [show S51 2 = (chS (exE (emul PP (S 1) GE)) (exE (emul PP d GE)) (B i)) from (by have q := f51_0; rw [yB46, hB47, show B46 i = B i from hB48, List.drop_zero, List.take_of_length_le (by rw [bex_len]; exact Nat.le_refl _), pb_x hA] at q; exact q)] at q; exact q), (by have q := W51.sc 0 (by decide); rw [show S51 0 = (S 0) from hS52] at q; exact q), (Nat.mod_lt _ NN0), hd, cnd W51.1 [210 + 2 * 3, 211 + 2 * 3, 210 + 2 * 2, 211 + 2 * 2, 210 + 2 * 0, 211 + 2 * 0] (by decide) (by decide)⟩) (fun F53 q54 => ?_)
    obtain ⟨h55, u55⟩ := q54
    obtain ⟨W55, P55⟩ := W51.setS (i := 3) (x := ((chS (exE (emul PP (S 1) GE)) (exE (emul PP d GE)) (B i)) * (S 0) % NN)) (by decide) h55 u55
    have O55 := O51.tr P55
    obtain ⟨S55, eS55, hS55, yS55⟩ := uz_ab S51 3 ((chS (exE (emul PP (S 1) GE)) (exE (emul PP d GE)) (B i)) * (S 0) % NN)
    rw [eS55] at W55
    have nS55 : ∀ z, z ≠ 3 → S55 z = S51 z := fun z hz => hS55 z (fun e => hz (List.mem_singleton.mp e))
    refine jr_aload_n hE dX10_makeSignature_98 0 rfl ?_
    refine jr_get hE dX10_makeSignature_99 f34 W55.o6 rfl ?_
    refine jr_aload_n hE dX10_makeSignature_102 0 rfl ?_
    refine jr_get hE dX10_makeSignature_103 f34 W55.o6 rfl ?_
    refine jr_aload_n hE dX10_makeSignature_106 0 rfl ?_
    refine jr_get hE dX10_makeSignature_107 f28 W55.o6 rfl ?_
    have hS56 : S55 1 = (ngN (eyO (emul PP (S 1) GE)) (S 1)) := ((nS55 1 (by decide)).trans (hS51 1 (by decide))).trans (yS39.trans (by rw [odd_t (b2i_1 c43)]))
    refine jr_kVv (ci := 8) (n := 2) (As := [.ref (c (210 + 2 * 3)), .ref (c (210 + 2 * 1))]) (rest := []) hE dX10_makeSignature_110 (fun l => c_X8_sum l G (c (210 + 2 * 3)) (c (211 + 2 * 3)) (c (210 + 2 * 1)) (c (211 + 2 * 1)) ((chS (exE (emul PP (S 1) GE)) (exE (emul PP d GE)) (B i)) * (S 0) % NN) (ngN (eyO (emul PP (S 1) GE)) (S 1))) gX10_makeSignature_X8_sum rfl ((W55.sc 3 (by decide)).ob) rfl (by decide +kernel) ⟨rfl, rfl, by decide, by decide⟩ (by decide) rfl rfl (Nat.le_of_ble_eq_true rfl) (⟨(by have q := W55.sc 3 (by decide); rw [show S55 3 = ((chS (exE (emul PP (S 1) GE)) (exE (emul PP d GE)) (B i)) * (S 0) % NN) from yS55] at q; exact q), (by have q := W55.sc 1 (by decide); rw [show S55 1 = (ngN (eyO (emul PP (S 1) GE)) (S 1)) from hS56] at q; exact q), Nat.lt_trans (Nat.mod_lt _ NN0) NN_256, Nat.lt_trans (ngN_lt hk) NN_256, cnd W55.1 [210 + 2 * 3, 211 + 2 * 3, 210 + 2 * 1, 211 + 2 * 1] (by decide) (by decide)⟩) (fun F57 q58 => ?_)
    obtain ⟨h59, u59⟩ := q58
    obtain ⟨W59, P59⟩ := W55.setS (i := 3) (x := ((((chS (exE (emul PP (S 1) GE)) (exE (emul PP d GE)) (B i)) * (S 0) % NN) + (ngN (eyO (emul PP (S 1) GE)) (S 1))) % NN)) (by decide) h59 u59
    have O59 := O55.tr P59
    obtain ⟨S59, eS59, hS59, yS59⟩ := uz_ab S55 3 ((((chS (exE (emul PP (S 1) GE)) (exE (emul PP d GE)) (B i)) * (S 0) % NN) + (ngN (eyO (emul PP (S 1) GE)) (S 1))) % NN)
    rw [eS59] at W59
    have nS59 : ∀ z, z ≠ 3 → S59 z = S55 z := fun z hz => hS59 z (fun e => hz (List.mem_singleton.mp e))
    refine jr_aload_n hE dX10_makeSignature_113 0 rfl ?_
    refine jr_get hE dX10_makeSignature_114 f34 W59.o6 rfl ?_
    refine jr_aload_n hE dX10_makeSignature_117 2 rfl ?_
    have hB60 : B51 16 = (bex (exE (emul PP (S 1) GE)) 32) := (hB51 16 (by decide)).trans yB46
    refine jr_kVv (ci := 8) (n := 1) (As := [.ref (c (270 + 2 * 16))]) (rest := []) hE dX10_makeSignature_118 (fun l => c_X8_addTo l G (c (210 + 2 * 3)) (c (211 + 2 * 3)) (c (270 + 2 * 16)) (c (271 + 2 * 16)) (bcap 16) ((((chS (exE (emul PP (S 1) GE)) (exE (emul PP d GE)) (B i)) * (S 0) % NN) + (ngN (eyO (emul PP (S 1) GE)) (S 1))) % NN) (bex (exE (emul PP (S 1) GE)) 32)) gX10_makeSignature_X8_addTo rfl ((W59.sc 3 (by decide)).ob) rfl (by decide +kernel) ⟨rfl, rfl, by decide, by decide⟩ (by decide) rfl rfl (Nat.le_of_ble_eq_true rfl) (⟨(by have q := W59.sc 3 (by decide); rw [show S59 3 = ((((chS (exE (emul PP (S 1) GE)) (exE (emul PP d GE)) (B i)) * (S 0) % NN) + (ngN (eyO (emul PP (S 1) GE)) (S 1))) % NN) from yS59] at q; exact q), (by have q := W59.by 16 (by decide); rw [show B51 16 = (bex (exE (emul PP (S 1) GE)) 32) from hB60] at q; exact q), by rw [bex_len]; decide, cnd W59.1 [210 + 2 * 3, 211 + 2 * 3, 270 + 2 * 16, 271 + 2 * 16] (by decide) (by decide)⟩) (fun F61 q62 => ?_)
    obtain ⟨h63, u63⟩ := q62
    obtain ⟨W63, P63⟩ := W59.setB (i := 16) (bs := ((bex (exE (emul PP (S 1) GE)) 32) ++ bex ((((chS (exE (emul PP (S 1) GE)) (exE (emul PP d GE)) (B i)) * (S 0) % NN) + (ngN (eyO (emul PP (S 1) GE)) (S 1))) % NN) 32)) (by decide) h63 u63
    have O63 := O59.tr P63
    obtain ⟨B63, eB63, hB63, yB63⟩ := uz_ab B51 16 ((bex (exE (emul PP (S 1) GE)) 32) ++ bex ((((chS (exE (emul PP (S 1) GE)) (exE (emul PP d GE)) (B i)) * (S 0) % NN) + (ngN (eyO (emul PP (S 1) GE)) (S 1))) % NN) 32)
    rw [eB63] at W63
    have nB63 : ∀ z, z ≠ 16 → B63 z = B51 z := fun z hz => hB63 z (fun e => hz (List.mem_singleton.mp e))
    exact hR F61 _ _ dX10_makeSignature_121 ⟨_, _, _, _, W63, (fun z hz => ((nB63 z (jne hz 0 rfl)).trans ((hB51 z (jnsub (V := [17, 19]) hz [1, 2] rfl)).trans ((nB46 z (jne hz 0 rfl)).trans (nB42 z (jne hz 0 rfl)))))), (fun z hz => ((nS59 z (jne hz 2 rfl)).trans ((nS55 z (jne hz 2 rfl)).trans ((hS51 z (jnsub (V := [2]) hz [1] rfl)).trans (nS39 z (jne hz 0 rfl)))))), (fun z hz => ((nP7 z (jne hz 0 rfl)).trans (nP4 z (jne hz 0 rfl)))), yB63.trans (by rw [Nat.add_comm (ngN (eyO (emul PP (S 1) GE)) (S 1))]), O63⟩

