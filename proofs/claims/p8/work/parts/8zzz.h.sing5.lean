/-! Single: judgeMany -/
set_option maxHeartbeats 4000000 in
set_option maxRecDepth 100000 in
theorem c_s_judgeMany (l : Launch) (G : Nat → ClassId) (c : Nat → Nat) (B : Nat → List Nat) (S : Nat → Nat) (P : Nat → JP) (q : SS) (X : Nat) (v : Nat → Int32) (n : Nat) (En : List SE) : jKi l yX10_judgeMany wsX10_judgeMany ({ frames := 6, cells := 0, slots := 0, locals := 148 }) G [.ref (c 6), .ref (c 2), .int (nI n)] (fun L F => CW G L F c B S P q X v ∧ n ≤ 4 ∧ rep (P 16) GE ∧ (∀ e, e < n → B (26 + 3 * e) = (enG En e).1 ∧ B (27 + 3 * e) = (enG En e).2.1 ∧ B (28 + 3 * e) = (enG En e).2.2.1 ∧ (enG En e).1.length = 32 ∧ (enG En e).2.1.length ≤ 40 ∧ (enG En e).2.2.1.length = 64 ∧ S (10 + 2 * e) = (enG En e).2.2.2 ∧ (enG En e).2.2.2 < NN ∧ S (11 + 2 * e) = bnum ((enG En e).2.2.1.drop 32) ∧ bnum ((enG En e).2.2.1.drop 32) < NN ∧ rep (P (21 + 2 * e)) (lfE (bnum (enG En e).1)) ∧ rep (P (22 + 2 * e)) (lfE (bnum ((enG En e).2.2.1.take 32))))) (fun L F r F1 => ∃ B' S' P' q', CW G L F1 c B' S' P' q' X v ∧ (∀ i, i ∉ [17, 19] → B' i = B i) ∧ (∀ i, i ∉ [2, 3, 4] → S' i = S i) ∧ (∀ i, i ∉ [17, 18] → P' i = P i) ∧ r = b2i (emul PP (mhA En n) GE = mhS En n) ∧ cO c F F1) := by
  refine jm_ki (cc := cX10_judgeMany) (maxL := 5) (rt := .boolean) (by decide) rfl (Nat.le_of_ble_eq_true rfl) ?_
  intro E L F hE hR hpre
  have hE : jOk E G _ cX10_judgeMany 5 RX10 wsX10_judgeMany := hE
  obtain ⟨W0, hn, hG, hdat⟩ := hpre
  have f43 : jFl RX10 wsX10_judgeMany 43 10 9 := ⟨rfl, by decide, by decide +kernel, by decide +kernel⟩
  have f161 : jFl RX10 wsX10_judgeMany 161 6 3 := ⟨rfl, by decide, by decide +kernel, by decide +kernel⟩
  have f34 : jFl RX10 wsX10_judgeMany 34 10 7 := ⟨rfl, by decide, by decide +kernel, by decide +kernel⟩
  have f64 : jFl RX10 wsX10_judgeMany 64 10 0 := ⟨rfl, by decide, by decide +kernel, by decide +kernel⟩
  have f47 : jFl RX10 wsX10_judgeMany 47 10 10 := ⟨rfl, by decide, by decide +kernel, by decide +kernel⟩
  have f80 : jFl RX10 wsX10_judgeMany 80 2 0 := ⟨rfl, by decide, by decide +kernel, by decide +kernel⟩
  have f37 : jFl RX10 wsX10_judgeMany 37 10 8 := ⟨rfl, by decide, by decide +kernel, by decide +kernel⟩
  have f188 : jFl RX10 wsX10_judgeMany 188 3 3 := ⟨rfl, by decide, by decide +kernel, by decide +kernel⟩
  have f183 : jFl RX10 wsX10_judgeMany 183 3 4 := ⟨rfl, by decide, by decide +kernel, by decide +kernel⟩
  have f177 : jFl RX10 wsX10_judgeMany 177 3 6 := ⟨rfl, by decide, by decide +kernel, by decide +kernel⟩
  have f31 : jFl RX10 wsX10_judgeMany 31 10 6 := ⟨rfl, by decide, by decide +kernel, by decide +kernel⟩
  have f180 : jFl RX10 wsX10_judgeMany 180 3 2 := ⟨rfl, by decide, by decide +kernel, by decide +kernel⟩
  have f174 : jFl RX10 wsX10_judgeMany 174 3 0 := ⟨rfl, by decide, by decide +kernel, by decide +kernel⟩
  have f191 : jFl RX10 wsX10_judgeMany 191 3 1 := ⟨rfl, by decide, by decide +kernel, by decide +kernel⟩
  have f169 : jFl RX10 wsX10_judgeMany 169 3 5 := ⟨rfl, by decide, by decide +kernel, by decide +kernel⟩
  refine jr_aload_n hE dX10_judgeMany_0 0 rfl ?_
  refine jr_get hE dX10_judgeMany_1 f43 W0.o6 rfl ?_
  refine jr_iconst (v := (1 : Int32)) hE dX10_judgeMany_4 (by decide) ?_
  refine jr_put (ty := .boolean) hE dX10_judgeMany_5 f161 (W0.pt 17 (by decide) (by decide)).1 rfl (by decide +kernel) rfl rfl (Nat.le_of_ble_eq_true rfl) (fun F1 h1 u1 => ?_)
  obtain ⟨W1, P1⟩ := W0.noughtP (i := 17) (by decide) (by decide) h1 u1
  have O1 := (cO.rf c F).tr P1
  obtain ⟨P1, eP1, hP1, yP1⟩ := uz_ab P 17 (true, (P 17).2)
  rw [eP1] at W1
  have nP1 : ∀ z, z ≠ 17 → P1 z = P z := fun z hz => hP1 z (fun e => hz (List.mem_singleton.mp e))
  have hz1 : rep (P1 17) none := by rw [yP1]; exact Or.inl ⟨rfl, rfl⟩
  refine jr_aload_n hE dX10_judgeMany_8 0 rfl ?_
  refine jr_get hE dX10_judgeMany_9 f34 W1.o6 rfl ?_
  refine jr_lconst (v := (0 : Int64)) hE dX10_judgeMany_12 (by decide) ?_
  refine jr_kVv (ci := 8) (n := 1) (As := [.long (0 : Int64)]) (rest := []) hE dX10_judgeMany_13 (fun l => c_X8_becomeNumber l G (c (210 + 2 * 3)) (c (211 + 2 * 3)) (S 3) 0) gX10_judgeMany_X8_becomeNumber rfl ((W1.sc 3 (by decide)).ob) rfl (by decide +kernel) ⟨rfl, rfl, by decide, by decide⟩ (by decide) rfl rfl (Nat.le_of_ble_eq_true rfl) (⟨(W1.sc 3 (by decide)), by decide⟩) (fun F2 q3 => ?_)
  obtain ⟨h4, u4⟩ := q3
  obtain ⟨W4, P4⟩ := W1.setS (i := 3) (x := 0) (by decide) h4 u4
  have O4 := O1.tr P4
  obtain ⟨S4, eS4, hS4, yS4⟩ := uz_ab S 3 0
  rw [eS4] at W4
  have nS4 : ∀ z, z ≠ 3 → S4 z = S z := fun z hz => hS4 z (fun e => hz (List.mem_singleton.mp e))
  refine jr_iconst (v := (0 : Int32)) hE dX10_judgeMany_16 (by decide) ?_
  refine jr_istore_n (lv' := [(3, .int (0 : Int32)), (0, .ref (c 6)), (1, .ref (c 2)), (2, .int (nI n))]) hE dX10_judgeMany_17 (by decide) rfl ?_
  have loop : ∀ (r0 i : Nat) (F4 : Nat → va_E) (B4 : Nat → List Nat) (S4 : Nat → Nat) (P4 : Nat → JP) (q4 : SS), i + r0 = n → CW G L F4 c B4 S4 P4 q4 X v → (∀ z, z ∉ [17, 19] → B4 z = B z) → (∀ z, z ∉ [2, 3, 4] → S4 z = S z) → (∀ z, z ∉ [17, 18] → P4 z = P z) → S4 3 = mhA En i → rep (P4 17) (mhS En i) → cO c F F4 → J E L F4 0 0 18 [(3, .int (nI i)), (0, .ref (c 6)), (1, .ref (c 2)), (2, .int (nI n))] [] := by
    intro r0
    induction r0 with
    | zero =>
      intro i F4 B4 S4 P4 q4 hi W4 hBf hSf hPf h3 hr O4
      have hiN : n = i := by omega
      subst hiN
      refine jr_iload_n hE dX10_judgeMany_18 0 rfl ?_
      refine jr_iload_n hE dX10_judgeMany_19 3 rfl ?_
      refine jr_icmp_ge (tgt := 183) hE dX10_judgeMany_20 (by decide) (fun c_20 => ?_) (fun c_20 => absurd (nI_le (a := n) (by omega) (by omega)) c_20)
      refine jr_aload_n hE dX10_judgeMany_183 1 rfl ?_
      refine jr_get hE dX10_judgeMany_184 f34 W4.o6 rfl ?_
      refine jr_kVv (ci := 8) (n := 0) (As := []) (rest := []) hE dX10_judgeMany_187 (fun l => c_X8_negate l G (c (210 + 2 * 3)) (c (211 + 2 * 3)) (mhA En n)) gX10_judgeMany_X8_negate rfl ((W4.sc 3 (by decide)).ob) rfl (by decide +kernel) ⟨rfl, rfl, by decide, by decide⟩ (by decide) rfl rfl (Nat.le_of_ble_eq_true rfl) (⟨(by have q := W4.sc 3 (by decide); rw [show S4 3 = (mhA En n) from h3] at q; exact q), (mhA_lt _ _)⟩) (fun F5 q6 => ?_)
      rw [ngN_if] at q6
      obtain ⟨h7, u7⟩ := q6
      obtain ⟨W7, P7⟩ := W4.setS (i := 3) (x := (ngN true (mhA En n))) (by decide) h7 u7
      have O7 := O4.tr P7
      obtain ⟨S7, eS7, hS7, yS7⟩ := uz_ab S4 3 (ngN true (mhA En n))
      rw [eS7] at W7
      have nS7 : ∀ z, z ≠ 3 → S7 z = S4 z := fun z hz => hS7 z (fun e => hz (List.mem_singleton.mp e))
      refine jr_aload_n hE dX10_judgeMany_190 1 rfl ?_
      refine jr_get hE dX10_judgeMany_191 f64 W7.o6 rfl ?_
      refine jr_aload_n hE dX10_judgeMany_194 1 rfl ?_
      refine jr_get hE dX10_judgeMany_195 f47 W7.o6 rfl ?_
      refine jr_aload_n hE dX10_judgeMany_198 1 rfl ?_
      refine jr_get hE dX10_judgeMany_199 f64 W7.o6 rfl ?_
      refine jr_get hE dX10_judgeMany_202 f80 W7.cv rfl ?_
      refine jr_aload_n hE dX10_judgeMany_205 1 rfl ?_
      refine jr_get hE dX10_judgeMany_206 f34 W7.o6 rfl ?_
      have hp8 : rep (P4 16) GE := by rw [show P4 16 = P 16 from (hPf 16 (by decide))]; exact hG
      obtain ⟨f9, jm9, gm9⟩ := W7.cu.2.2.2.1
      have hk9 : S7 3 < 2 ^ 256 := by rw [show S7 3 = (ngN true (mhA En n)) from yS7]; exact Nat.lt_trans (ngN_lt (mhA_lt _ _)) NN_256
      refine jr_kVv (ci := 2) (n := 3) (As := [.ref (c (40 + 4 * 18)), .ref (c (40 + 4 * 16)), .ref (c (210 + 2 * 3))]) (rest := []) hE dX10_judgeMany_209 (fun l => c_X2_times l G (c 9) (c (40 + 4 * 16)) (c 11) (c 10) (c 12) (c 13) (c 14) (c 15) (c 16) (c 17) (c (40 + 4 * 18)) (c (41 + 4 * 18)) (c (42 + 4 * 18)) (c (43 + 4 * 18)) (c (40 + 4 * 16)) (c (41 + 4 * 16)) (c (42 + 4 * 16)) (c (43 + 4 * 16)) (c (210 + 2 * 3)) (c (211 + 2 * 3)) (S7 3) f9 (fun i k => c (ck i k)) (P4 18) (P4 16)) gX10_judgeMany_X2_times rfl W7.cv rfl (by decide +kernel) ⟨rfl, rfl, by decide, by decide⟩ (by decide) rfl rfl (Nat.le_of_ble_eq_true rfl) (W7.timesPre jm9 gm9 18 16 3 (by decide) (by decide) (by decide) (by decide) (by decide) hk9) (fun F10 q11 => ?_)
      obtain ⟨W12, P12⟩ := W7.timesP gm9 (i := 18) (by decide) (by decide) q11
      have O12 := O7.tr P12
      obtain ⟨P12, eP12, hP12, yP12⟩ := uz_ab P4 18 (tmJ (P4 18) (P4 16) (S7 3))
      rw [eP12] at W12
      have nP12 : ∀ z, z ≠ 18 → P12 z = P4 z := fun z hz => hP12 z (fun e => hz (List.mem_singleton.mp e))
      have hr12 : rep (P12 18) (emul PP (ngN true (mhA En n)) GE) := by rw [yP12]; exact (by have q := rep_tm (O := P4 18) hp8 hk9; rw [show S7 3 = (ngN true (mhA En n)) from yS7] at q ⊢; exact q)
      refine jr_aload_n hE dX10_judgeMany_212 1 rfl ?_
      refine jr_get hE dX10_judgeMany_213 f64 W12.o6 rfl ?_
      refine jr_aload_n hE dX10_judgeMany_216 1 rfl ?_
      refine jr_get hE dX10_judgeMany_217 f43 W12.o6 rfl ?_
      refine jr_aload_n hE dX10_judgeMany_220 1 rfl ?_
      refine jr_get hE dX10_judgeMany_221 f47 W12.o6 rfl ?_
      have hp13 : rep (P12 17) (mhS En n) := by rw [show P12 17 = P4 17 from (nP12 17 (by decide))]; exact hr
      refine jr_kVv (ci := 2) (n := 2) (As := [.ref (c (40 + 4 * 17)), .ref (c (40 + 4 * 18))]) (rest := []) hE dX10_judgeMany_224 (fun l => c_X2_plus l G (c 9) (c (40 + 4 * 16)) (c 11) (c 10) (c 12) (c 13) (c 14) (c 15) (c 16) (c 17) (c (40 + 4 * 17)) (c (41 + 4 * 17)) (c (42 + 4 * 17)) (c (43 + 4 * 17)) (c (40 + 4 * 18)) (c (41 + 4 * 18)) (c (42 + 4 * 18)) (c (43 + 4 * 18)) (P12 17) (P12 18)) gX10_judgeMany_X2_plus rfl W12.cv rfl (by decide +kernel) ⟨rfl, rfl, by decide, by decide⟩ (by decide) rfl rfl (Nat.le_of_ble_eq_true rfl) (W12.plusPre 17 18 (by decide) (by decide) (by decide) (by decide) (by decide)) (fun F14 q15 => ?_)
      obtain ⟨g16, h16, u16⟩ := q15
      obtain ⟨W16, P16⟩ := W12.plus (i := 17) (by decide) (by decide) g16 h16 u16
      have O16 := O12.tr P16
      obtain ⟨P16, eP16, hP16, yP16⟩ := uz_ab P12 17 (plJ (P12 17) (P12 18))
      rw [eP16] at W16
      have nP16 : ∀ z, z ≠ 17 → P16 z = P12 z := fun z hz => hP16 z (fun e => hz (List.mem_singleton.mp e))
      have hr16 : rep (P16 17) (eadd PP (mhS En n) (emul PP (ngN true (mhA En n)) GE)) := by rw [yP16]; exact rep_pl hp13 hr12
      refine jr_aload_n hE dX10_judgeMany_227 1 rfl ?_
      refine jr_get hE dX10_judgeMany_228 f43 W16.o6 rfl ?_
      refine jr_get hE dX10_judgeMany_231 f161 (W16.pt 17 (by decide) (by decide)).1 rfl ?_
      rw [hr16.no]
      have hS := hr.onE
      have hfin : (eadd PP (mhS En n) (emul PP (ngN true (mhA En n)) GE)) = none ↔ emul PP (mhA En n) GE = mhS En n := by
        rw [emul_ng onG (mhA_lt _ _), emul_neg gdP onG]
        exact eadd_ng hS (onE_mul gdP onG _)
      exact hR F14 _ _ _ dX10_judgeMany_234 (b2i_z _) ⟨_, _, _, _, W16, (fun z hz => (hBf z (jnsub (V := [17, 19]) hz [0, 1] rfl))), (fun z hz => ((nS7 z (jne hz 1 rfl)).trans (hSf z (jnsub (V := [2, 3, 4]) hz [0, 1, 2] rfl)))), (fun z hz => ((nP16 z (jne hz 0 rfl)).trans ((nP12 z (jne hz 1 rfl)).trans (hPf z (jnsub (V := [17, 18]) hz [0, 1] rfl))))), (b2i_c hfin), O16⟩
    | succ r0 ih =>
      intro i F4 B4 S4 P4 q4 hi W4 hBf hSf hPf h3 hr O4
      obtain ⟨d1, d2, d3, d4, d5, d6, d7, d8, d9, d10, d11, d12⟩ := hdat i (by omega)
      refine jr_iload_n hE dX10_judgeMany_18 0 rfl ?_
      refine jr_iload_n hE dX10_judgeMany_19 3 rfl ?_
      refine jr_icmp_ge (tgt := 183) hE dX10_judgeMany_20 (by decide) (fun c_20 => absurd c_20 (nI_ge (b := n) (by omega) (by omega))) (fun c_20 => ?_)
      refine jr_iload_n hE dX10_judgeMany_23 0 rfl ?_
      refine jr_aload_n hE dX10_judgeMany_24 2 rfl ?_
      obtain ⟨f17, ja17, ga17⟩ := W4.aE
      refine jr_alen (v := 4) hE dX10_judgeMany_25 ja17 rfl rfl ?_
      refine jr_icmp_ge (tgt := 183) hE dX10_judgeMany_26 (by decide) (fun c_26 => absurd c_26 (nI_ge (b := 4) (by omega) (by omega))) (fun c_26 => ?_)
      refine jr_aload_n hE dX10_judgeMany_29 2 rfl ?_
      refine jr_iload_n hE dX10_judgeMany_30 0 rfl ?_
      obtain ⟨f18, ja18, ga18⟩ := W4.aE
      refine jr_aald (v := c (25 + i)) hE dX10_judgeMany_31 ja18 rfl (vp_in_nI (n := i) (by omega) (by decide)) (by rw [nI_clamp (by omega)]; exact ga18 i (by omega)) ?_
      refine jr_astore (lv' := [(4, .ref (c (25 + i))), (3, .int (nI i)), (0, .ref (c 6)), (1, .ref (c 2)), (2, .int (nI n))]) hE dX10_judgeMany_32 (by decide) rfl ?_
      refine jr_aload_n hE dX10_judgeMany_34 2 rfl ?_
      refine jr_get hE dX10_judgeMany_35 f37 W4.o6 rfl ?_
      refine jr_aload hE dX10_judgeMany_38 0 rfl ?_
      refine jr_get hE dX10_judgeMany_40 f188 (W4.oE i (by omega)) rfl ?_
      refine jr_aload hE dX10_judgeMany_43 0 rfl ?_
      refine jr_get hE dX10_judgeMany_45 f183 (W4.oE i (by omega)) rfl ?_
      have hS19 : S4 (10 + 2 * i) = ((enG En i).2.2.2) := (hSf (10 + 2 * i) (by simp only [List.mem_cons, List.not_mem_nil, or_false, not_or]; omega)).trans d7
      have hS20 : S4 (11 + 2 * i) = (bnum ((enG En i).2.2.1.drop 32)) := (hSf (11 + 2 * i) (by simp only [List.mem_cons, List.not_mem_nil, or_false, not_or]; omega)).trans d9
      refine jr_kVv (ci := 8) (n := 2) (As := [.ref (c (210 + 2 * (10 + 2 * i))), .ref (c (210 + 2 * (11 + 2 * i)))]) (rest := []) hE dX10_judgeMany_48 (fun l => c_X8_product l G (c (210 + 2 * 4)) (c (211 + 2 * 4)) (c (210 + 2 * (10 + 2 * i))) (c (211 + 2 * (10 + 2 * i))) (c (210 + 2 * (11 + 2 * i))) (c (211 + 2 * (11 + 2 * i))) (S4 4) ((enG En i).2.2.2) (bnum ((enG En i).2.2.1.drop 32))) gX10_judgeMany_X8_product rfl ((W4.sc 4 (by decide)).ob) rfl (by decide +kernel) ⟨rfl, rfl, by decide, by decide⟩ (by decide) rfl rfl (Nat.le_of_ble_eq_true rfl) (⟨(W4.sc 4 (by decide)), (by have q := W4.sc (10 + 2 * i) (by omega); rw [show S4 (10 + 2 * i) = (enG En i).2.2.2 from hS19] at q; exact q), (by have q := W4.sc (11 + 2 * i) (by omega); rw [show S4 (11 + 2 * i) = (bnum ((enG En i).2.2.1.drop 32)) from hS20] at q; exact q), d8, d10, cnd W4.1 [210 + 2 * 4, 211 + 2 * 4, 210 + 2 * (10 + 2 * i), 211 + 2 * (10 + 2 * i), 210 + 2 * (11 + 2 * i), 211 + 2 * (11 + 2 * i)] (by simp only [List.mem_cons, List.not_mem_nil, or_false]; omega) (by simp only [List.nodup_cons, List.mem_cons, List.not_mem_nil, or_false, not_or, List.nodup_nil, not_false_eq_true, and_true]; omega)⟩) (fun F21 q22 => ?_)
      obtain ⟨h23, u23⟩ := q22
      obtain ⟨W23, P23⟩ := W4.setS (i := 4) (x := (((enG En i).2.2.2) * (bnum ((enG En i).2.2.1.drop 32)) % NN)) (by decide) h23 u23
      have O23 := O4.tr P23
      obtain ⟨S23, eS23, hS23, yS23⟩ := uz_ab S4 4 (((enG En i).2.2.2) * (bnum ((enG En i).2.2.1.drop 32)) % NN)
      rw [eS23] at W23
      have nS23 : ∀ z, z ≠ 4 → S23 z = S4 z := fun z hz => hS23 z (fun e => hz (List.mem_singleton.mp e))
      refine jr_aload_n hE dX10_judgeMany_51 2 rfl ?_
      refine jr_get hE dX10_judgeMany_52 f34 W23.o6 rfl ?_
      refine jr_aload_n hE dX10_judgeMany_55 2 rfl ?_
      refine jr_get hE dX10_judgeMany_56 f34 W23.o6 rfl ?_
      refine jr_aload_n hE dX10_judgeMany_59 2 rfl ?_
      refine jr_get hE dX10_judgeMany_60 f37 W23.o6 rfl ?_
      have hS24 : S23 3 = (mhA En i) := (nS23 3 (by decide)).trans h3
      refine jr_kVv (ci := 8) (n := 2) (As := [.ref (c (210 + 2 * 3)), .ref (c (210 + 2 * 4))]) (rest := []) hE dX10_judgeMany_63 (fun l => c_X8_sum l G (c (210 + 2 * 3)) (c (211 + 2 * 3)) (c (210 + 2 * 4)) (c (211 + 2 * 4)) (mhA En i) (((enG En i).2.2.2) * (bnum ((enG En i).2.2.1.drop 32)) % NN)) gX10_judgeMany_X8_sum rfl ((W23.sc 3 (by decide)).ob) rfl (by decide +kernel) ⟨rfl, rfl, by decide, by decide⟩ (by decide) rfl rfl (Nat.le_of_ble_eq_true rfl) (⟨(by have q := W23.sc 3 (by decide); rw [show S23 3 = (mhA En i) from hS24] at q; exact q), (by have q := W23.sc 4 (by decide); rw [show S23 4 = (((enG En i).2.2.2) * (bnum ((enG En i).2.2.1.drop 32)) % NN) from yS23] at q; exact q), Nat.lt_trans (mhA_lt _ _) NN_256, Nat.lt_trans (Nat.mod_lt _ NN0) NN_256, cnd W23.1 [210 + 2 * 3, 211 + 2 * 3, 210 + 2 * 4, 211 + 2 * 4] (by decide) (by decide)⟩) (fun F25 q26 => ?_)
      obtain ⟨h27, u27⟩ := q26
      obtain ⟨W27, P27⟩ := W23.setS (i := 3) (x := (((mhA En i) + (((enG En i).2.2.2) * (bnum ((enG En i).2.2.1.drop 32)) % NN)) % NN)) (by decide) h27 u27
      have O27 := O23.tr P27
      obtain ⟨S27, eS27, hS27, yS27⟩ := uz_ab S23 3 (((mhA En i) + (((enG En i).2.2.2) * (bnum ((enG En i).2.2.1.drop 32)) % NN)) % NN)
      rw [eS27] at W27
      have nS27 : ∀ z, z ≠ 3 → S27 z = S23 z := fun z hz => hS27 z (fun e => hz (List.mem_singleton.mp e))
      refine jr_aload_n hE dX10_judgeMany_66 2 rfl ?_
      refine jr_get hE dX10_judgeMany_67 f64 W27.o6 rfl ?_
      refine jr_aload_n hE dX10_judgeMany_70 2 rfl ?_
      refine jr_get hE dX10_judgeMany_71 f47 W27.o6 rfl ?_
      refine jr_aload hE dX10_judgeMany_74 0 rfl ?_
      refine jr_get hE dX10_judgeMany_76 f177 (W27.oE i (by omega)) rfl ?_
      refine jr_aload hE dX10_judgeMany_79 0 rfl ?_
      refine jr_get hE dX10_judgeMany_81 f188 (W27.oE i (by omega)) rfl ?_
      have hS28 : S27 (10 + 2 * i) = ((enG En i).2.2.2) := ((nS27 (10 + 2 * i) (by omega)).trans (nS23 (10 + 2 * i) (by omega))).trans hS19
      have hp29 : rep (P4 (22 + 2 * i)) (lfE (bnum ((enG En i).2.2.1.take 32))) := by rw [show P4 (22 + 2 * i) = P (22 + 2 * i) from (hPf (22 + 2 * i) (by simp only [List.mem_cons, List.not_mem_nil, or_false, not_or]; omega))]; exact d12
      obtain ⟨f30, jm30, gm30⟩ := W27.cu.2.2.2.1
      have hk30 : S27 (10 + 2 * i) < 2 ^ 256 := by rw [show S27 (10 + 2 * i) = ((enG En i).2.2.2) from hS28]; exact Nat.lt_trans d8 NN_256
      refine jr_kVv (ci := 2) (n := 3) (As := [.ref (c (40 + 4 * 18)), .ref (c (40 + 4 * (22 + 2 * i))), .ref (c (210 + 2 * (10 + 2 * i)))]) (rest := []) hE dX10_judgeMany_84 (fun l => c_X2_times l G (c 9) (c (40 + 4 * 16)) (c 11) (c 10) (c 12) (c 13) (c 14) (c 15) (c 16) (c 17) (c (40 + 4 * 18)) (c (41 + 4 * 18)) (c (42 + 4 * 18)) (c (43 + 4 * 18)) (c (40 + 4 * (22 + 2 * i))) (c (41 + 4 * (22 + 2 * i))) (c (42 + 4 * (22 + 2 * i))) (c (43 + 4 * (22 + 2 * i))) (c (210 + 2 * (10 + 2 * i))) (c (211 + 2 * (10 + 2 * i))) (S27 (10 + 2 * i)) f30 (fun i k => c (ck i k)) (P4 18) (P4 (22 + 2 * i))) gX10_judgeMany_X2_times rfl W27.cv rfl (by decide +kernel) ⟨rfl, rfl, by decide, by decide⟩ (by decide) rfl rfl (Nat.le_of_ble_eq_true rfl) (W27.timesPre jm30 gm30 18 (22 + 2 * i) (10 + 2 * i) (by decide) (by decide) (by omega) (by omega) (by omega) hk30) (fun F31 q32 => ?_)
      obtain ⟨W33, P33⟩ := W27.timesP gm30 (i := 18) (by decide) (by decide) q32
      have O33 := O27.tr P33
      obtain ⟨P33, eP33, hP33, yP33⟩ := uz_ab P4 18 (tmJ (P4 18) (P4 (22 + 2 * i)) (S27 (10 + 2 * i)))
      rw [eP33] at W33
      have nP33 : ∀ z, z ≠ 18 → P33 z = P4 z := fun z hz => hP33 z (fun e => hz (List.mem_singleton.mp e))
      have hr33 : rep (P33 18) (emul PP ((enG En i).2.2.2) (lfE (bnum ((enG En i).2.2.1.take 32)))) := by rw [yP33]; exact (by have q := rep_tm (O := P4 18) hp29 hk30; rw [show S27 (10 + 2 * i) = ((enG En i).2.2.2) from hS28] at q ⊢; exact q)
      refine jr_aload_n hE dX10_judgeMany_87 2 rfl ?_
      refine jr_get hE dX10_judgeMany_88 f64 W33.o6 rfl ?_
      refine jr_aload_n hE dX10_judgeMany_91 2 rfl ?_
      refine jr_get hE dX10_judgeMany_92 f43 W33.o6 rfl ?_
      refine jr_aload_n hE dX10_judgeMany_95 2 rfl ?_
      refine jr_get hE dX10_judgeMany_96 f47 W33.o6 rfl ?_
      have hp34 : rep (P33 17) (mhS En i) := by rw [show P33 17 = P4 17 from (nP33 17 (by decide))]; exact hr
      refine jr_kVv (ci := 2) (n := 2) (As := [.ref (c (40 + 4 * 17)), .ref (c (40 + 4 * 18))]) (rest := []) hE dX10_judgeMany_99 (fun l => c_X2_plus l G (c 9) (c (40 + 4 * 16)) (c 11) (c 10) (c 12) (c 13) (c 14) (c 15) (c 16) (c 17) (c (40 + 4 * 17)) (c (41 + 4 * 17)) (c (42 + 4 * 17)) (c (43 + 4 * 17)) (c (40 + 4 * 18)) (c (41 + 4 * 18)) (c (42 + 4 * 18)) (c (43 + 4 * 18)) (P33 17) (P33 18)) gX10_judgeMany_X2_plus rfl W33.cv rfl (by decide +kernel) ⟨rfl, rfl, by decide, by decide⟩ (by decide) rfl rfl (Nat.le_of_ble_eq_true rfl) (W33.plusPre 17 18 (by decide) (by decide) (by decide) (by decide) (by decide)) (fun F35 q36 => ?_)
      obtain ⟨g37, h37, u37⟩ := q36
      obtain ⟨W37, P37⟩ := W33.plus (i := 17) (by decide) (by decide) g37 h37 u37
      have O37 := O33.tr P37
      obtain ⟨P37, eP37, hP37, yP37⟩ := uz_ab P33 17 (plJ (P33 17) (P33 18))
      rw [eP37] at W37
      have nP37 : ∀ z, z ≠ 17 → P37 z = P33 z := fun z hz => hP37 z (fun e => hz (List.mem_singleton.mp e))
      have hr37 : rep (P37 17) (eadd PP (mhS En i) (emul PP ((enG En i).2.2.2) (lfE (bnum ((enG En i).2.2.1.take 32))))) := by rw [yP37]; exact rep_pl hp34 hr33
      have e1 : (∀ b, b ∈ (enG En i).2.2.1.take 32 → b < 256) ∧ ((enG En i).2.2.1.take 32).length = 32 := ⟨take_lt (by have q := W0.bB (28 + 3 * i) (by omega); rw [d3] at q; exact q) 32, by rw [List.length_take]; omega⟩
      have e2 : (∀ b, b ∈ (enG En i).1 → b < 256) ∧ (enG En i).1.length = 32 := ⟨by have q := W0.bB (26 + 3 * i) (by omega); rw [d1] at q; exact q, d4⟩
      refine jr_aload_n hE dX10_judgeMany_102 2 rfl ?_
      refine jr_aload_n hE dX10_judgeMany_103 2 rfl ?_
      refine jr_get hE dX10_judgeMany_104 f31 W37.o6 rfl ?_
      refine jr_aload hE dX10_judgeMany_107 0 rfl ?_
      refine jr_get hE dX10_judgeMany_109 f180 (W37.oE i (by omega)) rfl ?_
      refine jr_aload hE dX10_judgeMany_112 0 rfl ?_
      refine jr_get hE dX10_judgeMany_114 f174 (W37.oE i (by omega)) rfl ?_
      refine jr_iconst (v := (0 : Int32)) hE dX10_judgeMany_117 (by decide) ?_
      refine jr_aload hE dX10_judgeMany_118 0 rfl ?_
      refine jr_get hE dX10_judgeMany_120 f191 (W37.oE i (by omega)) rfl ?_
      have hB38 : B4 (28 + 3 * i) = ((enG En i).2.2.1) := (hBf (28 + 3 * i) (by simp only [List.mem_cons, List.not_mem_nil, or_false, not_or]; omega)).trans d3
      have hB39 : B4 (26 + 3 * i) = ((enG En i).1) := (hBf (26 + 3 * i) (by simp only [List.mem_cons, List.not_mem_nil, or_false, not_or]; omega)).trans d1
      have hB40 : B4 (27 + 3 * i) = ((enG En i).2.1) := (hBf (27 + 3 * i) (by simp only [List.mem_cons, List.not_mem_nil, or_false, not_or]; omega)).trans d2
      refine jr_kVv (ci := 10) (n := 5) (As := [.ref (c (210 + 2 * 2)), .ref (c (270 + 2 * (28 + 3 * i))), .ref (c (270 + 2 * (26 + 3 * i))), .int (0 : Int32), .ref (c (270 + 2 * (27 + 3 * i)))]) (rest := []) hE dX10_judgeMany_123 (fun l => c_s_challenge l G c B4 S27 P37 q4 X v 2 (28 + 3 * i) (26 + 3 * i) 0 (27 + 3 * i)) gX10_judgeMany_X10_challenge rfl W37.o6 rfl (by decide +kernel) ⟨rfl, rfl, by decide, by decide⟩ (by decide) rfl rfl (Nat.le_of_ble_eq_true rfl) (⟨W37, by decide, by omega, by omega, by omega, by omega, by omega, by omega, by omega, by omega, by omega, (by rw [show B4 (28 + 3 * i) = (enG En i).2.2.1 from hB38]; omega), (by rw [show B4 (26 + 3 * i) = (enG En i).1 from hB39]; omega), (by rw [show B4 (27 + 3 * i) = (enG En i).2.1 from hB40]; omega)⟩) (fun F41 q42 => ?_)
      obtain ⟨B43, S43, q43, W43, hB43, hS43, f43_0, P43⟩ := q42
      have O43 := O37.tr P43
      refine jr_aload_n hE dX10_judgeMany_126 2 rfl ?_
      refine jr_get hE dX10_judgeMany_127 f37 W43.o6 rfl ?_
      refine jr_aload hE dX10_judgeMany_130 0 rfl ?_
      refine jr_get hE dX10_judgeMany_132 f188 (W43.oE i (by omega)) rfl ?_
      refine jr_aload_n hE dX10_judgeMany_135 2 rfl ?_
      refine jr_get hE dX10_judgeMany_136 f31 W43.o6 rfl ?_
      have hS44 : S43 (10 + 2 * i) = ((enG En i).2.2.2) := (hS43 (10 + 2 * i) (by simp only [List.mem_cons, List.not_mem_nil, or_false, not_or]; omega)).trans hS28
      refine jr_kVv (ci := 8) (n := 2) (As := [.ref (c (210 + 2 * (10 + 2 * i))), .ref (c (210 + 2 * 2))]) (rest := []) hE dX10_judgeMany_139 (fun l => c_X8_product l G (c (210 + 2 * 4)) (c (211 + 2 * 4)) (c (210 + 2 * (10 + 2 * i))) (c (211 + 2 * (10 + 2 * i))) (c (210 + 2 * 2)) (c (211 + 2 * 2)) (S43 4) ((enG En i).2.2.2) (chS (bnum ((enG En i).2.2.1.take 32)) (bnum (enG En i).1) (enG En i).2.1)) gX10_judgeMany_X8_product rfl ((W43.sc 4 (by decide)).ob) rfl (by decide +kernel) ⟨rfl, rfl, by decide, by decide⟩ (by decide) rfl rfl (Nat.le_of_ble_eq_true rfl) (⟨(W43.sc 4 (by decide)), (by have q := W43.sc (10 + 2 * i) (by omega); rw [show S43 (10 + 2 * i) = (enG En i).2.2.2 from hS44] at q; exact q), (by have q := W43.sc 2 (by decide); rw [show S43 2 = (chS (bnum ((enG En i).2.2.1.take 32)) (bnum (enG En i).1) (enG En i).2.1) from (by have q := f43_0; rw [show B4 (28 + 3 * i) = (enG En i).2.2.1 from hB38, show B4 (26 + 3 * i) = (enG En i).1 from hB39, show B4 (27 + 3 * i) = (enG En i).2.1 from hB40, List.drop_zero, List.drop_zero, List.take_of_length_le (l := (enG En i).1) (by omega), ← bex_num e1, ← bex_num e2] at q; exact q.trans rfl)] at q; exact q), d8, (Nat.mod_lt _ NN0), cnd W43.1 [210 + 2 * 4, 211 + 2 * 4, 210 + 2 * (10 + 2 * i), 211 + 2 * (10 + 2 * i), 210 + 2 * 2, 211 + 2 * 2] (by simp only [List.mem_cons, List.not_mem_nil, or_false]; omega) (by simp only [List.nodup_cons, List.mem_cons, List.not_mem_nil, or_false, not_or, List.nodup_nil, not_false_eq_true, and_true]; omega)⟩) (fun F45 q46 => ?_)
      obtain ⟨h47, u47⟩ := q46
      obtain ⟨W47, P47⟩ := W43.setS (i := 4) (x := (((enG En i).2.2.2) * (chS (bnum ((enG En i).2.2.1.take 32)) (bnum (enG En i).1) (enG En i).2.1) % NN)) (by decide) h47 u47
      have O47 := O43.tr P47
      obtain ⟨S47, eS47, hS47, yS47⟩ := uz_ab S43 4 (((enG En i).2.2.2) * (chS (bnum ((enG En i).2.2.1.take 32)) (bnum (enG En i).1) (enG En i).2.1) % NN)
      rw [eS47] at W47
      have nS47 : ∀ z, z ≠ 4 → S47 z = S43 z := fun z hz => hS47 z (fun e => hz (List.mem_singleton.mp e))
      refine jr_aload_n hE dX10_judgeMany_142 2 rfl ?_
      refine jr_get hE dX10_judgeMany_143 f64 W47.o6 rfl ?_
      refine jr_aload_n hE dX10_judgeMany_146 2 rfl ?_
      refine jr_get hE dX10_judgeMany_147 f47 W47.o6 rfl ?_
      refine jr_aload hE dX10_judgeMany_150 0 rfl ?_
      refine jr_get hE dX10_judgeMany_152 f169 (W47.oE i (by omega)) rfl ?_
      refine jr_aload_n hE dX10_judgeMany_155 2 rfl ?_
      refine jr_get hE dX10_judgeMany_156 f37 W47.o6 rfl ?_
      have hp48 : rep (P37 (21 + 2 * i)) (lfE (bnum (enG En i).1)) := by rw [show P37 (21 + 2 * i) = P (21 + 2 * i) from ((nP37 (21 + 2 * i) (by omega)).trans ((nP33 (21 + 2 * i) (by omega)).trans (hPf (21 + 2 * i) (by simp only [List.mem_cons, List.not_mem_nil, or_false, not_or]; omega))))]; exact d11
      obtain ⟨f49, jm49, gm49⟩ := W47.cu.2.2.2.1
      have hk49 : S47 4 < 2 ^ 256 := by rw [show S47 4 = (((enG En i).2.2.2) * (chS (bnum ((enG En i).2.2.1.take 32)) (bnum (enG En i).1) (enG En i).2.1) % NN) from yS47]; exact Nat.lt_trans (Nat.mod_lt _ NN0) NN_256
      refine jr_kVv (ci := 2) (n := 3) (As := [.ref (c (40 + 4 * 18)), .ref (c (40 + 4 * (21 + 2 * i))), .ref (c (210 + 2 * 4))]) (rest := []) hE dX10_judgeMany_159 (fun l => c_X2_times l G (c 9) (c (40 + 4 * 16)) (c 11) (c 10) (c 12) (c 13) (c 14) (c 15) (c 16) (c 17) (c (40 + 4 * 18)) (c (41 + 4 * 18)) (c (42 + 4 * 18)) (c (43 + 4 * 18)) (c (40 + 4 * (21 + 2 * i))) (c (41 + 4 * (21 + 2 * i))) (c (42 + 4 * (21 + 2 * i))) (c (43 + 4 * (21 + 2 * i))) (c (210 + 2 * 4)) (c (211 + 2 * 4)) (S47 4) f49 (fun i k => c (ck i k)) (P37 18) (P37 (21 + 2 * i))) gX10_judgeMany_X2_times rfl W47.cv rfl (by decide +kernel) ⟨rfl, rfl, by decide, by decide⟩ (by decide) rfl rfl (Nat.le_of_ble_eq_true rfl) (W47.timesPre jm49 gm49 18 (21 + 2 * i) 4 (by decide) (by decide) (by omega) (by omega) (by decide) hk49) (fun F50 q51 => ?_)
      obtain ⟨W52, P52⟩ := W47.timesP gm49 (i := 18) (by decide) (by decide) q51
      have O52 := O47.tr P52
      obtain ⟨P52, eP52, hP52, yP52⟩ := uz_ab P37 18 (tmJ (P37 18) (P37 (21 + 2 * i)) (S47 4))
      rw [eP52] at W52
      have nP52 : ∀ z, z ≠ 18 → P52 z = P37 z := fun z hz => hP52 z (fun e => hz (List.mem_singleton.mp e))
      have hr52 : rep (P52 18) (emul PP (((enG En i).2.2.2) * (chS (bnum ((enG En i).2.2.1.take 32)) (bnum (enG En i).1) (enG En i).2.1) % NN) (lfE (bnum (enG En i).1))) := by rw [yP52]; exact (by have q := rep_tm (O := P37 18) hp48 hk49; rw [show S47 4 = (((enG En i).2.2.2) * (chS (bnum ((enG En i).2.2.1.take 32)) (bnum (enG En i).1) (enG En i).2.1) % NN) from yS47] at q ⊢; exact q)
      refine jr_aload_n hE dX10_judgeMany_162 2 rfl ?_
      refine jr_get hE dX10_judgeMany_163 f64 W52.o6 rfl ?_
      refine jr_aload_n hE dX10_judgeMany_166 2 rfl ?_
      refine jr_get hE dX10_judgeMany_167 f43 W52.o6 rfl ?_
      refine jr_aload_n hE dX10_judgeMany_170 2 rfl ?_
      refine jr_get hE dX10_judgeMany_171 f47 W52.o6 rfl ?_
      have hp53 : rep (P52 17) (eadd PP (mhS En i) (emul PP ((enG En i).2.2.2) (lfE (bnum ((enG En i).2.2.1.take 32))))) := by rw [show P52 17 = P37 17 from (nP52 17 (by decide))]; exact hr37
      refine jr_kVv (ci := 2) (n := 2) (As := [.ref (c (40 + 4 * 17)), .ref (c (40 + 4 * 18))]) (rest := []) hE dX10_judgeMany_174 (fun l => c_X2_plus l G (c 9) (c (40 + 4 * 16)) (c 11) (c 10) (c 12) (c 13) (c 14) (c 15) (c 16) (c 17) (c (40 + 4 * 17)) (c (41 + 4 * 17)) (c (42 + 4 * 17)) (c (43 + 4 * 17)) (c (40 + 4 * 18)) (c (41 + 4 * 18)) (c (42 + 4 * 18)) (c (43 + 4 * 18)) (P52 17) (P52 18)) gX10_judgeMany_X2_plus rfl W52.cv rfl (by decide +kernel) ⟨rfl, rfl, by decide, by decide⟩ (by decide) rfl rfl (Nat.le_of_ble_eq_true rfl) (W52.plusPre 17 18 (by decide) (by decide) (by decide) (by decide) (by decide)) (fun F54 q55 => ?_)
      obtain ⟨g56, h56, u56⟩ := q55
      obtain ⟨W56, P56⟩ := W52.plus (i := 17) (by decide) (by decide) g56 h56 u56
      have O56 := O52.tr P56
      obtain ⟨P56, eP56, hP56, yP56⟩ := uz_ab P52 17 (plJ (P52 17) (P52 18))
      rw [eP56] at W56
      have nP56 : ∀ z, z ≠ 17 → P56 z = P52 z := fun z hz => hP56 z (fun e => hz (List.mem_singleton.mp e))
      have hr56 : rep (P56 17) (eadd PP (eadd PP (mhS En i) (emul PP ((enG En i).2.2.2) (lfE (bnum ((enG En i).2.2.1.take 32))))) (emul PP (((enG En i).2.2.2) * (chS (bnum ((enG En i).2.2.1.take 32)) (bnum (enG En i).1) (enG En i).2.1) % NN) (lfE (bnum (enG En i).1)))) := by rw [yP56]; exact rep_pl hp53 hr52
      refine jr_iinc (v := nI (i + 1)) (lv' := [(3, .int (nI (i + 1))), (4, .ref (c (25 + i))), (0, .ref (c 6)), (1, .ref (c 2)), (2, .int (nI n))]) hE dX10_judgeMany_177 1 rfl (nI_1 _) (by decide) rfl ?_
      refine jr_goto (tgt := 18) hE dX10_judgeMany_180 (by decide) ?_
      have hS57 : S47 3 = (((mhA En i) + (((enG En i).2.2.2) * (bnum ((enG En i).2.2.1.drop 32)) % NN)) % NN) := ((nS47 3 (by decide)).trans (hS43 3 (by decide))).trans yS27
      refine jr_lv (lv' := [(3, .int (nI (i + 1))), (0, .ref (c 6)), (1, .ref (c 2)), (2, .int (nI n))]) [0, 2, 3, 4] rfl ?_
      exact ih (i + 1) F54 B43 S47 P56 q43 (by omega) W56 (fun z hz => ((hB43 z (jnsub (V := [17, 19]) hz [0, 1] rfl)).trans (hBf z (jnsub (V := [17, 19]) hz [0, 1] rfl)))) (fun z hz => ((nS47 z (jne hz 2 rfl)).trans ((hS43 z (jnsub (V := [2]) hz [0] rfl)).trans ((nS27 z (jne hz 1 rfl)).trans ((nS23 z (jne hz 2 rfl)).trans (hSf z (jnsub (V := [2, 3, 4]) hz [0, 1, 2] rfl))))))) (fun z hz => ((nP56 z (jne hz 0 rfl)).trans ((nP52 z (jne hz 1 rfl)).trans ((nP37 z (jne hz 0 rfl)).trans ((nP33 z (jne hz 1 rfl)).trans (hPf z (jnsub (V := [17, 18]) hz [0, 1] rfl))))))) (hS57.trans (by show _ = (mhA En i + bnum ((enG En i).2.2.1.drop 32) * (enG En i).2.2.2 % NN) % NN; rw [Nat.mul_comm (enG En i).2.2.2])) (by have q := hr56; rw [Nat.mul_comm (enG En i).2.2.2 (chS (bnum ((enG En i).2.2.1.take 32)) (bnum (enG En i).1) (enG En i).2.1)] at q; exact q) O56
  exact loop n 0 F2 B S4 P1 q (by omega) W4 (fun z hz => rfl) (fun z hz => (nS4 z (jne hz 1 rfl))) (fun z hz => (nP1 z (jne hz 0 rfl))) yS4 hz1 O4

