/-! THE REFERENCE'S sums -/
def sS (n : Nat → Option Nat) (A : EP) : Prop := (A = none ∧ n 70 = some 0) ∨ ∃ x y : Nat, A = some (x, y) ∧ x < PP ∧ y < PP ∧ n 68 = some x ∧ n 69 = some y ∧ n 70 = some 1
theorem sS.fr {n n' : Nat → Option Nat} {A : EP} (h : sS n A) (h1 : n' 68 = n 68) (h2 : n' 69 = n 69) (h3 : n' 70 = n 70) : sS n' A := by
  rcases h with ⟨a, b⟩ | ⟨x, y, a, b, c, d, e, f⟩
  · exact Or.inl ⟨a, h3.trans b⟩
  · exact Or.inr ⟨x, y, a, b, c, h1.trans d, h2.trans e, h3.trans f⟩
theorem pS.fr {n n' : Nat → Option Nat} {A : EP} (h : pS n A) (h1 : n' 37 = n 37) (h2 : n' 38 = n 38) (h3 : n' 39 = n 39) : pS n' A := by
  rcases h with ⟨a, b⟩ | ⟨x, y, a, b, c, d, e, f⟩
  · exact Or.inl ⟨a, h3.trans b⟩
  · exact Or.inr ⟨x, y, a, b, c, h1.trans d, h2.trans e, h3.trans f⟩
theorem sS.p {n n' : Nat → Option Nat} {A : EP} (h : sS n A) (h1 : n' 37 = n 68) (h2 : n' 38 = n 69) (h3 : n' 39 = n 70) : pS n' A := by
  rcases h with ⟨a, b⟩ | ⟨x, y, a, b, c, d, e, f⟩
  · exact Or.inl ⟨a, h3.trans b⟩
  · exact Or.inr ⟨x, y, a, b, c, h1.trans d, h2.trans e, h3.trans f⟩
theorem pS.s {n n' : Nat → Option Nat} {A : EP} (h : pS n A) (h1 : n' 68 = n 37) (h2 : n' 69 = n 38) (h3 : n' 70 = n 39) : sS n' A := by
  rcases h with ⟨a, b⟩ | ⟨x, y, a, b, c, d, e, f⟩
  · exact Or.inl ⟨a, h3.trans b⟩
  · exact Or.inr ⟨x, y, a, b, c, h1.trans d, h2.trans e, h3.trans f⟩

set_option maxHeartbeats 4000000 in
set_option maxRecDepth 100000 in
theorem c_m_noSum (l : Launch) (G : Nat → ClassId) (o : Nat) (a : Nat → Nat) (v : Nat → Int32) (n : Nat → Option Nat) (g : Nat → Nat → Int64) (w : Nat → Nat → Int32) : jKv l yX12_noSum wsX12_noSum ({ frames := 1, cells := 0, slots := 0, locals := 23 }) G [.ref o] (fun L F => MW G L F o a v n g w) (fun L F F1 => ∃ n', MW G L F1 o a v n' g w ∧ (∀ k, k ∉ [70] → n' k = n k) ∧ sS n' none ∧ mO o a F F1) := by
  refine jm_kv (cc := cX12_noSum) (maxL := 1) (by decide) rfl (Nat.le_of_ble_eq_true rfl) ?_
  intro E L F hE hR hpre
  have hE : jOk E G _ cX12_noSum 1 RX12 wsX12_noSum := hE
  have M0 := hpre
  have f329 : jFl RX12 wsX12_noSum 329 12 70 := ⟨rfl, by decide, by decide +kernel, by decide +kernel⟩
  refine jr_aload_n hE dX12_noSum_0 0 rfl ?_
  refine jr_get hE dX12_noSum_1 f329 M0.ob rfl ?_
  refine jr_lconst (v := (0 : Int64)) hE dX12_noSum_4 (by decide) ?_
  refine jr_kSv (n := 2) (As := [.ref (a 70), .long (0 : Int64)]) (rest := []) hE dX12_noSum_5 (fun l => c_m_small l G o a v n g w 70 0) gX12_noSum_X12_small rfl (by decide +kernel) ⟨rfl, rfl, by decide, by decide⟩ (by decide) rfl rfl (Nat.le_of_ble_eq_true rfl) (⟨M0, (by decide), (by decide)⟩) (fun F1 q2 => ?_)
  obtain ⟨M3, PM3⟩ := q2
  have M3 : MW G L F1 o a v (uz n 70 (some 0)) g w := M3
  have OM3 := (mO.rf o a F).tr PM3
  exact hR F1 _ _ dX12_noSum_8 ⟨_, M3, (fun k hk => (uz_n _ _ (jne hk 0 rfl))), Or.inl ⟨rfl, rfl⟩, OM3⟩

set_option maxHeartbeats 4000000 in
set_option maxRecDepth 100000 in
theorem c_m_fromSum (l : Launch) (G : Nat → ClassId) (o : Nat) (a : Nat → Nat) (v : Nat → Int32) (n : Nat → Option Nat) (g : Nat → Nat → Int64) (w : Nat → Nat → Int32) (A : EP) : jKv l yX12_fromSum wsX12_fromSum ({ frames := 1, cells := 0, slots := 0, locals := 22 }) G [.ref o] (fun L F => MW G L F o a v n g w ∧ sS n A) (fun L F F1 => ∃ n', MW G L F1 o a v n' g w ∧ (∀ k, k ∉ [37, 38, 39] → n' k = n k) ∧ pS n' A ∧ mO o a F F1) := by
  refine jm_kv (cc := cX12_fromSum) (maxL := 1) (by decide) rfl (Nat.le_of_ble_eq_true rfl) ?_
  intro E L F hE hR hpre
  have hE : jOk E G _ cX12_fromSum 1 RX12 wsX12_fromSum := hE
  obtain ⟨M0, hs⟩ := hpre
  have f167 : jFl RX12 wsX12_fromSum 167 12 37 := ⟨rfl, by decide, by decide +kernel, by decide +kernel⟩
  have f323 : jFl RX12 wsX12_fromSum 323 12 68 := ⟨rfl, by decide, by decide +kernel, by decide +kernel⟩
  have f170 : jFl RX12 wsX12_fromSum 170 12 38 := ⟨rfl, by decide, by decide +kernel, by decide +kernel⟩
  have f326 : jFl RX12 wsX12_fromSum 326 12 69 := ⟨rfl, by decide, by decide +kernel, by decide +kernel⟩
  have f173 : jFl RX12 wsX12_fromSum 173 12 39 := ⟨rfl, by decide, by decide +kernel, by decide +kernel⟩
  have f329 : jFl RX12 wsX12_fromSum 329 12 70 := ⟨rfl, by decide, by decide +kernel, by decide +kernel⟩
  refine jr_aload_n hE dX12_fromSum_0 0 rfl ?_
  refine jr_get hE dX12_fromSum_1 f167 M0.ob rfl ?_
  refine jr_aload_n hE dX12_fromSum_4 0 rfl ?_
  refine jr_get hE dX12_fromSum_5 f323 M0.ob rfl ?_
  refine jr_kSv (n := 2) (As := [.ref (a 37), .ref (a 68)]) (rest := []) hE dX12_fromSum_8 (fun l => c_m_set l G o a v n g w 37 68) gX12_fromSum_X12_set rfl (by decide +kernel) ⟨rfl, rfl, by decide, by decide⟩ (by decide) rfl rfl (Nat.le_of_ble_eq_true rfl) (⟨M0, by decide, by decide⟩) (fun F1 q2 => ?_)
  obtain ⟨M3, PM3⟩ := q2
  have OM3 := (mO.rf o a F).tr PM3
  refine jr_aload_n hE dX12_fromSum_11 0 rfl ?_
  refine jr_get hE dX12_fromSum_12 f170 M3.ob rfl ?_
  refine jr_aload_n hE dX12_fromSum_15 0 rfl ?_
  refine jr_get hE dX12_fromSum_16 f326 M3.ob rfl ?_
  refine jr_kSv (n := 2) (As := [.ref (a 38), .ref (a 69)]) (rest := []) hE dX12_fromSum_19 (fun l => c_m_set l G o a v (uz n 37 (n 68)) g w 38 69) gX12_fromSum_X12_set rfl (by decide +kernel) ⟨rfl, rfl, by decide, by decide⟩ (by decide) rfl rfl (Nat.le_of_ble_eq_true rfl) (⟨M3, by decide, by decide⟩) (fun F4 q5 => ?_)
  obtain ⟨M6, PM6⟩ := q5
  have OM6 := OM3.tr PM6
  refine jr_aload_n hE dX12_fromSum_22 0 rfl ?_
  refine jr_get hE dX12_fromSum_23 f173 M6.ob rfl ?_
  refine jr_aload_n hE dX12_fromSum_26 0 rfl ?_
  refine jr_get hE dX12_fromSum_27 f329 M6.ob rfl ?_
  refine jr_kSv (n := 2) (As := [.ref (a 39), .ref (a 70)]) (rest := []) hE dX12_fromSum_30 (fun l => c_m_set l G o a v (uz (uz n 37 (n 68)) 38 ((uz n 37 (n 68)) 69)) g w 39 70) gX12_fromSum_X12_set rfl (by decide +kernel) ⟨rfl, rfl, by decide, by decide⟩ (by decide) rfl rfl (Nat.le_of_ble_eq_true rfl) (⟨M6, by decide, by decide⟩) (fun F7 q8 => ?_)
  obtain ⟨M9, PM9⟩ := q8
  have OM9 := OM6.tr PM9
  exact hR F7 _ _ dX12_fromSum_33 ⟨_, M9, (fun k hk => ((uz_n _ _ (jne hk 2 rfl)).trans ((uz_n _ _ (jne hk 1 rfl)).trans (uz_n _ _ (jne hk 0 rfl))))), hs.p rfl rfl rfl, OM9⟩

set_option maxHeartbeats 4000000 in
set_option maxRecDepth 100000 in
theorem c_m_addToSum (l : Launch) (G : Nat → ClassId) (o : Nat) (a : Nat → Nat) (v : Nat → Int32) (n : Nat → Option Nat) (g : Nat → Nat → Int64) (w : Nat → Nat → Int32) (A B : EP) : jKv l yX12_addToSum wsX12_addToSum ({ frames := 6, cells := 0, slots := 0, locals := 150 }) G [.ref o] (fun L F => MW G L F o a v n g w ∧ mK n g ∧ n 4 = some cLT ∧ pS n B ∧ onE PP B ∧ sS n A ∧ onE PP A) (fun L F F1 => ∃ n', MW G L F1 o a v n' g w ∧ (∀ k, k ∉ [40, 41, 37, 38, 39, 42, 43, 44, 45, 46, 47, 34, 35, 36, 68, 69, 70] → n' k = n k) ∧ sS n' (eadd PP A B) ∧ mO o a F F1) := by
  refine jm_kv (cc := cX12_addToSum) (maxL := 1) (by decide) rfl (Nat.le_of_ble_eq_true rfl) ?_
  intro E L F hE hR hpre
  have hE : jOk E G _ cX12_addToSum 1 RX12 wsX12_addToSum := hE

  have f173 : jFl RX12 wsX12_addToSum 173 12 39 := ⟨rfl, by decide, by decide +kernel, by decide +kernel⟩
  have f167 : jFl RX12 wsX12_addToSum 167 12 37 := ⟨rfl, by decide, by decide +kernel, by decide +kernel⟩
  have f323 : jFl RX12 wsX12_addToSum 323 12 68 := ⟨rfl, by decide, by decide +kernel, by decide +kernel⟩
  have f170 : jFl RX12 wsX12_addToSum 170 12 38 := ⟨rfl, by decide, by decide +kernel, by decide +kernel⟩
  have f326 : jFl RX12 wsX12_addToSum 326 12 69 := ⟨rfl, by decide, by decide +kernel, by decide +kernel⟩
  have f329 : jFl RX12 wsX12_addToSum 329 12 70 := ⟨rfl, by decide, by decide +kernel, by decide +kernel⟩
  obtain ⟨M0, hK, h4, hp, hBo, hs, hAo⟩ := hpre
  rcases hp with ⟨rfl, h39⟩ | ⟨x, y, rfl, hx, hy, h37, h38, h39⟩
  · have hz := 0
    refine jr_aload_n hE dX12_addToSum_0 0 rfl ?_
    refine jr_get hE dX12_addToSum_1 f173 M0.ob rfl ?_
    refine jr_kSi (n := 1) (As := [.ref (a 39)]) (rest := []) hE dX12_addToSum_4 (fun l => c_m_isNull l G o a v n g w 39 0) gX12_addToSum_X12_isNull rfl (by decide +kernel) ⟨rfl, rfl, by decide, by decide⟩ (by decide) rfl rfl (Nat.le_of_ble_eq_true rfl) (⟨M0, by decide, h39⟩) (fun r3 F1 q2 => ?_)
    obtain ⟨eq2, rq2⟩ := q2
    subst eq2 rq2
    refine jr_if_eq (tgt := 11) hE dX12_addToSum_7 (by decide) (fun c_7 => absurd c_7 (by decide)) (fun c_7 => ?_)
    exact hR F _ _ dX12_addToSum_10 ⟨n, M0, fun _ _ => rfl, by rw [eadd_0]; exact hs, mO.rf o a F⟩
  · have hz := 0
    refine jr_aload_n hE dX12_addToSum_0 0 rfl ?_
    refine jr_get hE dX12_addToSum_1 f173 M0.ob rfl ?_
    refine jr_kSi (n := 1) (As := [.ref (a 39)]) (rest := []) hE dX12_addToSum_4 (fun l => c_m_isNull l G o a v n g w 39 1) gX12_addToSum_X12_isNull rfl (by decide +kernel) ⟨rfl, rfl, by decide, by decide⟩ (by decide) rfl rfl (Nat.le_of_ble_eq_true rfl) (⟨M0, by decide, h39⟩) (fun r3 F1 q2 => ?_)
    obtain ⟨eq2, rq2⟩ := q2
    subst eq2 rq2
    refine jr_if_eq (tgt := 11) hE dX12_addToSum_7 (by decide) (fun c_7 => ?_) (fun c_7 => absurd (by decide) c_7)
    refine jr_aload_n hE dX12_addToSum_11 0 rfl ?_
    refine jr_kVv (ci := 12) (n := 0) (As := []) (rest := []) hE dX12_addToSum_12 (fun l => c_m_turnIn l G o a v n g w x y) gX12_addToSum_X12_turnIn rfl M0.ob rfl (by decide +kernel) ⟨rfl, rfl, by decide, by decide⟩ (by decide) rfl rfl (Nat.le_of_ble_eq_true rfl) (⟨M0, h37, h38, hBo⟩) (fun F4 q5 => ?_)
    obtain ⟨n1, M1, hf1, hq1, O1⟩ := q5
    refine jr_aload_n hE dX12_addToSum_15 0 rfl ?_
    refine jr_get hE dX12_addToSum_16 f167 M1.ob rfl ?_
    refine jr_aload_n hE dX12_addToSum_19 0 rfl ?_
    refine jr_get hE dX12_addToSum_20 f323 M1.ob rfl ?_
    refine jr_kSv (n := 2) (As := [.ref (a 37), .ref (a 68)]) (rest := []) hE dX12_addToSum_23 (fun l => c_m_set l G o a v n1 g w 37 68) gX12_addToSum_X12_set rfl (by decide +kernel) ⟨rfl, rfl, by decide, by decide⟩ (by decide) rfl rfl (Nat.le_of_ble_eq_true rfl) (⟨M1, by decide, by decide⟩) (fun F6 q7 => ?_)
    obtain ⟨M8, PM8⟩ := q7
    have OM8 := O1.tr PM8
    refine jr_aload_n hE dX12_addToSum_26 0 rfl ?_
    refine jr_get hE dX12_addToSum_27 f170 M8.ob rfl ?_
    refine jr_aload_n hE dX12_addToSum_30 0 rfl ?_
    refine jr_get hE dX12_addToSum_31 f326 M8.ob rfl ?_
    refine jr_kSv (n := 2) (As := [.ref (a 38), .ref (a 69)]) (rest := []) hE dX12_addToSum_34 (fun l => c_m_set l G o a v (uz n1 37 (n1 68)) g w 38 69) gX12_addToSum_X12_set rfl (by decide +kernel) ⟨rfl, rfl, by decide, by decide⟩ (by decide) rfl rfl (Nat.le_of_ble_eq_true rfl) (⟨M8, by decide, by decide⟩) (fun F9 q10 => ?_)
    obtain ⟨M11, PM11⟩ := q10
    have OM11 := OM8.tr PM11
    refine jr_aload_n hE dX12_addToSum_37 0 rfl ?_
    refine jr_get hE dX12_addToSum_38 f173 M11.ob rfl ?_
    refine jr_aload_n hE dX12_addToSum_41 0 rfl ?_
    refine jr_get hE dX12_addToSum_42 f329 M11.ob rfl ?_
    refine jr_kSv (n := 2) (As := [.ref (a 39), .ref (a 70)]) (rest := []) hE dX12_addToSum_45 (fun l => c_m_set l G o a v (uz (uz n1 37 (n1 68)) 38 ((uz n1 37 (n1 68)) 69)) g w 39 70) gX12_addToSum_X12_set rfl (by decide +kernel) ⟨rfl, rfl, by decide, by decide⟩ (by decide) rfl rfl (Nat.le_of_ble_eq_true rfl) (⟨M11, by decide, by decide⟩) (fun F12 q13 => ?_)
    obtain ⟨M14, PM14⟩ := q13
    have OM14 := OM11.tr PM14
    refine jr_aload_n hE dX12_addToSum_48 0 rfl ?_
    refine jr_kVv (ci := 12) (n := 0) (As := []) (rest := []) hE dX12_addToSum_49 (fun l => c_m_plus l G o a v (uz (uz (uz n1 37 (n1 68)) 38 ((uz n1 37 (n1 68)) 69)) 39 ((uz (uz n1 37 (n1 68)) 38 ((uz n1 37 (n1 68)) 69)) 70)) g w A (some (x, y))) gX12_addToSum_X12_plus rfl M14.ob rfl (by decide +kernel) ⟨rfl, rfl, by decide, by decide⟩ (by decide) rfl rfl (Nat.le_of_ble_eq_true rfl) (⟨M14, hK.fr (hf1 0 (by decide)) (hf1 1 (by decide)) (hf1 32 (by decide)) (hf1 33 (by decide)), ((hs.fr (hf1 68 (by decide)) (hf1 69 (by decide)) (hf1 70 (by decide))).p rfl rfl rfl).J hAo, hq1⟩) (fun F15 q16 => ?_)
    obtain ⟨n5, M5, hf5, p5, O5'⟩ := q16
    have O5 := OM14.tr O5'
    refine jr_aload_n hE dX12_addToSum_52 0 rfl ?_
    refine jr_kVv (ci := 12) (n := 0) (As := []) (rest := []) hE dX12_addToSum_53 (fun l => c_m_plain l G o a v n5 g w _) gX12_addToSum_X12_plain rfl M5.ob rfl (by decide +kernel) ⟨rfl, rfl, by decide, by decide⟩ (by decide) rfl rfl (Nat.le_of_ble_eq_true rfl) (⟨M5, hK.fr ((hf5 0 (by decide)).trans (hf1 0 (by decide))) ((hf5 1 (by decide)).trans (hf1 1 (by decide))) ((hf5 32 (by decide)).trans (hf1 32 (by decide))) ((hf5 33 (by decide)).trans (hf1 33 (by decide))), (hf5 4 (by decide)).trans ((hf1 4 (by decide)).trans h4), p5⟩) (fun F17 q18 => ?_)
    obtain ⟨n6, M6, hf6, p6, O6'⟩ := q18
    have O6 := O5.tr O6'
    refine jr_aload_n hE dX12_addToSum_56 0 rfl ?_
    refine jr_get hE dX12_addToSum_57 f323 M6.ob rfl ?_
    refine jr_aload_n hE dX12_addToSum_60 0 rfl ?_
    refine jr_get hE dX12_addToSum_61 f167 M6.ob rfl ?_
    refine jr_kSv (n := 2) (As := [.ref (a 68), .ref (a 37)]) (rest := []) hE dX12_addToSum_64 (fun l => c_m_set l G o a v n6 g w 68 37) gX12_addToSum_X12_set rfl (by decide +kernel) ⟨rfl, rfl, by decide, by decide⟩ (by decide) rfl rfl (Nat.le_of_ble_eq_true rfl) (⟨M6, by decide, by decide⟩) (fun F19 q20 => ?_)
    obtain ⟨M21, PM21⟩ := q20
    have OM21 := O6.tr PM21
    refine jr_aload_n hE dX12_addToSum_67 0 rfl ?_
    refine jr_get hE dX12_addToSum_68 f326 M21.ob rfl ?_
    refine jr_aload_n hE dX12_addToSum_71 0 rfl ?_
    refine jr_get hE dX12_addToSum_72 f170 M21.ob rfl ?_
    refine jr_kSv (n := 2) (As := [.ref (a 69), .ref (a 38)]) (rest := []) hE dX12_addToSum_75 (fun l => c_m_set l G o a v (uz n6 68 (n6 37)) g w 69 38) gX12_addToSum_X12_set rfl (by decide +kernel) ⟨rfl, rfl, by decide, by decide⟩ (by decide) rfl rfl (Nat.le_of_ble_eq_true rfl) (⟨M21, by decide, by decide⟩) (fun F22 q23 => ?_)
    obtain ⟨M24, PM24⟩ := q23
    have OM24 := OM21.tr PM24
    refine jr_aload_n hE dX12_addToSum_78 0 rfl ?_
    refine jr_get hE dX12_addToSum_79 f329 M24.ob rfl ?_
    refine jr_aload_n hE dX12_addToSum_82 0 rfl ?_
    refine jr_get hE dX12_addToSum_83 f173 M24.ob rfl ?_
    refine jr_kSv (n := 2) (As := [.ref (a 70), .ref (a 39)]) (rest := []) hE dX12_addToSum_86 (fun l => c_m_set l G o a v (uz (uz n6 68 (n6 37)) 69 ((uz n6 68 (n6 37)) 38)) g w 70 39) gX12_addToSum_X12_set rfl (by decide +kernel) ⟨rfl, rfl, by decide, by decide⟩ (by decide) rfl rfl (Nat.le_of_ble_eq_true rfl) (⟨M24, by decide, by decide⟩) (fun F25 q26 => ?_)
    obtain ⟨M27, PM27⟩ := q26
    have OM27 := OM24.tr PM27
    exact hR F25 _ _ dX12_addToSum_89 ⟨_, M27, (fun k hk => ((uz_n _ _ (jne hk 16 rfl)).trans ((uz_n _ _ (jne hk 15 rfl)).trans ((uz_n _ _ (jne hk 14 rfl)).trans ((hf6 k (jnsub (V := [37, 38, 39, 42, 43, 35, 36]) hk [2, 3, 4, 5, 6, 12, 13] rfl)).trans ((hf5 k (jnsub (V := [37, 38, 39, 42, 43, 44, 45, 46, 47, 34]) hk [2, 3, 4, 5, 6, 7, 8, 9, 10, 11] rfl)).trans ((uz_n _ _ (jne hk 4 rfl)).trans ((uz_n _ _ (jne hk 3 rfl)).trans ((uz_n _ _ (jne hk 2 rfl)).trans (hf1 k (jnsub (V := [40, 41]) hk [0, 1] rfl))))))))))), p6.s rfl rfl rfl, OM27⟩

