theorem jTn_len : ∀ i, i < 9 → jTn.getD i 0 = (jTb.getD i []).length := by decide +kernel
def tgb (i : Nat) : List Nat := (jTb.getD i []).map bv
theorem tgb_k {X : List Int32} {a : Nat} (h : a < X.length) : (X.take (a + 1)).map bv = (X.take a).map bv ++ [bv (X.getD a 0)] := by
  rw [List.take_succ, List.map_append, List.getD_eq_getElem?_getD, List.getElem?_eq_getElem h]
  rfl
theorem tgb_step {i a : Nat} (h : a < (jTb.getD i []).length) : ((jTb.getD i []).take (a + 1)).map bv = ((jTb.getD i []).take a).map bv ++ [bv ((jTb.getD i []).getD a 0)] := tgb_k h
theorem tg_ne {i : Nat} (h : i < 9) : nI i ≠ (-1 : Int32) := by
  intro e
  have h1 := congrArg Int32.toInt e
  rw [nI_toInt (by omega)] at h1
  have h2 : (-1 : Int32).toInt = -1 := by decide
  omega
theorem dgst_len (s : SS) : (dgst s).length = 32 := dgl_len _ 8

set_option maxHeartbeats 4000000 in
set_option maxRecDepth 100000 in
theorem c_X9_beginN (l : Launch) (G : Nat → ClassId) (sh st wd td : Nat) (s : SS) : jKv l yX9_beginBy wsX9_beginBy ({ frames := 1, cells := 0, slots := 0, locals := 21 }) G [.ref sh, .int (-1 : Int32)] (fun L F => jSs G L F sh st wd td s ∧ [sh, st, wd].Nodup) (fun L F F1 => jSs G L F1 sh st wd td (bgf s.1 8, s.2.1, 0) ∧ ∀ z, z ∉ [sh, st] → F1 z = F z) := by
  refine jm_kv (cc := cX9_beginBy) (maxL := 4) (by decide) rfl (Nat.le_of_ble_eq_true rfl) ?_
  intro E L F hE hR hpre
  have hE : jOk E G _ cX9_beginBy 4 RX9 wsX9_beginBy := hE
  obtain ⟨hS, hnd⟩ := hpre
  refine jr_aload_n hE dX9_beginBy_0 0 rfl ?_
  refine jr_kVv (ci := 9) (n := 0) (As := []) (rest := []) hE dX9_beginBy_1 (fun l => c_X9_begin l G sh st wd td s) gX9_beginBy_X9_begin rfl hS.1 rfl (by decide +kernel) ⟨rfl, rfl, by decide, by decide⟩ (by decide) rfl rfl (Nat.le_of_ble_eq_true rfl) (⟨hS, hnd⟩) (fun F1 q2 => ?_)
  obtain ⟨hS1, r1⟩ := q2
  refine jr_iload_n hE dX9_beginBy_4 1 rfl ?_
  refine jr_iconst (v := (-1 : Int32)) hE dX9_beginBy_5 (by decide) ?_
  refine jr_icmp_ne (tgt := 10) hE dX9_beginBy_6 (by decide) (fun c_6 => absurd c_6 (fun h => h (by decide))) (fun c_6 => ?_)
  exact hR _ _ _ dX9_beginBy_9 ⟨hS1, r1⟩

set_option maxHeartbeats 4000000 in
set_option maxRecDepth 100000 in
theorem c_X9_beginT (l : Launch) (G : Nat → ClassId) (sh st wd td hb cap i : Nat) (s : SS) (bs : List Nat) : jKv l yX9_beginBy wsX9_beginBy ({ frames := 4, cells := 0, slots := 0, locals := 85 }) G [.ref sh, .int (nI i)] (fun L F => jSs G L F sh st wd td s ∧ jBy G L F td hb cap bs ∧ 32 ≤ cap ∧ i < 9 ∧ [sh, st, wd, td, hb].Nodup) (fun L F F1 => (∃ f1 g1, jSs G L F1 sh st wd td (tkA (tkA (bgf f1 8, g1, 0) (dgst (tkA (bgf s.1 8, s.2.1, 0) (tgb i)))) (dgst (tkA (bgf s.1 8, s.2.1, 0) (tgb i))))) ∧ jBy G L F1 td hb cap (dgst (tkA (bgf s.1 8, s.2.1, 0) (tgb i))) ∧ ∀ z, z ∉ [sh, st, wd, td, hb] → F1 z = F z) := by
  refine jm_kv (cc := cX9_beginBy) (maxL := 4) (by decide) rfl (Nat.le_of_ble_eq_true rfl) ?_
  intro E L F hE hR hpre
  have hE : jOk E G _ cX9_beginBy 4 RX9 wsX9_beginBy := hE

  have f21 : jFl RX9 wsX9_beginBy 21 9 2 := ⟨rfl, by decide, by decide +kernel, by decide +kernel⟩
  obtain ⟨hS, hB, hcap, hi, hnd⟩ := hpre
  have hlen := jTn_len i hi
  have hl9 := jTn_lt i hi
  rw [hlen] at hl9
  have loop : ∀ (r0 a : Nat) (F2 : Nat → va_E), a + r0 = (jTb.getD i []).length → jSs G L F2 sh st wd td (tkA (bgf s.1 8, s.2.1, 0) (((jTb.getD i []).take a).map bv)) → jBy G L F2 td hb cap bs → (∀ z, z ∉ [sh, st, wd, td, hb] → F2 z = F z) → J E L F2 0 0 17 [(3, .int (nI a)), (2, .ref (jT G (10 + i))), (0, .ref sh), (1, .int (nI i))] [] := by
    intro r0
    induction r0 with
    | zero =>
      intro a F2 ha hS hB hfr
      have hcnt : (tkA (bgf s.1 8, s.2.1, 0) (((jTb.getD i []).take a).map bv)).2.2 = a := by rw [tkA_n, List.length_map, List.length_take]; show 0 + min a (jTb.getD i []).length = a; omega
      refine jr_iload_n hE dX9_beginBy_17 0 rfl ?_
      refine jr_aload_n hE dX9_beginBy_18 1 rfl ?_
      refine jr_kTi (n := 0) (As := []) (rest := [.int (nI a)]) hE dX9_beginBy_19 (fun l => c_strlen l G i) gX9_beginBy_J0_length_8abf5 rfl hi (by decide +kernel) ⟨rfl, rfl, by decide, by decide⟩ (by decide) rfl rfl (Nat.le_of_ble_eq_true rfl) (hi) (fun r3 F1 q2 => ?_)
      obtain ⟨e, rfl⟩ := q2
      subst e
      refine jr_icmp_ge (tgt := 40) hE dX9_beginBy_22 (by decide) (fun c_22 => ?_) (fun c_22 => absurd (by rw [hlen]; exact nI_le (by omega) (by omega)) c_22)
      refine jr_aload_n hE dX9_beginBy_40 2 rfl ?_
      refine jr_aload_n hE dX9_beginBy_41 2 rfl ?_
      refine jr_get hE dX9_beginBy_42 f21 hS.1 rfl ?_
      refine jr_kVv (ci := 9) (n := 1) (As := [.ref td]) (rest := []) hE dX9_beginBy_45 (fun l => c_X9_finish l G sh st wd td td hb cap _ _) gX9_beginBy_X9_finish rfl hS.1 rfl (by decide +kernel) ⟨rfl, rfl, by decide, by decide⟩ (by decide) rfl rfl (Nat.le_of_ble_eq_true rfl) (⟨hS, hB, by rw [hcnt]; omega, hcap, hnd⟩) (fun F4 q5 => ?_)
      obtain ⟨hB1, ⟨s1, hS1⟩, r1⟩ := q5
      refine jr_aload_n hE dX9_beginBy_48 2 rfl ?_
      refine jr_kVv (ci := 9) (n := 0) (As := []) (rest := []) hE dX9_beginBy_49 (fun l => c_X9_begin l G sh st wd td s1) gX9_beginBy_X9_begin rfl hS1.1 rfl (by decide +kernel) ⟨rfl, rfl, by decide, by decide⟩ (by decide) rfl rfl (Nat.le_of_ble_eq_true rfl) (⟨hS1, jnd hnd [0, 1, 2] rfl (by decide)⟩) (fun F6 q7 => ?_)
      obtain ⟨hS2, r2⟩ := q7
      have hB2 := hB1.fr (r2 td (jn hnd 3 [0, 1] rfl rfl (by decide))) (r2 hb (jn hnd 4 [0, 1] rfl rfl (by decide)))
      refine jr_aload_n hE dX9_beginBy_52 2 rfl ?_
      refine jr_aload_n hE dX9_beginBy_53 2 rfl ?_
      refine jr_get hE dX9_beginBy_54 f21 hS2.1 rfl ?_
      refine jr_kVv (ci := 9) (n := 1) (As := [.ref td]) (rest := []) hE dX9_beginBy_57 (fun l => c_X9_takeAll l G sh st wd td td hb cap _ _) gX9_beginBy_X9_takeAll rfl hS2.1 rfl (by decide +kernel) ⟨rfl, rfl, by decide, by decide⟩ (by decide) rfl rfl (Nat.le_of_ble_eq_true rfl) (⟨hS2, hB2, (by decide : (0 : Nat) < 900000), hnd⟩) (fun F8 q9 => ?_)
      obtain ⟨hS3, r3⟩ := q9
      have hB3 := hB2.fr (r3 td (jn hnd 3 [0, 1, 2] rfl rfl (by decide))) (r3 hb (jn hnd 4 [0, 1, 2] rfl rfl (by decide)))
      refine jr_aload_n hE dX9_beginBy_60 2 rfl ?_
      refine jr_aload_n hE dX9_beginBy_61 2 rfl ?_
      refine jr_get hE dX9_beginBy_62 f21 hS3.1 rfl ?_
      refine jr_kVv (ci := 9) (n := 1) (As := [.ref td]) (rest := []) hE dX9_beginBy_65 (fun l => c_X9_takeAll l G sh st wd td td hb cap _ _) gX9_beginBy_X9_takeAll rfl hS3.1 rfl (by decide +kernel) ⟨rfl, rfl, by decide, by decide⟩ (by decide) rfl rfl (Nat.le_of_ble_eq_true rfl) (⟨hS3, hB3, by rw [tkA_n, dgst_len]; exact (by decide : 0 + 32 < 900000), hnd⟩) (fun F10 q11 => ?_)
      obtain ⟨hS4, r4⟩ := q11
      have hB4 := hB3.fr (r4 td (jn hnd 3 [0, 1, 2] rfl rfl (by decide))) (r4 hb (jn hnd 4 [0, 1, 2] rfl rfl (by decide)))
      have ht : ((jTb.getD i []).take a).map bv = tgb i := by rw [List.take_of_length_le (by omega)]; rfl
      rw [ht] at hS4 hB4
      exact hR _ _ _ dX9_beginBy_68 ⟨⟨s1.1, s1.2.1, hS4⟩, hB4, fun z hz => (r4 z (jnsub (V := [sh, st, wd]) hz [0, 1, 2] rfl)).trans ((r3 z (jnsub (V := [sh, st, wd]) hz [0, 1, 2] rfl)).trans ((r2 z (jnsub (V := [sh, st]) hz [0, 1] rfl)).trans ((r1 z hz).trans (hfr z hz))))⟩
    | succ r0 ih =>
      intro a F2 ha hS hB hfr
      have hcnt : (tkA (bgf s.1 8, s.2.1, 0) (((jTb.getD i []).take a).map bv)).2.2 = a := by rw [tkA_n, List.length_map, List.length_take]; show 0 + min a (jTb.getD i []).length = a; omega
      refine jr_iload_n hE dX9_beginBy_17 0 rfl ?_
      refine jr_aload_n hE dX9_beginBy_18 1 rfl ?_
      refine jr_kTi (n := 0) (As := []) (rest := [.int (nI a)]) hE dX9_beginBy_19 (fun l => c_strlen l G i) gX9_beginBy_J0_length_8abf5 rfl hi (by decide +kernel) ⟨rfl, rfl, by decide, by decide⟩ (by decide) rfl rfl (Nat.le_of_ble_eq_true rfl) (hi) (fun r3 F1 q2 => ?_)
      obtain ⟨e, rfl⟩ := q2
      subst e
      refine jr_icmp_ge (tgt := 40) hE dX9_beginBy_22 (by decide) (fun c_22 => absurd c_22 (by rw [hlen]; exact nI_ge (by omega) (by omega))) (fun c_22 => ?_)
      refine jr_aload_n hE dX9_beginBy_25 2 rfl ?_
      refine jr_aload_n hE dX9_beginBy_26 1 rfl ?_
      refine jr_iload_n hE dX9_beginBy_27 0 rfl ?_
      refine jr_kTi (n := 1) (As := [.int (nI a)]) (rest := [.ref sh]) hE dX9_beginBy_28 (fun l => c_charAt l G i a) gX9_beginBy_J0_charAt_5068e rfl hi (by decide +kernel) ⟨rfl, rfl, by decide, by decide⟩ (by decide) rfl rfl (Nat.le_of_ble_eq_true rfl) (⟨hi, by rw [hlen]; omega⟩) (fun r6 F4 q5 => ?_)
      obtain ⟨e, rfl⟩ := q5
      subst e
      refine jr_kVv (ci := 9) (n := 1) (As := [.int ((jTb.getD i []).getD a 0)]) (rest := []) hE dX9_beginBy_31 (fun l => c_X9_take l G sh st wd td (tkA (bgf s.1 8, s.2.1, 0) (((jTb.getD i []).take a).map bv)) ((jTb.getD i []).getD a 0)) gX9_beginBy_X9_take rfl hS.1 rfl (by decide +kernel) ⟨rfl, rfl, by decide, by decide⟩ (by decide) rfl rfl (Nat.le_of_ble_eq_true rfl) (⟨hS, by rw [hcnt]; omega, jnd hnd [0, 1, 2] rfl (by decide)⟩) (fun F7 q8 => ?_)
      obtain ⟨hS1, r1⟩ := q8
      refine jr_iinc (v := nI (a + 1)) (lv' := [(3, .int (nI (a + 1))), (2, .ref (jT G (10 + i))), (0, .ref sh), (1, .int (nI i))]) hE dX9_beginBy_34 0 rfl (nI_1 _) (by decide) rfl ?_
      refine jr_goto (tgt := 17) hE dX9_beginBy_37 (by decide) ?_
      refine jr_lv (lv' := [(3, .int (nI (a + 1))), (2, .ref (jT G (10 + i))), (0, .ref sh), (1, .int (nI i))]) [0, 1, 2, 3] rfl ?_
      exact ih (a + 1) F7 (by omega) (by rw [tgb_step (by omega), ← tkA_snoc]; exact hS1) (hB.fr (r1 td (jn hnd 3 [0, 1, 2] rfl rfl (by decide))) (r1 hb (jn hnd 4 [0, 1, 2] rfl rfl (by decide)))) (fun z hz => (r1 z (jnsub (V := [sh, st, wd]) hz [0, 1, 2] rfl)).trans (hfr z hz))
  refine jr_aload_n hE dX9_beginBy_0 0 rfl ?_
  refine jr_kVv (ci := 9) (n := 0) (As := []) (rest := []) hE dX9_beginBy_1 (fun l => c_X9_begin l G sh st wd td s) gX9_beginBy_X9_begin rfl hS.1 rfl (by decide +kernel) ⟨rfl, rfl, by decide, by decide⟩ (by decide) rfl rfl (Nat.le_of_ble_eq_true rfl) (⟨hS, jnd hnd [0, 1, 2] rfl (by decide)⟩) (fun F1 q2 => ?_)
  obtain ⟨hS1, r1⟩ := q2
  have hB1 : jBy G L F1 td hb cap bs := hB.fr (r1 td (jn hnd 3 [0, 1] rfl rfl (by decide))) (r1 hb (jn hnd 4 [0, 1] rfl rfl (by decide)))
  refine jr_iload_n hE dX9_beginBy_4 1 rfl ?_
  refine jr_iconst (v := (-1 : Int32)) hE dX9_beginBy_5 (by decide) ?_
  refine jr_icmp_ne (tgt := 10) hE dX9_beginBy_6 (by decide) (fun c_6 => ?_) (fun c_6 => absurd c_6 (tg_ne hi))
  refine jr_iload_n hE dX9_beginBy_10 1 rfl ?_
  refine jr_kSr (n := 1) (As := [.int (nI i)]) (rest := []) hE dX9_beginBy_11 (fun l => c_tag l G i hi) gX9_beginBy_X9_tagName rfl (by decide +kernel) ⟨rfl, rfl, by decide, by decide⟩ (by decide) rfl rfl (Nat.le_of_ble_eq_true rfl) trivial ?_
  refine jr_astore_n (lv' := [(2, .ref (jT G (10 + i))), (0, .ref sh), (1, .int (nI i))]) hE dX9_beginBy_14 (by decide) rfl ?_
  refine jr_iconst (v := (0 : Int32)) hE dX9_beginBy_15 (by decide) ?_
  refine jr_istore_n (lv' := [(3, .int (0 : Int32)), (2, .ref (jT G (10 + i))), (0, .ref sh), (1, .int (nI i))]) hE dX9_beginBy_16 (by decide) rfl ?_
  refine jr_lv (lv' := [(3, .int (0 : Int32)), (2, .ref (jT G (10 + i))), (0, .ref sh), (1, .int (nI i))]) [0, 1, 2, 3] rfl ?_
  exact loop (jTb.getD i []).length 0 F1 (by omega) hS1 hB1 (fun z hz => r1 z (jnsub (V := [sh, st]) hz [0, 1] rfl))

