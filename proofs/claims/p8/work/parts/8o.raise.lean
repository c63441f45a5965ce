/-! THE REFERENCE'S raise -/
theorem wb_sar {n k : Nat} (hn : n < 2 ^ 63) (hk : k < 64) : lN n >>> ((nI k).toInt64 &&& 63) = lN (n / 2 ^ k) := by
  apply Int64.toInt_inj.mp
  rw [ls_toInt _ _ k (by rw [wb_c k hk, wb_tb, wb_sm k hk, BitVec.toNat_ofNat, Nat.mod_eq_of_lt (by omega)]), pk_lT hn, pk_lT (Nat.lt_of_le_of_lt (Nat.div_le_self _ _) hn), Int.shiftRight_eq_div_pow]
  norm_cast
theorem k5 : ∀ k, k < 256 → (nI k) >>> ((5 : Int32) &&& 31) = nI (k / 32) := by decide +kernel
theorem k31 : ∀ k, k < 256 → (nI k) &&& 31 = nI (k % 32) := by decide +kernel
theorem bit_d {x k : Nat} : x / 2 ^ (32 * (k / 32)) % 2 ^ 32 / 2 ^ (k % 32) % 2 = x / 2 ^ k % 2 := by
  have e : k = 32 * (k / 32) + k % 32 := (Nat.div_add_mod k 32).symm
  have hr : k % 32 < 32 := Nat.mod_lt _ (by decide)
  conv => rhs; rw [e, Nat.pow_add, ← Nat.div_div_eq_div_mul]
  generalize x / 2 ^ (32 * (k / 32)) = z
  generalize k % 32 = r at *
  have e2 : (2 : Nat) ^ 32 = 2 ^ r * (2 * 2 ^ (31 - r)) := by
    rw [show (2 : Nat) * 2 ^ (31 - r) = 2 ^ (31 - r + 1) by rw [Nat.pow_succ, Nat.mul_comm], ← Nat.pow_add, show r + (31 - r + 1) = 32 by omega]
  have e3 := Nat.div_add_mod z (2 ^ 32)
  generalize z / 2 ^ 32 = q at *
  generalize z % 2 ^ 32 = s at *
  rw [e2] at e3
  rw [← e3, show 2 ^ r * (2 * 2 ^ (31 - r)) * q + s = 2 ^ r * (2 * (2 ^ (31 - r) * q)) + s by rw [Nat.mul_assoc, Nat.mul_assoc], Nat.mul_add_div (Nat.two_pow_pos r), Nat.mul_add_mod]
theorem bit_h {x k : Nat} : x / 2 ^ k = 2 * (x / 2 ^ (k + 1)) + x / 2 ^ k % 2 := by
  rw [Nat.pow_succ, ← Nat.div_div_eq_div_mul]
  omega
theorem rs_1 {x e k p : Nat} (h0 : x / 2 ^ k % 2 = 1) (hp : p = e ^ (x / 2 ^ (k + 1)) % PP) : fm (fm p p) e = e ^ (x / 2 ^ k) % PP := by
  rw [bit_h (x := x) (k := k), h0, hp]
  unfold fm
  rw [← Nat.mul_mod, ← Nat.pow_add, Nat.mod_mul_mod, ← Nat.pow_succ]
  congr 2
  omega
theorem rs_0 {x e k p : Nat} (h0 : x / 2 ^ k % 2 ≠ 1) (hp : p = e ^ (x / 2 ^ (k + 1)) % PP) : fm p p = e ^ (x / 2 ^ k) % PP := by
  rw [bit_h (x := x) (k := k), show x / 2 ^ k % 2 = 0 by omega, hp]
  unfold fm
  rw [← Nat.mul_mod, ← Nat.pow_add]
  congr 2
  omega
theorem mem2 {k a b c : Nat} (h : k ∉ [a, b, c]) : k ≠ a ∧ k ≠ b ∧ k ≠ c := by
  simp only [List.mem_cons, List.not_mem_nil, or_false, not_or] at h
  exact h

set_option maxHeartbeats 4000000 in
set_option maxRecDepth 100000 in
theorem c_m_raise (l : Launch) (G : Nat → ClassId) (o : Nat) (a : Nat → Nat) (v : Nat → Int32) (n : Nat → Option Nat) (g : Nat → Nat → Int64) (w : Nat → Nat → Int32) (kt ka ke x e : Nat) : jKv l yX12_raise wsX12_raise ({ frames := 3, cells := 0, slots := 0, locals := 87 }) G [.ref o, .ref (a kt), .ref (a ka), .ref (a ke)] (fun L F => MW G L F o a v n g w ∧ mK n g ∧ lv8 kt ∧ l8 ka ∧ l8 ke ∧ (ke ≠ 35 ∧ ke ≠ 36) ∧ n ka = some x ∧ n ke = some e) (fun L F F1 => ∃ n', MW G L F1 o a v n' g w ∧ (∀ k, k ∉ [kt, 35, 36] → n' k = n k) ∧ n' kt = some (x ^ e % PP) ∧ mO o a F F1) := by
  refine jm_kv (cc := cX12_raise) (maxL := 5) (by decide) rfl (Nat.le_of_ble_eq_true rfl) ?_
  intro E L F hE hR hpre
  have hE : jOk E G _ cX12_raise 5 RX12 wsX12_raise := hE

  have f161 : jFl RX12 wsX12_raise 161 12 35 := ⟨rfl, by decide, by decide +kernel, by decide +kernel⟩
  have f164 : jFl RX12 wsX12_raise 164 12 36 := ⟨rfl, by decide, by decide +kernel, by decide +kernel⟩
  obtain ⟨M0, hK, hkt, hka, hke, hke2, hx, he⟩ := hpre
  have hxl := M0.lt hx
  have hel := M0.lt he
  have hke35 : ke ≠ 35 := hke2.1
  have loop : ∀ (k : Nat), k ≤ 256 → ∀ (F2 : Nat → va_E) (p : Nat) (n2 : Nat → Option Nat), MW G L F2 o a v n2 g w → n2 36 = some p → (∀ j, j ≠ 35 → j ≠ 36 → n2 j = n j) → n2 35 = some x → p = x ^ (e / 2 ^ k) % PP → mO o a F F2 → J E L F2 0 0 21 [(4, .int (nI k - 1)), (0, .ref o), (1, .ref (a kt)), (2, .ref (a ka)), (3, .ref (a ke))] [] := by
    intro k
    induction k with
    | zero =>
      intro hk F2 p n2 M2 h36 hf h35 hp O
      refine jr_iload hE dX12_raise_21 0 rfl ?_
      refine jr_if_lt (tgt := 85) hE dX12_raise_23 (by decide) (fun c_23 => ?_) (fun c_23 => absurd (by decide) c_23)
      refine jr_aload_n hE dX12_raise_85 2 rfl ?_
      refine jr_aload_n hE dX12_raise_86 1 rfl ?_
      refine jr_get hE dX12_raise_87 f164 M2.ob rfl ?_
      refine jr_kSv (n := 2) (As := [.ref (a kt), .ref (a 36)]) (rest := []) hE dX12_raise_90 (fun l => c_m_set l G o a v n2 g w kt 36) gX12_raise_X12_set rfl (by decide +kernel) ⟨rfl, rfl, by decide, by decide⟩ (by decide) rfl rfl (Nat.le_of_ble_eq_true rfl) (⟨M2, hkt.1, (by decide)⟩) (fun F1 q2 => ?_)
      obtain ⟨M3, O3⟩ := q2
      exact hR F1 _ _ dX12_raise_93 ⟨_, M3, fun k hk => (uz_n _ _ (mem2 hk).1).trans (hf k (mem2 hk).2.1 (mem2 hk).2.2), by rw [uz_s, h36, hp, Nat.pow_zero, Nat.div_one], O.tr O3⟩
    | succ k ih =>
      intro hk0 F2 p n2 M2 h36 hf h35 hp O
      have hk : k < 256 := hk0
      have hK2 : mK n2 g := hK.fr (hf 0 (by decide) (by decide)) (hf 1 (by decide) (by decide)) (hf 32 (by decide) (by decide)) (hf 33 (by decide) (by decide))
      have he2 : n2 ke = some e := (hf ke hke2.1 hke2.2).trans he
      rw [nI_pred]
      refine jr_iload hE dX12_raise_21 0 rfl ?_
      refine jr_if_lt (tgt := 85) hE dX12_raise_23 (by decide) (fun c_23 => absurd c_23 (nI_pos (by omega))) (fun c_23 => ?_)
      refine jr_aload_n hE dX12_raise_26 1 rfl ?_
      refine jr_aload_n hE dX12_raise_27 1 rfl ?_
      refine jr_get hE dX12_raise_28 f164 M2.ob rfl ?_
      refine jr_aload_n hE dX12_raise_31 1 rfl ?_
      refine jr_get hE dX12_raise_32 f164 M2.ob rfl ?_
      refine jr_aload_n hE dX12_raise_35 1 rfl ?_
      refine jr_get hE dX12_raise_36 f164 M2.ob rfl ?_
      refine jr_iconst (v := (0 : Int32)) hE dX12_raise_39 (by decide) ?_
      refine jr_kVv (ci := 12) (n := 4) (As := [.ref (a 36), .ref (a 36), .ref (a 36), .int (0 : Int32)]) (rest := []) hE dX12_raise_40 (fun l => c_m_times l G o a v n2 g w 36 36 36 p p false) gX12_raise_X12_times rfl M2.ob rfl (by decide +kernel) ⟨rfl, rfl, by decide, by decide⟩ (by decide) rfl rfl (Nat.le_of_ble_eq_true rfl) (⟨M2, hK2, (by decide), (by decide), (by decide), h36, h36⟩) (fun F1 q2 => ?_)
      obtain ⟨M3, PM3⟩ := q2
      have M3 : MW G L F1 o a v (uz n2 36 (some (fm p p))) g w := M3
      have OM3 := O.tr PM3
      have hke36 : ke ≠ 36 := hke2.2
      refine jr_aload_n hE dX12_raise_43 4 rfl ?_
      refine jr_iload hE dX12_raise_44 0 rfl ?_
      refine jr_iconst (v := (5 : Int32)) hE dX12_raise_46 (by decide) ?_
      refine jr_ishr (z := nI (k / 32)) hE dX12_raise_47 (k5 k hk) ?_
      obtain ⟨f4, jf4, ef4⟩ := M3.ld (k := ke) hke (x := e) ((uz_n _ _ hke36).trans he2)
      refine jr_lald (v := lN (e / 2 ^ (32 * (k / 32)) % 2 ^ 32)) hE dX12_raise_48 jf4 (vp_in_nI (n := k / 32) (by omega) (by omega)) (by rw [nI_clamp (by omega)]; exact ef4 (k / 32) (by omega)) ?_
      refine jr_iload hE dX12_raise_49 0 rfl ?_
      refine jr_bipush (v := (31 : Int32)) hE dX12_raise_51 (by decide) ?_
      refine jr_iand (z := nI (k % 32)) hE dX12_raise_53 (k31 k hk) ?_
      refine jr_lshr (z := lN ((e / 2 ^ (32 * (k / 32)) % 2 ^ 32) / 2 ^ (k % 32))) hE dX12_raise_54 (wb_sar (Nat.lt_trans (Nat.mod_lt _ (Nat.two_pow_pos 32)) (by decide)) (by omega)) ?_
      refine jr_lconst (v := (1 : Int64)) hE dX12_raise_55 (by decide) ?_
      refine jr_land (z := lN ((e / 2 ^ (32 * (k / 32)) % 2 ^ 32) / 2 ^ (k % 32) % 2)) hE dX12_raise_56 (wb_a1 (Nat.lt_of_le_of_lt (Nat.div_le_self _ _) (Nat.lt_trans (Nat.mod_lt _ (Nat.two_pow_pos 32)) (by decide)))) ?_
      refine jr_lconst (v := (1 : Int64)) hE dX12_raise_57 (by decide) ?_
      refine jr_lcmp hE dX12_raise_58 ?_
      refine jr_if_ne (tgt := 79) hE dX12_raise_59 (by decide) (fun c59 => ?_) (fun c59 => ?_)
      · refine jr_iinc (v := nI k - 1) (lv' := [(4, .int (nI k - 1)), (0, .ref o), (1, .ref (a kt)), (2, .ref (a ka)), (3, .ref (a ke))]) hE dX12_raise_79 0 rfl (im1 _) (by decide) rfl ?_
        refine jr_goto (tgt := 21) hE dX12_raise_82 (by decide) ?_
        refine jr_lv (lv' := [(4, .int (nI k - 1)), (0, .ref o), (1, .ref (a kt)), (2, .ref (a ka)), (3, .ref (a ke))]) [0, 1, 2, 3, 4] rfl ?_
        exact ih (by omega) F1 _ _ M3 rfl (fun j h1 h2 => (uz_n _ _ h2).trans ((hf j h1 h2))) (((h35))) (rs_0 (fun q => c59 ((cmp0 (b := 1) (by omega) (by decide)).mpr (bit_d.trans q))) hp) OM3
      · refine jr_aload_n hE dX12_raise_62 1 rfl ?_
        refine jr_aload_n hE dX12_raise_63 1 rfl ?_
        refine jr_get hE dX12_raise_64 f164 M3.ob rfl ?_
        refine jr_aload_n hE dX12_raise_67 1 rfl ?_
        refine jr_get hE dX12_raise_68 f164 M3.ob rfl ?_
        refine jr_aload_n hE dX12_raise_71 1 rfl ?_
        refine jr_get hE dX12_raise_72 f161 M3.ob rfl ?_
        refine jr_iconst (v := (0 : Int32)) hE dX12_raise_75 (by decide) ?_
        refine jr_kVv (ci := 12) (n := 4) (As := [.ref (a 36), .ref (a 36), .ref (a 35), .int (0 : Int32)]) (rest := []) hE dX12_raise_76 (fun l => c_m_times l G o a v (uz n2 36 (some (fm p p))) g w 36 36 35 (fm p p) x false) gX12_raise_X12_times rfl M3.ob rfl (by decide +kernel) ⟨rfl, rfl, by decide, by decide⟩ (by decide) rfl rfl (Nat.le_of_ble_eq_true rfl) (⟨M3, hK2, (by decide), (by decide), (by decide), rfl, h35⟩) (fun F5 q6 => ?_)
        obtain ⟨M7, PM7⟩ := q6
        have M7 : MW G L F5 o a v (uz (uz n2 36 (some (fm p p))) 36 (some (fm (fm p p) x))) g w := M7
        have OM7 := OM3.tr PM7
        refine jr_iinc (v := nI k - 1) (lv' := [(4, .int (nI k - 1)), (0, .ref o), (1, .ref (a kt)), (2, .ref (a ka)), (3, .ref (a ke))]) hE dX12_raise_79 0 rfl (im1 _) (by decide) rfl ?_
        refine jr_goto (tgt := 21) hE dX12_raise_82 (by decide) ?_
        refine jr_lv (lv' := [(4, .int (nI k - 1)), (0, .ref o), (1, .ref (a kt)), (2, .ref (a ka)), (3, .ref (a ke))]) [0, 1, 2, 3, 4] rfl ?_
        exact ih (by omega) F5 _ _ M7 rfl (fun j h1 h2 => (uz_n _ _ h2).trans ((uz_n _ _ h2).trans (hf j h1 h2))) (((h35))) (rs_1 (bit_d.symm.trans ((cmp0 (b := 1) (by omega) (by decide)).mp c59)) hp) OM7
  refine jr_aload_n hE dX12_raise_0 0 rfl ?_
  refine jr_get hE dX12_raise_1 f161 M0.ob rfl ?_
  refine jr_aload_n hE dX12_raise_4 2 rfl ?_
  refine jr_kSv (n := 2) (As := [.ref (a 35), .ref (a ka)]) (rest := []) hE dX12_raise_5 (fun l => c_m_set l G o a v n g w 35 ka) gX12_raise_X12_set rfl (by decide +kernel) ⟨rfl, rfl, by decide, by decide⟩ (by decide) rfl rfl (Nat.le_of_ble_eq_true rfl) (⟨M0, (by decide), hka⟩) (fun F1 q2 => ?_)
  obtain ⟨M3, PM3⟩ := q2
  rw [show n ka = some x from hx] at M3
  have OM3 := (mO.rf o a F).tr PM3
  refine jr_aload_n hE dX12_raise_8 0 rfl ?_
  refine jr_get hE dX12_raise_9 f164 M3.ob rfl ?_
  refine jr_lconst (v := (1 : Int64)) hE dX12_raise_12 (by decide) ?_
  refine jr_kSv (n := 2) (As := [.ref (a 36), .long (1 : Int64)]) (rest := []) hE dX12_raise_13 (fun l => c_m_small l G o a v (uz n 35 (some x)) g w 36 1) gX12_raise_X12_small rfl (by decide +kernel) ⟨rfl, rfl, by decide, by decide⟩ (by decide) rfl rfl (Nat.le_of_ble_eq_true rfl) (⟨M3, (by decide), (by decide)⟩) (fun F4 q5 => ?_)
  obtain ⟨M6, PM6⟩ := q5
  have M6 : MW G L F4 o a v (uz (uz n 35 (some x)) 36 (some 1)) g w := M6
  have OM6 := OM3.tr PM6
  refine jr_sipush (v := (255 : Int32)) hE dX12_raise_16 (by decide) ?_
  refine jr_istore (lv' := [(4, .int (255 : Int32)), (0, .ref o), (1, .ref (a kt)), (2, .ref (a ka)), (3, .ref (a ke))]) hE dX12_raise_19 (by decide) rfl ?_
  refine jr_lv (lv' := [(4, .int (255 : Int32)), (0, .ref o), (1, .ref (a kt)), (2, .ref (a ka)), (3, .ref (a ke))]) [0, 1, 2, 3, 4] rfl ?_
  exact loop 256 (Nat.le_refl _) F4 1 _ M6 rfl (fun k h1 h2 => (uz_n _ _ h2).trans (uz_n _ _ h1)) rfl (by rw [Nat.div_eq_of_lt hel, Nat.pow_zero]; decide +kernel) OM6

