/-! THE REFERENCE'S lift -/
def eyE (V : Nat) : Nat := if rtJ V % 2 = 1 then fk (-1) (rtJ V) else rtJ V
theorem pw_s {R e : Nat} : R ^ e % PP * R % PP = R ^ (e + 1) % PP := by rw [Nat.mod_mul_mod, Nat.pow_succ]
theorem rt_M (V : Nat) : rtJ V = (fa (fm (fm V V) V) 7) ^ cQT % PP := by
  show fm (stemv (rhsJ V)) (rhsJ V) = _
  have h7 : rhsJ V = fa (fm (fm V V) V) 7 := rfl
  rw [h7]
  generalize fa (fm (fm V V) V) 7 = R
  unfold stemv fm
  obtain ⟨e, he⟩ : ∃ e : Nat, e = 28948022309329048855892746252171976963317496166410141009864396001977208667915 := ⟨_, rfl⟩
  have hc : cQT = e + 1 := by rw [he]; decide +kernel
  rw [← he, hc]
  exact pw_s
theorem isX_M {V : Nat} (h : V < PP) : isX V ↔ fa (fm (fm V V) V) 7 = fm ((fa (fm (fm V V) V) 7) ^ cQT % PP) ((fa (fm (fm V V) V) 7) ^ cQT % PP) := by
  rw [← rt_M V]
  exact ⟨fun e => e.2.symm, fun e => ⟨h, e.symm⟩⟩
theorem dig0 (Q : Nat) : Q / 2 ^ (32 * 0) % 2 ^ 32 % 2 = Q % 2 := by
  rw [Nat.mul_zero, Nat.pow_zero, Nat.div_one]
  exact Nat.mod_mod_of_dvd Q ⟨2 ^ 31, by decide⟩
theorem qE_lf {n : Nat → Option Nat} {V : Nat} (h : isX V) (h0 : n 40 = some V) (h1 : n 41 = some (eyE V)) : qE n (lfE V) := ⟨V, eyE V, h0, h1, h.1, lf_y V, rfl, lf_on h⟩

set_option maxHeartbeats 4000000 in
set_option maxRecDepth 100000 in
theorem c_m_lift (l : Launch) (G : Nat → ClassId) (o : Nat) (a : Nat → Nat) (v : Nat → Int32) (n : Nat → Option Nat) (g : Nat → Nat → Int64) (w : Nat → Nat → Int32) (kx x : Nat) : jKi l yX12_lift wsX12_lift ({ frames := 4, cells := 0, slots := 0, locals := 111 }) G [.ref o, .ref (a kx)] (fun L F => MW G L F o a v n g w ∧ mK n g ∧ mC n ∧ l8 kx ∧ kx ∉ [40, 41, 42, 43, 35, 36] ∧ n kx = some x) (fun L F r F1 => ∃ n', MW G L F1 o a v n' g w ∧ (∀ k, k ∉ [40, 41, 42, 43, 35, 36] → n' k = n k) ∧ (isX x → qE n' (lfE x)) ∧ r = b2i (isX x) ∧ mO o a F F1) := by
  refine jm_ki (cc := cX12_lift) (maxL := 2) (rt := .boolean) (by decide) rfl (Nat.le_of_ble_eq_true rfl) ?_
  intro E L F hE hR hpre
  have hE : jOk E G _ cX12_lift 2 RX12 wsX12_lift := hE
  obtain ⟨M0, hK, hC, hkx, hkx2, hx⟩ := hpre
  have f15 : jFl RX12 wsX12_lift 15 12 0 := ⟨rfl, by decide, by decide +kernel, by decide +kernel⟩
  have f176 : jFl RX12 wsX12_lift 176 12 40 := ⟨rfl, by decide, by decide +kernel, by decide +kernel⟩
  have f182 : jFl RX12 wsX12_lift 182 12 42 := ⟨rfl, by decide, by decide +kernel, by decide +kernel⟩
  have f202 : jFl RX12 wsX12_lift 202 12 48 := ⟨rfl, by decide, by decide +kernel, by decide +kernel⟩
  have f179 : jFl RX12 wsX12_lift 179 12 41 := ⟨rfl, by decide, by decide +kernel, by decide +kernel⟩
  have f55 : jFl RX12 wsX12_lift 55 12 5 := ⟨rfl, by decide, by decide +kernel, by decide +kernel⟩
  have f185 : jFl RX12 wsX12_lift 185 12 43 := ⟨rfl, by decide, by decide +kernel, by decide +kernel⟩
  refine jr_aload_n hE dX12_lift_0 1 rfl ?_
  refine jr_aload_n hE dX12_lift_1 0 rfl ?_
  refine jr_get hE dX12_lift_2 f15 M0.ob rfl ?_
  refine jr_kSi (n := 2) (As := [.ref (a kx), .ref (a 0)]) (rest := []) hE dX12_lift_5 (fun l => c_m_isBelow l G o a v n g w kx 0 x PP) gX12_lift_X12_isBelow rfl (by decide +kernel) ⟨rfl, rfl, by decide, by decide⟩ (by decide) rfl rfl (Nat.le_of_ble_eq_true rfl) (⟨M0, hkx, (by decide), hx, hK.1⟩) (fun r3 F1 q2 => ?_)
  obtain ⟨eq2, rq2⟩ := q2
  subst eq2 rq2
  refine jr_if_ne (tgt := 13) hE dX12_lift_8 (by decide) (fun c8 => ?_) (fun c8 => ?_)
  · have hxl : x < PP := b2i_1 c8
    refine jr_aload_n hE dX12_lift_13 0 rfl ?_
    refine jr_get hE dX12_lift_14 f176 M0.ob rfl ?_
    refine jr_aload_n hE dX12_lift_17 1 rfl ?_
    refine jr_kSv (n := 2) (As := [.ref (a 40), .ref (a kx)]) (rest := []) hE dX12_lift_18 (fun l => c_m_set l G o a v n g w 40 kx) gX12_lift_X12_set rfl (by decide +kernel) ⟨rfl, rfl, by decide, by decide⟩ (by decide) rfl rfl (Nat.le_of_ble_eq_true rfl) (⟨M0, (by decide), hkx⟩) (fun F4 q5 => ?_)
    obtain ⟨M6, PM6⟩ := q5
    rw [show n kx = some x from hx] at M6
    have OM6 := (mO.rf o a F).tr PM6
    refine jr_aload_n hE dX12_lift_21 0 rfl ?_
    refine jr_aload_n hE dX12_lift_22 0 rfl ?_
    refine jr_get hE dX12_lift_23 f182 M6.ob rfl ?_
    refine jr_aload_n hE dX12_lift_26 1 rfl ?_
    refine jr_aload_n hE dX12_lift_27 1 rfl ?_
    refine jr_iconst (v := (0 : Int32)) hE dX12_lift_28 (by decide) ?_
    refine jr_kVv (ci := 12) (n := 4) (As := [.ref (a 42), .ref (a kx), .ref (a kx), .int (0 : Int32)]) (rest := []) hE dX12_lift_29 (fun l => c_m_times l G o a v (uz n 40 (some x)) g w 42 kx kx x x false) gX12_lift_X12_times rfl M6.ob rfl (by decide +kernel) ⟨rfl, rfl, by decide, by decide⟩ (by decide) rfl rfl (Nat.le_of_ble_eq_true rfl) (⟨M6, hK, (by decide), hkx, hkx, ((uz_n _ _ (jne hkx2 0 rfl)).trans hx), ((uz_n _ _ (jne hkx2 0 rfl)).trans hx)⟩) (fun F7 q8 => ?_)
    obtain ⟨M9, PM9⟩ := q8
    have M9 : MW G L F7 o a v (uz (uz n 40 (some x)) 42 (some (fm x x))) g w := M9
    have OM9 := OM6.tr PM9
    refine jr_aload_n hE dX12_lift_32 0 rfl ?_
    refine jr_aload_n hE dX12_lift_33 0 rfl ?_
    refine jr_get hE dX12_lift_34 f182 M9.ob rfl ?_
    refine jr_aload_n hE dX12_lift_37 0 rfl ?_
    refine jr_get hE dX12_lift_38 f182 M9.ob rfl ?_
    refine jr_aload_n hE dX12_lift_41 1 rfl ?_
    refine jr_iconst (v := (0 : Int32)) hE dX12_lift_42 (by decide) ?_
    refine jr_kVv (ci := 12) (n := 4) (As := [.ref (a 42), .ref (a 42), .ref (a kx), .int (0 : Int32)]) (rest := []) hE dX12_lift_43 (fun l => c_m_times l G o a v (uz (uz n 40 (some x)) 42 (some (fm x x))) g w 42 42 kx (fm x x) x false) gX12_lift_X12_times rfl M9.ob rfl (by decide +kernel) ⟨rfl, rfl, by decide, by decide⟩ (by decide) rfl rfl (Nat.le_of_ble_eq_true rfl) (⟨M9, hK, (by decide), (by decide), hkx, rfl, ((uz_n _ _ (jne hkx2 2 rfl)).trans ((uz_n _ _ (jne hkx2 0 rfl)).trans hx))⟩) (fun F10 q11 => ?_)
    obtain ⟨M12, PM12⟩ := q11
    have M12 : MW G L F10 o a v (uz (uz (uz n 40 (some x)) 42 (some (fm x x))) 42 (some (fm (fm x x) x))) g w := M12
    have OM12 := OM9.tr PM12
    refine jr_aload_n hE dX12_lift_46 0 rfl ?_
    refine jr_aload_n hE dX12_lift_47 0 rfl ?_
    refine jr_get hE dX12_lift_48 f182 M12.ob rfl ?_
    refine jr_aload_n hE dX12_lift_51 0 rfl ?_
    refine jr_get hE dX12_lift_52 f182 M12.ob rfl ?_
    refine jr_aload_n hE dX12_lift_55 0 rfl ?_
    refine jr_get hE dX12_lift_56 f202 M12.ob rfl ?_
    refine jr_iconst (v := (0 : Int32)) hE dX12_lift_59 (by decide) ?_
    refine jr_kVv (ci := 12) (n := 4) (As := [.ref (a 42), .ref (a 42), .ref (a 48), .int (0 : Int32)]) (rest := []) hE dX12_lift_60 (fun l => c_m_add l G o a v (uz (uz (uz n 40 (some x)) 42 (some (fm x x))) 42 (some (fm (fm x x) x))) g w 42 42 48 (fm (fm x x) x) 7 false) gX12_lift_X12_add rfl M12.ob rfl (by decide +kernel) ⟨rfl, rfl, by decide, by decide⟩ (by decide) rfl rfl (Nat.le_of_ble_eq_true rfl) (⟨M12, hK, (by decide), (by decide), (by decide), rfl, hC.2.2.2.2⟩) (fun F13 q14 => ?_)
    obtain ⟨M15, PM15⟩ := q14
    have M15 : MW G L F13 o a v (uz (uz (uz (uz n 40 (some x)) 42 (some (fm x x))) 42 (some (fm (fm x x) x))) 42 (some (fa (fm (fm x x) x) 7))) g w := M15
    have OM15 := OM12.tr PM15
    refine jr_aload_n hE dX12_lift_63 0 rfl ?_
    refine jr_aload_n hE dX12_lift_64 0 rfl ?_
    refine jr_get hE dX12_lift_65 f179 M15.ob rfl ?_
    refine jr_aload_n hE dX12_lift_68 0 rfl ?_
    refine jr_get hE dX12_lift_69 f182 M15.ob rfl ?_
    refine jr_aload_n hE dX12_lift_72 0 rfl ?_
    refine jr_get hE dX12_lift_73 f55 M15.ob rfl ?_
    refine jr_kVv (ci := 12) (n := 3) (As := [.ref (a 41), .ref (a 42), .ref (a 5)]) (rest := []) hE dX12_lift_76 (fun l => c_m_raise l G o a v (uz (uz (uz (uz n 40 (some x)) 42 (some (fm x x))) 42 (some (fm (fm x x) x))) 42 (some (fa (fm (fm x x) x) 7))) g w 41 42 5 (fa (fm (fm x x) x) 7) cQT) gX12_lift_X12_raise rfl M15.ob rfl (by decide +kernel) ⟨rfl, rfl, by decide, by decide⟩ (by decide) rfl rfl (Nat.le_of_ble_eq_true rfl) (⟨M15, hK, (by decide), (by decide), (by decide), (by decide), rfl, hC.2.1⟩) (fun F16 q17 => ?_)
    obtain ⟨nM18, M18, hfM18, zM18, PM18⟩ := q17
    have OM18 := OM15.tr PM18
    have KM18 := hK.fr (n' := nM18) (hfM18 0 (by decide)) (hfM18 1 (by decide)) (hfM18 32 (by decide)) (hfM18 33 (by decide))
    have hM18_kx : nM18 kx = some x := (hfM18 kx (jnsub (V := [41, 35, 36]) hkx2 [1, 4, 5] rfl)).trans ((uz_n _ _ (jne hkx2 2 rfl)).trans ((uz_n _ _ (jne hkx2 2 rfl)).trans ((uz_n _ _ (jne hkx2 2 rfl)).trans ((uz_n _ _ (jne hkx2 0 rfl)).trans hx))))
    have hM18_0 : nM18 0 = some PP := (hfM18 0 (by decide)).trans hK.1
    have hM18_5 : nM18 5 = some cQT := (hfM18 5 (by decide)).trans hC.2.1
    have hM18_48 : nM18 48 = some 7 := (hfM18 48 (by decide)).trans hC.2.2.2.2
    have hM18_40 : nM18 40 = some x := (hfM18 40 (by decide)).trans rfl
    have hM18_42 : nM18 42 = some (fa (fm (fm x x) x) 7) := (hfM18 42 (by decide)).trans rfl
    refine jr_aload_n hE dX12_lift_79 0 rfl ?_
    refine jr_aload_n hE dX12_lift_80 0 rfl ?_
    refine jr_get hE dX12_lift_81 f185 M18.ob rfl ?_
    refine jr_aload_n hE dX12_lift_84 0 rfl ?_
    refine jr_get hE dX12_lift_85 f179 M18.ob rfl ?_
    refine jr_aload_n hE dX12_lift_88 0 rfl ?_
    refine jr_get hE dX12_lift_89 f179 M18.ob rfl ?_
    refine jr_iconst (v := (0 : Int32)) hE dX12_lift_92 (by decide) ?_
    refine jr_kVv (ci := 12) (n := 4) (As := [.ref (a 43), .ref (a 41), .ref (a 41), .int (0 : Int32)]) (rest := []) hE dX12_lift_93 (fun l => c_m_times l G o a v nM18 g w 43 41 41 ((fa (fm (fm x x) x) 7) ^ cQT % PP) ((fa (fm (fm x x) x) 7) ^ cQT % PP) false) gX12_lift_X12_times rfl M18.ob rfl (by decide +kernel) ⟨rfl, rfl, by decide, by decide⟩ (by decide) rfl rfl (Nat.le_of_ble_eq_true rfl) (⟨M18, KM18, (by decide), (by decide), (by decide), zM18, zM18⟩) (fun F19 q20 => ?_)
    obtain ⟨M21, PM21⟩ := q20
    have M21 : MW G L F19 o a v (uz nM18 43 (some (fm ((fa (fm (fm x x) x) 7) ^ cQT % PP) ((fa (fm (fm x x) x) 7) ^ cQT % PP)))) g w := M21
    have OM21 := OM18.tr PM21
    refine jr_aload_n hE dX12_lift_96 0 rfl ?_
    refine jr_get hE dX12_lift_97 f182 M21.ob rfl ?_
    refine jr_aload_n hE dX12_lift_100 0 rfl ?_
    refine jr_get hE dX12_lift_101 f185 M21.ob rfl ?_
    refine jr_kSi (n := 2) (As := [.ref (a 42), .ref (a 43)]) (rest := []) hE dX12_lift_104 (fun l => c_m_isSame l G o a v (uz nM18 43 (some (fm ((fa (fm (fm x x) x) 7) ^ cQT % PP) ((fa (fm (fm x x) x) 7) ^ cQT % PP)))) g w 42 43 (fa (fm (fm x x) x) 7) (fm ((fa (fm (fm x x) x) 7) ^ cQT % PP) ((fa (fm (fm x x) x) 7) ^ cQT % PP))) gX12_lift_X12_isSame rfl (by decide +kernel) ⟨rfl, rfl, by decide, by decide⟩ (by decide) rfl rfl (Nat.le_of_ble_eq_true rfl) (⟨M21, (by decide), (by decide), hM18_42, rfl⟩) (fun r24 F22 q23 => ?_)
    obtain ⟨eq23, rq23⟩ := q23
    subst eq23 rq23
    refine jr_if_ne (tgt := 112) hE dX12_lift_107 (by decide) (fun c107 => ?_) (fun c107 => ?_)
    · have hX : isX x := (isX_M hxl).mpr (b2i_1 c107)
      refine jr_aload_n hE dX12_lift_112 0 rfl ?_
      refine jr_get hE dX12_lift_113 f179 M21.ob rfl ?_
      refine jr_iconst (v := (0 : Int32)) hE dX12_lift_116 (by decide) ?_
      obtain ⟨f25, jf25, ef25⟩ := M21.ld (k := 41) (by decide) (x := (fa (fm (fm x x) x) 7) ^ cQT % PP) zM18
      refine jr_lald (v := lN ((fa (fm (fm x x) x) 7) ^ cQT % PP / 2 ^ (32 * 0) % 2 ^ 32)) hE dX12_lift_117 jf25 (vp_in_nI (n := 0) (by decide) (by decide)) (ef25 0 (by decide)) ?_
      refine jr_lconst (v := (1 : Int64)) hE dX12_lift_118 (by decide) ?_
      refine jr_land (z := lN (((fa (fm (fm x x) x) 7) ^ cQT % PP) % 2)) hE dX12_lift_119 (by rw [wb_a1 (Nat.lt_trans (Nat.mod_lt _ (Nat.two_pow_pos 32)) (by decide)), dig0]) ?_
      refine jr_lconst (v := (1 : Int64)) hE dX12_lift_120 (by decide) ?_
      refine jr_lcmp hE dX12_lift_121 ?_
      refine jr_if_ne (tgt := 129) hE dX12_lift_122 (by decide) (fun c122 => ?_) (fun c122 => ?_)
      · have hodd : ¬ ((fa (fm (fm x x) x) 7) ^ cQT % PP) % 2 = 1 := fun e => c122 ((cmp0 (b := 1) (by omega) (by decide)).mpr e)
        refine jr_iconst (v := (1 : Int32)) hE dX12_lift_129 (by decide) ?_
        have hey : eyE x = (fa (fm (fm x x) x) 7) ^ cQT % PP := by
          unfold eyE
          rw [rt_M x, if_neg hodd]
        exact hR F19 1 _ _ dX12_lift_130 rfl ⟨_, M21, (fun k hk => ((uz_n _ _ (jne hk 3 rfl)).trans ((hfM18 k (jnsub (V := [41, 35, 36]) hk [1, 4, 5] rfl)).trans ((uz_n _ _ (jne hk 2 rfl)).trans ((uz_n _ _ (jne hk 2 rfl)).trans ((uz_n _ _ (jne hk 2 rfl)).trans (uz_n _ _ (jne hk 0 rfl)))))))), fun _ => qE_lf hX hM18_40 (by rw [hey]; exact zM18), (b2i_t hX).symm, OM21⟩
      · have hodd : ((fa (fm (fm x x) x) 7) ^ cQT % PP) % 2 = 1 := (cmp0 (b := 1) (by omega) (by decide)).mp c122
        refine jr_aload_n hE dX12_lift_125 0 rfl ?_
        refine jr_kVv (ci := 12) (n := 0) (As := []) (rest := []) hE dX12_lift_126 (fun l => c_m_negateQ l G o a v (uz nM18 43 (some (fm ((fa (fm (fm x x) x) 7) ^ cQT % PP) ((fa (fm (fm x x) x) 7) ^ cQT % PP)))) g w ((fa (fm (fm x x) x) 7) ^ cQT % PP)) gX12_lift_X12_negateQ rfl M21.ob rfl (by decide +kernel) ⟨rfl, rfl, by decide, by decide⟩ (by decide) rfl rfl (Nat.le_of_ble_eq_true rfl) (⟨M21, KM18, zM18, (Nat.mod_lt _ PP0)⟩) (fun F26 q27 => ?_)
        obtain ⟨nM28, M28, hfM28, zM28, PM28⟩ := q27
        have OM28 := OM21.tr PM28
        have KM28 := KM18.fr (n' := nM28) (hfM28 0 (by decide)) (hfM28 1 (by decide)) (hfM28 32 (by decide)) (hfM28 33 (by decide))
        have hM28_kx : nM28 kx = some x := (hfM28 kx (jnsub (V := [41]) hkx2 [1] rfl)).trans ((uz_n _ _ (jne hkx2 3 rfl)).trans hM18_kx)
        have hM28_0 : nM28 0 = some PP := (hfM28 0 (by decide)).trans hM18_0
        have hM28_5 : nM28 5 = some cQT := (hfM28 5 (by decide)).trans hM18_5
        have hM28_48 : nM28 48 = some 7 := (hfM28 48 (by decide)).trans hM18_48
        have hM28_40 : nM28 40 = some x := (hfM28 40 (by decide)).trans hM18_40
        have hM28_42 : nM28 42 = some (fa (fm (fm x x) x) 7) := (hfM28 42 (by decide)).trans hM18_42
        have hM28_43 : nM28 43 = some (fm ((fa (fm (fm x x) x) 7) ^ cQT % PP) ((fa (fm (fm x x) x) 7) ^ cQT % PP)) := (hfM28 43 (by decide)).trans rfl
        refine jr_iconst (v := (1 : Int32)) hE dX12_lift_129 (by decide) ?_
        have hey : eyE x = fk (-1) ((fa (fm (fm x x) x) 7) ^ cQT % PP) := by
          unfold eyE
          rw [rt_M x, if_pos hodd]
        exact hR F26 1 _ _ dX12_lift_130 rfl ⟨_, M28, (fun k hk => ((hfM28 k (jnsub (V := [41]) hk [1] rfl)).trans ((uz_n _ _ (jne hk 3 rfl)).trans ((hfM18 k (jnsub (V := [41, 35, 36]) hk [1, 4, 5] rfl)).trans ((uz_n _ _ (jne hk 2 rfl)).trans ((uz_n _ _ (jne hk 2 rfl)).trans ((uz_n _ _ (jne hk 2 rfl)).trans (uz_n _ _ (jne hk 0 rfl))))))))), fun _ => qE_lf hX hM28_40 (by rw [hey]; exact zM28), (b2i_t hX).symm, OM28⟩
    · refine jr_iconst (v := (0 : Int32)) hE dX12_lift_110 (by decide) ?_
      have hX : ¬ isX x := fun e => absurd (b2i_t ((isX_M hxl).mp e)) (by rw [c107]; decide)
      exact hR F19 0 _ _ dX12_lift_111 rfl ⟨_, M21, (fun k hk => ((uz_n _ _ (jne hk 3 rfl)).trans ((hfM18 k (jnsub (V := [41, 35, 36]) hk [1, 4, 5] rfl)).trans ((uz_n _ _ (jne hk 2 rfl)).trans ((uz_n _ _ (jne hk 2 rfl)).trans ((uz_n _ _ (jne hk 2 rfl)).trans (uz_n _ _ (jne hk 0 rfl)))))))), fun e => absurd e hX, (b2i_f hX).symm, OM21⟩
  · refine jr_iconst (v := (0 : Int32)) hE dX12_lift_11 (by decide) ?_
    have hX : ¬ isX x := fun e => absurd (b2i_t e.1) (by rw [c8]; decide)
    exact hR F 0 _ _ dX12_lift_12 rfl ⟨n, M0, fun _ _ => rfl, fun e => absurd e hX, (b2i_f hX).symm, mO.rf o a F⟩

