/-! THE REFERENCE'S twice, plus -/
theorem zfa {a b : Nat} {a' b' : Int} (h : zd PP (a - a')) (h' : zd PP (b - b')) : zd PP ((fa a b : Nat) - (a' + b')) := by
  have h1 := zmd PP (a + b)
  rw [Int.natCast_add] at h1
  exact zd_tr h1 (h.l2 h' 1 1 (by omega))
abbrev m4 (x y : Nat) : Nat := fa (fs (fs (fm (fa x (fm y y)) (fa x (fm y y))) (fm x x)) (fm (fm y y) (fm y y))) (fs (fs (fm (fa x (fm y y)) (fa x (fm y y))) (fm x x)) (fm (fm y y) (fm y y)))
abbrev m5 (x : Nat) : Nat := fa (fa (fm x x) (fm x x)) (fm x x)
abbrev m2X (x y : Nat) : Nat := fs (fs (fm (m5 x) (m5 x)) (m4 x y)) (m4 x y)
abbrev m38 (y : Nat) : Nat := fa (fa (fa (fm (fm y y) (fm y y)) (fm (fm y y) (fm y y))) (fa (fm (fm y y) (fm y y)) (fm (fm y y) (fm y y)))) (fa (fa (fm (fm y y) (fm y y)) (fm (fm y y) (fm y y))) (fa (fm (fm y y) (fm y y)) (fm (fm y y) (fm y y))))
abbrev m2Y (x y : Nat) : Nat := fs (fm (m5 x) (fs (m4 x y) (m2X x y))) (m38 y)
abbrev m2Z (y z : Nat) : Nat := fa (fm y z) (fm y z)
theorem rep_twM {x y z : Nat} {A : EP} (h : rep (false, x, y, z) A) : rep (false, m2X x y, m2Y x y, m2Z y z) (eadd PP A A) ∧ m2Z y z ≠ 0 := by
  rcases h with ⟨h1, -⟩ | ⟨-, X, Y, zz, rfl, e, nz, hx, hy, hz⟩
  · cases h1
  replace hx : zd PP ((x : Int) - X * (zz * zz)) := hx
  replace hy : zd PP ((y : Int) - Y * (zz * zz * zz)) := hy
  replace hz : zd PP ((z : Int) - zz) := hz
  have hl := slope gdP.1 (gdP.y e) (3 * X * X)
  rw [eadd_tw gdP.1 (gdP.y e) hl]
  generalize 3 * X * X * ivI PP (2 * Y) = l at *
  have nY : ¬ zd PP Y := fun q => gdP.y e (q.l1 2 (by omega))
  have n2 : ¬ zd PP 2 := gdP.2.1
  have nZ : ¬ zd PP (2 * (zz * (Y * (zz * zz * zz)))) := zd_prod gdP.1 n2 (zd_prod gdP.1 nz (zd_prod gdP.1 nY (zd_prod gdP.1 (zd_prod gdP.1 nz nz) nz)))
  have h1 := zfm hx hx
  have h2 := zfm hy hy
  have h3 := zfm h2 h2
  have h4a := zfa hx h2
  have h4b := zfs (fm_lt _ _) (zfs (fm_lt _ _) (zfm h4a h4a) h1) h3
  have h4 := zfa h4b h4b
  have h5 := zfa (zfa h1 h1) h1
  have hZ0 := zfa (zfm hy hz) (zfm hy hz)
  have hZ : zd PP ((m2Z y z : Nat) - 2 * (zz * (Y * (zz * zz * zz)))) := hZ0.l1 1 (by grind)
  have hX := zfs (fa_lt _ _) (zfs (fa_lt _ _) (zfm h5 h5) h4) h4
  have hY := zfs (fa_lt _ _) (zfm h5 (zfs (fs_lt _ _) h4 hX)) (zfa (zfa (zfa h3 h3) (zfa h3 h3)) (zfa (zfa h3 h3) (zfa h3 h3)))
  refine ⟨Or.inr ⟨rfl, _, _, 2 * (zz * (Y * (zz * zz * zz))), rfl, isE_tw e hl, nZ, ?_, ?_, hZ⟩, fun q => nZ ?_⟩
  · exact zd_tr hX (hl.l1 (-(zz ^ 8) * (l * (2 * Y) + 3 * X * X)) (by grind))
  · exact zd_tr hY (hl.l1 (9*X^4*zz^12 + 6*X^2*Y*l*zz^12 - 12*X*Y^2*zz^12 + 4*Y^2*l^2*zz^12) (by grind))
  · rw [q] at hZ
    exact hZ.l1 (-1) (by grind)
/-- the reference's point: z nought, or x, y, z -/
def pJ (n : Nat → Option Nat) (A : EP) : Prop := ∃ z, n 39 = some z ∧ z < PP ∧ ((z = 0 ∧ A = none) ∨ (z ≠ 0 ∧ ∃ x y, n 37 = some x ∧ n 38 = some y ∧ x < PP ∧ y < PP ∧ rep (false, x, y, z) A))
/-- the point that is to be added -/
def qE (n : Nat → Option Nat) (B : EP) : Prop := ∃ x y : Nat, n 40 = some x ∧ n 41 = some y ∧ x < PP ∧ y < PP ∧ B = some (x, y) ∧ isE PP x y

set_option maxHeartbeats 4000000 in
set_option maxRecDepth 100000 in
theorem c_m_twice (l : Launch) (G : Nat → ClassId) (o : Nat) (a : Nat → Nat) (v : Nat → Int32) (n : Nat → Option Nat) (g : Nat → Nat → Int64) (w : Nat → Nat → Int32) (A : EP) : jKv l yX12_twice wsX12_twice ({ frames := 4, cells := 0, slots := 0, locals := 110 }) G [.ref o] (fun L F => MW G L F o a v n g w ∧ mK n g ∧ pJ n A) (fun L F F1 => ∃ n', MW G L F1 o a v n' g w ∧ (∀ k, k ∉ [37, 38, 39, 42, 43, 44, 45, 46, 47, 34] → n' k = n k) ∧ pJ n' (eadd PP A A) ∧ mO o a F F1) := by
  refine jm_kv (cc := cX12_twice) (maxL := 1) (by decide) rfl (Nat.le_of_ble_eq_true rfl) ?_
  intro E L F hE hR hpre
  have hE : jOk E G _ cX12_twice 1 RX12 wsX12_twice := hE
  obtain ⟨M0, hK, z, hz, hzl, hA⟩ := hpre
  have f173 : jFl RX12 wsX12_twice 173 12 39 := ⟨rfl, by decide, by decide +kernel, by decide +kernel⟩
  have f182 : jFl RX12 wsX12_twice 182 12 42 := ⟨rfl, by decide, by decide +kernel, by decide +kernel⟩
  have f167 : jFl RX12 wsX12_twice 167 12 37 := ⟨rfl, by decide, by decide +kernel, by decide +kernel⟩
  have f185 : jFl RX12 wsX12_twice 185 12 43 := ⟨rfl, by decide, by decide +kernel, by decide +kernel⟩
  have f170 : jFl RX12 wsX12_twice 170 12 38 := ⟨rfl, by decide, by decide +kernel, by decide +kernel⟩
  have f188 : jFl RX12 wsX12_twice 188 12 44 := ⟨rfl, by decide, by decide +kernel, by decide +kernel⟩
  have f191 : jFl RX12 wsX12_twice 191 12 45 := ⟨rfl, by decide, by decide +kernel, by decide +kernel⟩
  have f194 : jFl RX12 wsX12_twice 194 12 46 := ⟨rfl, by decide, by decide +kernel, by decide +kernel⟩
  have f197 : jFl RX12 wsX12_twice 197 12 47 := ⟨rfl, by decide, by decide +kernel, by decide +kernel⟩
  refine jr_aload_n hE dX12_twice_0 0 rfl ?_
  refine jr_get hE dX12_twice_1 f173 M0.ob rfl ?_
  refine jr_kSi (n := 1) (As := [.ref (a 39)]) (rest := []) hE dX12_twice_4 (fun l => c_m_isNull l G o a v n g w 39 z) gX12_twice_X12_isNull rfl (by decide +kernel) ⟨rfl, rfl, by decide, by decide⟩ (by decide) rfl rfl (Nat.le_of_ble_eq_true rfl) (⟨M0, (by decide), hz⟩) (fun r3 F1 q2 => ?_)
  obtain ⟨eq2, rq2⟩ := q2
  subst eq2 rq2
  refine jr_if_eq (tgt := 11) hE dX12_twice_7 (by decide) (fun c7 => ?_) (fun c7 => ?_)
  · have hz0 : z ≠ 0 := fun e => by
      rw [b2i_t e] at c7
      exact absurd c7 (by decide)
    obtain ⟨x, y, hx, hy, hxl, hyl, hr⟩ := (hA.resolve_left (fun e => hz0 e.1)).2
    refine jr_aload_n hE dX12_twice_11 0 rfl ?_
    refine jr_aload_n hE dX12_twice_12 0 rfl ?_
    refine jr_get hE dX12_twice_13 f182 M0.ob rfl ?_
    refine jr_aload_n hE dX12_twice_16 0 rfl ?_
    refine jr_get hE dX12_twice_17 f167 M0.ob rfl ?_
    refine jr_aload_n hE dX12_twice_20 0 rfl ?_
    refine jr_get hE dX12_twice_21 f167 M0.ob rfl ?_
    refine jr_iconst (v := (0 : Int32)) hE dX12_twice_24 (by decide) ?_
    refine jr_kVv (ci := 12) (n := 4) (As := [.ref (a 42), .ref (a 37), .ref (a 37), .int (0 : Int32)]) (rest := []) hE dX12_twice_25 (fun l => c_m_times l G o a v n g w 42 37 37 x x false) gX12_twice_X12_times rfl M0.ob rfl (by decide +kernel) ⟨rfl, rfl, by decide, by decide⟩ (by decide) rfl rfl (Nat.le_of_ble_eq_true rfl) (⟨M0, hK, (by decide), (by decide), (by decide), hx, hx⟩) (fun F4 q5 => ?_)
    obtain ⟨M6, PM6⟩ := q5
    have M6 : MW G L F4 o a v (uz n 42 (some (fm x x))) g w := M6
    have OM6 := (mO.rf o a F).tr PM6
    refine jr_aload_n hE dX12_twice_28 0 rfl ?_
    refine jr_aload_n hE dX12_twice_29 0 rfl ?_
    refine jr_get hE dX12_twice_30 f185 M6.ob rfl ?_
    refine jr_aload_n hE dX12_twice_33 0 rfl ?_
    refine jr_get hE dX12_twice_34 f170 M6.ob rfl ?_
    refine jr_aload_n hE dX12_twice_37 0 rfl ?_
    refine jr_get hE dX12_twice_38 f170 M6.ob rfl ?_
    refine jr_iconst (v := (0 : Int32)) hE dX12_twice_41 (by decide) ?_
    refine jr_kVv (ci := 12) (n := 4) (As := [.ref (a 43), .ref (a 38), .ref (a 38), .int (0 : Int32)]) (rest := []) hE dX12_twice_42 (fun l => c_m_times l G o a v (uz n 42 (some (fm x x))) g w 43 38 38 y y false) gX12_twice_X12_times rfl M6.ob rfl (by decide +kernel) ⟨rfl, rfl, by decide, by decide⟩ (by decide) rfl rfl (Nat.le_of_ble_eq_true rfl) (⟨M6, hK, (by decide), (by decide), (by decide), hy, hy⟩) (fun F7 q8 => ?_)
    obtain ⟨M9, PM9⟩ := q8
    have M9 : MW G L F7 o a v (uz (uz n 42 (some (fm x x))) 43 (some (fm y y))) g w := M9
    have OM9 := OM6.tr PM9
    refine jr_aload_n hE dX12_twice_45 0 rfl ?_
    refine jr_aload_n hE dX12_twice_46 0 rfl ?_
    refine jr_get hE dX12_twice_47 f188 M9.ob rfl ?_
    refine jr_aload_n hE dX12_twice_50 0 rfl ?_
    refine jr_get hE dX12_twice_51 f185 M9.ob rfl ?_
    refine jr_aload_n hE dX12_twice_54 0 rfl ?_
    refine jr_get hE dX12_twice_55 f185 M9.ob rfl ?_
    refine jr_iconst (v := (0 : Int32)) hE dX12_twice_58 (by decide) ?_
    refine jr_kVv (ci := 12) (n := 4) (As := [.ref (a 44), .ref (a 43), .ref (a 43), .int (0 : Int32)]) (rest := []) hE dX12_twice_59 (fun l => c_m_times l G o a v (uz (uz n 42 (some (fm x x))) 43 (some (fm y y))) g w 44 43 43 (fm y y) (fm y y) false) gX12_twice_X12_times rfl M9.ob rfl (by decide +kernel) ⟨rfl, rfl, by decide, by decide⟩ (by decide) rfl rfl (Nat.le_of_ble_eq_true rfl) (⟨M9, hK, (by decide), (by decide), (by decide), rfl, rfl⟩) (fun F10 q11 => ?_)
    obtain ⟨M12, PM12⟩ := q11
    have M12 : MW G L F10 o a v (uz (uz (uz n 42 (some (fm x x))) 43 (some (fm y y))) 44 (some (fm (fm y y) (fm y y)))) g w := M12
    have OM12 := OM9.tr PM12
    refine jr_aload_n hE dX12_twice_62 0 rfl ?_
    refine jr_aload_n hE dX12_twice_63 0 rfl ?_
    refine jr_get hE dX12_twice_64 f191 M12.ob rfl ?_
    refine jr_aload_n hE dX12_twice_67 0 rfl ?_
    refine jr_get hE dX12_twice_68 f167 M12.ob rfl ?_
    refine jr_aload_n hE dX12_twice_71 0 rfl ?_
    refine jr_get hE dX12_twice_72 f185 M12.ob rfl ?_
    refine jr_iconst (v := (0 : Int32)) hE dX12_twice_75 (by decide) ?_
    refine jr_kVv (ci := 12) (n := 4) (As := [.ref (a 45), .ref (a 37), .ref (a 43), .int (0 : Int32)]) (rest := []) hE dX12_twice_76 (fun l => c_m_add l G o a v (uz (uz (uz n 42 (some (fm x x))) 43 (some (fm y y))) 44 (some (fm (fm y y) (fm y y)))) g w 45 37 43 x (fm y y) false) gX12_twice_X12_add rfl M12.ob rfl (by decide +kernel) ⟨rfl, rfl, by decide, by decide⟩ (by decide) rfl rfl (Nat.le_of_ble_eq_true rfl) (⟨M12, hK, (by decide), (by decide), (by decide), hx, rfl⟩) (fun F13 q14 => ?_)
    obtain ⟨M15, PM15⟩ := q14
    have M15 : MW G L F13 o a v (uz (uz (uz (uz n 42 (some (fm x x))) 43 (some (fm y y))) 44 (some (fm (fm y y) (fm y y)))) 45 (some (fa x (fm y y)))) g w := M15
    have OM15 := OM12.tr PM15
    refine jr_aload_n hE dX12_twice_79 0 rfl ?_
    refine jr_aload_n hE dX12_twice_80 0 rfl ?_
    refine jr_get hE dX12_twice_81 f191 M15.ob rfl ?_
    refine jr_aload_n hE dX12_twice_84 0 rfl ?_
    refine jr_get hE dX12_twice_85 f191 M15.ob rfl ?_
    refine jr_aload_n hE dX12_twice_88 0 rfl ?_
    refine jr_get hE dX12_twice_89 f191 M15.ob rfl ?_
    refine jr_iconst (v := (0 : Int32)) hE dX12_twice_92 (by decide) ?_
    refine jr_kVv (ci := 12) (n := 4) (As := [.ref (a 45), .ref (a 45), .ref (a 45), .int (0 : Int32)]) (rest := []) hE dX12_twice_93 (fun l => c_m_times l G o a v (uz (uz (uz (uz n 42 (some (fm x x))) 43 (some (fm y y))) 44 (some (fm (fm y y) (fm y y)))) 45 (some (fa x (fm y y)))) g w 45 45 45 (fa x (fm y y)) (fa x (fm y y)) false) gX12_twice_X12_times rfl M15.ob rfl (by decide +kernel) ⟨rfl, rfl, by decide, by decide⟩ (by decide) rfl rfl (Nat.le_of_ble_eq_true rfl) (⟨M15, hK, (by decide), (by decide), (by decide), rfl, rfl⟩) (fun F16 q17 => ?_)
    obtain ⟨M18, PM18⟩ := q17
    have M18 : MW G L F16 o a v (uz (uz (uz (uz (uz n 42 (some (fm x x))) 43 (some (fm y y))) 44 (some (fm (fm y y) (fm y y)))) 45 (some (fa x (fm y y)))) 45 (some (fm (fa x (fm y y)) (fa x (fm y y))))) g w := M18
    have OM18 := OM15.tr PM18
    refine jr_aload_n hE dX12_twice_96 0 rfl ?_
    refine jr_aload_n hE dX12_twice_97 0 rfl ?_
    refine jr_get hE dX12_twice_98 f191 M18.ob rfl ?_
    refine jr_aload_n hE dX12_twice_101 0 rfl ?_
    refine jr_get hE dX12_twice_102 f191 M18.ob rfl ?_
    refine jr_aload_n hE dX12_twice_105 0 rfl ?_
    refine jr_get hE dX12_twice_106 f182 M18.ob rfl ?_
    refine jr_iconst (v := (0 : Int32)) hE dX12_twice_109 (by decide) ?_
    refine jr_kVv (ci := 12) (n := 4) (As := [.ref (a 45), .ref (a 45), .ref (a 42), .int (0 : Int32)]) (rest := []) hE dX12_twice_110 (fun l => c_m_less l G o a v (uz (uz (uz (uz (uz n 42 (some (fm x x))) 43 (some (fm y y))) 44 (some (fm (fm y y) (fm y y)))) 45 (some (fa x (fm y y)))) 45 (some (fm (fa x (fm y y)) (fa x (fm y y))))) g w 45 45 42 (fm (fa x (fm y y)) (fa x (fm y y))) (fm x x) false) gX12_twice_X12_less rfl M18.ob rfl (by decide +kernel) ⟨rfl, rfl, by decide, by decide⟩ (by decide) rfl rfl (Nat.le_of_ble_eq_true rfl) (⟨M18, hK, (by decide), (by decide), (by decide), (by decide), (by decide), rfl, rfl, (fm_lt _ _), (fm_lt _ _)⟩) (fun F19 q20 => ?_)
    obtain ⟨nM21, M21, hfM21, zM21, PM21⟩ := q20
    have OM21 := OM18.tr PM21
    have KM21 := hK.fr (n' := nM21) (hfM21 0 (by decide)) (hfM21 1 (by decide)) (hfM21 32 (by decide)) (hfM21 33 (by decide))
    have hM21_37 : nM21 37 = some x := (hfM21 37 (by decide)).trans hx
    have hM21_38 : nM21 38 = some y := (hfM21 38 (by decide)).trans hy
    have hM21_39 : nM21 39 = some z := (hfM21 39 (by decide)).trans hz
    have hM21_42 : nM21 42 = some (fm x x) := (hfM21 42 (by decide)).trans rfl
    have hM21_43 : nM21 43 = some (fm y y) := (hfM21 43 (by decide)).trans rfl
    have hM21_44 : nM21 44 = some (fm (fm y y) (fm y y)) := (hfM21 44 (by decide)).trans rfl
    have zM21 : nM21 45 = some (fs (fm (fa x (fm y y)) (fa x (fm y y))) (fm x x)) := zM21
    refine jr_aload_n hE dX12_twice_113 0 rfl ?_
    refine jr_aload_n hE dX12_twice_114 0 rfl ?_
    refine jr_get hE dX12_twice_115 f191 M21.ob rfl ?_
    refine jr_aload_n hE dX12_twice_118 0 rfl ?_
    refine jr_get hE dX12_twice_119 f191 M21.ob rfl ?_
    refine jr_aload_n hE dX12_twice_122 0 rfl ?_
    refine jr_get hE dX12_twice_123 f188 M21.ob rfl ?_
    refine jr_iconst (v := (0 : Int32)) hE dX12_twice_126 (by decide) ?_
    refine jr_kVv (ci := 12) (n := 4) (As := [.ref (a 45), .ref (a 45), .ref (a 44), .int (0 : Int32)]) (rest := []) hE dX12_twice_127 (fun l => c_m_less l G o a v nM21 g w 45 45 44 (fs (fm (fa x (fm y y)) (fa x (fm y y))) (fm x x)) (fm (fm y y) (fm y y)) false) gX12_twice_X12_less rfl M21.ob rfl (by decide +kernel) ⟨rfl, rfl, by decide, by decide⟩ (by decide) rfl rfl (Nat.le_of_ble_eq_true rfl) (⟨M21, KM21, (by decide), (by decide), (by decide), (by decide), (by decide), zM21, hM21_44, (fs_lt _ _), (fm_lt _ _)⟩) (fun F22 q23 => ?_)
    obtain ⟨nM24, M24, hfM24, zM24, PM24⟩ := q23
    have OM24 := OM21.tr PM24
    have KM24 := KM21.fr (n' := nM24) (hfM24 0 (by decide)) (hfM24 1 (by decide)) (hfM24 32 (by decide)) (hfM24 33 (by decide))
    have hM24_37 : nM24 37 = some x := (hfM24 37 (by decide)).trans hM21_37
    have hM24_38 : nM24 38 = some y := (hfM24 38 (by decide)).trans hM21_38
    have hM24_39 : nM24 39 = some z := (hfM24 39 (by decide)).trans hM21_39
    have hM24_42 : nM24 42 = some (fm x x) := (hfM24 42 (by decide)).trans hM21_42
    have hM24_43 : nM24 43 = some (fm y y) := (hfM24 43 (by decide)).trans hM21_43
    have hM24_44 : nM24 44 = some (fm (fm y y) (fm y y)) := (hfM24 44 (by decide)).trans hM21_44
    have zM24 : nM24 45 = some (fs (fs (fm (fa x (fm y y)) (fa x (fm y y))) (fm x x)) (fm (fm y y) (fm y y))) := zM24
    refine jr_aload_n hE dX12_twice_130 0 rfl ?_
    refine jr_aload_n hE dX12_twice_131 0 rfl ?_
    refine jr_get hE dX12_twice_132 f191 M24.ob rfl ?_
    refine jr_aload_n hE dX12_twice_135 0 rfl ?_
    refine jr_get hE dX12_twice_136 f191 M24.ob rfl ?_
    refine jr_aload_n hE dX12_twice_139 0 rfl ?_
    refine jr_get hE dX12_twice_140 f191 M24.ob rfl ?_
    refine jr_iconst (v := (0 : Int32)) hE dX12_twice_143 (by decide) ?_
    refine jr_kVv (ci := 12) (n := 4) (As := [.ref (a 45), .ref (a 45), .ref (a 45), .int (0 : Int32)]) (rest := []) hE dX12_twice_144 (fun l => c_m_add l G o a v nM24 g w 45 45 45 (fs (fs (fm (fa x (fm y y)) (fa x (fm y y))) (fm x x)) (fm (fm y y) (fm y y))) (fs (fs (fm (fa x (fm y y)) (fa x (fm y y))) (fm x x)) (fm (fm y y) (fm y y))) false) gX12_twice_X12_add rfl M24.ob rfl (by decide +kernel) ⟨rfl, rfl, by decide, by decide⟩ (by decide) rfl rfl (Nat.le_of_ble_eq_true rfl) (⟨M24, KM24, (by decide), (by decide), (by decide), zM24, zM24⟩) (fun F25 q26 => ?_)
    obtain ⟨M27, PM27⟩ := q26
    have M27 : MW G L F25 o a v (uz nM24 45 (some (fa (fs (fs (fm (fa x (fm y y)) (fa x (fm y y))) (fm x x)) (fm (fm y y) (fm y y))) (fs (fs (fm (fa x (fm y y)) (fa x (fm y y))) (fm x x)) (fm (fm y y) (fm y y)))))) g w := M27
    have OM27 := OM24.tr PM27
    refine jr_aload_n hE dX12_twice_147 0 rfl ?_
    refine jr_aload_n hE dX12_twice_148 0 rfl ?_
    refine jr_get hE dX12_twice_149 f194 M27.ob rfl ?_
    refine jr_aload_n hE dX12_twice_152 0 rfl ?_
    refine jr_get hE dX12_twice_153 f182 M27.ob rfl ?_
    refine jr_aload_n hE dX12_twice_156 0 rfl ?_
    refine jr_get hE dX12_twice_157 f182 M27.ob rfl ?_
    refine jr_iconst (v := (0 : Int32)) hE dX12_twice_160 (by decide) ?_
    refine jr_kVv (ci := 12) (n := 4) (As := [.ref (a 46), .ref (a 42), .ref (a 42), .int (0 : Int32)]) (rest := []) hE dX12_twice_161 (fun l => c_m_add l G o a v (uz nM24 45 (some (fa (fs (fs (fm (fa x (fm y y)) (fa x (fm y y))) (fm x x)) (fm (fm y y) (fm y y))) (fs (fs (fm (fa x (fm y y)) (fa x (fm y y))) (fm x x)) (fm (fm y y) (fm y y)))))) g w 46 42 42 (fm x x) (fm x x) false) gX12_twice_X12_add rfl M27.ob rfl (by decide +kernel) ⟨rfl, rfl, by decide, by decide⟩ (by decide) rfl rfl (Nat.le_of_ble_eq_true rfl) (⟨M27, KM24, (by decide), (by decide), (by decide), hM24_42, hM24_42⟩) (fun F28 q29 => ?_)
    obtain ⟨M30, PM30⟩ := q29
    have M30 : MW G L F28 o a v (uz (uz nM24 45 (some (fa (fs (fs (fm (fa x (fm y y)) (fa x (fm y y))) (fm x x)) (fm (fm y y) (fm y y))) (fs (fs (fm (fa x (fm y y)) (fa x (fm y y))) (fm x x)) (fm (fm y y) (fm y y)))))) 46 (some (fa (fm x x) (fm x x)))) g w := M30
    have OM30 := OM27.tr PM30
    refine jr_aload_n hE dX12_twice_164 0 rfl ?_
    refine jr_aload_n hE dX12_twice_165 0 rfl ?_
    refine jr_get hE dX12_twice_166 f194 M30.ob rfl ?_
    refine jr_aload_n hE dX12_twice_169 0 rfl ?_
    refine jr_get hE dX12_twice_170 f194 M30.ob rfl ?_
    refine jr_aload_n hE dX12_twice_173 0 rfl ?_
    refine jr_get hE dX12_twice_174 f182 M30.ob rfl ?_
    refine jr_iconst (v := (0 : Int32)) hE dX12_twice_177 (by decide) ?_
    refine jr_kVv (ci := 12) (n := 4) (As := [.ref (a 46), .ref (a 46), .ref (a 42), .int (0 : Int32)]) (rest := []) hE dX12_twice_178 (fun l => c_m_add l G o a v (uz (uz nM24 45 (some (fa (fs (fs (fm (fa x (fm y y)) (fa x (fm y y))) (fm x x)) (fm (fm y y) (fm y y))) (fs (fs (fm (fa x (fm y y)) (fa x (fm y y))) (fm x x)) (fm (fm y y) (fm y y)))))) 46 (some (fa (fm x x) (fm x x)))) g w 46 46 42 (fa (fm x x) (fm x x)) (fm x x) false) gX12_twice_X12_add rfl M30.ob rfl (by decide +kernel) ⟨rfl, rfl, by decide, by decide⟩ (by decide) rfl rfl (Nat.le_of_ble_eq_true rfl) (⟨M30, KM24, (by decide), (by decide), (by decide), rfl, hM24_42⟩) (fun F31 q32 => ?_)
    obtain ⟨M33, PM33⟩ := q32
    have M33 : MW G L F31 o a v (uz (uz (uz nM24 45 (some (fa (fs (fs (fm (fa x (fm y y)) (fa x (fm y y))) (fm x x)) (fm (fm y y) (fm y y))) (fs (fs (fm (fa x (fm y y)) (fa x (fm y y))) (fm x x)) (fm (fm y y) (fm y y)))))) 46 (some (fa (fm x x) (fm x x)))) 46 (some (fa (fa (fm x x) (fm x x)) (fm x x)))) g w := M33
    have OM33 := OM30.tr PM33
    refine jr_aload_n hE dX12_twice_181 0 rfl ?_
    refine jr_aload_n hE dX12_twice_182 0 rfl ?_
    refine jr_get hE dX12_twice_183 f173 M33.ob rfl ?_
    refine jr_aload_n hE dX12_twice_186 0 rfl ?_
    refine jr_get hE dX12_twice_187 f170 M33.ob rfl ?_
    refine jr_aload_n hE dX12_twice_190 0 rfl ?_
    refine jr_get hE dX12_twice_191 f173 M33.ob rfl ?_
    refine jr_iconst (v := (0 : Int32)) hE dX12_twice_194 (by decide) ?_
    refine jr_kVv (ci := 12) (n := 4) (As := [.ref (a 39), .ref (a 38), .ref (a 39), .int (0 : Int32)]) (rest := []) hE dX12_twice_195 (fun l => c_m_times l G o a v (uz (uz (uz nM24 45 (some (fa (fs (fs (fm (fa x (fm y y)) (fa x (fm y y))) (fm x x)) (fm (fm y y) (fm y y))) (fs (fs (fm (fa x (fm y y)) (fa x (fm y y))) (fm x x)) (fm (fm y y) (fm y y)))))) 46 (some (fa (fm x x) (fm x x)))) 46 (some (fa (fa (fm x x) (fm x x)) (fm x x)))) g w 39 38 39 y z false) gX12_twice_X12_times rfl M33.ob rfl (by decide +kernel) ⟨rfl, rfl, by decide, by decide⟩ (by decide) rfl rfl (Nat.le_of_ble_eq_true rfl) (⟨M33, KM24, (by decide), (by decide), (by decide), hM24_38, hM24_39⟩) (fun F34 q35 => ?_)
    obtain ⟨M36, PM36⟩ := q35
    have M36 : MW G L F34 o a v (uz (uz (uz (uz nM24 45 (some (fa (fs (fs (fm (fa x (fm y y)) (fa x (fm y y))) (fm x x)) (fm (fm y y) (fm y y))) (fs (fs (fm (fa x (fm y y)) (fa x (fm y y))) (fm x x)) (fm (fm y y) (fm y y)))))) 46 (some (fa (fm x x) (fm x x)))) 46 (some (fa (fa (fm x x) (fm x x)) (fm x x)))) 39 (some (fm y z))) g w := M36
    have OM36 := OM33.tr PM36
    refine jr_aload_n hE dX12_twice_198 0 rfl ?_
    refine jr_aload_n hE dX12_twice_199 0 rfl ?_
    refine jr_get hE dX12_twice_200 f173 M36.ob rfl ?_
    refine jr_aload_n hE dX12_twice_203 0 rfl ?_
    refine jr_get hE dX12_twice_204 f173 M36.ob rfl ?_
    refine jr_aload_n hE dX12_twice_207 0 rfl ?_
    refine jr_get hE dX12_twice_208 f173 M36.ob rfl ?_
    refine jr_iconst (v := (0 : Int32)) hE dX12_twice_211 (by decide) ?_
    refine jr_kVv (ci := 12) (n := 4) (As := [.ref (a 39), .ref (a 39), .ref (a 39), .int (0 : Int32)]) (rest := []) hE dX12_twice_212 (fun l => c_m_add l G o a v (uz (uz (uz (uz nM24 45 (some (fa (fs (fs (fm (fa x (fm y y)) (fa x (fm y y))) (fm x x)) (fm (fm y y) (fm y y))) (fs (fs (fm (fa x (fm y y)) (fa x (fm y y))) (fm x x)) (fm (fm y y) (fm y y)))))) 46 (some (fa (fm x x) (fm x x)))) 46 (some (fa (fa (fm x x) (fm x x)) (fm x x)))) 39 (some (fm y z))) g w 39 39 39 (fm y z) (fm y z) false) gX12_twice_X12_add rfl M36.ob rfl (by decide +kernel) ⟨rfl, rfl, by decide, by decide⟩ (by decide) rfl rfl (Nat.le_of_ble_eq_true rfl) (⟨M36, KM24, (by decide), (by decide), (by decide), rfl, rfl⟩) (fun F37 q38 => ?_)
    obtain ⟨M39, PM39⟩ := q38
    have M39 : MW G L F37 o a v (uz (uz (uz (uz (uz nM24 45 (some (fa (fs (fs (fm (fa x (fm y y)) (fa x (fm y y))) (fm x x)) (fm (fm y y) (fm y y))) (fs (fs (fm (fa x (fm y y)) (fa x (fm y y))) (fm x x)) (fm (fm y y) (fm y y)))))) 46 (some (fa (fm x x) (fm x x)))) 46 (some (fa (fa (fm x x) (fm x x)) (fm x x)))) 39 (some (fm y z))) 39 (some (fa (fm y z) (fm y z)))) g w := M39
    have OM39 := OM36.tr PM39
    refine jr_aload_n hE dX12_twice_215 0 rfl ?_
    refine jr_aload_n hE dX12_twice_216 0 rfl ?_
    refine jr_get hE dX12_twice_217 f197 M39.ob rfl ?_
    refine jr_aload_n hE dX12_twice_220 0 rfl ?_
    refine jr_get hE dX12_twice_221 f194 M39.ob rfl ?_
    refine jr_aload_n hE dX12_twice_224 0 rfl ?_
    refine jr_get hE dX12_twice_225 f194 M39.ob rfl ?_
    refine jr_iconst (v := (0 : Int32)) hE dX12_twice_228 (by decide) ?_
    refine jr_kVv (ci := 12) (n := 4) (As := [.ref (a 47), .ref (a 46), .ref (a 46), .int (0 : Int32)]) (rest := []) hE dX12_twice_229 (fun l => c_m_times l G o a v (uz (uz (uz (uz (uz nM24 45 (some (fa (fs (fs (fm (fa x (fm y y)) (fa x (fm y y))) (fm x x)) (fm (fm y y) (fm y y))) (fs (fs (fm (fa x (fm y y)) (fa x (fm y y))) (fm x x)) (fm (fm y y) (fm y y)))))) 46 (some (fa (fm x x) (fm x x)))) 46 (some (fa (fa (fm x x) (fm x x)) (fm x x)))) 39 (some (fm y z))) 39 (some (fa (fm y z) (fm y z)))) g w 47 46 46 (fa (fa (fm x x) (fm x x)) (fm x x)) (fa (fa (fm x x) (fm x x)) (fm x x)) false) gX12_twice_X12_times rfl M39.ob rfl (by decide +kernel) ⟨rfl, rfl, by decide, by decide⟩ (by decide) rfl rfl (Nat.le_of_ble_eq_true rfl) (⟨M39, KM24, (by decide), (by decide), (by decide), rfl, rfl⟩) (fun F40 q41 => ?_)
    obtain ⟨M42, PM42⟩ := q41
    have M42 : MW G L F40 o a v (uz (uz (uz (uz (uz (uz nM24 45 (some (fa (fs (fs (fm (fa x (fm y y)) (fa x (fm y y))) (fm x x)) (fm (fm y y) (fm y y))) (fs (fs (fm (fa x (fm y y)) (fa x (fm y y))) (fm x x)) (fm (fm y y) (fm y y)))))) 46 (some (fa (fm x x) (fm x x)))) 46 (some (fa (fa (fm x x) (fm x x)) (fm x x)))) 39 (some (fm y z))) 39 (some (fa (fm y z) (fm y z)))) 47 (some (fm (fa (fa (fm x x) (fm x x)) (fm x x)) (fa (fa (fm x x) (fm x x)) (fm x x))))) g w := M42
    have OM42 := OM39.tr PM42
    refine jr_aload_n hE dX12_twice_232 0 rfl ?_
    refine jr_aload_n hE dX12_twice_233 0 rfl ?_
    refine jr_get hE dX12_twice_234 f197 M42.ob rfl ?_
    refine jr_aload_n hE dX12_twice_237 0 rfl ?_
    refine jr_get hE dX12_twice_238 f197 M42.ob rfl ?_
    refine jr_aload_n hE dX12_twice_241 0 rfl ?_
    refine jr_get hE dX12_twice_242 f191 M42.ob rfl ?_
    refine jr_iconst (v := (0 : Int32)) hE dX12_twice_245 (by decide) ?_
    refine jr_kVv (ci := 12) (n := 4) (As := [.ref (a 47), .ref (a 47), .ref (a 45), .int (0 : Int32)]) (rest := []) hE dX12_twice_246 (fun l => c_m_less l G o a v (uz (uz (uz (uz (uz (uz nM24 45 (some (fa (fs (fs (fm (fa x (fm y y)) (fa x (fm y y))) (fm x x)) (fm (fm y y) (fm y y))) (fs (fs (fm (fa x (fm y y)) (fa x (fm y y))) (fm x x)) (fm (fm y y) (fm y y)))))) 46 (some (fa (fm x x) (fm x x)))) 46 (some (fa (fa (fm x x) (fm x x)) (fm x x)))) 39 (some (fm y z))) 39 (some (fa (fm y z) (fm y z)))) 47 (some (fm (fa (fa (fm x x) (fm x x)) (fm x x)) (fa (fa (fm x x) (fm x x)) (fm x x))))) g w 47 47 45 (fm (fa (fa (fm x x) (fm x x)) (fm x x)) (fa (fa (fm x x) (fm x x)) (fm x x))) (fa (fs (fs (fm (fa x (fm y y)) (fa x (fm y y))) (fm x x)) (fm (fm y y) (fm y y))) (fs (fs (fm (fa x (fm y y)) (fa x (fm y y))) (fm x x)) (fm (fm y y) (fm y y)))) false) gX12_twice_X12_less rfl M42.ob rfl (by decide +kernel) ⟨rfl, rfl, by decide, by decide⟩ (by decide) rfl rfl (Nat.le_of_ble_eq_true rfl) (⟨M42, KM24, (by decide), (by decide), (by decide), (by decide), (by decide), rfl, rfl, (fm_lt _ _), (fa_lt _ _)⟩) (fun F43 q44 => ?_)
    obtain ⟨nM45, M45, hfM45, zM45, PM45⟩ := q44
    have OM45 := OM42.tr PM45
    have KM45 := KM24.fr (n' := nM45) (hfM45 0 (by decide)) (hfM45 1 (by decide)) (hfM45 32 (by decide)) (hfM45 33 (by decide))
    have hM45_37 : nM45 37 = some x := (hfM45 37 (by decide)).trans hM24_37
    have hM45_38 : nM45 38 = some y := (hfM45 38 (by decide)).trans hM24_38
    have hM45_39 : nM45 39 = some (fa (fm y z) (fm y z)) := (hfM45 39 (by decide)).trans rfl
    have hM45_42 : nM45 42 = some (fm x x) := (hfM45 42 (by decide)).trans hM24_42
    have hM45_43 : nM45 43 = some (fm y y) := (hfM45 43 (by decide)).trans hM24_43
    have hM45_44 : nM45 44 = some (fm (fm y y) (fm y y)) := (hfM45 44 (by decide)).trans hM24_44
    have hM45_45 : nM45 45 = some (fa (fs (fs (fm (fa x (fm y y)) (fa x (fm y y))) (fm x x)) (fm (fm y y) (fm y y))) (fs (fs (fm (fa x (fm y y)) (fa x (fm y y))) (fm x x)) (fm (fm y y) (fm y y)))) := (hfM45 45 (by decide)).trans rfl
    have hM45_46 : nM45 46 = some (fa (fa (fm x x) (fm x x)) (fm x x)) := (hfM45 46 (by decide)).trans rfl
    have zM45 : nM45 47 = some (fs (fm (fa (fa (fm x x) (fm x x)) (fm x x)) (fa (fa (fm x x) (fm x x)) (fm x x))) (fa (fs (fs (fm (fa x (fm y y)) (fa x (fm y y))) (fm x x)) (fm (fm y y) (fm y y))) (fs (fs (fm (fa x (fm y y)) (fa x (fm y y))) (fm x x)) (fm (fm y y) (fm y y))))) := zM45
    refine jr_aload_n hE dX12_twice_249 0 rfl ?_
    refine jr_aload_n hE dX12_twice_250 0 rfl ?_
    refine jr_get hE dX12_twice_251 f167 M45.ob rfl ?_
    refine jr_aload_n hE dX12_twice_254 0 rfl ?_
    refine jr_get hE dX12_twice_255 f197 M45.ob rfl ?_
    refine jr_aload_n hE dX12_twice_258 0 rfl ?_
    refine jr_get hE dX12_twice_259 f191 M45.ob rfl ?_
    refine jr_iconst (v := (0 : Int32)) hE dX12_twice_262 (by decide) ?_
    refine jr_kVv (ci := 12) (n := 4) (As := [.ref (a 37), .ref (a 47), .ref (a 45), .int (0 : Int32)]) (rest := []) hE dX12_twice_263 (fun l => c_m_less l G o a v nM45 g w 37 47 45 (fs (fm (fa (fa (fm x x) (fm x x)) (fm x x)) (fa (fa (fm x x) (fm x x)) (fm x x))) (fa (fs (fs (fm (fa x (fm y y)) (fa x (fm y y))) (fm x x)) (fm (fm y y) (fm y y))) (fs (fs (fm (fa x (fm y y)) (fa x (fm y y))) (fm x x)) (fm (fm y y) (fm y y))))) (fa (fs (fs (fm (fa x (fm y y)) (fa x (fm y y))) (fm x x)) (fm (fm y y) (fm y y))) (fs (fs (fm (fa x (fm y y)) (fa x (fm y y))) (fm x x)) (fm (fm y y) (fm y y)))) false) gX12_twice_X12_less rfl M45.ob rfl (by decide +kernel) ⟨rfl, rfl, by decide, by decide⟩ (by decide) rfl rfl (Nat.le_of_ble_eq_true rfl) (⟨M45, KM45, (by decide), (by decide), (by decide), (by decide), (by decide), zM45, hM45_45, (fs_lt _ _), (fa_lt _ _)⟩) (fun F46 q47 => ?_)
    obtain ⟨nM48, M48, hfM48, zM48, PM48⟩ := q47
    have OM48 := OM45.tr PM48
    have KM48 := KM45.fr (n' := nM48) (hfM48 0 (by decide)) (hfM48 1 (by decide)) (hfM48 32 (by decide)) (hfM48 33 (by decide))
    have hM48_38 : nM48 38 = some y := (hfM48 38 (by decide)).trans hM45_38
    have hM48_39 : nM48 39 = some (fa (fm y z) (fm y z)) := (hfM48 39 (by decide)).trans hM45_39
    have hM48_42 : nM48 42 = some (fm x x) := (hfM48 42 (by decide)).trans hM45_42
    have hM48_43 : nM48 43 = some (fm y y) := (hfM48 43 (by decide)).trans hM45_43
    have hM48_44 : nM48 44 = some (fm (fm y y) (fm y y)) := (hfM48 44 (by decide)).trans hM45_44
    have hM48_45 : nM48 45 = some (fa (fs (fs (fm (fa x (fm y y)) (fa x (fm y y))) (fm x x)) (fm (fm y y) (fm y y))) (fs (fs (fm (fa x (fm y y)) (fa x (fm y y))) (fm x x)) (fm (fm y y) (fm y y)))) := (hfM48 45 (by decide)).trans hM45_45
    have hM48_46 : nM48 46 = some (fa (fa (fm x x) (fm x x)) (fm x x)) := (hfM48 46 (by decide)).trans hM45_46
    have hM48_47 : nM48 47 = some (fs (fm (fa (fa (fm x x) (fm x x)) (fm x x)) (fa (fa (fm x x) (fm x x)) (fm x x))) (fa (fs (fs (fm (fa x (fm y y)) (fa x (fm y y))) (fm x x)) (fm (fm y y) (fm y y))) (fs (fs (fm (fa x (fm y y)) (fa x (fm y y))) (fm x x)) (fm (fm y y) (fm y y))))) := (hfM48 47 (by decide)).trans zM45
    have zM48 : nM48 37 = some (fs (fs (fm (fa (fa (fm x x) (fm x x)) (fm x x)) (fa (fa (fm x x) (fm x x)) (fm x x))) (fa (fs (fs (fm (fa x (fm y y)) (fa x (fm y y))) (fm x x)) (fm (fm y y) (fm y y))) (fs (fs (fm (fa x (fm y y)) (fa x (fm y y))) (fm x x)) (fm (fm y y) (fm y y))))) (fa (fs (fs (fm (fa x (fm y y)) (fa x (fm y y))) (fm x x)) (fm (fm y y) (fm y y))) (fs (fs (fm (fa x (fm y y)) (fa x (fm y y))) (fm x x)) (fm (fm y y) (fm y y))))) := zM48
    refine jr_aload_n hE dX12_twice_266 0 rfl ?_
    refine jr_aload_n hE dX12_twice_267 0 rfl ?_
    refine jr_get hE dX12_twice_268 f191 M48.ob rfl ?_
    refine jr_aload_n hE dX12_twice_271 0 rfl ?_
    refine jr_get hE dX12_twice_272 f191 M48.ob rfl ?_
    refine jr_aload_n hE dX12_twice_275 0 rfl ?_
    refine jr_get hE dX12_twice_276 f167 M48.ob rfl ?_
    refine jr_iconst (v := (0 : Int32)) hE dX12_twice_279 (by decide) ?_
    refine jr_kVv (ci := 12) (n := 4) (As := [.ref (a 45), .ref (a 45), .ref (a 37), .int (0 : Int32)]) (rest := []) hE dX12_twice_280 (fun l => c_m_less l G o a v nM48 g w 45 45 37 (fa (fs (fs (fm (fa x (fm y y)) (fa x (fm y y))) (fm x x)) (fm (fm y y) (fm y y))) (fs (fs (fm (fa x (fm y y)) (fa x (fm y y))) (fm x x)) (fm (fm y y) (fm y y)))) (fs (fs (fm (fa (fa (fm x x) (fm x x)) (fm x x)) (fa (fa (fm x x) (fm x x)) (fm x x))) (fa (fs (fs (fm (fa x (fm y y)) (fa x (fm y y))) (fm x x)) (fm (fm y y) (fm y y))) (fs (fs (fm (fa x (fm y y)) (fa x (fm y y))) (fm x x)) (fm (fm y y) (fm y y))))) (fa (fs (fs (fm (fa x (fm y y)) (fa x (fm y y))) (fm x x)) (fm (fm y y) (fm y y))) (fs (fs (fm (fa x (fm y y)) (fa x (fm y y))) (fm x x)) (fm (fm y y) (fm y y))))) false) gX12_twice_X12_less rfl M48.ob rfl (by decide +kernel) ⟨rfl, rfl, by decide, by decide⟩ (by decide) rfl rfl (Nat.le_of_ble_eq_true rfl) (⟨M48, KM48, (by decide), (by decide), (by decide), (by decide), (by decide), hM48_45, zM48, (fa_lt _ _), (fs_lt _ _)⟩) (fun F49 q50 => ?_)
    obtain ⟨nM51, M51, hfM51, zM51, PM51⟩ := q50
    have OM51 := OM48.tr PM51
    have KM51 := KM48.fr (n' := nM51) (hfM51 0 (by decide)) (hfM51 1 (by decide)) (hfM51 32 (by decide)) (hfM51 33 (by decide))
    have hM51_38 : nM51 38 = some y := (hfM51 38 (by decide)).trans hM48_38
    have hM51_39 : nM51 39 = some (fa (fm y z) (fm y z)) := (hfM51 39 (by decide)).trans hM48_39
    have hM51_42 : nM51 42 = some (fm x x) := (hfM51 42 (by decide)).trans hM48_42
    have hM51_43 : nM51 43 = some (fm y y) := (hfM51 43 (by decide)).trans hM48_43
    have hM51_44 : nM51 44 = some (fm (fm y y) (fm y y)) := (hfM51 44 (by decide)).trans hM48_44
    have hM51_46 : nM51 46 = some (fa (fa (fm x x) (fm x x)) (fm x x)) := (hfM51 46 (by decide)).trans hM48_46
    have hM51_47 : nM51 47 = some (fs (fm (fa (fa (fm x x) (fm x x)) (fm x x)) (fa (fa (fm x x) (fm x x)) (fm x x))) (fa (fs (fs (fm (fa x (fm y y)) (fa x (fm y y))) (fm x x)) (fm (fm y y) (fm y y))) (fs (fs (fm (fa x (fm y y)) (fa x (fm y y))) (fm x x)) (fm (fm y y) (fm y y))))) := (hfM51 47 (by decide)).trans hM48_47
    have hM51_37 : nM51 37 = some (fs (fs (fm (fa (fa (fm x x) (fm x x)) (fm x x)) (fa (fa (fm x x) (fm x x)) (fm x x))) (fa (fs (fs (fm (fa x (fm y y)) (fa x (fm y y))) (fm x x)) (fm (fm y y) (fm y y))) (fs (fs (fm (fa x (fm y y)) (fa x (fm y y))) (fm x x)) (fm (fm y y) (fm y y))))) (fa (fs (fs (fm (fa x (fm y y)) (fa x (fm y y))) (fm x x)) (fm (fm y y) (fm y y))) (fs (fs (fm (fa x (fm y y)) (fa x (fm y y))) (fm x x)) (fm (fm y y) (fm y y))))) := (hfM51 37 (by decide)).trans zM48
    have zM51 : nM51 45 = some (fs (fa (fs (fs (fm (fa x (fm y y)) (fa x (fm y y))) (fm x x)) (fm (fm y y) (fm y y))) (fs (fs (fm (fa x (fm y y)) (fa x (fm y y))) (fm x x)) (fm (fm y y) (fm y y)))) (fs (fs (fm (fa (fa (fm x x) (fm x x)) (fm x x)) (fa (fa (fm x x) (fm x x)) (fm x x))) (fa (fs (fs (fm (fa x (fm y y)) (fa x (fm y y))) (fm x x)) (fm (fm y y) (fm y y))) (fs (fs (fm (fa x (fm y y)) (fa x (fm y y))) (fm x x)) (fm (fm y y) (fm y y))))) (fa (fs (fs (fm (fa x (fm y y)) (fa x (fm y y))) (fm x x)) (fm (fm y y) (fm y y))) (fs (fs (fm (fa x (fm y y)) (fa x (fm y y))) (fm x x)) (fm (fm y y) (fm y y)))))) := zM51
    refine jr_aload_n hE dX12_twice_283 0 rfl ?_
    refine jr_aload_n hE dX12_twice_284 0 rfl ?_
    refine jr_get hE dX12_twice_285 f170 M51.ob rfl ?_
    refine jr_aload_n hE dX12_twice_288 0 rfl ?_
    refine jr_get hE dX12_twice_289 f194 M51.ob rfl ?_
    refine jr_aload_n hE dX12_twice_292 0 rfl ?_
    refine jr_get hE dX12_twice_293 f191 M51.ob rfl ?_
    refine jr_iconst (v := (0 : Int32)) hE dX12_twice_296 (by decide) ?_
    refine jr_kVv (ci := 12) (n := 4) (As := [.ref (a 38), .ref (a 46), .ref (a 45), .int (0 : Int32)]) (rest := []) hE dX12_twice_297 (fun l => c_m_times l G o a v nM51 g w 38 46 45 (fa (fa (fm x x) (fm x x)) (fm x x)) (fs (fa (fs (fs (fm (fa x (fm y y)) (fa x (fm y y))) (fm x x)) (fm (fm y y) (fm y y))) (fs (fs (fm (fa x (fm y y)) (fa x (fm y y))) (fm x x)) (fm (fm y y) (fm y y)))) (fs (fs (fm (fa (fa (fm x x) (fm x x)) (fm x x)) (fa (fa (fm x x) (fm x x)) (fm x x))) (fa (fs (fs (fm (fa x (fm y y)) (fa x (fm y y))) (fm x x)) (fm (fm y y) (fm y y))) (fs (fs (fm (fa x (fm y y)) (fa x (fm y y))) (fm x x)) (fm (fm y y) (fm y y))))) (fa (fs (fs (fm (fa x (fm y y)) (fa x (fm y y))) (fm x x)) (fm (fm y y) (fm y y))) (fs (fs (fm (fa x (fm y y)) (fa x (fm y y))) (fm x x)) (fm (fm y y) (fm y y)))))) false) gX12_twice_X12_times rfl M51.ob rfl (by decide +kernel) ⟨rfl, rfl, by decide, by decide⟩ (by decide) rfl rfl (Nat.le_of_ble_eq_true rfl) (⟨M51, KM51, (by decide), (by decide), (by decide), hM51_46, zM51⟩) (fun F52 q53 => ?_)
    obtain ⟨M54, PM54⟩ := q53
    have M54 : MW G L F52 o a v (uz nM51 38 (some (fm (fa (fa (fm x x) (fm x x)) (fm x x)) (fs (fa (fs (fs (fm (fa x (fm y y)) (fa x (fm y y))) (fm x x)) (fm (fm y y) (fm y y))) (fs (fs (fm (fa x (fm y y)) (fa x (fm y y))) (fm x x)) (fm (fm y y) (fm y y)))) (fs (fs (fm (fa (fa (fm x x) (fm x x)) (fm x x)) (fa (fa (fm x x) (fm x x)) (fm x x))) (fa (fs (fs (fm (fa x (fm y y)) (fa x (fm y y))) (fm x x)) (fm (fm y y) (fm y y))) (fs (fs (fm (fa x (fm y y)) (fa x (fm y y))) (fm x x)) (fm (fm y y) (fm y y))))) (fa (fs (fs (fm (fa x (fm y y)) (fa x (fm y y))) (fm x x)) (fm (fm y y) (fm y y))) (fs (fs (fm (fa x (fm y y)) (fa x (fm y y))) (fm x x)) (fm (fm y y) (fm y y))))))))) g w := M54
    have OM54 := OM51.tr PM54
    refine jr_aload_n hE dX12_twice_300 0 rfl ?_
    refine jr_aload_n hE dX12_twice_301 0 rfl ?_
    refine jr_get hE dX12_twice_302 f188 M54.ob rfl ?_
    refine jr_aload_n hE dX12_twice_305 0 rfl ?_
    refine jr_get hE dX12_twice_306 f188 M54.ob rfl ?_
    refine jr_aload_n hE dX12_twice_309 0 rfl ?_
    refine jr_get hE dX12_twice_310 f188 M54.ob rfl ?_
    refine jr_iconst (v := (0 : Int32)) hE dX12_twice_313 (by decide) ?_
    refine jr_kVv (ci := 12) (n := 4) (As := [.ref (a 44), .ref (a 44), .ref (a 44), .int (0 : Int32)]) (rest := []) hE dX12_twice_314 (fun l => c_m_add l G o a v (uz nM51 38 (some (fm (fa (fa (fm x x) (fm x x)) (fm x x)) (fs (fa (fs (fs (fm (fa x (fm y y)) (fa x (fm y y))) (fm x x)) (fm (fm y y) (fm y y))) (fs (fs (fm (fa x (fm y y)) (fa x (fm y y))) (fm x x)) (fm (fm y y) (fm y y)))) (fs (fs (fm (fa (fa (fm x x) (fm x x)) (fm x x)) (fa (fa (fm x x) (fm x x)) (fm x x))) (fa (fs (fs (fm (fa x (fm y y)) (fa x (fm y y))) (fm x x)) (fm (fm y y) (fm y y))) (fs (fs (fm (fa x (fm y y)) (fa x (fm y y))) (fm x x)) (fm (fm y y) (fm y y))))) (fa (fs (fs (fm (fa x (fm y y)) (fa x (fm y y))) (fm x x)) (fm (fm y y) (fm y y))) (fs (fs (fm (fa x (fm y y)) (fa x (fm y y))) (fm x x)) (fm (fm y y) (fm y y))))))))) g w 44 44 44 (fm (fm y y) (fm y y)) (fm (fm y y) (fm y y)) false) gX12_twice_X12_add rfl M54.ob rfl (by decide +kernel) ⟨rfl, rfl, by decide, by decide⟩ (by decide) rfl rfl (Nat.le_of_ble_eq_true rfl) (⟨M54, KM51, (by decide), (by decide), (by decide), hM51_44, hM51_44⟩) (fun F55 q56 => ?_)
    obtain ⟨M57, PM57⟩ := q56
    have M57 : MW G L F55 o a v (uz (uz nM51 38 (some (fm (fa (fa (fm x x) (fm x x)) (fm x x)) (fs (fa (fs (fs (fm (fa x (fm y y)) (fa x (fm y y))) (fm x x)) (fm (fm y y) (fm y y))) (fs (fs (fm (fa x (fm y y)) (fa x (fm y y))) (fm x x)) (fm (fm y y) (fm y y)))) (fs (fs (fm (fa (fa (fm x x) (fm x x)) (fm x x)) (fa (fa (fm x x) (fm x x)) (fm x x))) (fa (fs (fs (fm (fa x (fm y y)) (fa x (fm y y))) (fm x x)) (fm (fm y y) (fm y y))) (fs (fs (fm (fa x (fm y y)) (fa x (fm y y))) (fm x x)) (fm (fm y y) (fm y y))))) (fa (fs (fs (fm (fa x (fm y y)) (fa x (fm y y))) (fm x x)) (fm (fm y y) (fm y y))) (fs (fs (fm (fa x (fm y y)) (fa x (fm y y))) (fm x x)) (fm (fm y y) (fm y y))))))))) 44 (some (fa (fm (fm y y) (fm y y)) (fm (fm y y) (fm y y))))) g w := M57
    have OM57 := OM54.tr PM57
    refine jr_aload_n hE dX12_twice_317 0 rfl ?_
    refine jr_aload_n hE dX12_twice_318 0 rfl ?_
    refine jr_get hE dX12_twice_319 f188 M57.ob rfl ?_
    refine jr_aload_n hE dX12_twice_322 0 rfl ?_
    refine jr_get hE dX12_twice_323 f188 M57.ob rfl ?_
    refine jr_aload_n hE dX12_twice_326 0 rfl ?_
    refine jr_get hE dX12_twice_327 f188 M57.ob rfl ?_
    refine jr_iconst (v := (0 : Int32)) hE dX12_twice_330 (by decide) ?_
    refine jr_kVv (ci := 12) (n := 4) (As := [.ref (a 44), .ref (a 44), .ref (a 44), .int (0 : Int32)]) (rest := []) hE dX12_twice_331 (fun l => c_m_add l G o a v (uz (uz nM51 38 (some (fm (fa (fa (fm x x) (fm x x)) (fm x x)) (fs (fa (fs (fs (fm (fa x (fm y y)) (fa x (fm y y))) (fm x x)) (fm (fm y y) (fm y y))) (fs (fs (fm (fa x (fm y y)) (fa x (fm y y))) (fm x x)) (fm (fm y y) (fm y y)))) (fs (fs (fm (fa (fa (fm x x) (fm x x)) (fm x x)) (fa (fa (fm x x) (fm x x)) (fm x x))) (fa (fs (fs (fm (fa x (fm y y)) (fa x (fm y y))) (fm x x)) (fm (fm y y) (fm y y))) (fs (fs (fm (fa x (fm y y)) (fa x (fm y y))) (fm x x)) (fm (fm y y) (fm y y))))) (fa (fs (fs (fm (fa x (fm y y)) (fa x (fm y y))) (fm x x)) (fm (fm y y) (fm y y))) (fs (fs (fm (fa x (fm y y)) (fa x (fm y y))) (fm x x)) (fm (fm y y) (fm y y))))))))) 44 (some (fa (fm (fm y y) (fm y y)) (fm (fm y y) (fm y y))))) g w 44 44 44 (fa (fm (fm y y) (fm y y)) (fm (fm y y) (fm y y))) (fa (fm (fm y y) (fm y y)) (fm (fm y y) (fm y y))) false) gX12_twice_X12_add rfl M57.ob rfl (by decide +kernel) ⟨rfl, rfl, by decide, by decide⟩ (by decide) rfl rfl (Nat.le_of_ble_eq_true rfl) (⟨M57, KM51, (by decide), (by decide), (by decide), rfl, rfl⟩) (fun F58 q59 => ?_)
    obtain ⟨M60, PM60⟩ := q59
    have M60 : MW G L F58 o a v (uz (uz (uz nM51 38 (some (fm (fa (fa (fm x x) (fm x x)) (fm x x)) (fs (fa (fs (fs (fm (fa x (fm y y)) (fa x (fm y y))) (fm x x)) (fm (fm y y) (fm y y))) (fs (fs (fm (fa x (fm y y)) (fa x (fm y y))) (fm x x)) (fm (fm y y) (fm y y)))) (fs (fs (fm (fa (fa (fm x x) (fm x x)) (fm x x)) (fa (fa (fm x x) (fm x x)) (fm x x))) (fa (fs (fs (fm (fa x (fm y y)) (fa x (fm y y))) (fm x x)) (fm (fm y y) (fm y y))) (fs (fs (fm (fa x (fm y y)) (fa x (fm y y))) (fm x x)) (fm (fm y y) (fm y y))))) (fa (fs (fs (fm (fa x (fm y y)) (fa x (fm y y))) (fm x x)) (fm (fm y y) (fm y y))) (fs (fs (fm (fa x (fm y y)) (fa x (fm y y))) (fm x x)) (fm (fm y y) (fm y y))))))))) 44 (some (fa (fm (fm y y) (fm y y)) (fm (fm y y) (fm y y))))) 44 (some (fa (fa (fm (fm y y) (fm y y)) (fm (fm y y) (fm y y))) (fa (fm (fm y y) (fm y y)) (fm (fm y y) (fm y y)))))) g w := M60
    have OM60 := OM57.tr PM60
    refine jr_aload_n hE dX12_twice_334 0 rfl ?_
    refine jr_aload_n hE dX12_twice_335 0 rfl ?_
    refine jr_get hE dX12_twice_336 f188 M60.ob rfl ?_
    refine jr_aload_n hE dX12_twice_339 0 rfl ?_
    refine jr_get hE dX12_twice_340 f188 M60.ob rfl ?_
    refine jr_aload_n hE dX12_twice_343 0 rfl ?_
    refine jr_get hE dX12_twice_344 f188 M60.ob rfl ?_
    refine jr_iconst (v := (0 : Int32)) hE dX12_twice_347 (by decide) ?_
    refine jr_kVv (ci := 12) (n := 4) (As := [.ref (a 44), .ref (a 44), .ref (a 44), .int (0 : Int32)]) (rest := []) hE dX12_twice_348 (fun l => c_m_add l G o a v (uz (uz (uz nM51 38 (some (fm (fa (fa (fm x x) (fm x x)) (fm x x)) (fs (fa (fs (fs (fm (fa x (fm y y)) (fa x (fm y y))) (fm x x)) (fm (fm y y) (fm y y))) (fs (fs (fm (fa x (fm y y)) (fa x (fm y y))) (fm x x)) (fm (fm y y) (fm y y)))) (fs (fs (fm (fa (fa (fm x x) (fm x x)) (fm x x)) (fa (fa (fm x x) (fm x x)) (fm x x))) (fa (fs (fs (fm (fa x (fm y y)) (fa x (fm y y))) (fm x x)) (fm (fm y y) (fm y y))) (fs (fs (fm (fa x (fm y y)) (fa x (fm y y))) (fm x x)) (fm (fm y y) (fm y y))))) (fa (fs (fs (fm (fa x (fm y y)) (fa x (fm y y))) (fm x x)) (fm (fm y y) (fm y y))) (fs (fs (fm (fa x (fm y y)) (fa x (fm y y))) (fm x x)) (fm (fm y y) (fm y y))))))))) 44 (some (fa (fm (fm y y) (fm y y)) (fm (fm y y) (fm y y))))) 44 (some (fa (fa (fm (fm y y) (fm y y)) (fm (fm y y) (fm y y))) (fa (fm (fm y y) (fm y y)) (fm (fm y y) (fm y y)))))) g w 44 44 44 (fa (fa (fm (fm y y) (fm y y)) (fm (fm y y) (fm y y))) (fa (fm (fm y y) (fm y y)) (fm (fm y y) (fm y y)))) (fa (fa (fm (fm y y) (fm y y)) (fm (fm y y) (fm y y))) (fa (fm (fm y y) (fm y y)) (fm (fm y y) (fm y y)))) false) gX12_twice_X12_add rfl M60.ob rfl (by decide +kernel) ⟨rfl, rfl, by decide, by decide⟩ (by decide) rfl rfl (Nat.le_of_ble_eq_true rfl) (⟨M60, KM51, (by decide), (by decide), (by decide), rfl, rfl⟩) (fun F61 q62 => ?_)
    obtain ⟨M63, PM63⟩ := q62
    have M63 : MW G L F61 o a v (uz (uz (uz (uz nM51 38 (some (fm (fa (fa (fm x x) (fm x x)) (fm x x)) (fs (fa (fs (fs (fm (fa x (fm y y)) (fa x (fm y y))) (fm x x)) (fm (fm y y) (fm y y))) (fs (fs (fm (fa x (fm y y)) (fa x (fm y y))) (fm x x)) (fm (fm y y) (fm y y)))) (fs (fs (fm (fa (fa (fm x x) (fm x x)) (fm x x)) (fa (fa (fm x x) (fm x x)) (fm x x))) (fa (fs (fs (fm (fa x (fm y y)) (fa x (fm y y))) (fm x x)) (fm (fm y y) (fm y y))) (fs (fs (fm (fa x (fm y y)) (fa x (fm y y))) (fm x x)) (fm (fm y y) (fm y y))))) (fa (fs (fs (fm (fa x (fm y y)) (fa x (fm y y))) (fm x x)) (fm (fm y y) (fm y y))) (fs (fs (fm (fa x (fm y y)) (fa x (fm y y))) (fm x x)) (fm (fm y y) (fm y y))))))))) 44 (some (fa (fm (fm y y) (fm y y)) (fm (fm y y) (fm y y))))) 44 (some (fa (fa (fm (fm y y) (fm y y)) (fm (fm y y) (fm y y))) (fa (fm (fm y y) (fm y y)) (fm (fm y y) (fm y y)))))) 44 (some (fa (fa (fa (fm (fm y y) (fm y y)) (fm (fm y y) (fm y y))) (fa (fm (fm y y) (fm y y)) (fm (fm y y) (fm y y)))) (fa (fa (fm (fm y y) (fm y y)) (fm (fm y y) (fm y y))) (fa (fm (fm y y) (fm y y)) (fm (fm y y) (fm y y))))))) g w := M63
    have OM63 := OM60.tr PM63
    refine jr_aload_n hE dX12_twice_351 0 rfl ?_
    refine jr_aload_n hE dX12_twice_352 0 rfl ?_
    refine jr_get hE dX12_twice_353 f170 M63.ob rfl ?_
    refine jr_aload_n hE dX12_twice_356 0 rfl ?_
    refine jr_get hE dX12_twice_357 f170 M63.ob rfl ?_
    refine jr_aload_n hE dX12_twice_360 0 rfl ?_
    refine jr_get hE dX12_twice_361 f188 M63.ob rfl ?_
    refine jr_iconst (v := (0 : Int32)) hE dX12_twice_364 (by decide) ?_
    refine jr_kVv (ci := 12) (n := 4) (As := [.ref (a 38), .ref (a 38), .ref (a 44), .int (0 : Int32)]) (rest := []) hE dX12_twice_365 (fun l => c_m_less l G o a v (uz (uz (uz (uz nM51 38 (some (fm (fa (fa (fm x x) (fm x x)) (fm x x)) (fs (fa (fs (fs (fm (fa x (fm y y)) (fa x (fm y y))) (fm x x)) (fm (fm y y) (fm y y))) (fs (fs (fm (fa x (fm y y)) (fa x (fm y y))) (fm x x)) (fm (fm y y) (fm y y)))) (fs (fs (fm (fa (fa (fm x x) (fm x x)) (fm x x)) (fa (fa (fm x x) (fm x x)) (fm x x))) (fa (fs (fs (fm (fa x (fm y y)) (fa x (fm y y))) (fm x x)) (fm (fm y y) (fm y y))) (fs (fs (fm (fa x (fm y y)) (fa x (fm y y))) (fm x x)) (fm (fm y y) (fm y y))))) (fa (fs (fs (fm (fa x (fm y y)) (fa x (fm y y))) (fm x x)) (fm (fm y y) (fm y y))) (fs (fs (fm (fa x (fm y y)) (fa x (fm y y))) (fm x x)) (fm (fm y y) (fm y y))))))))) 44 (some (fa (fm (fm y y) (fm y y)) (fm (fm y y) (fm y y))))) 44 (some (fa (fa (fm (fm y y) (fm y y)) (fm (fm y y) (fm y y))) (fa (fm (fm y y) (fm y y)) (fm (fm y y) (fm y y)))))) 44 (some (fa (fa (fa (fm (fm y y) (fm y y)) (fm (fm y y) (fm y y))) (fa (fm (fm y y) (fm y y)) (fm (fm y y) (fm y y)))) (fa (fa (fm (fm y y) (fm y y)) (fm (fm y y) (fm y y))) (fa (fm (fm y y) (fm y y)) (fm (fm y y) (fm y y))))))) g w 38 38 44 (fm (fa (fa (fm x x) (fm x x)) (fm x x)) (fs (fa (fs (fs (fm (fa x (fm y y)) (fa x (fm y y))) (fm x x)) (fm (fm y y) (fm y y))) (fs (fs (fm (fa x (fm y y)) (fa x (fm y y))) (fm x x)) (fm (fm y y) (fm y y)))) (fs (fs (fm (fa (fa (fm x x) (fm x x)) (fm x x)) (fa (fa (fm x x) (fm x x)) (fm x x))) (fa (fs (fs (fm (fa x (fm y y)) (fa x (fm y y))) (fm x x)) (fm (fm y y) (fm y y))) (fs (fs (fm (fa x (fm y y)) (fa x (fm y y))) (fm x x)) (fm (fm y y) (fm y y))))) (fa (fs (fs (fm (fa x (fm y y)) (fa x (fm y y))) (fm x x)) (fm (fm y y) (fm y y))) (fs (fs (fm (fa x (fm y y)) (fa x (fm y y))) (fm x x)) (fm (fm y y) (fm y y))))))) (fa (fa (fa (fm (fm y y) (fm y y)) (fm (fm y y) (fm y y))) (fa (fm (fm y y) (fm y y)) (fm (fm y y) (fm y y)))) (fa (fa (fm (fm y y) (fm y y)) (fm (fm y y) (fm y y))) (fa (fm (fm y y) (fm y y)) (fm (fm y y) (fm y y))))) false) gX12_twice_X12_less rfl M63.ob rfl (by decide +kernel) ⟨rfl, rfl, by decide, by decide⟩ (by decide) rfl rfl (Nat.le_of_ble_eq_true rfl) (⟨M63, KM51, (by decide), (by decide), (by decide), (by decide), (by decide), rfl, rfl, (fm_lt _ _), (fa_lt _ _)⟩) (fun F64 q65 => ?_)
    obtain ⟨nM66, M66, hfM66, zM66, PM66⟩ := q65
    have OM66 := OM63.tr PM66
    have KM66 := KM51.fr (n' := nM66) (hfM66 0 (by decide)) (hfM66 1 (by decide)) (hfM66 32 (by decide)) (hfM66 33 (by decide))
    have hM66_39 : nM66 39 = some (fa (fm y z) (fm y z)) := (hfM66 39 (by decide)).trans hM51_39
    have hM66_42 : nM66 42 = some (fm x x) := (hfM66 42 (by decide)).trans hM51_42
    have hM66_43 : nM66 43 = some (fm y y) := (hfM66 43 (by decide)).trans hM51_43
    have hM66_44 : nM66 44 = some (fa (fa (fa (fm (fm y y) (fm y y)) (fm (fm y y) (fm y y))) (fa (fm (fm y y) (fm y y)) (fm (fm y y) (fm y y)))) (fa (fa (fm (fm y y) (fm y y)) (fm (fm y y) (fm y y))) (fa (fm (fm y y) (fm y y)) (fm (fm y y) (fm y y))))) := (hfM66 44 (by decide)).trans rfl
    have hM66_46 : nM66 46 = some (fa (fa (fm x x) (fm x x)) (fm x x)) := (hfM66 46 (by decide)).trans hM51_46
    have hM66_47 : nM66 47 = some (fs (fm (fa (fa (fm x x) (fm x x)) (fm x x)) (fa (fa (fm x x) (fm x x)) (fm x x))) (fa (fs (fs (fm (fa x (fm y y)) (fa x (fm y y))) (fm x x)) (fm (fm y y) (fm y y))) (fs (fs (fm (fa x (fm y y)) (fa x (fm y y))) (fm x x)) (fm (fm y y) (fm y y))))) := (hfM66 47 (by decide)).trans hM51_47
    have hM66_37 : nM66 37 = some (fs (fs (fm (fa (fa (fm x x) (fm x x)) (fm x x)) (fa (fa (fm x x) (fm x x)) (fm x x))) (fa (fs (fs (fm (fa x (fm y y)) (fa x (fm y y))) (fm x x)) (fm (fm y y) (fm y y))) (fs (fs (fm (fa x (fm y y)) (fa x (fm y y))) (fm x x)) (fm (fm y y) (fm y y))))) (fa (fs (fs (fm (fa x (fm y y)) (fa x (fm y y))) (fm x x)) (fm (fm y y) (fm y y))) (fs (fs (fm (fa x (fm y y)) (fa x (fm y y))) (fm x x)) (fm (fm y y) (fm y y))))) := (hfM66 37 (by decide)).trans hM51_37
    have hM66_45 : nM66 45 = some (fs (fa (fs (fs (fm (fa x (fm y y)) (fa x (fm y y))) (fm x x)) (fm (fm y y) (fm y y))) (fs (fs (fm (fa x (fm y y)) (fa x (fm y y))) (fm x x)) (fm (fm y y) (fm y y)))) (fs (fs (fm (fa (fa (fm x x) (fm x x)) (fm x x)) (fa (fa (fm x x) (fm x x)) (fm x x))) (fa (fs (fs (fm (fa x (fm y y)) (fa x (fm y y))) (fm x x)) (fm (fm y y) (fm y y))) (fs (fs (fm (fa x (fm y y)) (fa x (fm y y))) (fm x x)) (fm (fm y y) (fm y y))))) (fa (fs (fs (fm (fa x (fm y y)) (fa x (fm y y))) (fm x x)) (fm (fm y y) (fm y y))) (fs (fs (fm (fa x (fm y y)) (fa x (fm y y))) (fm x x)) (fm (fm y y) (fm y y)))))) := (hfM66 45 (by decide)).trans zM51
    have zM66 : nM66 38 = some (fs (fm (fa (fa (fm x x) (fm x x)) (fm x x)) (fs (fa (fs (fs (fm (fa x (fm y y)) (fa x (fm y y))) (fm x x)) (fm (fm y y) (fm y y))) (fs (fs (fm (fa x (fm y y)) (fa x (fm y y))) (fm x x)) (fm (fm y y) (fm y y)))) (fs (fs (fm (fa (fa (fm x x) (fm x x)) (fm x x)) (fa (fa (fm x x) (fm x x)) (fm x x))) (fa (fs (fs (fm (fa x (fm y y)) (fa x (fm y y))) (fm x x)) (fm (fm y y) (fm y y))) (fs (fs (fm (fa x (fm y y)) (fa x (fm y y))) (fm x x)) (fm (fm y y) (fm y y))))) (fa (fs (fs (fm (fa x (fm y y)) (fa x (fm y y))) (fm x x)) (fm (fm y y) (fm y y))) (fs (fs (fm (fa x (fm y y)) (fa x (fm y y))) (fm x x)) (fm (fm y y) (fm y y))))))) (fa (fa (fa (fm (fm y y) (fm y y)) (fm (fm y y) (fm y y))) (fa (fm (fm y y) (fm y y)) (fm (fm y y) (fm y y)))) (fa (fa (fm (fm y y) (fm y y)) (fm (fm y y) (fm y y))) (fa (fm (fm y y) (fm y y)) (fm (fm y y) (fm y y)))))) := zM66
    exact hR F64 _ _ dX12_twice_368 ⟨_, M66, (fun k hk => ((hfM66 k (jnsub (V := [38, 34]) hk [1, 9] rfl)).trans ((uz_n _ _ (jne hk 5 rfl)).trans ((uz_n _ _ (jne hk 5 rfl)).trans ((uz_n _ _ (jne hk 5 rfl)).trans ((uz_n _ _ (jne hk 1 rfl)).trans ((hfM51 k (jnsub (V := [45, 34]) hk [6, 9] rfl)).trans ((hfM48 k (jnsub (V := [37, 34]) hk [0, 9] rfl)).trans ((hfM45 k (jnsub (V := [47, 34]) hk [8, 9] rfl)).trans ((uz_n _ _ (jne hk 8 rfl)).trans ((uz_n _ _ (jne hk 2 rfl)).trans ((uz_n _ _ (jne hk 2 rfl)).trans ((uz_n _ _ (jne hk 7 rfl)).trans ((uz_n _ _ (jne hk 7 rfl)).trans ((uz_n _ _ (jne hk 6 rfl)).trans ((hfM24 k (jnsub (V := [45, 34]) hk [6, 9] rfl)).trans ((hfM21 k (jnsub (V := [45, 34]) hk [6, 9] rfl)).trans ((uz_n _ _ (jne hk 6 rfl)).trans ((uz_n _ _ (jne hk 6 rfl)).trans ((uz_n _ _ (jne hk 5 rfl)).trans ((uz_n _ _ (jne hk 4 rfl)).trans (uz_n _ _ (jne hk 3 rfl))))))))))))))))))))))), ⟨m2Z y z, hM66_39, fa_lt _ _, Or.inr ⟨(rep_twM hr).2, m2X x y, m2Y x y, hM66_37, zM66, fs_lt _ _, fs_lt _ _, (rep_twM hr).1⟩⟩, OM66⟩
  · have hz0 : z = 0 := b2i_1 c7
    have hA0 := (hA.resolve_right (fun e => e.1 hz0)).2
    exact hR F _ _ dX12_twice_10 ⟨n, M0, fun _ _ => rfl, ⟨z, hz, hzl, Or.inl ⟨hz0, by rw [hA0]; rfl⟩⟩, mO.rf o a F⟩

