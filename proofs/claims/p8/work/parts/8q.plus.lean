/-! THE REFERENCE'S plus -/
abbrev mh (x1 z1 x2 : Nat) : Nat := fs (fm x2 (fm z1 z1)) x1
abbrev mr (y1 z1 y2 : Nat) : Nat := fs (fm y2 (fm (fm z1 z1) z1)) y1
abbrev m3X (x1 h r : Nat) : Nat := fs (fs (fs (fm r r) (fm (fm h h) h)) (fm (fm h h) x1)) (fm (fm h h) x1)
abbrev m3Y (x1 y1 h r : Nat) : Nat := fs (fm (fs (fm (fm h h) x1) (m3X x1 h r)) r) (fm (fm (fm h h) h) y1)
theorem rep_aff {x y : Nat} (hx : x < PP) (hy : y < PP) (e : isE PP x y) : rep (false, x, y, 1) (some (x, y)) := by
  refine Or.inr ⟨rfl, (x : Int), (y : Int), 1, ep_self hx hy, e, ?_, zd0 PP ?_, zd0 PP ?_, zd0 PP ?_⟩
  · exact zd_small (a := 1) (by decide) (by decide +kernel)
  · show (x : Int) - x * (1 * 1) = 0
    omega
  · show (y : Int) - y * (1 * 1 * 1) = 0
    omega
  · show ((1 : Nat) : Int) - 1 = 0
    omega
theorem rep_plM {x1 y1 z1 x2 y2 : Nat} {A : EP} (hp : rep (false, x1, y1, z1) A) (lx1 : x1 < PP) (ly1 : y1 < PP) (hx2 : x2 < PP) (hy2 : y2 < PP) (e2 : isE PP x2 y2) :
    (mh x1 z1 x2 = 0 → mr y1 z1 y2 = 0 → A = some (x2, y2)) ∧ (mh x1 z1 x2 = 0 → mr y1 z1 y2 ≠ 0 → eadd PP A (some (x2, y2)) = none) ∧ (mh x1 z1 x2 ≠ 0 → rep (false, m3X x1 (mh x1 z1 x2) (mr y1 z1 y2), m3Y x1 y1 (mh x1 z1 x2) (mr y1 z1 y2), fm z1 (mh x1 z1 x2)) (eadd PP A (some (x2, y2))) ∧ fm z1 (mh x1 z1 x2) ≠ 0) := by
  rcases hp with ⟨h1, -⟩ | ⟨-, X1, Y1, w1, rfl, e1, nz1, hx1, hy1, hz1⟩
  · cases h1
  replace hx1 : zd PP ((x1 : Int) - X1 * (w1 * w1)) := hx1
  replace hy1 : zd PP ((y1 : Int) - Y1 * (w1 * w1 * w1)) := hy1
  replace hz1 : zd PP ((z1 : Int) - w1) := hz1
  rw [ep_self hx2 hy2]
  have r2 : zd PP ((x2 : Int) - x2) := zd0 PP (by omega)
  have s2 : zd PP ((y2 : Int) - y2) := zd0 PP (by omega)
  have kh : zd PP ((mh x1 z1 x2 : Nat) - ((x2 : Int) * (w1 * w1) - X1 * (w1 * w1))) := zfs lx1 (zfm r2 (zfm hz1 hz1)) hx1
  have kr : zd PP ((mr y1 z1 y2 : Nat) - ((y2 : Int) * (w1 * w1 * w1) - Y1 * (w1 * w1 * w1))) := zfs ly1 (zfm s2 (zfm (zfm hz1 hz1) hz1)) hy1
  have lh : mh x1 z1 x2 < PP := fs_lt _ _
  have lr : mr y1 z1 y2 < PP := fs_lt _ _
  have n2 := zd_prod gdP.1 nz1 nz1
  have n3 := zd_prod gdP.1 n2 nz1
  generalize mh x1 z1 x2 = hh at *
  generalize mr y1 z1 y2 = rr at *
  generalize (x2 : Int) = X2 at *
  generalize (y2 : Int) = Y2 at *
  refine ⟨fun h0 r0 => ?_, fun h0 r0 => ?_, fun h0 => ?_⟩
  · have k1 := (zz_iff lh).mp h0
    have k2 := (zz_iff lr).mp r0
    have hx : zd PP (X2 - X1) := zd_can gdP.1 (k1.l2 kh 1 (-1) (by grind)) n2
    have hy : zd PP (Y2 - Y1) := zd_can gdP.1 (k2.l2 kr 1 (-1) (by grind)) n3
    exact (ep_iff PP0).mpr ⟨zd_sub hx, zd_sub hy⟩
  · have k1 := (zz_iff lh).mp h0
    have hx : zd PP (X2 - X1) := zd_can gdP.1 (k1.l2 kh 1 (-1) (by grind)) n2
    exact eadd_op PP0 (zd_sub hx) (fun q => r0 ((zz_iff lr).mpr (kr.l2 q 1 (-(w1 * w1 * w1)) (by grind))))
  · have nx : ¬ zd PP (X2 - X1) := fun q => h0 ((zz_iff lh).mpr (kh.l2 q 1 (w1 * w1) (by grind)))
    have hl := slope gdP.1 nx (Y2 - Y1)
    rw [eadd_ch gdP.1 nx hl]
    generalize (Y2 - Y1) * ivI PP (X2 - X1) = l at *
    have nh : ¬ zd PP (X2 * (w1 * w1) - X1 * (w1 * w1)) := fun e => h0 ((zz_iff lh).mpr (e.l2 kh 1 1 (by grind)))
    have nZ := zd_prod gdP.1 nz1 nh
    have hZ := zfm hz1 kh
    have k4 := zfm kh kh
    have k5 := zfm k4 kh
    have ku := zfm k4 hx1
    have kX := zfs (fm_lt _ _) (zfs (fm_lt _ _) (zfs (fm_lt _ _) (zfm kr kr) k5) ku) ku
    have kY := zfs (fm_lt _ _) (zfm (zfs (fs_lt _ _) ku kX) kr) (zfm k5 hy1)
    refine ⟨Or.inr ⟨rfl, _, _, w1 * (X2 * (w1 * w1) - X1 * (w1 * w1)), rfl, isE_ch gdP.1 e1 e2 nx hl, nZ, ?_, ?_, hZ⟩, fun q => nZ ?_⟩
    · exact zd_tr kX (hl.l1 (X1*l*w1^6 - X2*l*w1^6 + Y1*w1^6 - Y2*w1^6) (by grind))
    · exact zd_tr kY (hl.l1 (-2*X1^3*w1^9 + 3*X1^2*X2*w1^9 + X1^2*l^2*w1^9 - 2*X1*X2*l^2*w1^9 + X1*Y1*l*w1^9 - X1*Y2*l*w1^9 - X2^3*w1^9 + X2^2*l^2*w1^9 - X2*Y1*l*w1^9 + X2*Y2*l*w1^9 + Y1^2*w1^9 - 2*Y1*Y2*w1^9 + Y2^2*w1^9) (by grind))
    · rw [q] at hZ
      exact hZ.l1 (-1) (by grind)

set_option maxHeartbeats 4000000 in
set_option maxRecDepth 100000 in
theorem c_m_plus (l : Launch) (G : Nat → ClassId) (o : Nat) (a : Nat → Nat) (v : Nat → Int32) (n : Nat → Option Nat) (g : Nat → Nat → Int64) (w : Nat → Nat → Int32) (A B : EP) : jKv l yX12_plus wsX12_plus ({ frames := 5, cells := 0, slots := 0, locals := 130 }) G [.ref o] (fun L F => MW G L F o a v n g w ∧ mK n g ∧ pJ n A ∧ qE n B) (fun L F F1 => ∃ n', MW G L F1 o a v n' g w ∧ (∀ k, k ∉ [37, 38, 39, 42, 43, 44, 45, 46, 47, 34] → n' k = n k) ∧ pJ n' (eadd PP A B) ∧ mO o a F F1) := by
  refine jm_kv (cc := cX12_plus) (maxL := 1) (by decide) rfl (Nat.le_of_ble_eq_true rfl) ?_
  intro E L F hE hR hpre
  have hE : jOk E G _ cX12_plus 1 RX12 wsX12_plus := hE
  obtain ⟨M0, hK, ⟨z, hz, hzl, hA⟩, x2, y2, hx2, hy2, hxl2, hyl2, rfl, he2⟩ := hpre
  have f173 : jFl RX12 wsX12_plus 173 12 39 := ⟨rfl, by decide, by decide +kernel, by decide +kernel⟩
  have f182 : jFl RX12 wsX12_plus 182 12 42 := ⟨rfl, by decide, by decide +kernel, by decide +kernel⟩
  have f185 : jFl RX12 wsX12_plus 185 12 43 := ⟨rfl, by decide, by decide +kernel, by decide +kernel⟩
  have f176 : jFl RX12 wsX12_plus 176 12 40 := ⟨rfl, by decide, by decide +kernel, by decide +kernel⟩
  have f188 : jFl RX12 wsX12_plus 188 12 44 := ⟨rfl, by decide, by decide +kernel, by decide +kernel⟩
  have f179 : jFl RX12 wsX12_plus 179 12 41 := ⟨rfl, by decide, by decide +kernel, by decide +kernel⟩
  have f167 : jFl RX12 wsX12_plus 167 12 37 := ⟨rfl, by decide, by decide +kernel, by decide +kernel⟩
  have f170 : jFl RX12 wsX12_plus 170 12 38 := ⟨rfl, by decide, by decide +kernel, by decide +kernel⟩
  have f191 : jFl RX12 wsX12_plus 191 12 45 := ⟨rfl, by decide, by decide +kernel, by decide +kernel⟩
  have f194 : jFl RX12 wsX12_plus 194 12 46 := ⟨rfl, by decide, by decide +kernel, by decide +kernel⟩
  have f197 : jFl RX12 wsX12_plus 197 12 47 := ⟨rfl, by decide, by decide +kernel, by decide +kernel⟩
  refine jr_aload_n hE dX12_plus_0 0 rfl ?_
  refine jr_get hE dX12_plus_1 f173 M0.ob rfl ?_
  refine jr_kSi (n := 1) (As := [.ref (a 39)]) (rest := []) hE dX12_plus_4 (fun l => c_m_isNull l G o a v n g w 39 z) gX12_plus_X12_isNull rfl (by decide +kernel) ⟨rfl, rfl, by decide, by decide⟩ (by decide) rfl rfl (Nat.le_of_ble_eq_true rfl) (⟨M0, (by decide), hz⟩) (fun r3 F1 q2 => ?_)
  obtain ⟨eq2, rq2⟩ := q2
  subst eq2 rq2
  refine jr_if_eq (tgt := 41) hE dX12_plus_7 (by decide) (fun c7 => ?_) (fun c7 => ?_)
  · have hz0 : z ≠ 0 := fun e => by
      rw [b2i_t e] at c7
      exact absurd c7 (by decide)
    obtain ⟨x, y, hx, hy, hxl, hyl, hr⟩ := (hA.resolve_left (fun e => hz0 e.1)).2
    have hpl := rep_plM hr hxl hyl hxl2 hyl2 he2
    refine jr_aload_n hE dX12_plus_41 0 rfl ?_
    refine jr_aload_n hE dX12_plus_42 0 rfl ?_
    refine jr_get hE dX12_plus_43 f182 M0.ob rfl ?_
    refine jr_aload_n hE dX12_plus_46 0 rfl ?_
    refine jr_get hE dX12_plus_47 f173 M0.ob rfl ?_
    refine jr_aload_n hE dX12_plus_50 0 rfl ?_
    refine jr_get hE dX12_plus_51 f173 M0.ob rfl ?_
    refine jr_iconst (v := (0 : Int32)) hE dX12_plus_54 (by decide) ?_
    refine jr_kVv (ci := 12) (n := 4) (As := [.ref (a 42), .ref (a 39), .ref (a 39), .int (0 : Int32)]) (rest := []) hE dX12_plus_55 (fun l => c_m_times l G o a v n g w 42 39 39 z z false) gX12_plus_X12_times rfl M0.ob rfl (by decide +kernel) ⟨rfl, rfl, by decide, by decide⟩ (by decide) rfl rfl (Nat.le_of_ble_eq_true rfl) (⟨M0, hK, (by decide), (by decide), (by decide), hz, hz⟩) (fun F4 q5 => ?_)
    obtain ⟨M6, PM6⟩ := q5
    have M6 : MW G L F4 o a v (uz n 42 (some (fm z z))) g w := M6
    have OM6 := (mO.rf o a F).tr PM6
    refine jr_aload_n hE dX12_plus_58 0 rfl ?_
    refine jr_aload_n hE dX12_plus_59 0 rfl ?_
    refine jr_get hE dX12_plus_60 f185 M6.ob rfl ?_
    refine jr_aload_n hE dX12_plus_63 0 rfl ?_
    refine jr_get hE dX12_plus_64 f176 M6.ob rfl ?_
    refine jr_aload_n hE dX12_plus_67 0 rfl ?_
    refine jr_get hE dX12_plus_68 f182 M6.ob rfl ?_
    refine jr_iconst (v := (0 : Int32)) hE dX12_plus_71 (by decide) ?_
    refine jr_kVv (ci := 12) (n := 4) (As := [.ref (a 43), .ref (a 40), .ref (a 42), .int (0 : Int32)]) (rest := []) hE dX12_plus_72 (fun l => c_m_times l G o a v (uz n 42 (some (fm z z))) g w 43 40 42 x2 (fm z z) false) gX12_plus_X12_times rfl M6.ob rfl (by decide +kernel) ⟨rfl, rfl, by decide, by decide⟩ (by decide) rfl rfl (Nat.le_of_ble_eq_true rfl) (⟨M6, hK, (by decide), (by decide), (by decide), hx2, rfl⟩) (fun F7 q8 => ?_)
    obtain ⟨M9, PM9⟩ := q8
    have M9 : MW G L F7 o a v (uz (uz n 42 (some (fm z z))) 43 (some (fm x2 (fm z z)))) g w := M9
    have OM9 := OM6.tr PM9
    refine jr_aload_n hE dX12_plus_75 0 rfl ?_
    refine jr_aload_n hE dX12_plus_76 0 rfl ?_
    refine jr_get hE dX12_plus_77 f182 M9.ob rfl ?_
    refine jr_aload_n hE dX12_plus_80 0 rfl ?_
    refine jr_get hE dX12_plus_81 f182 M9.ob rfl ?_
    refine jr_aload_n hE dX12_plus_84 0 rfl ?_
    refine jr_get hE dX12_plus_85 f173 M9.ob rfl ?_
    refine jr_iconst (v := (0 : Int32)) hE dX12_plus_88 (by decide) ?_
    refine jr_kVv (ci := 12) (n := 4) (As := [.ref (a 42), .ref (a 42), .ref (a 39), .int (0 : Int32)]) (rest := []) hE dX12_plus_89 (fun l => c_m_times l G o a v (uz (uz n 42 (some (fm z z))) 43 (some (fm x2 (fm z z)))) g w 42 42 39 (fm z z) z false) gX12_plus_X12_times rfl M9.ob rfl (by decide +kernel) ⟨rfl, rfl, by decide, by decide⟩ (by decide) rfl rfl (Nat.le_of_ble_eq_true rfl) (⟨M9, hK, (by decide), (by decide), (by decide), rfl, hz⟩) (fun F10 q11 => ?_)
    obtain ⟨M12, PM12⟩ := q11
    have M12 : MW G L F10 o a v (uz (uz (uz n 42 (some (fm z z))) 43 (some (fm x2 (fm z z)))) 42 (some (fm (fm z z) z))) g w := M12
    have OM12 := OM9.tr PM12
    refine jr_aload_n hE dX12_plus_92 0 rfl ?_
    refine jr_aload_n hE dX12_plus_93 0 rfl ?_
    refine jr_get hE dX12_plus_94 f188 M12.ob rfl ?_
    refine jr_aload_n hE dX12_plus_97 0 rfl ?_
    refine jr_get hE dX12_plus_98 f179 M12.ob rfl ?_
    refine jr_aload_n hE dX12_plus_101 0 rfl ?_
    refine jr_get hE dX12_plus_102 f182 M12.ob rfl ?_
    refine jr_iconst (v := (0 : Int32)) hE dX12_plus_105 (by decide) ?_
    refine jr_kVv (ci := 12) (n := 4) (As := [.ref (a 44), .ref (a 41), .ref (a 42), .int (0 : Int32)]) (rest := []) hE dX12_plus_106 (fun l => c_m_times l G o a v (uz (uz (uz n 42 (some (fm z z))) 43 (some (fm x2 (fm z z)))) 42 (some (fm (fm z z) z))) g w 44 41 42 y2 (fm (fm z z) z) false) gX12_plus_X12_times rfl M12.ob rfl (by decide +kernel) ⟨rfl, rfl, by decide, by decide⟩ (by decide) rfl rfl (Nat.le_of_ble_eq_true rfl) (⟨M12, hK, (by decide), (by decide), (by decide), hy2, rfl⟩) (fun F13 q14 => ?_)
    obtain ⟨M15, PM15⟩ := q14
    have M15 : MW G L F13 o a v (uz (uz (uz (uz n 42 (some (fm z z))) 43 (some (fm x2 (fm z z)))) 42 (some (fm (fm z z) z))) 44 (some (fm y2 (fm (fm z z) z)))) g w := M15
    have OM15 := OM12.tr PM15
    refine jr_aload_n hE dX12_plus_109 0 rfl ?_
    refine jr_aload_n hE dX12_plus_110 0 rfl ?_
    refine jr_get hE dX12_plus_111 f185 M15.ob rfl ?_
    refine jr_aload_n hE dX12_plus_114 0 rfl ?_
    refine jr_get hE dX12_plus_115 f185 M15.ob rfl ?_
    refine jr_aload_n hE dX12_plus_118 0 rfl ?_
    refine jr_get hE dX12_plus_119 f167 M15.ob rfl ?_
    refine jr_iconst (v := (0 : Int32)) hE dX12_plus_122 (by decide) ?_
    refine jr_kVv (ci := 12) (n := 4) (As := [.ref (a 43), .ref (a 43), .ref (a 37), .int (0 : Int32)]) (rest := []) hE dX12_plus_123 (fun l => c_m_less l G o a v (uz (uz (uz (uz n 42 (some (fm z z))) 43 (some (fm x2 (fm z z)))) 42 (some (fm (fm z z) z))) 44 (some (fm y2 (fm (fm z z) z)))) g w 43 43 37 (fm x2 (fm z z)) x false) gX12_plus_X12_less rfl M15.ob rfl (by decide +kernel) ⟨rfl, rfl, by decide, by decide⟩ (by decide) rfl rfl (Nat.le_of_ble_eq_true rfl) (⟨M15, hK, (by decide), (by decide), (by decide), (by decide), (by decide), rfl, hx, (fm_lt _ _), hxl⟩) (fun F16 q17 => ?_)
    obtain ⟨nM18, M18, hfM18, zM18, PM18⟩ := q17
    have OM18 := OM15.tr PM18
    have KM18 := hK.fr (n' := nM18) (hfM18 0 (by decide)) (hfM18 1 (by decide)) (hfM18 32 (by decide)) (hfM18 33 (by decide))
    have hM18_37 : nM18 37 = some x := (hfM18 37 (by decide)).trans hx
    have hM18_38 : nM18 38 = some y := (hfM18 38 (by decide)).trans hy
    have hM18_39 : nM18 39 = some z := (hfM18 39 (by decide)).trans hz
    have hM18_40 : nM18 40 = some x2 := (hfM18 40 (by decide)).trans hx2
    have hM18_41 : nM18 41 = some y2 := (hfM18 41 (by decide)).trans hy2
    have hM18_42 : nM18 42 = some (fm (fm z z) z) := (hfM18 42 (by decide)).trans rfl
    have hM18_44 : nM18 44 = some (fm y2 (fm (fm z z) z)) := (hfM18 44 (by decide)).trans rfl
    have zM18 : nM18 43 = some (fs (fm x2 (fm z z)) x) := zM18
    refine jr_aload_n hE dX12_plus_126 0 rfl ?_
    refine jr_aload_n hE dX12_plus_127 0 rfl ?_
    refine jr_get hE dX12_plus_128 f188 M18.ob rfl ?_
    refine jr_aload_n hE dX12_plus_131 0 rfl ?_
    refine jr_get hE dX12_plus_132 f188 M18.ob rfl ?_
    refine jr_aload_n hE dX12_plus_135 0 rfl ?_
    refine jr_get hE dX12_plus_136 f170 M18.ob rfl ?_
    refine jr_iconst (v := (0 : Int32)) hE dX12_plus_139 (by decide) ?_
    refine jr_kVv (ci := 12) (n := 4) (As := [.ref (a 44), .ref (a 44), .ref (a 38), .int (0 : Int32)]) (rest := []) hE dX12_plus_140 (fun l => c_m_less l G o a v nM18 g w 44 44 38 (fm y2 (fm (fm z z) z)) y false) gX12_plus_X12_less rfl M18.ob rfl (by decide +kernel) ⟨rfl, rfl, by decide, by decide⟩ (by decide) rfl rfl (Nat.le_of_ble_eq_true rfl) (⟨M18, KM18, (by decide), (by decide), (by decide), (by decide), (by decide), hM18_44, hM18_38, (fm_lt _ _), hyl⟩) (fun F19 q20 => ?_)
    obtain ⟨nM21, M21, hfM21, zM21, PM21⟩ := q20
    have OM21 := OM18.tr PM21
    have KM21 := KM18.fr (n' := nM21) (hfM21 0 (by decide)) (hfM21 1 (by decide)) (hfM21 32 (by decide)) (hfM21 33 (by decide))
    have hM21_37 : nM21 37 = some x := (hfM21 37 (by decide)).trans hM18_37
    have hM21_38 : nM21 38 = some y := (hfM21 38 (by decide)).trans hM18_38
    have hM21_39 : nM21 39 = some z := (hfM21 39 (by decide)).trans hM18_39
    have hM21_40 : nM21 40 = some x2 := (hfM21 40 (by decide)).trans hM18_40
    have hM21_41 : nM21 41 = some y2 := (hfM21 41 (by decide)).trans hM18_41
    have hM21_42 : nM21 42 = some (fm (fm z z) z) := (hfM21 42 (by decide)).trans hM18_42
    have hM21_43 : nM21 43 = some (fs (fm x2 (fm z z)) x) := (hfM21 43 (by decide)).trans zM18
    have zM21 : nM21 44 = some (fs (fm y2 (fm (fm z z) z)) y) := zM21
    refine jr_aload_n hE dX12_plus_143 0 rfl ?_
    refine jr_get hE dX12_plus_144 f185 M21.ob rfl ?_
    refine jr_kSi (n := 1) (As := [.ref (a 43)]) (rest := []) hE dX12_plus_147 (fun l => c_m_isNull l G o a v nM21 g w 43 (fs (fm x2 (fm z z)) x)) gX12_plus_X12_isNull rfl (by decide +kernel) ⟨rfl, rfl, by decide, by decide⟩ (by decide) rfl rfl (Nat.le_of_ble_eq_true rfl) (⟨M21, (by decide), hM21_43⟩) (fun r24 F22 q23 => ?_)
    obtain ⟨eq23, rq23⟩ := q23
    subst eq23 rq23
    refine jr_if_eq (tgt := 179) hE dX12_plus_150 (by decide) (fun c150 => ?_) (fun c150 => ?_)
    · have hh0 : mh x z x2 ≠ 0 := fun e => by
        rw [b2i_t e] at c150
        exact absurd c150 (by decide)
      refine jr_aload_n hE dX12_plus_179 0 rfl ?_
      refine jr_aload_n hE dX12_plus_180 0 rfl ?_
      refine jr_get hE dX12_plus_181 f173 M21.ob rfl ?_
      refine jr_aload_n hE dX12_plus_184 0 rfl ?_
      refine jr_get hE dX12_plus_185 f173 M21.ob rfl ?_
      refine jr_aload_n hE dX12_plus_188 0 rfl ?_
      refine jr_get hE dX12_plus_189 f185 M21.ob rfl ?_
      refine jr_iconst (v := (0 : Int32)) hE dX12_plus_192 (by decide) ?_
      refine jr_kVv (ci := 12) (n := 4) (As := [.ref (a 39), .ref (a 39), .ref (a 43), .int (0 : Int32)]) (rest := []) hE dX12_plus_193 (fun l => c_m_times l G o a v nM21 g w 39 39 43 z (fs (fm x2 (fm z z)) x) false) gX12_plus_X12_times rfl M21.ob rfl (by decide +kernel) ⟨rfl, rfl, by decide, by decide⟩ (by decide) rfl rfl (Nat.le_of_ble_eq_true rfl) (⟨M21, KM21, (by decide), (by decide), (by decide), hM21_39, hM21_43⟩) (fun F25 q26 => ?_)
      obtain ⟨M27, PM27⟩ := q26
      have M27 : MW G L F25 o a v (uz nM21 39 (some (fm z (fs (fm x2 (fm z z)) x)))) g w := M27
      have OM27 := OM21.tr PM27
      refine jr_aload_n hE dX12_plus_196 0 rfl ?_
      refine jr_aload_n hE dX12_plus_197 0 rfl ?_
      refine jr_get hE dX12_plus_198 f191 M27.ob rfl ?_
      refine jr_aload_n hE dX12_plus_201 0 rfl ?_
      refine jr_get hE dX12_plus_202 f185 M27.ob rfl ?_
      refine jr_aload_n hE dX12_plus_205 0 rfl ?_
      refine jr_get hE dX12_plus_206 f185 M27.ob rfl ?_
      refine jr_iconst (v := (0 : Int32)) hE dX12_plus_209 (by decide) ?_
      refine jr_kVv (ci := 12) (n := 4) (As := [.ref (a 45), .ref (a 43), .ref (a 43), .int (0 : Int32)]) (rest := []) hE dX12_plus_210 (fun l => c_m_times l G o a v (uz nM21 39 (some (fm z (fs (fm x2 (fm z z)) x)))) g w 45 43 43 (fs (fm x2 (fm z z)) x) (fs (fm x2 (fm z z)) x) false) gX12_plus_X12_times rfl M27.ob rfl (by decide +kernel) ⟨rfl, rfl, by decide, by decide⟩ (by decide) rfl rfl (Nat.le_of_ble_eq_true rfl) (⟨M27, KM21, (by decide), (by decide), (by decide), hM21_43, hM21_43⟩) (fun F28 q29 => ?_)
      obtain ⟨M30, PM30⟩ := q29
      have M30 : MW G L F28 o a v (uz (uz nM21 39 (some (fm z (fs (fm x2 (fm z z)) x)))) 45 (some (fm (fs (fm x2 (fm z z)) x) (fs (fm x2 (fm z z)) x)))) g w := M30
      have OM30 := OM27.tr PM30
      refine jr_aload_n hE dX12_plus_213 0 rfl ?_
      refine jr_aload_n hE dX12_plus_214 0 rfl ?_
      refine jr_get hE dX12_plus_215 f194 M30.ob rfl ?_
      refine jr_aload_n hE dX12_plus_218 0 rfl ?_
      refine jr_get hE dX12_plus_219 f191 M30.ob rfl ?_
      refine jr_aload_n hE dX12_plus_222 0 rfl ?_
      refine jr_get hE dX12_plus_223 f185 M30.ob rfl ?_
      refine jr_iconst (v := (0 : Int32)) hE dX12_plus_226 (by decide) ?_
      refine jr_kVv (ci := 12) (n := 4) (As := [.ref (a 46), .ref (a 45), .ref (a 43), .int (0 : Int32)]) (rest := []) hE dX12_plus_227 (fun l => c_m_times l G o a v (uz (uz nM21 39 (some (fm z (fs (fm x2 (fm z z)) x)))) 45 (some (fm (fs (fm x2 (fm z z)) x) (fs (fm x2 (fm z z)) x)))) g w 46 45 43 (fm (fs (fm x2 (fm z z)) x) (fs (fm x2 (fm z z)) x)) (fs (fm x2 (fm z z)) x) false) gX12_plus_X12_times rfl M30.ob rfl (by decide +kernel) ⟨rfl, rfl, by decide, by decide⟩ (by decide) rfl rfl (Nat.le_of_ble_eq_true rfl) (⟨M30, KM21, (by decide), (by decide), (by decide), rfl, hM21_43⟩) (fun F31 q32 => ?_)
      obtain ⟨M33, PM33⟩ := q32
      have M33 : MW G L F31 o a v (uz (uz (uz nM21 39 (some (fm z (fs (fm x2 (fm z z)) x)))) 45 (some (fm (fs (fm x2 (fm z z)) x) (fs (fm x2 (fm z z)) x)))) 46 (some (fm (fm (fs (fm x2 (fm z z)) x) (fs (fm x2 (fm z z)) x)) (fs (fm x2 (fm z z)) x)))) g w := M33
      have OM33 := OM30.tr PM33
      refine jr_aload_n hE dX12_plus_230 0 rfl ?_
      refine jr_aload_n hE dX12_plus_231 0 rfl ?_
      refine jr_get hE dX12_plus_232 f191 M33.ob rfl ?_
      refine jr_aload_n hE dX12_plus_235 0 rfl ?_
      refine jr_get hE dX12_plus_236 f191 M33.ob rfl ?_
      refine jr_aload_n hE dX12_plus_239 0 rfl ?_
      refine jr_get hE dX12_plus_240 f167 M33.ob rfl ?_
      refine jr_iconst (v := (0 : Int32)) hE dX12_plus_243 (by decide) ?_
      refine jr_kVv (ci := 12) (n := 4) (As := [.ref (a 45), .ref (a 45), .ref (a 37), .int (0 : Int32)]) (rest := []) hE dX12_plus_244 (fun l => c_m_times l G o a v (uz (uz (uz nM21 39 (some (fm z (fs (fm x2 (fm z z)) x)))) 45 (some (fm (fs (fm x2 (fm z z)) x) (fs (fm x2 (fm z z)) x)))) 46 (some (fm (fm (fs (fm x2 (fm z z)) x) (fs (fm x2 (fm z z)) x)) (fs (fm x2 (fm z z)) x)))) g w 45 45 37 (fm (fs (fm x2 (fm z z)) x) (fs (fm x2 (fm z z)) x)) x false) gX12_plus_X12_times rfl M33.ob rfl (by decide +kernel) ⟨rfl, rfl, by decide, by decide⟩ (by decide) rfl rfl (Nat.le_of_ble_eq_true rfl) (⟨M33, KM21, (by decide), (by decide), (by decide), rfl, hM21_37⟩) (fun F34 q35 => ?_)
      obtain ⟨M36, PM36⟩ := q35
      have M36 : MW G L F34 o a v (uz (uz (uz (uz nM21 39 (some (fm z (fs (fm x2 (fm z z)) x)))) 45 (some (fm (fs (fm x2 (fm z z)) x) (fs (fm x2 (fm z z)) x)))) 46 (some (fm (fm (fs (fm x2 (fm z z)) x) (fs (fm x2 (fm z z)) x)) (fs (fm x2 (fm z z)) x)))) 45 (some (fm (fm (fs (fm x2 (fm z z)) x) (fs (fm x2 (fm z z)) x)) x))) g w := M36
      have OM36 := OM33.tr PM36
      refine jr_aload_n hE dX12_plus_247 0 rfl ?_
      refine jr_aload_n hE dX12_plus_248 0 rfl ?_
      refine jr_get hE dX12_plus_249 f197 M36.ob rfl ?_
      refine jr_aload_n hE dX12_plus_252 0 rfl ?_
      refine jr_get hE dX12_plus_253 f188 M36.ob rfl ?_
      refine jr_aload_n hE dX12_plus_256 0 rfl ?_
      refine jr_get hE dX12_plus_257 f188 M36.ob rfl ?_
      refine jr_iconst (v := (0 : Int32)) hE dX12_plus_260 (by decide) ?_
      refine jr_kVv (ci := 12) (n := 4) (As := [.ref (a 47), .ref (a 44), .ref (a 44), .int (0 : Int32)]) (rest := []) hE dX12_plus_261 (fun l => c_m_times l G o a v (uz (uz (uz (uz nM21 39 (some (fm z (fs (fm x2 (fm z z)) x)))) 45 (some (fm (fs (fm x2 (fm z z)) x) (fs (fm x2 (fm z z)) x)))) 46 (some (fm (fm (fs (fm x2 (fm z z)) x) (fs (fm x2 (fm z z)) x)) (fs (fm x2 (fm z z)) x)))) 45 (some (fm (fm (fs (fm x2 (fm z z)) x) (fs (fm x2 (fm z z)) x)) x))) g w 47 44 44 (fs (fm y2 (fm (fm z z) z)) y) (fs (fm y2 (fm (fm z z) z)) y) false) gX12_plus_X12_times rfl M36.ob rfl (by decide +kernel) ⟨rfl, rfl, by decide, by decide⟩ (by decide) rfl rfl (Nat.le_of_ble_eq_true rfl) (⟨M36, KM21, (by decide), (by decide), (by decide), zM21, zM21⟩) (fun F37 q38 => ?_)
      obtain ⟨M39, PM39⟩ := q38
      have M39 : MW G L F37 o a v (uz (uz (uz (uz (uz nM21 39 (some (fm z (fs (fm x2 (fm z z)) x)))) 45 (some (fm (fs (fm x2 (fm z z)) x) (fs (fm x2 (fm z z)) x)))) 46 (some (fm (fm (fs (fm x2 (fm z z)) x) (fs (fm x2 (fm z z)) x)) (fs (fm x2 (fm z z)) x)))) 45 (some (fm (fm (fs (fm x2 (fm z z)) x) (fs (fm x2 (fm z z)) x)) x))) 47 (some (fm (fs (fm y2 (fm (fm z z) z)) y) (fs (fm y2 (fm (fm z z) z)) y)))) g w := M39
      have OM39 := OM36.tr PM39
      refine jr_aload_n hE dX12_plus_264 0 rfl ?_
      refine jr_aload_n hE dX12_plus_265 0 rfl ?_
      refine jr_get hE dX12_plus_266 f197 M39.ob rfl ?_
      refine jr_aload_n hE dX12_plus_269 0 rfl ?_
      refine jr_get hE dX12_plus_270 f197 M39.ob rfl ?_
      refine jr_aload_n hE dX12_plus_273 0 rfl ?_
      refine jr_get hE dX12_plus_274 f194 M39.ob rfl ?_
      refine jr_iconst (v := (0 : Int32)) hE dX12_plus_277 (by decide) ?_
      refine jr_kVv (ci := 12) (n := 4) (As := [.ref (a 47), .ref (a 47), .ref (a 46), .int (0 : Int32)]) (rest := []) hE dX12_plus_278 (fun l => c_m_less l G o a v (uz (uz (uz (uz (uz nM21 39 (some (fm z (fs (fm x2 (fm z z)) x)))) 45 (some (fm (fs (fm x2 (fm z z)) x) (fs (fm x2 (fm z z)) x)))) 46 (some (fm (fm (fs (fm x2 (fm z z)) x) (fs (fm x2 (fm z z)) x)) (fs (fm x2 (fm z z)) x)))) 45 (some (fm (fm (fs (fm x2 (fm z z)) x) (fs (fm x2 (fm z z)) x)) x))) 47 (some (fm (fs (fm y2 (fm (fm z z) z)) y) (fs (fm y2 (fm (fm z z) z)) y)))) g w 47 47 46 (fm (fs (fm y2 (fm (fm z z) z)) y) (fs (fm y2 (fm (fm z z) z)) y)) (fm (fm (fs (fm x2 (fm z z)) x) (fs (fm x2 (fm z z)) x)) (fs (fm x2 (fm z z)) x)) false) gX12_plus_X12_less rfl M39.ob rfl (by decide +kernel) ⟨rfl, rfl, by decide, by decide⟩ (by decide) rfl rfl (Nat.le_of_ble_eq_true rfl) (⟨M39, KM21, (by decide), (by decide), (by decide), (by decide), (by decide), rfl, rfl, (fm_lt _ _), (fm_lt _ _)⟩) (fun F40 q41 => ?_)
      obtain ⟨nM42, M42, hfM42, zM42, PM42⟩ := q41
      have OM42 := OM39.tr PM42
      have KM42 := KM21.fr (n' := nM42) (hfM42 0 (by decide)) (hfM42 1 (by decide)) (hfM42 32 (by decide)) (hfM42 33 (by decide))
      have hM42_37 : nM42 37 = some x := (hfM42 37 (by decide)).trans hM21_37
      have hM42_38 : nM42 38 = some y := (hfM42 38 (by decide)).trans hM21_38
      have hM42_39 : nM42 39 = some (fm z (fs (fm x2 (fm z z)) x)) := (hfM42 39 (by decide)).trans rfl
      have hM42_40 : nM42 40 = some x2 := (hfM42 40 (by decide)).trans hM21_40
      have hM42_41 : nM42 41 = some y2 := (hfM42 41 (by decide)).trans hM21_41
      have hM42_42 : nM42 42 = some (fm (fm z z) z) := (hfM42 42 (by decide)).trans hM21_42
      have hM42_43 : nM42 43 = some (fs (fm x2 (fm z z)) x) := (hfM42 43 (by decide)).trans hM21_43
      have hM42_44 : nM42 44 = some (fs (fm y2 (fm (fm z z) z)) y) := (hfM42 44 (by decide)).trans zM21
      have hM42_45 : nM42 45 = some (fm (fm (fs (fm x2 (fm z z)) x) (fs (fm x2 (fm z z)) x)) x) := (hfM42 45 (by decide)).trans rfl
      have hM42_46 : nM42 46 = some (fm (fm (fs (fm x2 (fm z z)) x) (fs (fm x2 (fm z z)) x)) (fs (fm x2 (fm z z)) x)) := (hfM42 46 (by decide)).trans rfl
      have zM42 : nM42 47 = some (fs (fm (fs (fm y2 (fm (fm z z) z)) y) (fs (fm y2 (fm (fm z z) z)) y)) (fm (fm (fs (fm x2 (fm z z)) x) (fs (fm x2 (fm z z)) x)) (fs (fm x2 (fm z z)) x))) := zM42
      refine jr_aload_n hE dX12_plus_281 0 rfl ?_
      refine jr_aload_n hE dX12_plus_282 0 rfl ?_
      refine jr_get hE dX12_plus_283 f197 M42.ob rfl ?_
      refine jr_aload_n hE dX12_plus_286 0 rfl ?_
      refine jr_get hE dX12_plus_287 f197 M42.ob rfl ?_
      refine jr_aload_n hE dX12_plus_290 0 rfl ?_
      refine jr_get hE dX12_plus_291 f191 M42.ob rfl ?_
      refine jr_iconst (v := (0 : Int32)) hE dX12_plus_294 (by decide) ?_
      refine jr_kVv (ci := 12) (n := 4) (As := [.ref (a 47), .ref (a 47), .ref (a 45), .int (0 : Int32)]) (rest := []) hE dX12_plus_295 (fun l => c_m_less l G o a v nM42 g w 47 47 45 (fs (fm (fs (fm y2 (fm (fm z z) z)) y) (fs (fm y2 (fm (fm z z) z)) y)) (fm (fm (fs (fm x2 (fm z z)) x) (fs (fm x2 (fm z z)) x)) (fs (fm x2 (fm z z)) x))) (fm (fm (fs (fm x2 (fm z z)) x) (fs (fm x2 (fm z z)) x)) x) false) gX12_plus_X12_less rfl M42.ob rfl (by decide +kernel) ⟨rfl, rfl, by decide, by decide⟩ (by decide) rfl rfl (Nat.le_of_ble_eq_true rfl) (⟨M42, KM42, (by decide), (by decide), (by decide), (by decide), (by decide), zM42, hM42_45, (fs_lt _ _), (fm_lt _ _)⟩) (fun F43 q44 => ?_)
      obtain ⟨nM45, M45, hfM45, zM45, PM45⟩ := q44
      have OM45 := OM42.tr PM45
      have KM45 := KM42.fr (n' := nM45) (hfM45 0 (by decide)) (hfM45 1 (by decide)) (hfM45 32 (by decide)) (hfM45 33 (by decide))
      have hM45_37 : nM45 37 = some x := (hfM45 37 (by decide)).trans hM42_37
      have hM45_38 : nM45 38 = some y := (hfM45 38 (by decide)).trans hM42_38
      have hM45_39 : nM45 39 = some (fm z (fs (fm x2 (fm z z)) x)) := (hfM45 39 (by decide)).trans hM42_39
      have hM45_40 : nM45 40 = some x2 := (hfM45 40 (by decide)).trans hM42_40
      have hM45_41 : nM45 41 = some y2 := (hfM45 41 (by decide)).trans hM42_41
      have hM45_42 : nM45 42 = some (fm (fm z z) z) := (hfM45 42 (by decide)).trans hM42_42
      have hM45_43 : nM45 43 = some (fs (fm x2 (fm z z)) x) := (hfM45 43 (by decide)).trans hM42_43
      have hM45_44 : nM45 44 = some (fs (fm y2 (fm (fm z z) z)) y) := (hfM45 44 (by decide)).trans hM42_44
      have hM45_45 : nM45 45 = some (fm (fm (fs (fm x2 (fm z z)) x) (fs (fm x2 (fm z z)) x)) x) := (hfM45 45 (by decide)).trans hM42_45
      have hM45_46 : nM45 46 = some (fm (fm (fs (fm x2 (fm z z)) x) (fs (fm x2 (fm z z)) x)) (fs (fm x2 (fm z z)) x)) := (hfM45 46 (by decide)).trans hM42_46
      have zM45 : nM45 47 = some (fs (fs (fm (fs (fm y2 (fm (fm z z) z)) y) (fs (fm y2 (fm (fm z z) z)) y)) (fm (fm (fs (fm x2 (fm z z)) x) (fs (fm x2 (fm z z)) x)) (fs (fm x2 (fm z z)) x))) (fm (fm (fs (fm x2 (fm z z)) x) (fs (fm x2 (fm z z)) x)) x)) := zM45
      refine jr_aload_n hE dX12_plus_298 0 rfl ?_
      refine jr_aload_n hE dX12_plus_299 0 rfl ?_
      refine jr_get hE dX12_plus_300 f167 M45.ob rfl ?_
      refine jr_aload_n hE dX12_plus_303 0 rfl ?_
      refine jr_get hE dX12_plus_304 f197 M45.ob rfl ?_
      refine jr_aload_n hE dX12_plus_307 0 rfl ?_
      refine jr_get hE dX12_plus_308 f191 M45.ob rfl ?_
      refine jr_iconst (v := (0 : Int32)) hE dX12_plus_311 (by decide) ?_
      refine jr_kVv (ci := 12) (n := 4) (As := [.ref (a 37), .ref (a 47), .ref (a 45), .int (0 : Int32)]) (rest := []) hE dX12_plus_312 (fun l => c_m_less l G o a v nM45 g w 37 47 45 (fs (fs (fm (fs (fm y2 (fm (fm z z) z)) y) (fs (fm y2 (fm (fm z z) z)) y)) (fm (fm (fs (fm x2 (fm z z)) x) (fs (fm x2 (fm z z)) x)) (fs (fm x2 (fm z z)) x))) (fm (fm (fs (fm x2 (fm z z)) x) (fs (fm x2 (fm z z)) x)) x)) (fm (fm (fs (fm x2 (fm z z)) x) (fs (fm x2 (fm z z)) x)) x) false) gX12_plus_X12_less rfl M45.ob rfl (by decide +kernel) ⟨rfl, rfl, by decide, by decide⟩ (by decide) rfl rfl (Nat.le_of_ble_eq_true rfl) (⟨M45, KM45, (by decide), (by decide), (by decide), (by decide), (by decide), zM45, hM45_45, (fs_lt _ _), (fm_lt _ _)⟩) (fun F46 q47 => ?_)
      obtain ⟨nM48, M48, hfM48, zM48, PM48⟩ := q47
      have OM48 := OM45.tr PM48
      have KM48 := KM45.fr (n' := nM48) (hfM48 0 (by decide)) (hfM48 1 (by decide)) (hfM48 32 (by decide)) (hfM48 33 (by decide))
      have hM48_38 : nM48 38 = some y := (hfM48 38 (by decide)).trans hM45_38
      have hM48_39 : nM48 39 = some (fm z (fs (fm x2 (fm z z)) x)) := (hfM48 39 (by decide)).trans hM45_39
      have hM48_40 : nM48 40 = some x2 := (hfM48 40 (by decide)).trans hM45_40
      have hM48_41 : nM48 41 = some y2 := (hfM48 41 (by decide)).trans hM45_41
      have hM48_42 : nM48 42 = some (fm (fm z z) z) := (hfM48 42 (by decide)).trans hM45_42
      have hM48_43 : nM48 43 = some (fs (fm x2 (fm z z)) x) := (hfM48 43 (by decide)).trans hM45_43
      have hM48_44 : nM48 44 = some (fs (fm y2 (fm (fm z z) z)) y) := (hfM48 44 (by decide)).trans hM45_44
      have hM48_45 : nM48 45 = some (fm (fm (fs (fm x2 (fm z z)) x) (fs (fm x2 (fm z z)) x)) x) := (hfM48 45 (by decide)).trans hM45_45
      have hM48_46 : nM48 46 = some (fm (fm (fs (fm x2 (fm z z)) x) (fs (fm x2 (fm z z)) x)) (fs (fm x2 (fm z z)) x)) := (hfM48 46 (by decide)).trans hM45_46
      have hM48_47 : nM48 47 = some (fs (fs (fm (fs (fm y2 (fm (fm z z) z)) y) (fs (fm y2 (fm (fm z z) z)) y)) (fm (fm (fs (fm x2 (fm z z)) x) (fs (fm x2 (fm z z)) x)) (fs (fm x2 (fm z z)) x))) (fm (fm (fs (fm x2 (fm z z)) x) (fs (fm x2 (fm z z)) x)) x)) := (hfM48 47 (by decide)).trans zM45
      have zM48 : nM48 37 = some (fs (fs (fs (fm (fs (fm y2 (fm (fm z z) z)) y) (fs (fm y2 (fm (fm z z) z)) y)) (fm (fm (fs (fm x2 (fm z z)) x) (fs (fm x2 (fm z z)) x)) (fs (fm x2 (fm z z)) x))) (fm (fm (fs (fm x2 (fm z z)) x) (fs (fm x2 (fm z z)) x)) x)) (fm (fm (fs (fm x2 (fm z z)) x) (fs (fm x2 (fm z z)) x)) x)) := zM48
      refine jr_aload_n hE dX12_plus_315 0 rfl ?_
      refine jr_aload_n hE dX12_plus_316 0 rfl ?_
      refine jr_get hE dX12_plus_317 f191 M48.ob rfl ?_
      refine jr_aload_n hE dX12_plus_320 0 rfl ?_
      refine jr_get hE dX12_plus_321 f191 M48.ob rfl ?_
      refine jr_aload_n hE dX12_plus_324 0 rfl ?_
      refine jr_get hE dX12_plus_325 f167 M48.ob rfl ?_
      refine jr_iconst (v := (0 : Int32)) hE dX12_plus_328 (by decide) ?_
      refine jr_kVv (ci := 12) (n := 4) (As := [.ref (a 45), .ref (a 45), .ref (a 37), .int (0 : Int32)]) (rest := []) hE dX12_plus_329 (fun l => c_m_less l G o a v nM48 g w 45 45 37 (fm (fm (fs (fm x2 (fm z z)) x) (fs (fm x2 (fm z z)) x)) x) (fs (fs (fs (fm (fs (fm y2 (fm (fm z z) z)) y) (fs (fm y2 (fm (fm z z) z)) y)) (fm (fm (fs (fm x2 (fm z z)) x) (fs (fm x2 (fm z z)) x)) (fs (fm x2 (fm z z)) x))) (fm (fm (fs (fm x2 (fm z z)) x) (fs (fm x2 (fm z z)) x)) x)) (fm (fm (fs (fm x2 (fm z z)) x) (fs (fm x2 (fm z z)) x)) x)) false) gX12_plus_X12_less rfl M48.ob rfl (by decide +kernel) ⟨rfl, rfl, by decide, by decide⟩ (by decide) rfl rfl (Nat.le_of_ble_eq_true rfl) (⟨M48, KM48, (by decide), (by decide), (by decide), (by decide), (by decide), hM48_45, zM48, (fm_lt _ _), (fs_lt _ _)⟩) (fun F49 q50 => ?_)
      obtain ⟨nM51, M51, hfM51, zM51, PM51⟩ := q50
      have OM51 := OM48.tr PM51
      have KM51 := KM48.fr (n' := nM51) (hfM51 0 (by decide)) (hfM51 1 (by decide)) (hfM51 32 (by decide)) (hfM51 33 (by decide))
      have hM51_38 : nM51 38 = some y := (hfM51 38 (by decide)).trans hM48_38
      have hM51_39 : nM51 39 = some (fm z (fs (fm x2 (fm z z)) x)) := (hfM51 39 (by decide)).trans hM48_39
      have hM51_40 : nM51 40 = some x2 := (hfM51 40 (by decide)).trans hM48_40
      have hM51_41 : nM51 41 = some y2 := (hfM51 41 (by decide)).trans hM48_41
      have hM51_42 : nM51 42 = some (fm (fm z z) z) := (hfM51 42 (by decide)).trans hM48_42
      have hM51_43 : nM51 43 = some (fs (fm x2 (fm z z)) x) := (hfM51 43 (by decide)).trans hM48_43
      have hM51_44 : nM51 44 = some (fs (fm y2 (fm (fm z z) z)) y) := (hfM51 44 (by decide)).trans hM48_44
      have hM51_46 : nM51 46 = some (fm (fm (fs (fm x2 (fm z z)) x) (fs (fm x2 (fm z z)) x)) (fs (fm x2 (fm z z)) x)) := (hfM51 46 (by decide)).trans hM48_46
      have hM51_47 : nM51 47 = some (fs (fs (fm (fs (fm y2 (fm (fm z z) z)) y) (fs (fm y2 (fm (fm z z) z)) y)) (fm (fm (fs (fm x2 (fm z z)) x) (fs (fm x2 (fm z z)) x)) (fs (fm x2 (fm z z)) x))) (fm (fm (fs (fm x2 (fm z z)) x) (fs (fm x2 (fm z z)) x)) x)) := (hfM51 47 (by decide)).trans hM48_47
      have hM51_37 : nM51 37 = some (fs (fs (fs (fm (fs (fm y2 (fm (fm z z) z)) y) (fs (fm y2 (fm (fm z z) z)) y)) (fm (fm (fs (fm x2 (fm z z)) x) (fs (fm x2 (fm z z)) x)) (fs (fm x2 (fm z z)) x))) (fm (fm (fs (fm x2 (fm z z)) x) (fs (fm x2 (fm z z)) x)) x)) (fm (fm (fs (fm x2 (fm z z)) x) (fs (fm x2 (fm z z)) x)) x)) := (hfM51 37 (by decide)).trans zM48
      have zM51 : nM51 45 = some (fs (fm (fm (fs (fm x2 (fm z z)) x) (fs (fm x2 (fm z z)) x)) x) (fs (fs (fs (fm (fs (fm y2 (fm (fm z z) z)) y) (fs (fm y2 (fm (fm z z) z)) y)) (fm (fm (fs (fm x2 (fm z z)) x) (fs (fm x2 (fm z z)) x)) (fs (fm x2 (fm z z)) x))) (fm (fm (fs (fm x2 (fm z z)) x) (fs (fm x2 (fm z z)) x)) x)) (fm (fm (fs (fm x2 (fm z z)) x) (fs (fm x2 (fm z z)) x)) x))) := zM51
      refine jr_aload_n hE dX12_plus_332 0 rfl ?_
      refine jr_aload_n hE dX12_plus_333 0 rfl ?_
      refine jr_get hE dX12_plus_334 f191 M51.ob rfl ?_
      refine jr_aload_n hE dX12_plus_337 0 rfl ?_
      refine jr_get hE dX12_plus_338 f191 M51.ob rfl ?_
      refine jr_aload_n hE dX12_plus_341 0 rfl ?_
      refine jr_get hE dX12_plus_342 f188 M51.ob rfl ?_
      refine jr_iconst (v := (0 : Int32)) hE dX12_plus_345 (by decide) ?_
      refine jr_kVv (ci := 12) (n := 4) (As := [.ref (a 45), .ref (a 45), .ref (a 44), .int (0 : Int32)]) (rest := []) hE dX12_plus_346 (fun l => c_m_times l G o a v nM51 g w 45 45 44 (fs (fm (fm (fs (fm x2 (fm z z)) x) (fs (fm x2 (fm z z)) x)) x) (fs (fs (fs (fm (fs (fm y2 (fm (fm z z) z)) y) (fs (fm y2 (fm (fm z z) z)) y)) (fm (fm (fs (fm x2 (fm z z)) x) (fs (fm x2 (fm z z)) x)) (fs (fm x2 (fm z z)) x))) (fm (fm (fs (fm x2 (fm z z)) x) (fs (fm x2 (fm z z)) x)) x)) (fm (fm (fs (fm x2 (fm z z)) x) (fs (fm x2 (fm z z)) x)) x))) (fs (fm y2 (fm (fm z z) z)) y) false) gX12_plus_X12_times rfl M51.ob rfl (by decide +kernel) ⟨rfl, rfl, by decide, by decide⟩ (by decide) rfl rfl (Nat.le_of_ble_eq_true rfl) (⟨M51, KM51, (by decide), (by decide), (by decide), zM51, hM51_44⟩) (fun F52 q53 => ?_)
      obtain ⟨M54, PM54⟩ := q53
      have M54 : MW G L F52 o a v (uz nM51 45 (some (fm (fs (fm (fm (fs (fm x2 (fm z z)) x) (fs (fm x2 (fm z z)) x)) x) (fs (fs (fs (fm (fs (fm y2 (fm (fm z z) z)) y) (fs (fm y2 (fm (fm z z) z)) y)) (fm (fm (fs (fm x2 (fm z z)) x) (fs (fm x2 (fm z z)) x)) (fs (fm x2 (fm z z)) x))) (fm (fm (fs (fm x2 (fm z z)) x) (fs (fm x2 (fm z z)) x)) x)) (fm (fm (fs (fm x2 (fm z z)) x) (fs (fm x2 (fm z z)) x)) x))) (fs (fm y2 (fm (fm z z) z)) y)))) g w := M54
      have OM54 := OM51.tr PM54
      refine jr_aload_n hE dX12_plus_349 0 rfl ?_
      refine jr_aload_n hE dX12_plus_350 0 rfl ?_
      refine jr_get hE dX12_plus_351 f194 M54.ob rfl ?_
      refine jr_aload_n hE dX12_plus_354 0 rfl ?_
      refine jr_get hE dX12_plus_355 f194 M54.ob rfl ?_
      refine jr_aload_n hE dX12_plus_358 0 rfl ?_
      refine jr_get hE dX12_plus_359 f170 M54.ob rfl ?_
      refine jr_iconst (v := (0 : Int32)) hE dX12_plus_362 (by decide) ?_
      refine jr_kVv (ci := 12) (n := 4) (As := [.ref (a 46), .ref (a 46), .ref (a 38), .int (0 : Int32)]) (rest := []) hE dX12_plus_363 (fun l => c_m_times l G o a v (uz nM51 45 (some (fm (fs (fm (fm (fs (fm x2 (fm z z)) x) (fs (fm x2 (fm z z)) x)) x) (fs (fs (fs (fm (fs (fm y2 (fm (fm z z) z)) y) (fs (fm y2 (fm (fm z z) z)) y)) (fm (fm (fs (fm x2 (fm z z)) x) (fs (fm x2 (fm z z)) x)) (fs (fm x2 (fm z z)) x))) (fm (fm (fs (fm x2 (fm z z)) x) (fs (fm x2 (fm z z)) x)) x)) (fm (fm (fs (fm x2 (fm z z)) x) (fs (fm x2 (fm z z)) x)) x))) (fs (fm y2 (fm (fm z z) z)) y)))) g w 46 46 38 (fm (fm (fs (fm x2 (fm z z)) x) (fs (fm x2 (fm z z)) x)) (fs (fm x2 (fm z z)) x)) y false) gX12_plus_X12_times rfl M54.ob rfl (by decide +kernel) ⟨rfl, rfl, by decide, by decide⟩ (by decide) rfl rfl (Nat.le_of_ble_eq_true rfl) (⟨M54, KM51, (by decide), (by decide), (by decide), hM51_46, hM51_38⟩) (fun F55 q56 => ?_)
      obtain ⟨M57, PM57⟩ := q56
      have M57 : MW G L F55 o a v (uz (uz nM51 45 (some (fm (fs (fm (fm (fs (fm x2 (fm z z)) x) (fs (fm x2 (fm z z)) x)) x) (fs (fs (fs (fm (fs (fm y2 (fm (fm z z) z)) y) (fs (fm y2 (fm (fm z z) z)) y)) (fm (fm (fs (fm x2 (fm z z)) x) (fs (fm x2 (fm z z)) x)) (fs (fm x2 (fm z z)) x))) (fm (fm (fs (fm x2 (fm z z)) x) (fs (fm x2 (fm z z)) x)) x)) (fm (fm (fs (fm x2 (fm z z)) x) (fs (fm x2 (fm z z)) x)) x))) (fs (fm y2 (fm (fm z z) z)) y)))) 46 (some (fm (fm (fm (fs (fm x2 (fm z z)) x) (fs (fm x2 (fm z z)) x)) (fs (fm x2 (fm z z)) x)) y))) g w := M57
      have OM57 := OM54.tr PM57
      refine jr_aload_n hE dX12_plus_366 0 rfl ?_
      refine jr_aload_n hE dX12_plus_367 0 rfl ?_
      refine jr_get hE dX12_plus_368 f170 M57.ob rfl ?_
      refine jr_aload_n hE dX12_plus_371 0 rfl ?_
      refine jr_get hE dX12_plus_372 f191 M57.ob rfl ?_
      refine jr_aload_n hE dX12_plus_375 0 rfl ?_
      refine jr_get hE dX12_plus_376 f194 M57.ob rfl ?_
      refine jr_iconst (v := (0 : Int32)) hE dX12_plus_379 (by decide) ?_
      refine jr_kVv (ci := 12) (n := 4) (As := [.ref (a 38), .ref (a 45), .ref (a 46), .int (0 : Int32)]) (rest := []) hE dX12_plus_380 (fun l => c_m_less l G o a v (uz (uz nM51 45 (some (fm (fs (fm (fm (fs (fm x2 (fm z z)) x) (fs (fm x2 (fm z z)) x)) x) (fs (fs (fs (fm (fs (fm y2 (fm (fm z z) z)) y) (fs (fm y2 (fm (fm z z) z)) y)) (fm (fm (fs (fm x2 (fm z z)) x) (fs (fm x2 (fm z z)) x)) (fs (fm x2 (fm z z)) x))) (fm (fm (fs (fm x2 (fm z z)) x) (fs (fm x2 (fm z z)) x)) x)) (fm (fm (fs (fm x2 (fm z z)) x) (fs (fm x2 (fm z z)) x)) x))) (fs (fm y2 (fm (fm z z) z)) y)))) 46 (some (fm (fm (fm (fs (fm x2 (fm z z)) x) (fs (fm x2 (fm z z)) x)) (fs (fm x2 (fm z z)) x)) y))) g w 38 45 46 (fm (fs (fm (fm (fs (fm x2 (fm z z)) x) (fs (fm x2 (fm z z)) x)) x) (fs (fs (fs (fm (fs (fm y2 (fm (fm z z) z)) y) (fs (fm y2 (fm (fm z z) z)) y)) (fm (fm (fs (fm x2 (fm z z)) x) (fs (fm x2 (fm z z)) x)) (fs (fm x2 (fm z z)) x))) (fm (fm (fs (fm x2 (fm z z)) x) (fs (fm x2 (fm z z)) x)) x)) (fm (fm (fs (fm x2 (fm z z)) x) (fs (fm x2 (fm z z)) x)) x))) (fs (fm y2 (fm (fm z z) z)) y)) (fm (fm (fm (fs (fm x2 (fm z z)) x) (fs (fm x2 (fm z z)) x)) (fs (fm x2 (fm z z)) x)) y) false) gX12_plus_X12_less rfl M57.ob rfl (by decide +kernel) ⟨rfl, rfl, by decide, by decide⟩ (by decide) rfl rfl (Nat.le_of_ble_eq_true rfl) (⟨M57, KM51, (by decide), (by decide), (by decide), (by decide), (by decide), rfl, rfl, (fm_lt _ _), (fm_lt _ _)⟩) (fun F58 q59 => ?_)
      obtain ⟨nM60, M60, hfM60, zM60, PM60⟩ := q59
      have OM60 := OM57.tr PM60
      have KM60 := KM51.fr (n' := nM60) (hfM60 0 (by decide)) (hfM60 1 (by decide)) (hfM60 32 (by decide)) (hfM60 33 (by decide))
      have hM60_39 : nM60 39 = some (fm z (fs (fm x2 (fm z z)) x)) := (hfM60 39 (by decide)).trans hM51_39
      have hM60_40 : nM60 40 = some x2 := (hfM60 40 (by decide)).trans hM51_40
      have hM60_41 : nM60 41 = some y2 := (hfM60 41 (by decide)).trans hM51_41
      have hM60_42 : nM60 42 = some (fm (fm z z) z) := (hfM60 42 (by decide)).trans hM51_42
      have hM60_43 : nM60 43 = some (fs (fm x2 (fm z z)) x) := (hfM60 43 (by decide)).trans hM51_43
      have hM60_44 : nM60 44 = some (fs (fm y2 (fm (fm z z) z)) y) := (hfM60 44 (by decide)).trans hM51_44
      have hM60_46 : nM60 46 = some (fm (fm (fm (fs (fm x2 (fm z z)) x) (fs (fm x2 (fm z z)) x)) (fs (fm x2 (fm z z)) x)) y) := (hfM60 46 (by decide)).trans rfl
      have hM60_47 : nM60 47 = some (fs (fs (fm (fs (fm y2 (fm (fm z z) z)) y) (fs (fm y2 (fm (fm z z) z)) y)) (fm (fm (fs (fm x2 (fm z z)) x) (fs (fm x2 (fm z z)) x)) (fs (fm x2 (fm z z)) x))) (fm (fm (fs (fm x2 (fm z z)) x) (fs (fm x2 (fm z z)) x)) x)) := (hfM60 47 (by decide)).trans hM51_47
      have hM60_37 : nM60 37 = some (fs (fs (fs (fm (fs (fm y2 (fm (fm z z) z)) y) (fs (fm y2 (fm (fm z z) z)) y)) (fm (fm (fs (fm x2 (fm z z)) x) (fs (fm x2 (fm z z)) x)) (fs (fm x2 (fm z z)) x))) (fm (fm (fs (fm x2 (fm z z)) x) (fs (fm x2 (fm z z)) x)) x)) (fm (fm (fs (fm x2 (fm z z)) x) (fs (fm x2 (fm z z)) x)) x)) := (hfM60 37 (by decide)).trans hM51_37
      have hM60_45 : nM60 45 = some (fm (fs (fm (fm (fs (fm x2 (fm z z)) x) (fs (fm x2 (fm z z)) x)) x) (fs (fs (fs (fm (fs (fm y2 (fm (fm z z) z)) y) (fs (fm y2 (fm (fm z z) z)) y)) (fm (fm (fs (fm x2 (fm z z)) x) (fs (fm x2 (fm z z)) x)) (fs (fm x2 (fm z z)) x))) (fm (fm (fs (fm x2 (fm z z)) x) (fs (fm x2 (fm z z)) x)) x)) (fm (fm (fs (fm x2 (fm z z)) x) (fs (fm x2 (fm z z)) x)) x))) (fs (fm y2 (fm (fm z z) z)) y)) := (hfM60 45 (by decide)).trans rfl
      have zM60 : nM60 38 = some (fs (fm (fs (fm (fm (fs (fm x2 (fm z z)) x) (fs (fm x2 (fm z z)) x)) x) (fs (fs (fs (fm (fs (fm y2 (fm (fm z z) z)) y) (fs (fm y2 (fm (fm z z) z)) y)) (fm (fm (fs (fm x2 (fm z z)) x) (fs (fm x2 (fm z z)) x)) (fs (fm x2 (fm z z)) x))) (fm (fm (fs (fm x2 (fm z z)) x) (fs (fm x2 (fm z z)) x)) x)) (fm (fm (fs (fm x2 (fm z z)) x) (fs (fm x2 (fm z z)) x)) x))) (fs (fm y2 (fm (fm z z) z)) y)) (fm (fm (fm (fs (fm x2 (fm z z)) x) (fs (fm x2 (fm z z)) x)) (fs (fm x2 (fm z z)) x)) y)) := zM60
      exact hR F58 _ _ dX12_plus_383 ⟨_, M60, (fun k hk => ((hfM60 k (jnsub (V := [38, 34]) hk [1, 9] rfl)).trans ((uz_n _ _ (jne hk 7 rfl)).trans ((uz_n _ _ (jne hk 6 rfl)).trans ((hfM51 k (jnsub (V := [45, 34]) hk [6, 9] rfl)).trans ((hfM48 k (jnsub (V := [37, 34]) hk [0, 9] rfl)).trans ((hfM45 k (jnsub (V := [47, 34]) hk [8, 9] rfl)).trans ((hfM42 k (jnsub (V := [47, 34]) hk [8, 9] rfl)).trans ((uz_n _ _ (jne hk 8 rfl)).trans ((uz_n _ _ (jne hk 6 rfl)).trans ((uz_n _ _ (jne hk 7 rfl)).trans ((uz_n _ _ (jne hk 6 rfl)).trans ((uz_n _ _ (jne hk 2 rfl)).trans ((hfM21 k (jnsub (V := [44, 34]) hk [5, 9] rfl)).trans ((hfM18 k (jnsub (V := [43, 34]) hk [4, 9] rfl)).trans ((uz_n _ _ (jne hk 5 rfl)).trans ((uz_n _ _ (jne hk 3 rfl)).trans ((uz_n _ _ (jne hk 4 rfl)).trans (uz_n _ _ (jne hk 3 rfl)))))))))))))))))))), ⟨fm z (mh x z x2), hM60_39, fm_lt _ _, Or.inr ⟨(hpl.2.2 hh0).2, _, _, hM60_37, zM60, fs_lt _ _, fs_lt _ _, (hpl.2.2 hh0).1⟩⟩, OM60⟩
    · have hh0 : mh x z x2 = 0 := b2i_1 c150
      refine jr_aload_n hE dX12_plus_153 0 rfl ?_
      refine jr_get hE dX12_plus_154 f188 M21.ob rfl ?_
      refine jr_kSi (n := 1) (As := [.ref (a 44)]) (rest := []) hE dX12_plus_157 (fun l => c_m_isNull l G o a v nM21 g w 44 (fs (fm y2 (fm (fm z z) z)) y)) gX12_plus_X12_isNull rfl (by decide +kernel) ⟨rfl, rfl, by decide, by decide⟩ (by decide) rfl rfl (Nat.le_of_ble_eq_true rfl) (⟨M21, (by decide), zM21⟩) (fun r63 F61 q62 => ?_)
      obtain ⟨eq62, rq62⟩ := q62
      subst eq62 rq62
      refine jr_if_eq (tgt := 170) hE dX12_plus_160 (by decide) (fun c160 => ?_) (fun c160 => ?_)
      · refine jr_aload_n hE dX12_plus_170 0 rfl ?_
        refine jr_get hE dX12_plus_171 f173 M21.ob rfl ?_
        refine jr_lconst (v := (0 : Int64)) hE dX12_plus_174 (by decide) ?_
        refine jr_kSv (n := 2) (As := [.ref (a 39), .long (0 : Int64)]) (rest := []) hE dX12_plus_175 (fun l => c_m_small l G o a v nM21 g w 39 0) gX12_plus_X12_small rfl (by decide +kernel) ⟨rfl, rfl, by decide, by decide⟩ (by decide) rfl rfl (Nat.le_of_ble_eq_true rfl) (⟨M21, (by decide), (by decide)⟩) (fun F64 q65 => ?_)
        obtain ⟨M66, PM66⟩ := q65
        have M66 : MW G L F64 o a v (uz nM21 39 (some 0)) g w := M66
        have OM66 := OM21.tr PM66
        have hr0 : mr y z y2 ≠ 0 := fun e => by
          rw [b2i_t e] at c160
          exact absurd c160 (by decide)
        exact hR F64 _ _ dX12_plus_178 ⟨_, M66, (fun k hk => ((uz_n _ _ (jne hk 2 rfl)).trans ((hfM21 k (jnsub (V := [44, 34]) hk [5, 9] rfl)).trans ((hfM18 k (jnsub (V := [43, 34]) hk [4, 9] rfl)).trans ((uz_n _ _ (jne hk 5 rfl)).trans ((uz_n _ _ (jne hk 3 rfl)).trans ((uz_n _ _ (jne hk 4 rfl)).trans (uz_n _ _ (jne hk 3 rfl))))))))), ⟨0, rfl, PP0, Or.inl ⟨rfl, hpl.2.1 hh0 hr0⟩⟩, OM66⟩
      · refine jr_aload_n hE dX12_plus_163 0 rfl ?_
        refine jr_kVv (ci := 12) (n := 0) (As := []) (rest := []) hE dX12_plus_164 (fun l => c_m_twice l G o a v nM21 g w A) gX12_plus_X12_twice rfl M21.ob rfl (by decide +kernel) ⟨rfl, rfl, by decide, by decide⟩ (by decide) rfl rfl (Nat.le_of_ble_eq_true rfl) (⟨M21, KM21, ⟨z, hM21_39, hzl, Or.inr ⟨hz0, x, y, hM21_37, hM21_38, hxl, hyl, hr⟩⟩⟩) (fun F67 q68 => ?_)
        obtain ⟨n9, M9, hf9, p9, O9⟩ := q68
        refine jr_goto (tgt := 178) hE dX12_plus_167 (by decide) ?_
        have hr0 : mr y z y2 = 0 := b2i_1 c160
        have hAB := hpl.1 hh0 hr0
        rw [hAB] at p9
        exact hR F67 _ _ dX12_plus_178 ⟨n9, M9, fun k hk => (hf9 k hk).trans ((fun k hk => ((hfM21 k (jnsub (V := [44, 34]) hk [5, 9] rfl)).trans ((hfM18 k (jnsub (V := [43, 34]) hk [4, 9] rfl)).trans ((uz_n _ _ (jne hk 5 rfl)).trans ((uz_n _ _ (jne hk 3 rfl)).trans ((uz_n _ _ (jne hk 4 rfl)).trans (uz_n _ _ (jne hk 3 rfl)))))))) k hk), by rw [hAB]; exact p9, OM21.tr O9⟩
  · refine jr_aload_n hE dX12_plus_10 0 rfl ?_
    refine jr_get hE dX12_plus_11 f167 M0.ob rfl ?_
    refine jr_aload_n hE dX12_plus_14 0 rfl ?_
    refine jr_get hE dX12_plus_15 f176 M0.ob rfl ?_
    refine jr_kSv (n := 2) (As := [.ref (a 37), .ref (a 40)]) (rest := []) hE dX12_plus_18 (fun l => c_m_set l G o a v n g w 37 40) gX12_plus_X12_set rfl (by decide +kernel) ⟨rfl, rfl, by decide, by decide⟩ (by decide) rfl rfl (Nat.le_of_ble_eq_true rfl) (⟨M0, (by decide), (by decide)⟩) (fun F69 q70 => ?_)
    obtain ⟨M71, PM71⟩ := q70
    rw [show n 40 = some x2 from hx2] at M71
    have OM71 := (mO.rf o a F).tr PM71
    refine jr_aload_n hE dX12_plus_21 0 rfl ?_
    refine jr_get hE dX12_plus_22 f170 M71.ob rfl ?_
    refine jr_aload_n hE dX12_plus_25 0 rfl ?_
    refine jr_get hE dX12_plus_26 f179 M71.ob rfl ?_
    refine jr_kSv (n := 2) (As := [.ref (a 38), .ref (a 41)]) (rest := []) hE dX12_plus_29 (fun l => c_m_set l G o a v (uz n 37 (some x2)) g w 38 41) gX12_plus_X12_set rfl (by decide +kernel) ⟨rfl, rfl, by decide, by decide⟩ (by decide) rfl rfl (Nat.le_of_ble_eq_true rfl) (⟨M71, (by decide), (by decide)⟩) (fun F72 q73 => ?_)
    obtain ⟨M74, PM74⟩ := q73
    rw [show (uz n 37 (some x2)) 41 = some y2 from hy2] at M74
    have OM74 := OM71.tr PM74
    refine jr_aload_n hE dX12_plus_32 0 rfl ?_
    refine jr_get hE dX12_plus_33 f173 M74.ob rfl ?_
    refine jr_lconst (v := (1 : Int64)) hE dX12_plus_36 (by decide) ?_
    refine jr_kSv (n := 2) (As := [.ref (a 39), .long (1 : Int64)]) (rest := []) hE dX12_plus_37 (fun l => c_m_small l G o a v (uz (uz n 37 (some x2)) 38 (some y2)) g w 39 1) gX12_plus_X12_small rfl (by decide +kernel) ⟨rfl, rfl, by decide, by decide⟩ (by decide) rfl rfl (Nat.le_of_ble_eq_true rfl) (⟨M74, (by decide), (by decide)⟩) (fun F75 q76 => ?_)
    obtain ⟨M77, PM77⟩ := q76
    have M77 : MW G L F75 o a v (uz (uz (uz n 37 (some x2)) 38 (some y2)) 39 (some 1)) g w := M77
    have OM77 := OM74.tr PM77
    have hz0 : z = 0 := b2i_1 c7
    have hA0 := (hA.resolve_right (fun e => e.1 hz0)).2
    exact hR F75 _ _ dX12_plus_40 ⟨_, M77, (fun k hk => ((uz_n _ _ (jne hk 2 rfl)).trans ((uz_n _ _ (jne hk 1 rfl)).trans (uz_n _ _ (jne hk 0 rfl))))), ⟨1, rfl, by decide +kernel, Or.inr ⟨by decide, x2, y2, rfl, rfl, hxl2, hyl2, by rw [hA0]; exact rep_aff hxl2 hyl2 he2⟩⟩, OM77⟩

