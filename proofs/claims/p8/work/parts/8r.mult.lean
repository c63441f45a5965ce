/-! THE REFERENCE'S plain, multiply, lift -/
def cLT : Nat := 115792089237316195423570985008687907853269984665640564039457584007908834671661
def cQT : Nat := 28948022309329048855892746252171976963317496166410141009864396001977208667916
theorem cLT_eq : cLT = PP - 2 := by decide +kernel
def mC (n : Nat → Option Nat) : Prop := n 4 = some cLT ∧ n 5 = some cQT ∧ n 6 = some gX ∧ n 7 = some gY ∧ n 48 = some 7
theorem mC.fr {n n' : Nat → Option Nat} (h : mC n) (h4 : n' 4 = n 4) (h5 : n' 5 = n 5) (h6 : n' 6 = n 6) (h7 : n' 7 = n 7) (h48 : n' 48 = n 48) : mC n' := ⟨h4.trans h.1, h5.trans h.2.1, h6.trans h.2.2.1, h7.trans h.2.2.2.1, h48.trans h.2.2.2.2⟩
/-- a point that has been settled -/
def pS (n : Nat → Option Nat) (A : EP) : Prop := (A = none ∧ n 39 = some 0) ∨ ∃ x y : Nat, A = some (x, y) ∧ x < PP ∧ y < PP ∧ n 37 = some x ∧ n 38 = some y ∧ n 39 = some 1
theorem pS.J {n : Nat → Option Nat} {A : EP} (h : pS n A) (hA : onE PP A) : pJ n A := by
  rcases h with ⟨rfl, h⟩ | ⟨x, y, rfl, hx, hy, h1, h2, h3⟩
  · exact ⟨0, h, PP0, Or.inl ⟨rfl, rfl⟩⟩
  · exact ⟨1, h3, by decide +kernel, Or.inr ⟨by decide, x, y, h1, h2, hx, hy, rep_aff hx hy hA.2.2⟩⟩
theorem inv_p {e z p : Nat} (hp : prm p) (hP : p = PP) (he : e + 1 = p - 1) (h : ¬ p ∣ z) : zd PP (((z ^ e % PP : Nat) : Int) * z - 1) := by
  have h2 : z ^ e % PP * z % PP = 1 := by
    rw [Nat.mod_mul_mod, ← Nat.pow_succ, show e.succ = p - 1 from he, ← hP]
    exact hp.fermat h
  have h3 := zmd PP (z ^ e % PP * z)
  rw [h2, Int.natCast_mul] at h3
  exact zd_sub h3
theorem st_M {x y z : Nat} {A : EP} (h : rep (false, x, y, z) A) : A = some (fm x (fm (z ^ cLT % PP) (z ^ cLT % PP)), fm y (fm (fm (z ^ cLT % PP) (z ^ cLT % PP)) (z ^ cLT % PP))) := by
  rcases h with ⟨h1, -⟩ | ⟨-, X, Y, zz, rfl, e, nz, hx, hy, hz⟩
  · cases h1
  replace hx : zd PP ((x : Int) - X * (zz * zz)) := hx
  replace hy : zd PP ((y : Int) - Y * (zz * zz * zz)) := hy
  replace hz : zd PP ((z : Int) - zz) := hz
  have hz2 : ¬ PP ∣ z := fun q => nz ((show zd PP (z : Int) from Int.ofNat_dvd.mpr q).l2 hz 1 (-1) (by grind))
  have ki := inv_p (e := cLT) prmP rfl (by rw [cLT_eq]; decide +kernel) hz2
  generalize z ^ cLT % PP = t at *
  have kt : zd PP ((t : Int) * zz - 1) := ki.l2 hz 1 (-(t : Int)) (by grind)
  have k0 : zd PP ((t : Int) - t) := zd0 PP (by omega)
  have ku := zfm k0 k0
  have kx := zfm hx ku
  have ky := zfm hy (zfm ku k0)
  rw [ep_self (fm_lt _ _) (fm_lt _ _)]
  refine (ep_iff PP0).mpr ⟨?_, ?_⟩
  · exact zd_sub (zd_tr kx (kt.l1 (X * (t * zz + 1)) (by grind)))
  · exact zd_sub (zd_tr ky (kt.l1 (Y * (t * zz * (t * zz) + t * zz + 1)) (by grind)))
theorem neg_tk {y p B : Nat} (h0 : y ≠ 0) (hy : y < p) (hp : p < B) : (p + B - y) % B = p - y := by
  rw [show p + B - y = p - y + B by omega, Nat.add_mod_right, Nat.mod_eq_of_lt (by omega)]
theorem fk_neg {y : Nat} (h : y < PP) : fk (-1) y = if y = 0 then 0 else PP - y := by
  unfold fk
  split
  · rename_i h0
    subst h0
    decide +kernel
  · have h1 : (-1 * (y : Int)) % (PP : Int) = (PP : Int) - y := by
      rw [← Int.add_emod_right]
      rw [show -1 * (y : Int) + PP = (PP : Int) - y by omega]
      exact Int.emod_eq_of_lt (by omega) (by omega)
    rw [h1]
    omega

set_option maxHeartbeats 4000000 in
set_option maxRecDepth 100000 in
theorem c_m_plain (l : Launch) (G : Nat → ClassId) (o : Nat) (a : Nat → Nat) (v : Nat → Int32) (n : Nat → Option Nat) (g : Nat → Nat → Int64) (w : Nat → Nat → Int32) (A : EP) : jKv l yX12_plain wsX12_plain ({ frames := 4, cells := 0, slots := 0, locals := 111 }) G [.ref o] (fun L F => MW G L F o a v n g w ∧ mK n g ∧ n 4 = some cLT ∧ pJ n A) (fun L F F1 => ∃ n', MW G L F1 o a v n' g w ∧ (∀ k, k ∉ [37, 38, 39, 42, 43, 35, 36] → n' k = n k) ∧ pS n' A ∧ mO o a F F1) := by
  refine jm_kv (cc := cX12_plain) (maxL := 1) (by decide) rfl (Nat.le_of_ble_eq_true rfl) ?_
  intro E L F hE hR hpre
  have hE : jOk E G _ cX12_plain 1 RX12 wsX12_plain := hE
  obtain ⟨M0, hK, h4, z, hz, hzl, hA⟩ := hpre
  have f173 : jFl RX12 wsX12_plain 173 12 39 := ⟨rfl, by decide, by decide +kernel, by decide +kernel⟩
  have f182 : jFl RX12 wsX12_plain 182 12 42 := ⟨rfl, by decide, by decide +kernel, by decide +kernel⟩
  have f48 : jFl RX12 wsX12_plain 48 12 4 := ⟨rfl, by decide, by decide +kernel, by decide +kernel⟩
  have f185 : jFl RX12 wsX12_plain 185 12 43 := ⟨rfl, by decide, by decide +kernel, by decide +kernel⟩
  have f167 : jFl RX12 wsX12_plain 167 12 37 := ⟨rfl, by decide, by decide +kernel, by decide +kernel⟩
  have f170 : jFl RX12 wsX12_plain 170 12 38 := ⟨rfl, by decide, by decide +kernel, by decide +kernel⟩
  refine jr_aload_n hE dX12_plain_0 0 rfl ?_
  refine jr_get hE dX12_plain_1 f173 M0.ob rfl ?_
  refine jr_kSi (n := 1) (As := [.ref (a 39)]) (rest := []) hE dX12_plain_4 (fun l => c_m_isNull l G o a v n g w 39 z) gX12_plain_X12_isNull rfl (by decide +kernel) ⟨rfl, rfl, by decide, by decide⟩ (by decide) rfl rfl (Nat.le_of_ble_eq_true rfl) (⟨M0, (by decide), hz⟩) (fun r3 F1 q2 => ?_)
  obtain ⟨eq2, rq2⟩ := q2
  subst eq2 rq2
  refine jr_if_eq (tgt := 11) hE dX12_plain_7 (by decide) (fun c7 => ?_) (fun c7 => ?_)
  · have hz0 : z ≠ 0 := fun e => by
      rw [b2i_t e] at c7
      exact absurd c7 (by decide)
    obtain ⟨x, y, hx, hy, hxl, hyl, hr⟩ := (hA.resolve_left (fun e => hz0 e.1)).2
    refine jr_aload_n hE dX12_plain_11 0 rfl ?_
    refine jr_aload_n hE dX12_plain_12 0 rfl ?_
    refine jr_get hE dX12_plain_13 f182 M0.ob rfl ?_
    refine jr_aload_n hE dX12_plain_16 0 rfl ?_
    refine jr_get hE dX12_plain_17 f173 M0.ob rfl ?_
    refine jr_aload_n hE dX12_plain_20 0 rfl ?_
    refine jr_get hE dX12_plain_21 f48 M0.ob rfl ?_
    refine jr_kVv (ci := 12) (n := 3) (As := [.ref (a 42), .ref (a 39), .ref (a 4)]) (rest := []) hE dX12_plain_24 (fun l => c_m_raise l G o a v n g w 42 39 4 z cLT) gX12_plain_X12_raise rfl M0.ob rfl (by decide +kernel) ⟨rfl, rfl, by decide, by decide⟩ (by decide) rfl rfl (Nat.le_of_ble_eq_true rfl) (⟨M0, hK, (by decide), (by decide), (by decide), (by decide), hz, h4⟩) (fun F4 q5 => ?_)
    obtain ⟨nM6, M6, hfM6, zM6, PM6⟩ := q5
    have OM6 := (mO.rf o a F).tr PM6
    have KM6 := hK.fr (n' := nM6) (hfM6 0 (by decide)) (hfM6 1 (by decide)) (hfM6 32 (by decide)) (hfM6 33 (by decide))
    have hM6_37 : nM6 37 = some x := (hfM6 37 (by decide)).trans hx
    have hM6_38 : nM6 38 = some y := (hfM6 38 (by decide)).trans hy
    have hM6_39 : nM6 39 = some z := (hfM6 39 (by decide)).trans hz
    have hM6_4 : nM6 4 = some cLT := (hfM6 4 (by decide)).trans h4
    refine jr_aload_n hE dX12_plain_27 0 rfl ?_
    refine jr_aload_n hE dX12_plain_28 0 rfl ?_
    refine jr_get hE dX12_plain_29 f185 M6.ob rfl ?_
    refine jr_aload_n hE dX12_plain_32 0 rfl ?_
    refine jr_get hE dX12_plain_33 f182 M6.ob rfl ?_
    refine jr_aload_n hE dX12_plain_36 0 rfl ?_
    refine jr_get hE dX12_plain_37 f182 M6.ob rfl ?_
    refine jr_iconst (v := (0 : Int32)) hE dX12_plain_40 (by decide) ?_
    refine jr_kVv (ci := 12) (n := 4) (As := [.ref (a 43), .ref (a 42), .ref (a 42), .int (0 : Int32)]) (rest := []) hE dX12_plain_41 (fun l => c_m_times l G o a v nM6 g w 43 42 42 (z ^ cLT % PP) (z ^ cLT % PP) false) gX12_plain_X12_times rfl M6.ob rfl (by decide +kernel) ⟨rfl, rfl, by decide, by decide⟩ (by decide) rfl rfl (Nat.le_of_ble_eq_true rfl) (⟨M6, KM6, (by decide), (by decide), (by decide), zM6, zM6⟩) (fun F7 q8 => ?_)
    obtain ⟨M9, PM9⟩ := q8
    have M9 : MW G L F7 o a v (uz nM6 43 (some (fm (z ^ cLT % PP) (z ^ cLT % PP)))) g w := M9
    have OM9 := OM6.tr PM9
    refine jr_aload_n hE dX12_plain_44 0 rfl ?_
    refine jr_aload_n hE dX12_plain_45 0 rfl ?_
    refine jr_get hE dX12_plain_46 f167 M9.ob rfl ?_
    refine jr_aload_n hE dX12_plain_49 0 rfl ?_
    refine jr_get hE dX12_plain_50 f167 M9.ob rfl ?_
    refine jr_aload_n hE dX12_plain_53 0 rfl ?_
    refine jr_get hE dX12_plain_54 f185 M9.ob rfl ?_
    refine jr_iconst (v := (0 : Int32)) hE dX12_plain_57 (by decide) ?_
    refine jr_kVv (ci := 12) (n := 4) (As := [.ref (a 37), .ref (a 37), .ref (a 43), .int (0 : Int32)]) (rest := []) hE dX12_plain_58 (fun l => c_m_times l G o a v (uz nM6 43 (some (fm (z ^ cLT % PP) (z ^ cLT % PP)))) g w 37 37 43 x (fm (z ^ cLT % PP) (z ^ cLT % PP)) false) gX12_plain_X12_times rfl M9.ob rfl (by decide +kernel) ⟨rfl, rfl, by decide, by decide⟩ (by decide) rfl rfl (Nat.le_of_ble_eq_true rfl) (⟨M9, KM6, (by decide), (by decide), (by decide), hM6_37, rfl⟩) (fun F10 q11 => ?_)
    obtain ⟨M12, PM12⟩ := q11
    have M12 : MW G L F10 o a v (uz (uz nM6 43 (some (fm (z ^ cLT % PP) (z ^ cLT % PP)))) 37 (some (fm x (fm (z ^ cLT % PP) (z ^ cLT % PP))))) g w := M12
    have OM12 := OM9.tr PM12
    refine jr_aload_n hE dX12_plain_61 0 rfl ?_
    refine jr_aload_n hE dX12_plain_62 0 rfl ?_
    refine jr_get hE dX12_plain_63 f185 M12.ob rfl ?_
    refine jr_aload_n hE dX12_plain_66 0 rfl ?_
    refine jr_get hE dX12_plain_67 f185 M12.ob rfl ?_
    refine jr_aload_n hE dX12_plain_70 0 rfl ?_
    refine jr_get hE dX12_plain_71 f182 M12.ob rfl ?_
    refine jr_iconst (v := (0 : Int32)) hE dX12_plain_74 (by decide) ?_
    refine jr_kVv (ci := 12) (n := 4) (As := [.ref (a 43), .ref (a 43), .ref (a 42), .int (0 : Int32)]) (rest := []) hE dX12_plain_75 (fun l => c_m_times l G o a v (uz (uz nM6 43 (some (fm (z ^ cLT % PP) (z ^ cLT % PP)))) 37 (some (fm x (fm (z ^ cLT % PP) (z ^ cLT % PP))))) g w 43 43 42 (fm (z ^ cLT % PP) (z ^ cLT % PP)) (z ^ cLT % PP) false) gX12_plain_X12_times rfl M12.ob rfl (by decide +kernel) ⟨rfl, rfl, by decide, by decide⟩ (by decide) rfl rfl (Nat.le_of_ble_eq_true rfl) (⟨M12, KM6, (by decide), (by decide), (by decide), rfl, zM6⟩) (fun F13 q14 => ?_)
    obtain ⟨M15, PM15⟩ := q14
    have M15 : MW G L F13 o a v (uz (uz (uz nM6 43 (some (fm (z ^ cLT % PP) (z ^ cLT % PP)))) 37 (some (fm x (fm (z ^ cLT % PP) (z ^ cLT % PP))))) 43 (some (fm (fm (z ^ cLT % PP) (z ^ cLT % PP)) (z ^ cLT % PP)))) g w := M15
    have OM15 := OM12.tr PM15
    refine jr_aload_n hE dX12_plain_78 0 rfl ?_
    refine jr_aload_n hE dX12_plain_79 0 rfl ?_
    refine jr_get hE dX12_plain_80 f170 M15.ob rfl ?_
    refine jr_aload_n hE dX12_plain_83 0 rfl ?_
    refine jr_get hE dX12_plain_84 f170 M15.ob rfl ?_
    refine jr_aload_n hE dX12_plain_87 0 rfl ?_
    refine jr_get hE dX12_plain_88 f185 M15.ob rfl ?_
    refine jr_iconst (v := (0 : Int32)) hE dX12_plain_91 (by decide) ?_
    refine jr_kVv (ci := 12) (n := 4) (As := [.ref (a 38), .ref (a 38), .ref (a 43), .int (0 : Int32)]) (rest := []) hE dX12_plain_92 (fun l => c_m_times l G o a v (uz (uz (uz nM6 43 (some (fm (z ^ cLT % PP) (z ^ cLT % PP)))) 37 (some (fm x (fm (z ^ cLT % PP) (z ^ cLT % PP))))) 43 (some (fm (fm (z ^ cLT % PP) (z ^ cLT % PP)) (z ^ cLT % PP)))) g w 38 38 43 y (fm (fm (z ^ cLT % PP) (z ^ cLT % PP)) (z ^ cLT % PP)) false) gX12_plain_X12_times rfl M15.ob rfl (by decide +kernel) ⟨rfl, rfl, by decide, by decide⟩ (by decide) rfl rfl (Nat.le_of_ble_eq_true rfl) (⟨M15, KM6, (by decide), (by decide), (by decide), hM6_38, rfl⟩) (fun F16 q17 => ?_)
    obtain ⟨M18, PM18⟩ := q17
    have M18 : MW G L F16 o a v (uz (uz (uz (uz nM6 43 (some (fm (z ^ cLT % PP) (z ^ cLT % PP)))) 37 (some (fm x (fm (z ^ cLT % PP) (z ^ cLT % PP))))) 43 (some (fm (fm (z ^ cLT % PP) (z ^ cLT % PP)) (z ^ cLT % PP)))) 38 (some (fm y (fm (fm (z ^ cLT % PP) (z ^ cLT % PP)) (z ^ cLT % PP))))) g w := M18
    have OM18 := OM15.tr PM18
    refine jr_aload_n hE dX12_plain_95 0 rfl ?_
    refine jr_get hE dX12_plain_96 f173 M18.ob rfl ?_
    refine jr_lconst (v := (1 : Int64)) hE dX12_plain_99 (by decide) ?_
    refine jr_kSv (n := 2) (As := [.ref (a 39), .long (1 : Int64)]) (rest := []) hE dX12_plain_100 (fun l => c_m_small l G o a v (uz (uz (uz (uz nM6 43 (some (fm (z ^ cLT % PP) (z ^ cLT % PP)))) 37 (some (fm x (fm (z ^ cLT % PP) (z ^ cLT % PP))))) 43 (some (fm (fm (z ^ cLT % PP) (z ^ cLT % PP)) (z ^ cLT % PP)))) 38 (some (fm y (fm (fm (z ^ cLT % PP) (z ^ cLT % PP)) (z ^ cLT % PP))))) g w 39 1) gX12_plain_X12_small rfl (by decide +kernel) ⟨rfl, rfl, by decide, by decide⟩ (by decide) rfl rfl (Nat.le_of_ble_eq_true rfl) (⟨M18, (by decide), (by decide)⟩) (fun F19 q20 => ?_)
    obtain ⟨M21, PM21⟩ := q20
    have M21 : MW G L F19 o a v (uz (uz (uz (uz (uz nM6 43 (some (fm (z ^ cLT % PP) (z ^ cLT % PP)))) 37 (some (fm x (fm (z ^ cLT % PP) (z ^ cLT % PP))))) 43 (some (fm (fm (z ^ cLT % PP) (z ^ cLT % PP)) (z ^ cLT % PP)))) 38 (some (fm y (fm (fm (z ^ cLT % PP) (z ^ cLT % PP)) (z ^ cLT % PP))))) 39 (some 1)) g w := M21
    have OM21 := OM18.tr PM21
    exact hR F19 _ _ dX12_plain_103 ⟨_, M21, (fun k hk => ((uz_n _ _ (jne hk 2 rfl)).trans ((uz_n _ _ (jne hk 1 rfl)).trans ((uz_n _ _ (jne hk 4 rfl)).trans ((uz_n _ _ (jne hk 0 rfl)).trans ((uz_n _ _ (jne hk 4 rfl)).trans (hfM6 k (jnsub (V := [42, 35, 36]) hk [3, 5, 6] rfl)))))))), Or.inr ⟨_, _, st_M hr, fm_lt _ _, fm_lt _ _, rfl, rfl, rfl⟩, OM21⟩
  · have hz0 : z = 0 := b2i_1 c7
    have hA0 := (hA.resolve_right (fun e => e.1 hz0)).2
    exact hR F _ _ dX12_plain_10 ⟨n, M0, fun _ _ => rfl, Or.inl ⟨hA0, by rw [hz, hz0]⟩, mO.rf o a F⟩

theorem bit_1 {kv k : Nat} {B : EP} (hB : onE PP B) (h : kv / 2 ^ k % 2 = 1) : eadd PP (eadd PP (emul PP (kv / 2 ^ (k + 1)) B) (emul PP (kv / 2 ^ (k + 1)) B)) B = emul PP (kv / 2 ^ k) B := by
  rw [bit_h (x := kv) (k := k), h, ← emul_add gdP hB, ← Nat.two_mul]
  rfl
theorem bit_0 {kv k : Nat} {B : EP} (hB : onE PP B) (h : ¬ kv / 2 ^ k % 2 = 1) : eadd PP (emul PP (kv / 2 ^ (k + 1)) B) (emul PP (kv / 2 ^ (k + 1)) B) = emul PP (kv / 2 ^ k) B := by
  rw [bit_h (x := kv) (k := k), show kv / 2 ^ k % 2 = 0 by omega, ← emul_add gdP hB, ← Nat.two_mul]
  exact congrArg (fun t => emul PP t B) (Nat.add_zero _).symm
theorem qE.on {n : Nat → Option Nat} {B : EP} (h : qE n B) : onE PP B := by
  obtain ⟨x, y, -, -, hx, hy, rfl, e⟩ := h
  exact ⟨hx, hy, e⟩
theorem qE.fr {n n' : Nat → Option Nat} {B : EP} (h : qE n B) (h0 : n' 40 = n 40) (h1 : n' 41 = n 41) : qE n' B := by
  obtain ⟨x, y, a, b, r⟩ := h
  exact ⟨x, y, h0.trans a, h1.trans b, r⟩

set_option maxHeartbeats 4000000 in
set_option maxRecDepth 100000 in
theorem c_m_multiply (l : Launch) (G : Nat → ClassId) (o : Nat) (a : Nat → Nat) (v : Nat → Int32) (n : Nat → Option Nat) (g : Nat → Nat → Int64) (w : Nat → Nat → Int32) (kb kv : Nat) (B : EP) : jKv l yX12_multiply wsX12_multiply ({ frames := 6, cells := 0, slots := 0, locals := 150 }) G [.ref o, .ref (a kb)] (fun L F => MW G L F o a v n g w ∧ mK n g ∧ n 4 = some cLT ∧ l8 kb ∧ kb ∉ [37, 38, 39, 42, 43, 44, 45, 46, 47, 34, 35, 36] ∧ n kb = some kv ∧ qE n B) (fun L F F1 => ∃ n', MW G L F1 o a v n' g w ∧ (∀ k, k ∉ [37, 38, 39, 42, 43, 44, 45, 46, 47, 34, 35, 36] → n' k = n k) ∧ pS n' (emul PP kv B) ∧ mO o a F F1) := by
  refine jm_kv (cc := cX12_multiply) (maxL := 3) (by decide) rfl (Nat.le_of_ble_eq_true rfl) ?_
  intro E L F hE hR hpre
  have hE : jOk E G _ cX12_multiply 3 RX12 wsX12_multiply := hE

  have f173 : jFl RX12 wsX12_multiply 173 12 39 := ⟨rfl, by decide, by decide +kernel, by decide +kernel⟩
  obtain ⟨M0, hK, h4, hkb, hkb2, hkv, hq⟩ := hpre
  have hel := M0.lt hkv
  have hB := hq.on
  have loop : ∀ (k : Nat), k ≤ 256 → ∀ (F2 : Nat → va_E) (n2 : Nat → Option Nat), MW G L F2 o a v n2 g w → (∀ j, j ∉ [37, 38, 39, 42, 43, 44, 45, 46, 47, 34] → n2 j = n j) → pJ n2 (emul PP (kv / 2 ^ k) B) → mO o a F F2 → J E L F2 0 0 12 [(2, .int (nI k - 1)), (0, .ref o), (1, .ref (a kb))] [] := by
    intro k
    induction k with
    | zero =>
      intro hk F2 n2 M2 hf hA O
      have hK2 : mK n2 g := hK.fr (hf 0 (by decide)) (hf 1 (by decide)) (hf 32 (by decide)) (hf 33 (by decide))
      refine jr_iload_n hE dX12_multiply_12 0 rfl ?_
      refine jr_if_lt (tgt := 47) hE dX12_multiply_13 (by decide) (fun c_13 => ?_) (fun c_13 => absurd (by decide) c_13)
      refine jr_aload_n hE dX12_multiply_47 1 rfl ?_
      refine jr_kVv (ci := 12) (n := 0) (As := []) (rest := []) hE dX12_multiply_48 (fun l => c_m_plain l G o a v n2 g w (emul PP kv B)) gX12_multiply_X12_plain rfl M2.ob rfl (by decide +kernel) ⟨rfl, rfl, by decide, by decide⟩ (by decide) rfl rfl (Nat.le_of_ble_eq_true rfl) (⟨M2, hK2, (hf 4 (by decide)).trans h4, by rw [Nat.pow_zero, Nat.div_one] at hA; exact hA⟩) (fun F1 q2 => ?_)
      obtain ⟨n9, M9, hf9, p9, O9⟩ := q2
      exact hR F1 _ _ dX12_multiply_51 ⟨n9, M9, fun k hk => (hf9 k (jnsub (V := [37, 38, 39, 42, 43, 35, 36]) hk [0, 1, 2, 3, 4, 10, 11] rfl)).trans (hf k (jnsub (V := [37, 38, 39, 42, 43, 44, 45, 46, 47, 34]) hk [0, 1, 2, 3, 4, 5, 6, 7, 8, 9] rfl)), p9, O.tr O9⟩
    | succ k ih =>
      intro hk0 F2 n2 M2 hf hA O
      have hk : k < 256 := hk0
      have hK2 : mK n2 g := hK.fr (hf 0 (by decide)) (hf 1 (by decide)) (hf 32 (by decide)) (hf 33 (by decide))
      rw [nI_pred]
      refine jr_iload_n hE dX12_multiply_12 0 rfl ?_
      refine jr_if_lt (tgt := 47) hE dX12_multiply_13 (by decide) (fun c_13 => absurd c_13 (nI_pos (by omega))) (fun c_13 => ?_)
      refine jr_aload_n hE dX12_multiply_16 1 rfl ?_
      refine jr_kVv (ci := 12) (n := 0) (As := []) (rest := []) hE dX12_multiply_17 (fun l => c_m_twice l G o a v n2 g w _) gX12_multiply_X12_twice rfl M2.ob rfl (by decide +kernel) ⟨rfl, rfl, by decide, by decide⟩ (by decide) rfl rfl (Nat.le_of_ble_eq_true rfl) (⟨M2, hK2, hA⟩) (fun F1 q2 => ?_)
      obtain ⟨n3, M3, hf3, p3, O3'⟩ := q2
      have O3 := O.tr O3'
      have hK3 : mK n3 g := hK2.fr (hf3 0 (by decide)) (hf3 1 (by decide)) (hf3 32 (by decide)) (hf3 33 (by decide))
      have hkv3 : n3 kb = some kv := (hf3 kb (jnsub (V := [37, 38, 39, 42, 43, 44, 45, 46, 47, 34]) hkb2 [0, 1, 2, 3, 4, 5, 6, 7, 8, 9] rfl)).trans ((hf kb (jnsub (V := [37, 38, 39, 42, 43, 44, 45, 46, 47, 34]) hkb2 [0, 1, 2, 3, 4, 5, 6, 7, 8, 9] rfl)).trans hkv)
      refine jr_aload_n hE dX12_multiply_20 2 rfl ?_
      refine jr_iload_n hE dX12_multiply_21 0 rfl ?_
      refine jr_iconst (v := (5 : Int32)) hE dX12_multiply_22 (by decide) ?_
      refine jr_ishr (z := nI (k / 32)) hE dX12_multiply_23 (k5 k hk) ?_
      obtain ⟨f3, jf3, ef3⟩ := M3.ld (k := kb) hkb (x := kv) hkv3
      refine jr_lald (v := lN (kv / 2 ^ (32 * (k / 32)) % 2 ^ 32)) hE dX12_multiply_24 jf3 (vp_in_nI (n := k / 32) (by omega) (by omega)) (by rw [nI_clamp (by omega)]; exact ef3 (k / 32) (by omega)) ?_
      refine jr_iload_n hE dX12_multiply_25 0 rfl ?_
      refine jr_bipush (v := (31 : Int32)) hE dX12_multiply_26 (by decide) ?_
      refine jr_iand (z := nI (k % 32)) hE dX12_multiply_28 (k31 k hk) ?_
      refine jr_lshr (z := lN ((kv / 2 ^ (32 * (k / 32)) % 2 ^ 32) / 2 ^ (k % 32))) hE dX12_multiply_29 (wb_sar (Nat.lt_trans (Nat.mod_lt _ (Nat.two_pow_pos 32)) (by decide)) (by omega)) ?_
      refine jr_lconst (v := (1 : Int64)) hE dX12_multiply_30 (by decide) ?_
      refine jr_land (z := lN ((kv / 2 ^ (32 * (k / 32)) % 2 ^ 32) / 2 ^ (k % 32) % 2)) hE dX12_multiply_31 (wb_a1 (Nat.lt_of_le_of_lt (Nat.div_le_self _ _) (Nat.lt_trans (Nat.mod_lt _ (Nat.two_pow_pos 32)) (by decide)))) ?_
      refine jr_lconst (v := (1 : Int64)) hE dX12_multiply_32 (by decide) ?_
      refine jr_lcmp hE dX12_multiply_33 ?_
      refine jr_if_ne (tgt := 41) hE dX12_multiply_34 (by decide) (fun c34 => ?_) (fun c34 => ?_)
      · refine jr_iinc (v := nI k - 1) (lv' := [(2, .int (nI k - 1)), (0, .ref o), (1, .ref (a kb))]) hE dX12_multiply_41 0 rfl (im1 _) (by decide) rfl ?_
        refine jr_goto (tgt := 12) hE dX12_multiply_44 (by decide) ?_
        refine jr_lv (lv' := [(2, .int (nI k - 1)), (0, .ref o), (1, .ref (a kb))]) [0, 1, 2] rfl ?_
        exact ih (by omega) F1 n3 M3 (fun j hj => (hf3 j hj).trans (hf j hj)) (by rw [← bit_0 hB (fun q => c34 ((cmp0 (b := 1) (by omega) (by decide)).mpr (bit_d.trans q)))]; exact p3) O3
      · refine jr_aload_n hE dX12_multiply_37 1 rfl ?_
        refine jr_kVv (ci := 12) (n := 0) (As := []) (rest := []) hE dX12_multiply_38 (fun l => c_m_plus l G o a v n3 g w _ B) gX12_multiply_X12_plus rfl M3.ob rfl (by decide +kernel) ⟨rfl, rfl, by decide, by decide⟩ (by decide) rfl rfl (Nat.le_of_ble_eq_true rfl) (⟨M3, hK3, p3, hq.fr ((hf3 40 (by decide)).trans (hf 40 (by decide))) ((hf3 41 (by decide)).trans (hf 41 (by decide)))⟩) (fun F4 q5 => ?_)
        obtain ⟨n4, M4, hf4, p4, O4'⟩ := q5
        have O4 := O3.tr O4'
        refine jr_iinc (v := nI k - 1) (lv' := [(2, .int (nI k - 1)), (0, .ref o), (1, .ref (a kb))]) hE dX12_multiply_41 0 rfl (im1 _) (by decide) rfl ?_
        refine jr_goto (tgt := 12) hE dX12_multiply_44 (by decide) ?_
        refine jr_lv (lv' := [(2, .int (nI k - 1)), (0, .ref o), (1, .ref (a kb))]) [0, 1, 2] rfl ?_
        exact ih (by omega) F4 n4 M4 (fun j hj => (hf4 j hj).trans ((hf3 j hj).trans (hf j hj))) (by rw [← bit_1 hB (bit_d.symm.trans ((cmp0 (b := 1) (by omega) (by decide)).mp c34))]; exact p4) O4
  refine jr_aload_n hE dX12_multiply_0 0 rfl ?_
  refine jr_get hE dX12_multiply_1 f173 M0.ob rfl ?_
  refine jr_lconst (v := (0 : Int64)) hE dX12_multiply_4 (by decide) ?_
  refine jr_kSv (n := 2) (As := [.ref (a 39), .long (0 : Int64)]) (rest := []) hE dX12_multiply_5 (fun l => c_m_small l G o a v n g w 39 0) gX12_multiply_X12_small rfl (by decide +kernel) ⟨rfl, rfl, by decide, by decide⟩ (by decide) rfl rfl (Nat.le_of_ble_eq_true rfl) (⟨M0, (by decide), (by decide)⟩) (fun F1 q2 => ?_)
  obtain ⟨M3, PM3⟩ := q2
  have M3 : MW G L F1 o a v (uz n 39 (some 0)) g w := M3
  have OM3 := (mO.rf o a F).tr PM3
  refine jr_sipush (v := (255 : Int32)) hE dX12_multiply_8 (by decide) ?_
  refine jr_istore_n (lv' := [(2, .int (255 : Int32)), (0, .ref o), (1, .ref (a kb))]) hE dX12_multiply_11 (by decide) rfl ?_
  refine jr_lv (lv' := [(2, .int (255 : Int32)), (0, .ref o), (1, .ref (a kb))]) [0, 1, 2] rfl ?_
  exact loop 256 (Nat.le_refl _) F1 _ M3 (fun k hk => (uz_n _ _ (jne hk 2 rfl))) (by rw [Nat.div_eq_of_lt hel]; exact ⟨0, rfl, PP0, Or.inl ⟨rfl, rfl⟩⟩) OM3

set_option maxHeartbeats 4000000 in
set_option maxRecDepth 100000 in
theorem c_m_generator (l : Launch) (G : Nat → ClassId) (o : Nat) (a : Nat → Nat) (v : Nat → Int32) (n : Nat → Option Nat) (g : Nat → Nat → Int64) (w : Nat → Nat → Int32) : jKv l yX12_generator wsX12_generator ({ frames := 1, cells := 0, slots := 0, locals := 22 }) G [.ref o] (fun L F => MW G L F o a v n g w ∧ mC n) (fun L F F1 => ∃ n', MW G L F1 o a v n' g w ∧ (∀ k, k ∉ [40, 41] → n' k = n k) ∧ qE n' GE ∧ mO o a F F1) := by
  refine jm_kv (cc := cX12_generator) (maxL := 1) (by decide) rfl (Nat.le_of_ble_eq_true rfl) ?_
  intro E L F hE hR hpre
  have hE : jOk E G _ cX12_generator 1 RX12 wsX12_generator := hE
  obtain ⟨M0, hC⟩ := hpre
  have f176 : jFl RX12 wsX12_generator 176 12 40 := ⟨rfl, by decide, by decide +kernel, by decide +kernel⟩
  have f74 : jFl RX12 wsX12_generator 74 12 6 := ⟨rfl, by decide, by decide +kernel, by decide +kernel⟩
  have f179 : jFl RX12 wsX12_generator 179 12 41 := ⟨rfl, by decide, by decide +kernel, by decide +kernel⟩
  have f93 : jFl RX12 wsX12_generator 93 12 7 := ⟨rfl, by decide, by decide +kernel, by decide +kernel⟩
  refine jr_aload_n hE dX12_generator_0 0 rfl ?_
  refine jr_get hE dX12_generator_1 f176 M0.ob rfl ?_
  refine jr_aload_n hE dX12_generator_4 0 rfl ?_
  refine jr_get hE dX12_generator_5 f74 M0.ob rfl ?_
  refine jr_kSv (n := 2) (As := [.ref (a 40), .ref (a 6)]) (rest := []) hE dX12_generator_8 (fun l => c_m_set l G o a v n g w 40 6) gX12_generator_X12_set rfl (by decide +kernel) ⟨rfl, rfl, by decide, by decide⟩ (by decide) rfl rfl (Nat.le_of_ble_eq_true rfl) (⟨M0, (by decide), (by decide)⟩) (fun F1 q2 => ?_)
  obtain ⟨M3, PM3⟩ := q2
  rw [show n 6 = some gX from hC.2.2.1] at M3
  have OM3 := (mO.rf o a F).tr PM3
  refine jr_aload_n hE dX12_generator_11 0 rfl ?_
  refine jr_get hE dX12_generator_12 f179 M3.ob rfl ?_
  refine jr_aload_n hE dX12_generator_15 0 rfl ?_
  refine jr_get hE dX12_generator_16 f93 M3.ob rfl ?_
  refine jr_kSv (n := 2) (As := [.ref (a 41), .ref (a 7)]) (rest := []) hE dX12_generator_19 (fun l => c_m_set l G o a v (uz n 40 (some gX)) g w 41 7) gX12_generator_X12_set rfl (by decide +kernel) ⟨rfl, rfl, by decide, by decide⟩ (by decide) rfl rfl (Nat.le_of_ble_eq_true rfl) (⟨M3, (by decide), (by decide)⟩) (fun F4 q5 => ?_)
  obtain ⟨M6, PM6⟩ := q5
  rw [show (uz n 40 (some gX)) 7 = some gY from hC.2.2.2.1] at M6
  have OM6 := OM3.tr PM6
  exact hR F4 _ _ dX12_generator_22 ⟨_, M6, (fun k hk => ((uz_n _ _ (jne hk 1 rfl)).trans (uz_n _ _ (jne hk 0 rfl)))), ⟨gX, gY, rfl, rfl, gX_lt, gY_lt, rfl, gE⟩, OM6⟩

set_option maxHeartbeats 4000000 in
set_option maxRecDepth 100000 in
theorem c_m_turnIn (l : Launch) (G : Nat → ClassId) (o : Nat) (a : Nat → Nat) (v : Nat → Int32) (n : Nat → Option Nat) (g : Nat → Nat → Int64) (w : Nat → Nat → Int32) (x y : Nat) : jKv l yX12_turnIn wsX12_turnIn ({ frames := 1, cells := 0, slots := 0, locals := 22 }) G [.ref o] (fun L F => MW G L F o a v n g w ∧ n 37 = some x ∧ n 38 = some y ∧ onE PP (some (x, y))) (fun L F F1 => ∃ n', MW G L F1 o a v n' g w ∧ (∀ k, k ∉ [40, 41] → n' k = n k) ∧ qE n' (some (x, y)) ∧ mO o a F F1) := by
  refine jm_kv (cc := cX12_turnIn) (maxL := 1) (by decide) rfl (Nat.le_of_ble_eq_true rfl) ?_
  intro E L F hE hR hpre
  have hE : jOk E G _ cX12_turnIn 1 RX12 wsX12_turnIn := hE
  obtain ⟨M0, hx, hy, hE1⟩ := hpre
  have f176 : jFl RX12 wsX12_turnIn 176 12 40 := ⟨rfl, by decide, by decide +kernel, by decide +kernel⟩
  have f167 : jFl RX12 wsX12_turnIn 167 12 37 := ⟨rfl, by decide, by decide +kernel, by decide +kernel⟩
  have f179 : jFl RX12 wsX12_turnIn 179 12 41 := ⟨rfl, by decide, by decide +kernel, by decide +kernel⟩
  have f170 : jFl RX12 wsX12_turnIn 170 12 38 := ⟨rfl, by decide, by decide +kernel, by decide +kernel⟩
  refine jr_aload_n hE dX12_turnIn_0 0 rfl ?_
  refine jr_get hE dX12_turnIn_1 f176 M0.ob rfl ?_
  refine jr_aload_n hE dX12_turnIn_4 0 rfl ?_
  refine jr_get hE dX12_turnIn_5 f167 M0.ob rfl ?_
  refine jr_kSv (n := 2) (As := [.ref (a 40), .ref (a 37)]) (rest := []) hE dX12_turnIn_8 (fun l => c_m_set l G o a v n g w 40 37) gX12_turnIn_X12_set rfl (by decide +kernel) ⟨rfl, rfl, by decide, by decide⟩ (by decide) rfl rfl (Nat.le_of_ble_eq_true rfl) (⟨M0, (by decide), (by decide)⟩) (fun F1 q2 => ?_)
  obtain ⟨M3, PM3⟩ := q2
  rw [show n 37 = some x from hx] at M3
  have OM3 := (mO.rf o a F).tr PM3
  refine jr_aload_n hE dX12_turnIn_11 0 rfl ?_
  refine jr_get hE dX12_turnIn_12 f179 M3.ob rfl ?_
  refine jr_aload_n hE dX12_turnIn_15 0 rfl ?_
  refine jr_get hE dX12_turnIn_16 f170 M3.ob rfl ?_
  refine jr_kSv (n := 2) (As := [.ref (a 41), .ref (a 38)]) (rest := []) hE dX12_turnIn_19 (fun l => c_m_set l G o a v (uz n 40 (some x)) g w 41 38) gX12_turnIn_X12_set rfl (by decide +kernel) ⟨rfl, rfl, by decide, by decide⟩ (by decide) rfl rfl (Nat.le_of_ble_eq_true rfl) (⟨M3, (by decide), (by decide)⟩) (fun F4 q5 => ?_)
  obtain ⟨M6, PM6⟩ := q5
  rw [show (uz n 40 (some x)) 38 = some y from hy] at M6
  have OM6 := OM3.tr PM6
  exact hR F4 _ _ dX12_turnIn_22 ⟨_, M6, (fun k hk => ((uz_n _ _ (jne hk 1 rfl)).trans (uz_n _ _ (jne hk 0 rfl)))), ⟨x, y, rfl, rfl, hE1.1, hE1.2.1, rfl, hE1.2.2⟩, OM6⟩

set_option maxHeartbeats 4000000 in
set_option maxRecDepth 100000 in
theorem c_m_negateQ (l : Launch) (G : Nat → ClassId) (o : Nat) (a : Nat → Nat) (v : Nat → Int32) (n : Nat → Option Nat) (g : Nat → Nat → Int64) (w : Nat → Nat → Int32) (y : Nat) : jKv l yX12_negateQ wsX12_negateQ ({ frames := 1, cells := 0, slots := 0, locals := 27 }) G [.ref o] (fun L F => MW G L F o a v n g w ∧ mK n g ∧ n 41 = some y ∧ y < PP) (fun L F F1 => ∃ n', MW G L F1 o a v n' g w ∧ (∀ k, k ∉ [41] → n' k = n k) ∧ n' 41 = some (fk (-1) y) ∧ mO o a F F1) := by
  refine jm_kv (cc := cX12_negateQ) (maxL := 1) (by decide) rfl (Nat.le_of_ble_eq_true rfl) ?_
  intro E L F hE hR hpre
  have hE : jOk E G _ cX12_negateQ 1 RX12 wsX12_negateQ := hE
  obtain ⟨M0, hK, hy, hyl⟩ := hpre
  have f179 : jFl RX12 wsX12_negateQ 179 12 41 := ⟨rfl, by decide, by decide +kernel, by decide +kernel⟩
  have f15 : jFl RX12 wsX12_negateQ 15 12 0 := ⟨rfl, by decide, by decide +kernel, by decide +kernel⟩
  refine jr_aload_n hE dX12_negateQ_0 0 rfl ?_
  refine jr_get hE dX12_negateQ_1 f179 M0.ob rfl ?_
  refine jr_kSi (n := 1) (As := [.ref (a 41)]) (rest := []) hE dX12_negateQ_4 (fun l => c_m_isNull l G o a v n g w 41 y) gX12_negateQ_X12_isNull rfl (by decide +kernel) ⟨rfl, rfl, by decide, by decide⟩ (by decide) rfl rfl (Nat.le_of_ble_eq_true rfl) (⟨M0, (by decide), hy⟩) (fun r3 F1 q2 => ?_)
  obtain ⟨eq2, rq2⟩ := q2
  subst eq2 rq2
  refine jr_if_ne (tgt := 25) hE dX12_negateQ_7 (by decide) (fun c7 => ?_) (fun c7 => ?_)
  · exact hR F _ _ dX12_negateQ_25 ⟨n, M0, fun _ _ => rfl, by rw [hy, fk_neg hyl, if_pos (b2i_1 c7), b2i_1 c7], mO.rf o a F⟩
  · have hy0 : y ≠ 0 := fun e => by
      rw [b2i_t e] at c7
      exact absurd c7 (by decide)
    refine jr_aload_n hE dX12_negateQ_10 0 rfl ?_
    refine jr_get hE dX12_negateQ_11 f179 M0.ob rfl ?_
    refine jr_aload_n hE dX12_negateQ_14 0 rfl ?_
    refine jr_get hE dX12_negateQ_15 f15 M0.ob rfl ?_
    refine jr_aload_n hE dX12_negateQ_18 0 rfl ?_
    refine jr_get hE dX12_negateQ_19 f179 M0.ob rfl ?_
    refine jr_kSv (n := 3) (As := [.ref (a 41), .ref (a 0), .ref (a 41)]) (rest := []) hE dX12_negateQ_22 (fun l => c_m_take l G o a v n g w 41 0 41 PP y) gX12_negateQ_X12_take rfl (by decide +kernel) ⟨rfl, rfl, by decide, by decide⟩ (by decide) rfl rfl (Nat.le_of_ble_eq_true rfl) (⟨M0, (by decide), (by decide), (by decide), hK.1, hy⟩) (fun F4 q5 => ?_)
    obtain ⟨M6, PM6⟩ := q5
    rw [show (PP + 2 ^ 256 - y) % 2 ^ 256 = PP - y from (neg_tk hy0 hyl (pq_lt false))] at M6
    have OM6 := (mO.rf o a F).tr PM6
    exact hR F4 _ _ dX12_negateQ_25 ⟨_, M6, (fun k hk => (uz_n _ _ (jne hk 0 rfl))), by rw [fk_neg hyl, if_neg hy0]; rfl, OM6⟩

