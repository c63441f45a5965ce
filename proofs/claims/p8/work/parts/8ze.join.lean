/-! THE REFERENCE'S joint key -/
theorem MW.lr {G : Nat → ClassId} {L : List Nat} {F : Nat → va_E} {o : Nat} {a : Nat → Nat} {v : Nat → Int32} {n : Nat → Option Nat} {g : Nat → Nat → Int64} {w : Nat → Nat → Int32} (M : MW G L F o a v n g w) {k : Nat} (hk : l8 k) : ∃ f, jF L F (a k) (.inl (G 2, 8, .inr (.inl f))) ∧ ∀ x, n k = some x → ∀ i, i < 8 → f i = lN (x / 2 ^ (32 * i) % 2 ^ 32) := by
  obtain ⟨s, H, hn, hg⟩ := M
  exact ⟨s k, H.L hk, fun x h => (hn k x h).dig⟩
/-- a signer's point, by its 33 bytes -/
abbrev fK (f : Nat → Int32) (j : Nat) : Nat := bt f (33 * j)
abbrev vK (f : Nat → Int32) (j : Nat) : Nat := bnum (bl f (33 * j + 1) 32)
def pK (f : Nat → Int32) (j : Nat) : EP := rdE (fK f j) (vK f j)
noncomputable def wK (f : Nat → Int32) (sg j : Nat) : Nat := wgt (fun j => bl f (33 * j) 33) sg j (bnum (sha (sha (tgb 4) ++ sha (tgb 4) ++ sha (sha (tgb 3) ++ sha (tgb 3) ++ bl f 0 (33 * sg)) ++ bl f (33 * j) 33)) % NN)
/-- the sum of weights times points, of the first k signers -/
noncomputable def qS (f : Nat → Int32) (sg : Nat) : Nat → EP
  | 0 => none
  | k + 1 => eadd PP (qS f sg k) (emul PP (wK f sg k) (pK f k))
theorem rd_on {fb V : Nat} (h : rdX fb V) : onE PP (rdE fb V) := (rep_rd h).onE
theorem qS_on {f : Nat → Int32} {sg : Nat} (h : ∀ j, j < sg → rdX (fK f j) (vK f j)) : ∀ k, k ≤ sg → onE PP (qS f sg k)
  | 0, _ => trivial
  | k + 1, hk => onE_add gdP (qS_on h k (by omega)) (onE_mul gdP (rd_on (h k (by omega))) _)
theorem w_lt (f : Nat → Int32) (sg j : Nat) : wK f sg j < 2 ^ 256 := by
  unfold wK wgt
  split
  · decide
  · exact Nat.lt_trans (Nat.mod_lt _ NN0) NN_256
theorem bB1 {f : Nat → Int32} {n s m : Nat} (h : bB f 0 n) (hs : s + m ≤ n) : bB f s m := fun t ht => by
  have := h (s + t) (by omega)
  rwa [Nat.zero_add] at this

set_option maxHeartbeats 4000000 in
set_option maxRecDepth 100000 in
theorem c_m_join (l : Launch) (G : Nat → ClassId) (o : Nat) (a : Nat → Nat) (v : Nat → Int32) (n : Nat → Option Nat) (g : Nat → Nat → Int64) (w : Nat → Nat → Int32) (wk sg : Nat) : jKi l yX12_join wsX12_join ({ frames := 7, cells := 0, slots := 0, locals := 172 }) G [.ref o] (fun L F => MW G L F o a v n g w ∧ mK n g ∧ mC n ∧ tgOK w ∧ rdOK w ∧ v 31 = nI wk ∧ v 16 = nI sg ∧ sg ≤ 4 ∧ bB (w 17) 0 (33 * sg) ∧ (∀ j, j < sg → rdX (fK (w 17) j) (vK (w 17) j))) (fun L F r F1 => ∃ n' v' w', MW G L F1 o a v' n' g w' ∧ (∀ k, k ∉ [34, 35, 36, 37, 38, 39, 40, 41, 42, 43, 44, 45, 46, 47, 49, 68, 69, 70, 76, 77] → n' k = n k) ∧ v' 31 = nI (wk + sg) ∧ (∀ k, k ≠ 31 → k ≠ 57 → k ≠ 78 → v' k = v k) ∧ (∀ z, nin7 z → w' z = w z) ∧ sS n' (qS (w 17) sg sg) ∧ n' 77 = n' 68 ∧ (∀ x y, qS (w 17) sg sg = some (x, y) → v' 78 = b2i (y % 2 = 1)) ∧ r = b2i (qS (w 17) sg sg ≠ none) ∧ mO o a F F1) := by
  refine jm_ki (cc := cX12_join) (maxL := 3) (rt := .boolean) (by decide) rfl (Nat.le_of_ble_eq_true rfl) ?_
  intro E L F hE hR hpre
  have hE : jOk E G _ cX12_join 3 RX12 wsX12_join := hE

  have f478 : jFl RX12 wsX12_join 478 12 31 := ⟨rfl, by decide, by decide +kernel, by decide +kernel⟩
  have f533 : jFl RX12 wsX12_join 533 12 16 := ⟨rfl, by decide, by decide +kernel, by decide +kernel⟩
  have f347 : jFl RX12 wsX12_join 347 12 76 := ⟨rfl, by decide, by decide +kernel, by decide +kernel⟩
  have f118 : jFl RX12 wsX12_join 118 12 17 := ⟨rfl, by decide, by decide +kernel, by decide +kernel⟩
  have f350 : jFl RX12 wsX12_join 350 12 77 := ⟨rfl, by decide, by decide +kernel, by decide +kernel⟩
  have f323 : jFl RX12 wsX12_join 323 12 68 := ⟨rfl, by decide, by decide +kernel, by decide +kernel⟩
  have f326 : jFl RX12 wsX12_join 326 12 69 := ⟨rfl, by decide, by decide +kernel, by decide +kernel⟩
  have f552 : jFl RX12 wsX12_join 552 12 78 := ⟨rfl, by decide, by decide +kernel, by decide +kernel⟩
  have f329 : jFl RX12 wsX12_join 329 12 70 := ⟨rfl, by decide, by decide +kernel, by decide +kernel⟩
  obtain ⟨M0, hK, hC, htg, hrd, hwk, hsg, hs4, hB, hrdx⟩ := hpre
  have loop : ∀ (r0 j : Nat) (F2 : Nat → va_E) (n2 : Nat → Option Nat) (v2 : Nat → Int32) (w2 : Nat → Nat → Int32), j + r0 = sg → MW G L F2 o a v2 n2 g w2 → (∀ k, k ∉ [34, 35, 36, 37, 38, 39, 40, 41, 42, 43, 44, 45, 46, 47, 49, 68, 69, 70, 76, 77] → n2 k = n k) → v2 31 = nI (wk + sg) → (∀ k, k ≠ 31 → k ≠ 57 → v2 k = v k) → (∀ z, nin7 z → w2 z = w z) → sS n2 (qS (w 17) sg j) → mO o a F F2 → J E L F2 0 0 19 [(1, .int (nI j)), (0, .ref o)] [] := by
    intro r0
    induction r0 with
    | zero =>
      intro j F2 n2 v2 w2 hj M2 hf2 hw31 hv2 hw2 hs2 O
      have hs16 : v2 16 = nI sg := (hv2 16 (by decide) (by decide)).trans hsg
      rw [show j = sg by omega] at hs2
      rcases id hs2 with ⟨hQ, h70⟩ | ⟨x, y, hQ, hx, hy, h68, h69, h70⟩
      · have hz := 0
        refine jr_iload_n hE dX12_join_19 0 rfl ?_
        refine jr_aload_n hE dX12_join_20 1 rfl ?_
        refine jr_get hE dX12_join_21 f533 M2.ob rfl ?_
        rw [hs16]
        refine jr_icmp_ge (tgt := 67) hE dX12_join_24 (by decide) (fun c_24 => ?_) (fun c_24 => absurd (nI_le (by omega) (by omega)) c_24)
        refine jr_aload_n hE dX12_join_67 1 rfl ?_
        refine jr_get hE dX12_join_68 f350 M2.ob rfl ?_
        refine jr_aload_n hE dX12_join_71 1 rfl ?_
        refine jr_get hE dX12_join_72 f323 M2.ob rfl ?_
        refine jr_kSv (n := 2) (As := [.ref (a 77), .ref (a 68)]) (rest := []) hE dX12_join_75 (fun l => c_m_set l G o a v2 n2 g w2 77 68) gX12_join_X12_set rfl (by decide +kernel) ⟨rfl, rfl, by decide, by decide⟩ (by decide) rfl rfl (Nat.le_of_ble_eq_true rfl) (⟨M2, by decide, by decide⟩) (fun F1 q2 => ?_)
        obtain ⟨M3, PM3⟩ := q2
        have OM3 := O.tr PM3
        refine jr_aload_n hE dX12_join_78 1 rfl ?_
        refine jr_aload_n hE dX12_join_79 1 rfl ?_
        refine jr_get hE dX12_join_80 f326 M3.ob rfl ?_
        refine jr_iconst (v := (0 : Int32)) hE dX12_join_83 (by decide) ?_
        obtain ⟨fr, jfr, efr⟩ := M3.lr (k := 69) (by decide)
        refine jr_lald (v := fr 0) hE dX12_join_84 jfr (vp_in_nI (n := 0) (by decide) (by decide)) rfl ?_
        refine jr_lconst (v := (1 : Int64)) hE dX12_join_85 (by decide) ?_
        refine jr_land hE dX12_join_86 rfl ?_
        refine jr_lconst (v := (1 : Int64)) hE dX12_join_87 (by decide) ?_
        refine jr_lcmp hE dX12_join_88 ?_
        refine jr_if_ne (tgt := 96) hE dX12_join_89 (by decide) (fun c89 => ?_) (fun c89 => ?_)
        · have c0 := 0
          refine jr_iconst (v := (0 : Int32)) hE dX12_join_96 (by decide) ?_
          refine jr_put (ty := .boolean) hE dX12_join_97 f552 M3.ob rfl (by decide +kernel) rfl rfl (Nat.le_of_ble_eq_true rfl) (fun F4 g5 u6 => ?_)
          have H7 := M3.setV (v' := uz v2 78 (0 : Int32)) g5 u6
          have O8 := OM3.so u6
          refine jr_aload_n hE dX12_join_100 1 rfl ?_
          refine jr_get hE dX12_join_101 f329 H7.ob rfl ?_
          refine jr_kSi (n := 1) (As := [.ref (a 70)]) (rest := []) hE dX12_join_104 (fun l => c_m_isNull l G o a (uz v2 78 (0 : Int32)) (uz n2 77 (n2 68)) g w2 70 0) gX12_join_X12_isNull rfl (by decide +kernel) ⟨rfl, rfl, by decide, by decide⟩ (by decide) rfl rfl (Nat.le_of_ble_eq_true rfl) (⟨H7, by decide, h70⟩) (fun r11 F9 q10 => ?_)
          obtain ⟨eq10, rq10⟩ := q10
          subst eq10 rq10
          refine jr_if_ne (tgt := 114) hE dX12_join_107 (by decide) (fun c_107 => ?_) (fun c_107 => absurd c_107 (by decide))
          refine jr_iconst (v := (0 : Int32)) hE dX12_join_114 (by decide) ?_
          exact hR F4 0 _ _ dX12_join_115 rfl ⟨_, _, w2, H7, fun k hk => (uz_n _ _ (jne hk 19 rfl)).trans (hf2 k hk), (uz_n _ _ (by decide)).trans hw31, fun k h1 h2 h3 => (uz_n _ _ h3).trans (hv2 k h1 h2), hw2, hs2.fr rfl rfl rfl, rfl, (fun x' y' e => by rw [hQ] at e; cases e), (by rw [b2i_f (fun e => e hQ)]), O8⟩
        · have c0 := 0
          refine jr_iconst (v := (1 : Int32)) hE dX12_join_92 (by decide) ?_
          refine jr_goto (tgt := 97) hE dX12_join_93 (by decide) ?_
          refine jr_put (ty := .boolean) hE dX12_join_97 f552 M3.ob rfl (by decide +kernel) rfl rfl (Nat.le_of_ble_eq_true rfl) (fun F12 g13 u14 => ?_)
          have H15 := M3.setV (v' := uz v2 78 (1 : Int32)) g13 u14
          have O16 := OM3.so u14
          refine jr_aload_n hE dX12_join_100 1 rfl ?_
          refine jr_get hE dX12_join_101 f329 H15.ob rfl ?_
          refine jr_kSi (n := 1) (As := [.ref (a 70)]) (rest := []) hE dX12_join_104 (fun l => c_m_isNull l G o a (uz v2 78 (1 : Int32)) (uz n2 77 (n2 68)) g w2 70 0) gX12_join_X12_isNull rfl (by decide +kernel) ⟨rfl, rfl, by decide, by decide⟩ (by decide) rfl rfl (Nat.le_of_ble_eq_true rfl) (⟨H15, by decide, h70⟩) (fun r19 F17 q18 => ?_)
          obtain ⟨eq18, rq18⟩ := q18
          subst eq18 rq18
          refine jr_if_ne (tgt := 114) hE dX12_join_107 (by decide) (fun c_107 => ?_) (fun c_107 => absurd c_107 (by decide))
          refine jr_iconst (v := (0 : Int32)) hE dX12_join_114 (by decide) ?_
          exact hR F12 0 _ _ dX12_join_115 rfl ⟨_, _, w2, H15, fun k hk => (uz_n _ _ (jne hk 19 rfl)).trans (hf2 k hk), (uz_n _ _ (by decide)).trans hw31, fun k h1 h2 h3 => (uz_n _ _ h3).trans (hv2 k h1 h2), hw2, hs2.fr rfl rfl rfl, rfl, (fun x' y' e => by rw [hQ] at e; cases e), (by rw [b2i_f (fun e => e hQ)]), O16⟩
      · have hz := 0
        refine jr_iload_n hE dX12_join_19 0 rfl ?_
        refine jr_aload_n hE dX12_join_20 1 rfl ?_
        refine jr_get hE dX12_join_21 f533 M2.ob rfl ?_
        rw [hs16]
        refine jr_icmp_ge (tgt := 67) hE dX12_join_24 (by decide) (fun c_24 => ?_) (fun c_24 => absurd (nI_le (by omega) (by omega)) c_24)
        refine jr_aload_n hE dX12_join_67 1 rfl ?_
        refine jr_get hE dX12_join_68 f350 M2.ob rfl ?_
        refine jr_aload_n hE dX12_join_71 1 rfl ?_
        refine jr_get hE dX12_join_72 f323 M2.ob rfl ?_
        refine jr_kSv (n := 2) (As := [.ref (a 77), .ref (a 68)]) (rest := []) hE dX12_join_75 (fun l => c_m_set l G o a v2 n2 g w2 77 68) gX12_join_X12_set rfl (by decide +kernel) ⟨rfl, rfl, by decide, by decide⟩ (by decide) rfl rfl (Nat.le_of_ble_eq_true rfl) (⟨M2, by decide, by decide⟩) (fun F1 q2 => ?_)
        obtain ⟨M3, PM3⟩ := q2
        have OM3 := O.tr PM3
        refine jr_aload_n hE dX12_join_78 1 rfl ?_
        refine jr_aload_n hE dX12_join_79 1 rfl ?_
        refine jr_get hE dX12_join_80 f326 M3.ob rfl ?_
        refine jr_iconst (v := (0 : Int32)) hE dX12_join_83 (by decide) ?_
        obtain ⟨fr, jfr, efr⟩ := M3.lr (k := 69) (by decide)
        refine jr_lald (v := fr 0) hE dX12_join_84 jfr (vp_in_nI (n := 0) (by decide) (by decide)) rfl ?_
        refine jr_lconst (v := (1 : Int64)) hE dX12_join_85 (by decide) ?_
        refine jr_land hE dX12_join_86 rfl ?_
        refine jr_lconst (v := (1 : Int64)) hE dX12_join_87 (by decide) ?_
        refine jr_lcmp hE dX12_join_88 ?_
        refine jr_if_ne (tgt := 96) hE dX12_join_89 (by decide) (fun c89 => ?_) (fun c89 => ?_)
        · have c89' : ¬ lg_cmp (lN (y / 2 ^ (32 * 0) % 2 ^ 32 % 2)) 1 = 0 := by
            have e0 := efr y h69 0 (by decide)
            rw [e0, wb_a1 (Nat.lt_trans (Nat.mod_lt _ (Nat.two_pow_pos 32)) (by decide))] at c89
            exact c89
          refine jr_iconst (v := (0 : Int32)) hE dX12_join_96 (by decide) ?_
          refine jr_put (ty := .boolean) hE dX12_join_97 f552 M3.ob rfl (by decide +kernel) rfl rfl (Nat.le_of_ble_eq_true rfl) (fun F4 g5 u6 => ?_)
          have H7 := M3.setV (v' := uz v2 78 (0 : Int32)) g5 u6
          have O8 := OM3.so u6
          refine jr_aload_n hE dX12_join_100 1 rfl ?_
          refine jr_get hE dX12_join_101 f329 H7.ob rfl ?_
          refine jr_kSi (n := 1) (As := [.ref (a 70)]) (rest := []) hE dX12_join_104 (fun l => c_m_isNull l G o a (uz v2 78 (0 : Int32)) (uz n2 77 (n2 68)) g w2 70 1) gX12_join_X12_isNull rfl (by decide +kernel) ⟨rfl, rfl, by decide, by decide⟩ (by decide) rfl rfl (Nat.le_of_ble_eq_true rfl) (⟨H7, by decide, h70⟩) (fun r11 F9 q10 => ?_)
          obtain ⟨eq10, rq10⟩ := q10
          subst eq10 rq10
          refine jr_if_ne (tgt := 114) hE dX12_join_107 (by decide) (fun c_107 => absurd c_107 (by decide)) (fun c_107 => ?_)
          refine jr_iconst (v := (1 : Int32)) hE dX12_join_110 (by decide) ?_
          refine jr_goto (tgt := 115) hE dX12_join_111 (by decide) ?_
          exact hR F4 1 _ _ dX12_join_115 rfl ⟨_, _, w2, H7, fun k hk => (uz_n _ _ (jne hk 19 rfl)).trans (hf2 k hk), (uz_n _ _ (by decide)).trans hw31, fun k h1 h2 h3 => (uz_n _ _ h3).trans (hv2 k h1 h2), hw2, hs2.fr rfl rfl rfl, rfl, (fun x' y' e => by
            rw [hQ] at e
            cases e
            rw [uz_s]
            exact (b2i_f (fun q => c89' ((cmp0 (b := 1) (by omega) (by decide)).mpr ((dig0 y).trans q)))).symm), (by rw [b2i_t (by rw [hQ]; exact fun e => by cases e)]), O8⟩
        · have c89' : lg_cmp (lN (y / 2 ^ (32 * 0) % 2 ^ 32 % 2)) 1 = 0 := by
            have e0 := efr y h69 0 (by decide)
            rw [e0, wb_a1 (Nat.lt_trans (Nat.mod_lt _ (Nat.two_pow_pos 32)) (by decide))] at c89
            exact c89
          refine jr_iconst (v := (1 : Int32)) hE dX12_join_92 (by decide) ?_
          refine jr_goto (tgt := 97) hE dX12_join_93 (by decide) ?_
          refine jr_put (ty := .boolean) hE dX12_join_97 f552 M3.ob rfl (by decide +kernel) rfl rfl (Nat.le_of_ble_eq_true rfl) (fun F12 g13 u14 => ?_)
          have H15 := M3.setV (v' := uz v2 78 (1 : Int32)) g13 u14
          have O16 := OM3.so u14
          refine jr_aload_n hE dX12_join_100 1 rfl ?_
          refine jr_get hE dX12_join_101 f329 H15.ob rfl ?_
          refine jr_kSi (n := 1) (As := [.ref (a 70)]) (rest := []) hE dX12_join_104 (fun l => c_m_isNull l G o a (uz v2 78 (1 : Int32)) (uz n2 77 (n2 68)) g w2 70 1) gX12_join_X12_isNull rfl (by decide +kernel) ⟨rfl, rfl, by decide, by decide⟩ (by decide) rfl rfl (Nat.le_of_ble_eq_true rfl) (⟨H15, by decide, h70⟩) (fun r19 F17 q18 => ?_)
          obtain ⟨eq18, rq18⟩ := q18
          subst eq18 rq18
          refine jr_if_ne (tgt := 114) hE dX12_join_107 (by decide) (fun c_107 => absurd c_107 (by decide)) (fun c_107 => ?_)
          refine jr_iconst (v := (1 : Int32)) hE dX12_join_110 (by decide) ?_
          refine jr_goto (tgt := 115) hE dX12_join_111 (by decide) ?_
          exact hR F12 1 _ _ dX12_join_115 rfl ⟨_, _, w2, H15, fun k hk => (uz_n _ _ (jne hk 19 rfl)).trans (hf2 k hk), (uz_n _ _ (by decide)).trans hw31, fun k h1 h2 h3 => (uz_n _ _ h3).trans (hv2 k h1 h2), hw2, hs2.fr rfl rfl rfl, rfl, (fun x' y' e => by
            rw [hQ] at e
            cases e
            rw [uz_s]
            exact (b2i_t ((dig0 y) ▸ (cmp0 (b := 1) (by omega) (by decide)).mp c89')).symm), (by rw [b2i_t (by rw [hQ]; exact fun e => by cases e)]), O16⟩
    | succ r0 ih =>
      intro j F2 n2 v2 w2 hj M2 hf2 hw31 hv2 hw2 hs2 O
      have hs16 : v2 16 = nI sg := (hv2 16 (by decide) (by decide)).trans hsg
      have h17 : w2 17 = w 17 := hw2 17 (by decide)
      have hK2 : mK n2 g := hK.fr (hf2 0 (by decide)) (hf2 1 (by decide)) (hf2 32 (by decide)) (hf2 33 (by decide))
      have hC2 : mC n2 := hC.fr (hf2 4 (by decide)) (hf2 5 (by decide)) (hf2 6 (by decide)) (hf2 7 (by decide)) (hf2 48 (by decide))
      have htg2 : tgOK w2 := ⟨fun t ht => by rw [hw2 50 (by decide)]; exact htg.1 t ht, fun t ht => by rw [hw2 51 (by decide)]; exact htg.2 t ht⟩
      have hrd2 : rdOK w2 := fun t ht => by rw [hw2 52 (by decide)]; exact hrd t ht
      refine jr_iload_n hE dX12_join_19 0 rfl ?_
      refine jr_aload_n hE dX12_join_20 1 rfl ?_
      refine jr_get hE dX12_join_21 f533 M2.ob rfl ?_
      rw [hs16]
      refine jr_icmp_ge (tgt := 67) hE dX12_join_24 (by decide) (fun c_24 => absurd c_24 (nI_ge (by omega) (by omega))) (fun c_24 => ?_)
      refine jr_aload_n hE dX12_join_27 1 rfl ?_
      refine jr_aload_n hE dX12_join_28 1 rfl ?_
      refine jr_get hE dX12_join_29 f347 M2.ob rfl ?_
      refine jr_iload_n hE dX12_join_32 0 rfl ?_
      refine jr_kVv (ci := 12) (n := 2) (As := [.ref (a 76), .int (nI j)]) (rest := []) hE dX12_join_33 (fun l => c_m_weigh l G o a v2 n2 g w2 76 j sg) gX12_join_X12_weigh rfl M2.ob rfl (by decide +kernel) ⟨rfl, rfl, by decide, by decide⟩ (by decide) rfl rfl (Nat.le_of_ble_eq_true rfl) (⟨M2, hK2, htg2, hrd2, by decide, hs16, by omega, hs4, by rw [h17]; exact hB⟩) (fun F1 q2 => ?_)
      obtain ⟨v3, w3, M3, hv3, hw3, O3⟩ := q2
      rw [h17] at M3
      have h173 : w3 17 = w 17 := (hw3 17 (by decide)).trans h17
      obtain ⟨n3, hn3⟩ : ∃ n3, n3 = uz n2 76 (some (wK (w 17) sg j)) := ⟨_, rfl⟩
      have M3 : MW G L F1 o a v3 n3 g w3 := by rw [hn3]; exact M3
      have hf3 : ∀ k, k ∉ [76] → n3 k = n2 k := fun k hk => by rw [hn3, uz_n _ _ (jne hk 0 rfl)]
      have h763 : n3 76 = some (wK (w 17) sg j) := by rw [hn3, uz_s]
      have hK3 : mK n3 g := hK2.fr (hf3 0 (by decide)) (hf3 1 (by decide)) (hf3 32 (by decide)) (hf3 33 (by decide))
      have hC3 : mC n3 := hC2.fr (hf3 4 (by decide)) (hf3 5 (by decide)) (hf3 6 (by decide)) (hf3 7 (by decide)) (hf3 48 (by decide))
      refine jr_aload_n hE dX12_join_36 1 rfl ?_
      refine jr_aload_n hE dX12_join_37 1 rfl ?_
      refine jr_get hE dX12_join_38 f118 M3.ob rfl ?_
      refine jr_bipush (v := (33 : Int32)) hE dX12_join_41 (by decide) ?_
      refine jr_iload_n hE dX12_join_43 0 rfl ?_
      refine jr_imul (z := nI (33 * j)) hE dX12_join_44 (pk_mul 33 j) ?_
      refine jr_kVi (ci := 12) (n := 2) (As := [.ref (a 17), .int (nI (33 * j))]) (rest := []) hE dX12_join_45 (fun l => c_m_reads l G o a v3 n3 g w3 17 (33 * j) 132 (fK (w 17) j) (vK (w 17) j)) gX12_join_X12_reads rfl M3.ob rfl (by decide +kernel) ⟨rfl, rfl, by decide, by decide⟩ (by decide) rfl rfl (Nat.le_of_ble_eq_true rfl) (⟨M3, hK3, hC3, by decide, by omega, by decide, by rw [h173]; exact bB1 hB (by omega), by rw [h173], by rw [h173]⟩) (fun r5 F3 q4 => ?_)
      obtain ⟨n4, M4, hf4, hq4, rfl, O4⟩ := q4
      have hq4 := hq4 (hrdx j (by omega))
      have hK4 : mK n4 g := hK3.fr (hf4 0 (by decide)) (hf4 1 (by decide)) (hf4 32 (by decide)) (hf4 33 (by decide))
      refine jr_istore_n (lv' := [(2, .int (b2i (rdX (fK (w 17) j) (vK (w 17) j)))), (1, .int (nI j)), (0, .ref o)]) hE dX12_join_48 (by decide) rfl ?_
      refine jr_aload_n hE dX12_join_49 2 rfl ?_
      refine jr_aload_n hE dX12_join_50 2 rfl ?_
      refine jr_get hE dX12_join_51 f347 M4.ob rfl ?_
      refine jr_kVv (ci := 12) (n := 1) (As := [.ref (a 76)]) (rest := []) hE dX12_join_54 (fun l => c_m_multiply l G o a v3 n4 g w3 76 (wK (w 17) sg j) (pK (w 17) j)) gX12_join_X12_multiply rfl M4.ob rfl (by decide +kernel) ⟨rfl, rfl, by decide, by decide⟩ (by decide) rfl rfl (Nat.le_of_ble_eq_true rfl) (⟨M4, hK4, (hf4 4 (by decide)).trans hC3.1, by decide, by decide, (hf4 76 (by decide)).trans h763, hq4⟩) (fun F6 q7 => ?_)
      obtain ⟨n5, M5, hf5, p5, O5⟩ := q7
      have hK5 : mK n5 g := hK4.fr (hf5 0 (by decide)) (hf5 1 (by decide)) (hf5 32 (by decide)) (hf5 33 (by decide))
      refine jr_aload_n hE dX12_join_57 2 rfl ?_
      refine jr_kVv (ci := 12) (n := 0) (As := []) (rest := []) hE dX12_join_58 (fun l => c_m_addToSum l G o a v3 n5 g w3 (qS (w 17) sg j) _) gX12_join_X12_addToSum rfl M5.ob rfl (by decide +kernel) ⟨rfl, rfl, by decide, by decide⟩ (by decide) rfl rfl (Nat.le_of_ble_eq_true rfl) (⟨M5, hK5, (hf5 4 (by decide)).trans ((hf4 4 (by decide)).trans hC3.1), p5, onE_mul gdP (rd_on (hrdx j (by omega))) _, hs2.fr ((hf5 68 (by decide)).trans ((hf4 68 (by decide)).trans (hf3 68 (by decide)))) ((hf5 69 (by decide)).trans ((hf4 69 (by decide)).trans (hf3 69 (by decide)))) ((hf5 70 (by decide)).trans ((hf4 70 (by decide)).trans (hf3 70 (by decide)))), qS_on hrdx j (by omega)⟩) (fun F8 q9 => ?_)
      obtain ⟨n6, M6, hf6, hs6, O6⟩ := q9
      refine jr_iinc (v := nI (j + 1)) (lv' := [(1, .int (nI (j + 1))), (2, .int (b2i (rdX (fK (w 17) j) (vK (w 17) j)))), (0, .ref o)]) hE dX12_join_61 1 rfl (nI_1 _) (by decide) rfl ?_
      refine jr_goto (tgt := 19) hE dX12_join_64 (by decide) ?_
      refine jr_lv (lv' := [(1, .int (nI (j + 1))), (0, .ref o)]) [0, 2] rfl ?_
      exact ih (j + 1) F8 n6 v3 w3 (by omega) M6 (fun k hk => (hf6 k (jnsub (V := [40, 41, 37, 38, 39, 42, 43, 44, 45, 46, 47, 34, 35, 36, 68, 69, 70]) hk [6, 7, 3, 4, 5, 8, 9, 10, 11, 12, 13, 0, 1, 2, 15, 16, 17] rfl)).trans ((hf5 k (jnsub (V := [37, 38, 39, 42, 43, 44, 45, 46, 47, 34, 35, 36]) hk [3, 4, 5, 8, 9, 10, 11, 12, 13, 0, 1, 2] rfl)).trans ((hf4 k (jnsub (V := [40, 41, 42, 43, 35, 36, 49]) hk [6, 7, 8, 9, 1, 2, 14] rfl)).trans ((hf3 k (jnsub (V := [76]) hk [18] rfl)).trans (hf2 k hk))))) ((hv3 31 (by decide)).trans hw31) (fun k h1 h2 => (hv3 k h2).trans (hv2 k h1 h2)) (fun z hz => (hw3 z hz).trans (hw2 z hz)) hs6 (O.tr (O3.tr (O4.tr (O5.tr O6))))
  refine jr_aload_n hE dX12_join_0 0 rfl ?_
  refine jr_dup hE dX12_join_1 rfl ?_
  refine jr_get hE dX12_join_2 f478 M0.ob rfl ?_
  rw [hwk]
  refine jr_aload_n hE dX12_join_5 0 rfl ?_
  refine jr_get hE dX12_join_6 f533 M0.ob rfl ?_
  rw [hsg]
  refine jr_iadd (z := nI (wk + sg)) hE dX12_join_9 (nI_add _ _) ?_
  refine jr_put (ty := .int) hE dX12_join_10 f478 M0.ob rfl (by decide +kernel) rfl rfl (Nat.le_of_ble_eq_true rfl) (fun F1 g2 u3 => ?_)
  have H4 := M0.setV (v' := uz v 31 (nI (wk + sg))) g2 u3
  have O5 := (mO.rf o a F).so u3
  refine jr_aload_n hE dX12_join_13 0 rfl ?_
  have OO1 := O5
  refine jr_kVv (ci := 12) (n := 0) (As := []) (rest := []) hE dX12_join_14 (fun l => c_m_noSum l G o a (uz v 31 (nI (wk + sg))) n g w) gX12_join_X12_noSum rfl H4.ob rfl (by decide +kernel) ⟨rfl, rfl, by decide, by decide⟩ (by decide) rfl rfl (Nat.le_of_ble_eq_true rfl) (H4) (fun F6 q7 => ?_)
  obtain ⟨n1, M1, hf1, hs1, O1'⟩ := q7
  have O1 := OO1.tr O1'
  refine jr_iconst (v := (0 : Int32)) hE dX12_join_17 (by decide) ?_
  refine jr_istore_n (lv' := [(1, .int (0 : Int32)), (0, .ref o)]) hE dX12_join_18 (by decide) rfl ?_
  refine jr_lv (lv' := [(1, .int (0 : Int32)), (0, .ref o)]) [0, 1] rfl ?_
  exact loop sg 0 F6 n1 (uz v 31 (nI (wk + sg))) w (by omega) M1 (fun k hk => hf1 k (jnsub (V := [70]) hk [17] rfl)) (uz_s _ _ _) (fun k h1 h2 => uz_n _ _ h1) (fun _ _ => rfl) hs1 O1

