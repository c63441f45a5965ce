/-! THE REFERENCE'S copy -/
noncomputable def moreL (s : ST) (m : Int32) : List Nat := if m.toInt < 0 then [] else s.1 (rn m)
noncomputable def stCopy (s : ST) (r f m : Int32) : Int32 × ST := if rowP r ∧ rowP f ∧ (-1 ≤ m.toInt ∧ m.toInt ≤ 15) then (if (s.1 (rn f)).length + (moreL s m).length ≤ 100 then (nI ((s.1 (rn f)).length + (moreL s m).length), setR s (rn r) (s.1 (rn f) ++ moreL s m)) else (-3, s)) else (-1, s)

set_option maxHeartbeats 4000000 in
set_option maxRecDepth 100000 in
theorem c_m_copy (l : Launch) (G : Nat → ClassId) (o : Nat) (a : Nat → Nat) (v : Nat → Int32) (n : Nat → Option Nat) (g : Nat → Nat → Int64) (w : Nat → Nat → Int32) (s : ST) (r c m : Int32) : jKi l yX12_copy wsX12_copy ({ frames := 2, cells := 0, slots := 0, locals := 45 }) G [.ref o, .int r, .int c, .int m] (fun L F => mI G L F o a v n g w s) (fun L F q F1 => ∃ v' n' g' w', mI G L F1 o a v' n' g' w' (stCopy s r c m).2 ∧ q = (stCopy s r c m).1 ∧ mO o a F F1) := by
  refine jm_ki (cc := cX12_copy) (maxL := 7) (rt := .int) (by decide) rfl (Nat.le_of_ble_eq_true rfl) ?_
  intro E L F hE hR hpre
  have hE : jOk E G _ cX12_copy 7 RX12 wsX12_copy := hE

  have f96 : jFl RX12 wsX12_copy 96 12 8 := ⟨rfl, by decide, by decide +kernel, by decide +kernel⟩
  have f299 : jFl RX12 wsX12_copy 299 12 60 := ⟨rfl, by decide, by decide +kernel, by decide +kernel⟩
  have f100 : jFl RX12 wsX12_copy 100 12 9 := ⟨rfl, by decide, by decide +kernel, by decide +kernel⟩
  have hI := hpre
  obtain ⟨M0, hK, hC, htg, hrd, hRW, hpI⟩ := id hpre
  have main : ∀ (k p : Nat), k < 16 → p < 16 → w 8 p = nI (s.1 p).length → bl (w 9) (100 * p) (s.1 p).length = s.1 p → (s.1 p).length ≤ 100 → (∀ b, b ∈ s.1 p → b < 256) → ∀ (lm : List Nat) (mm : Int32), lm.length ≤ 100 → (∀ b, b ∈ lm → b < 256) → (lm = [] ∨ ∃ q, q < 16 ∧ mm = nI q ∧ bl (w 9) (100 * q) lm.length = lm) → stCopy s (nI k) (nI p) mm = (if ((s.1 p).length + lm.length) ≤ 100 then (nI ((s.1 p).length + lm.length), setR s k (s.1 p ++ lm)) else (-3, s)) → (∀ (F1 : Nat → va_E) (v_1 : Int32) (pc : Nat) (lv : List (Nat × Value)), decode cX12_copy pc = .ok (.ireturn, 1) → narrow .int (.int v_1) = .int v_1 → (∃ v' n' g' w', mI G L F1 o a v' n' g' w' (stCopy s (nI k) (nI p) mm).2 ∧ v_1 = (stCopy s (nI k) (nI p) mm).1 ∧ mO o a F F1) → J E L F1 0 0 pc lv [.int v_1]) → J E L F 0 0 57 [(5, .int (nI ((s.1 p).length + lm.length))), (4, .int (nI (s.1 p).length)), (0, .ref o), (1, .int (nI k)), (2, .int (nI p)), (3, .int mm)] [] := by
    intro k p hk hp z1p z2p z3p z4p lm mm hlm hlb hmm he hR
    have hLb : ∀ b, b ∈ (s.1 p ++ lm) → b < 256 := fun b hb => (List.mem_append.mp hb).elim (z4p b) (hlb b)
    have loop : ((s.1 p).length + lm.length) ≤ 100 → stCopy s (nI k) (nI p) mm = (nI ((s.1 p).length + lm.length), setR s k (s.1 p ++ lm)) → ∀ (r0 i : Nat) (F4 : Nat → va_E) (f : Nat → Int32), i + r0 = ((s.1 p).length + lm.length) → MW G L F4 o a v n g (uz w 60 f) → (∀ j, j < i → f j = nI ((s.1 p ++ lm).getD j 0)) → mO o a F F4 → J E L F4 0 0 70 [(6, .int (nI i)), (5, .int (nI ((s.1 p).length + lm.length))), (4, .int (nI (s.1 p).length)), (0, .ref o), (1, .int (nI k)), (2, .int (nI p)), (3, .int mm)] [] := by
      intro hle he
      have loop2 : ∀ (f : Nat → Int32), (∀ j, j < ((s.1 p).length + lm.length) → f j = nI ((s.1 p ++ lm).getD j 0)) → ∀ (r0 i : Nat) (F4 : Nat → va_E) (h : Nat → Int32), i + r0 = ((s.1 p).length + lm.length) → MW G L F4 o a v n g (uz (uz w 60 f) 9 h) → h = wrt (w 9) (100 * k) ((s.1 p ++ lm).take i) → mO o a F F4 → J E L F4 0 0 130 [(6, .int (nI i)), (5, .int (nI ((s.1 p).length + lm.length))), (4, .int (nI (s.1 p).length)), (0, .ref o), (1, .int (nI k)), (2, .int (nI p)), (3, .int mm)] [] := by
        intro f hf2 r0
        induction r0 with
        | zero =>
          intro i F4 h hi H4 hh O4
          refine jr_iload hE dX12_copy_130 0 rfl ?_
          refine jr_iload hE dX12_copy_132 1 rfl ?_
          refine jr_icmp_ge (tgt := 162) hE dX12_copy_134 (by decide) (fun c_134 => ?_) (fun c_134 => absurd (nI_le (by omega) (by omega)) c_134)
          refine jr_aload_n hE dX12_copy_162 3 rfl ?_
          refine jr_get hE dX12_copy_163 f96 H4.ob rfl ?_
          refine jr_iload_n hE dX12_copy_166 4 rfl ?_
          refine jr_iload hE dX12_copy_167 1 rfl ?_
          refine jr_iast hE dX12_copy_169 (H4.I (k := 8) (N := 16) (by decide)) (vp_in_nI (by omega) (by decide)) (fun F1 g2 u3 => ?_)
          have H4 := H4.setI (k := 8) (N := 16) (by decide) g2 u3
          have O5 := O4.st (k := 8) (by decide) (by decide) u3
          refine jr_iload hE dX12_copy_170 1 rfl ?_
          have hln : (s.1 p ++ lm).length = ((s.1 p).length + lm.length) := List.length_append
          have hiL : i = (s.1 p ++ lm).length := by omega
          rw [hiL, List.take_length] at hh
          exact hR F1 _ _ _ dX12_copy_172 rfl ⟨v, n, g, _, by
            rw [he]
            exact hI.row (l := (s.1 p ++ lm)) H4 (fun _ _ => rfl) (fun _ _ => rfl) (fun z hz => by
              have a8 : z ≠ 8 := fun q => by subst q; exact absurd hz (by decide)
              have a9 : z ≠ 9 := fun q => by subst q; exact absurd hz (by decide)
              have a60 : z ≠ 60 := fun q => by subst q; exact absurd hz (by decide)
              rw [uz_n _ _ a8, uz_n _ _ a9, uz_n _ _ a60]) (by
              rw [uz_s, nI_clamp (by omega), hln]
              funext t
              rfl) (fun t ht => by
              show h t = _
              rw [hh]
              exact wrt_out _ _ _ (by omega)) (by
              show bl h _ _ = _
              rw [hh]
              exact bl_wrt _ _ _ (fun b hb => Nat.lt_trans (hLb b hb) (by decide))) (by omega) hLb, by rw [he], O5⟩
        | succ r0 ih =>
          intro i F4 h hi H4 hh O4
          refine jr_iload hE dX12_copy_130 0 rfl ?_
          refine jr_iload hE dX12_copy_132 1 rfl ?_
          refine jr_icmp_ge (tgt := 162) hE dX12_copy_134 (by decide) (fun c_134 => absurd c_134 (nI_ge (by omega) (by omega))) (fun c_134 => ?_)
          refine jr_aload_n hE dX12_copy_137 3 rfl ?_
          refine jr_get hE dX12_copy_138 f100 H4.ob rfl ?_
          refine jr_bipush (v := (100 : Int32)) hE dX12_copy_141 (by decide) ?_
          refine jr_iload_n hE dX12_copy_143 4 rfl ?_
          refine jr_imul (z := nI (100 * k)) hE dX12_copy_144 (pk_mul 100 k) ?_
          refine jr_iload hE dX12_copy_145 0 rfl ?_
          refine jr_iadd (z := nI (100 * k + i)) hE dX12_copy_147 (nI_add _ _) ?_
          refine jr_aload_n hE dX12_copy_148 3 rfl ?_
          refine jr_get hE dX12_copy_149 f299 H4.ob rfl ?_
          refine jr_iload hE dX12_copy_152 0 rfl ?_
          refine jr_iald (v := nI ((s.1 p ++ lm).getD i 0)) hE dX12_copy_154 (H4.I (k := 60) (N := 100) (by decide)) (vp_in_nI (by omega) (by decide)) (by rw [nI_clamp (by omega)]; exact hf2 i (by omega)) ?_
          refine jr_iast hE dX12_copy_155 (H4.I (k := 9) (N := 1600) (by decide)) (vp_in_nI (by omega) (by decide)) (fun F1 g2 u3 => ?_)
          have H4 := H4.setI (k := 9) (N := 1600) (by decide) g2 u3
          have O5 := O4.st (k := 9) (by decide) (by decide) u3
          rw [uz_uz, uz_s] at H4
          refine jr_iinc (v := nI (i + 1)) (lv' := [(6, .int (nI (i + 1))), (5, .int (nI ((s.1 p).length + lm.length))), (4, .int (nI (s.1 p).length)), (0, .ref o), (1, .int (nI k)), (2, .int (nI p)), (3, .int mm)]) hE dX12_copy_156 0 rfl (nI_1 _) (by decide) rfl ?_
          refine jr_goto (tgt := 130) hE dX12_copy_159 (by decide) ?_
          refine jr_lv (lv' := [(6, .int (nI (i + 1))), (5, .int (nI ((s.1 p).length + lm.length))), (4, .int (nI (s.1 p).length)), (0, .ref o), (1, .int (nI k)), (2, .int (nI p)), (3, .int mm)]) [0, 1, 2, 3, 4, 5, 6] rfl ?_
          exact ih (i + 1) F1 _ (by omega) H4 (by
            have hln : (s.1 p ++ lm).length = ((s.1 p).length + lm.length) := List.length_append
            have hiL : i < (s.1 p ++ lm).length := by omega
            have q := wrt_snoc (s := 100 * k) (i := i) (b := (s.1 p ++ lm).getD i 0) hh (by rw [List.length_take]; omega) rfl (by omega)
            rw [q, List.take_succ, List.getD_eq_getElem?_getD, List.getElem?_eq_getElem hiL]
            rfl) O5
      intro r0
      induction r0 with
      | zero =>
        intro i F4 f hi H4 hf O4
        refine jr_iload hE dX12_copy_70 0 rfl ?_
        refine jr_iload hE dX12_copy_72 1 rfl ?_
        refine jr_icmp_ge (tgt := 127) hE dX12_copy_74 (by decide) (fun c_74 => ?_) (fun c_74 => absurd (nI_le (by omega) (by omega)) c_74)
        refine jr_iconst (v := (0 : Int32)) hE dX12_copy_127 (by decide) ?_
        refine jr_istore (lv' := [(6, .int (0 : Int32)), (5, .int (nI ((s.1 p).length + lm.length))), (4, .int (nI (s.1 p).length)), (0, .ref o), (1, .int (nI k)), (2, .int (nI p)), (3, .int mm)]) hE dX12_copy_128 (by decide) rfl ?_
        refine jr_lv (lv' := [(6, .int (0 : Int32)), (5, .int (nI ((s.1 p).length + lm.length))), (4, .int (nI (s.1 p).length)), (0, .ref o), (1, .int (nI k)), (2, .int (nI p)), (3, .int mm)]) [0, 1, 2, 3, 4, 5, 6] rfl ?_
        exact loop2 f (fun j hj => hf j (by omega)) ((s.1 p).length + lm.length) 0 F4 (w 9) (by omega) (by rw [show uz (uz w 60 f) 9 (w 9) = uz w 60 f from uz_id (uz w 60 f) 9]; exact H4) (by rw [List.take_zero, wrt_nil]) O4
      | succ r0 ih =>
        intro i F4 f hi H4 hf O4
        refine jr_iload hE dX12_copy_70 0 rfl ?_
        refine jr_iload hE dX12_copy_72 1 rfl ?_
        refine jr_icmp_ge (tgt := 127) hE dX12_copy_74 (by decide) (fun c_74 => absurd c_74 (nI_ge (by omega) (by omega))) (fun c_74 => ?_)
        refine jr_aload_n hE dX12_copy_77 3 rfl ?_
        refine jr_get hE dX12_copy_78 f299 H4.ob rfl ?_
        refine jr_iload hE dX12_copy_81 0 rfl ?_
        refine jr_iload hE dX12_copy_83 0 rfl ?_
        refine jr_iload hE dX12_copy_85 2 rfl ?_
        refine jr_icmp_ge (tgt := 105) hE dX12_copy_87 (by decide) (fun c87 => ?_) (fun c87 => ?_)
        · have hge : (s.1 p).length ≤ i := Classical.byContradiction (fun q => nI_ge (a := i) (b := (s.1 p).length) (by omega) (by omega) c87)
          rcases hmm with hmm | ⟨q, hq, hmq, hbq⟩
          · exact absurd hi (by rw [hmm, List.length_nil]; omega)
          subst hmq
          have hval : w 9 (100 * q + (i - (s.1 p).length)) = nI ((s.1 p ++ lm).getD i 0) := by
            rw [bt_nI (w 9) (100 * q + (i - (s.1 p).length)), ← bl_get (w 9) (100 * q) lm.length (i - (s.1 p).length) (by omega), hbq, List.getD_eq_getElem?_getD, List.getD_eq_getElem?_getD, List.getElem?_append_right hge]
          refine jr_aload_n hE dX12_copy_105 3 rfl ?_
          refine jr_get hE dX12_copy_106 f100 H4.ob rfl ?_
          refine jr_bipush (v := (100 : Int32)) hE dX12_copy_109 (by decide) ?_
          refine jr_iload_n hE dX12_copy_111 6 rfl ?_
          refine jr_imul (z := nI (100 * q)) hE dX12_copy_112 (pk_mul 100 q) ?_
          refine jr_iload hE dX12_copy_113 0 rfl ?_
          refine jr_iadd (z := nI (100 * q + i)) hE dX12_copy_115 (nI_add _ _) ?_
          refine jr_iload hE dX12_copy_116 2 rfl ?_
          refine jr_isub (z := nI (100 * q + (i - (s.1 p).length))) hE dX12_copy_118 (by rw [show 100 * q + i = 100 * q + (i - (s.1 p).length) + (s.1 p).length by omega, ← nI_add, Int32.add_sub_cancel]) ?_
          refine jr_iald (v := nI ((s.1 p ++ lm).getD i 0)) hE dX12_copy_119 (H4.I (k := 9) (N := 1600) (by decide)) (vp_in_nI (by omega) (by decide)) (by rw [nI_clamp (by omega)]; exact hval) ?_
          refine jr_iast hE dX12_copy_120 (H4.I (k := 60) (N := 100) (by decide)) (vp_in_nI (by omega) (by decide)) (fun F1 g2 u3 => ?_)
          have H4 := H4.setI (k := 60) (N := 100) (by decide) g2 u3
          have O5 := O4.st (k := 60) (by decide) (by decide) u3
          rw [uz_uz, uz_s] at H4
          refine jr_iinc (v := nI (i + 1)) (lv' := [(6, .int (nI (i + 1))), (5, .int (nI ((s.1 p).length + lm.length))), (4, .int (nI (s.1 p).length)), (0, .ref o), (1, .int (nI k)), (2, .int (nI p)), (3, .int (nI q))]) hE dX12_copy_121 0 rfl (nI_1 _) (by decide) rfl ?_
          refine jr_goto (tgt := 70) hE dX12_copy_124 (by decide) ?_
          refine jr_lv (lv' := [(6, .int (nI (i + 1))), (5, .int (nI ((s.1 p).length + lm.length))), (4, .int (nI (s.1 p).length)), (0, .ref o), (1, .int (nI k)), (2, .int (nI p)), (3, .int (nI q))]) [0, 1, 2, 3, 4, 5, 6] rfl ?_
          exact ih (i + 1) F1 _ (by omega) H4 (fun t ht => by
            rw [nI_clamp (by omega)]
            show (if t = i then _ else f t) = _
            by_cases e : t = i
            · rw [if_pos e, e]
            · rw [if_neg e]; exact hf t (by omega)) O5
        · have hlt : i < (s.1 p).length := Classical.byContradiction (fun q => c87 (nI_le (by omega) (by omega)))
          have hval : w 9 (100 * p + i) = nI ((s.1 p ++ lm).getD i 0) := by
            rw [bt_nI (w 9) (100 * p + i), ← bl_get (w 9) (100 * p) (s.1 p).length i hlt, z2p, List.getD_eq_getElem?_getD, List.getD_eq_getElem?_getD, List.getElem?_append_left hlt]
          refine jr_aload_n hE dX12_copy_90 3 rfl ?_
          refine jr_get hE dX12_copy_91 f100 H4.ob rfl ?_
          refine jr_bipush (v := (100 : Int32)) hE dX12_copy_94 (by decide) ?_
          refine jr_iload_n hE dX12_copy_96 5 rfl ?_
          refine jr_imul (z := nI (100 * p)) hE dX12_copy_97 (pk_mul 100 p) ?_
          refine jr_iload hE dX12_copy_98 0 rfl ?_
          refine jr_iadd (z := nI (100 * p + i)) hE dX12_copy_100 (nI_add _ _) ?_
          refine jr_iald (v := nI ((s.1 p ++ lm).getD i 0)) hE dX12_copy_101 (H4.I (k := 9) (N := 1600) (by decide)) (vp_in_nI (by omega) (by decide)) (by rw [nI_clamp (by omega)]; exact hval) ?_
          refine jr_goto (tgt := 120) hE dX12_copy_102 (by decide) ?_
          refine jr_iast hE dX12_copy_120 (H4.I (k := 60) (N := 100) (by decide)) (vp_in_nI (by omega) (by decide)) (fun F6 g7 u8 => ?_)
          have H9 := H4.setI (k := 60) (N := 100) (by decide) g7 u8
          have O10 := O4.st (k := 60) (by decide) (by decide) u8
          rw [uz_uz, uz_s] at H9
          refine jr_iinc (v := nI (i + 1)) (lv' := [(6, .int (nI (i + 1))), (5, .int (nI ((s.1 p).length + lm.length))), (4, .int (nI (s.1 p).length)), (0, .ref o), (1, .int (nI k)), (2, .int (nI p)), (3, .int mm)]) hE dX12_copy_121 0 rfl (nI_1 _) (by decide) rfl ?_
          refine jr_goto (tgt := 70) hE dX12_copy_124 (by decide) ?_
          refine jr_lv (lv' := [(6, .int (nI (i + 1))), (5, .int (nI ((s.1 p).length + lm.length))), (4, .int (nI (s.1 p).length)), (0, .ref o), (1, .int (nI k)), (2, .int (nI p)), (3, .int mm)]) [0, 1, 2, 3, 4, 5, 6] rfl ?_
          exact ih (i + 1) F6 _ (by omega) H9 (fun t ht => by
            rw [nI_clamp (by omega)]
            show (if t = i then _ else f t) = _
            by_cases e : t = i
            · rw [if_pos e, e]
            · rw [if_neg e]; exact hf t (by omega)) O10
    refine jr_iload hE dX12_copy_57 0 rfl ?_
    refine jr_bipush (v := (100 : Int32)) hE dX12_copy_59 (by decide) ?_
    refine jr_icmp_le (tgt := 67) hE dX12_copy_61 (by decide) (fun c61 => ?_) (fun c61 => ?_)
    · refine jr_iconst (v := (0 : Int32)) hE dX12_copy_67 (by decide) ?_
      refine jr_istore (lv' := [(6, .int (0 : Int32)), (5, .int (nI ((s.1 p).length + lm.length))), (4, .int (nI (s.1 p).length)), (0, .ref o), (1, .int (nI k)), (2, .int (nI p)), (3, .int mm)]) hE dX12_copy_68 (by decide) rfl ?_
      refine jr_lv (lv' := [(6, .int (0 : Int32)), (5, .int (nI ((s.1 p).length + lm.length))), (4, .int (nI (s.1 p).length)), (0, .ref o), (1, .int (nI k)), (2, .int (nI p)), (3, .int mm)]) [0, 1, 2, 3, 4, 5, 6] rfl ?_
      have hle : ((s.1 p).length + lm.length) ≤ 100 := Classical.byContradiction (fun q => nI_ge (a := 100) (by omega) (by omega) c61)
      exact loop hle (by rw [he, if_pos hle]) ((s.1 p).length + lm.length) 0 F (w 60) (by omega) (by rw [uz_id]; exact M0) (fun j hj => absurd hj (Nat.not_lt_zero j)) (mO.rf o a F)
    · refine jr_bipush (v := (-3 : Int32)) hE dX12_copy_64 (by decide) ?_
      have hle : ¬ ((s.1 p).length + lm.length) ≤ 100 := fun q => c61 (nI_le (b := 100) q (by decide))
      exact hR F _ _ _ dX12_copy_66 rfl ⟨v, n, g, w, by rw [he, if_neg hle]; exact hI, by rw [he, if_neg hle], mO.rf o a F⟩
  refine jr_iload_n hE dX12_copy_0 1 rfl ?_
  refine jr_kSi (n := 1) (As := [.int r]) (rest := []) hE dX12_copy_1 (fun l => c_m_isRow l G r) gX12_copy_X12_isRow rfl (by decide +kernel) ⟨rfl, rfl, by decide, by decide⟩ (by decide) rfl rfl (Nat.le_of_ble_eq_true rfl) (trivial) (fun r3 F1 q2 => ?_)
  obtain ⟨eq2, rq2⟩ := q2
  subst eq2 rq2
  refine jr_if_eq (tgt := 28) hE dX12_copy_4 (by decide) (fun c4 => ?_) (fun c4 => ?_)
  · refine jr_iconst (v := (-1 : Int32)) hE dX12_copy_28 (by decide) ?_
    have e : stCopy s r c m = (-1, s) := by
      unfold stCopy
      rw [if_neg (fun h => absurd (b2i_t h.1) (by rw [c4]; decide))]
    exact hR F _ _ _ dX12_copy_29 rfl ⟨v, n, g, w, by rw [e]; exact hI, by rw [e], mO.rf o a F⟩
  · have hrk : rowP r := b2i_1 c4
    obtain ⟨k, hk, rfl⟩ := rowP_nI hrk
    obtain ⟨z1k, z2k, z3k, z4k⟩ := hRW k hk
    have hrnk := nI_rn hk
    refine jr_iload_n hE dX12_copy_7 2 rfl ?_
    refine jr_kSi (n := 1) (As := [.int c]) (rest := []) hE dX12_copy_8 (fun l => c_m_isRow l G c) gX12_copy_X12_isRow rfl (by decide +kernel) ⟨rfl, rfl, by decide, by decide⟩ (by decide) rfl rfl (Nat.le_of_ble_eq_true rfl) (trivial) (fun r6 F4 q5 => ?_)
    obtain ⟨eq5, rq5⟩ := q5
    subst eq5 rq5
    refine jr_if_eq (tgt := 28) hE dX12_copy_11 (by decide) (fun c11 => ?_) (fun c11 => ?_)
    · refine jr_iconst (v := (-1 : Int32)) hE dX12_copy_28 (by decide) ?_
      have e : stCopy s (nI k) c m = (-1, s) := by
        unfold stCopy
        rw [if_neg (fun h => absurd (b2i_t h.2.1) (by rw [c11]; decide))]
      exact hR F _ _ _ dX12_copy_29 rfl ⟨v, n, g, w, by rw [e]; exact hI, by rw [e], mO.rf o a F⟩
    · have hrp : rowP c := b2i_1 c11
      obtain ⟨p, hp, rfl⟩ := rowP_nI hrp
      obtain ⟨z1p, z2p, z3p, z4p⟩ := hRW p hp
      have hrnp := nI_rn hp
      refine jr_iload_n hE dX12_copy_14 3 rfl ?_
      refine jr_i2l hE dX12_copy_15 rfl ?_
      refine jr_ldc2 (v := (-1 : Int64)) hE dX12_copy_16 (by decide +kernel) ?_
      refine jr_ldc2 (v := (15 : Int64)) hE dX12_copy_19 (by decide +kernel) ?_
      refine jr_kSi (n := 3) (As := [.long m.toInt64, .long (-1 : Int64), .long (15 : Int64)]) (rest := []) hE dX12_copy_22 (fun l => c_m_in l G m.toInt64 (-1) 15) gX12_copy_X12_in rfl (by decide +kernel) ⟨rfl, rfl, by decide, by decide⟩ (by decide) rfl rfl (Nat.le_of_ble_eq_true rfl) (trivial) (fun r9 F7 q8 => ?_)
      obtain ⟨eq8, rq8⟩ := q8
      subst eq8 rq8
      rw [show b2i ((-1 : Int64).toInt ≤ m.toInt64.toInt ∧ m.toInt64.toInt ≤ (15 : Int64).toInt) = b2i (-1 ≤ m.toInt ∧ m.toInt ≤ 15) by rw [i2l_T]; rfl]
      refine jr_if_ne (tgt := 30) hE dX12_copy_25 (by decide) (fun c25 => ?_) (fun c25 => ?_)
      · refine jr_aload_n hE dX12_copy_30 0 rfl ?_
        refine jr_get hE dX12_copy_31 f96 M0.ob rfl ?_
        refine jr_iload_n hE dX12_copy_34 2 rfl ?_
        refine jr_iald (v := nI (s.1 p).length) hE dX12_copy_35 (M0.I (k := 8) (N := 16) (by decide)) (vp_in_nI (by omega) (by decide)) (by rw [nI_clamp (by omega)]; exact z1p) ?_
        refine jr_istore (lv' := [(4, .int (nI (s.1 p).length)), (0, .ref o), (1, .int (nI k)), (2, .int (nI p)), (3, .int m)]) hE dX12_copy_36 (by decide) rfl ?_
        refine jr_iload hE dX12_copy_38 0 rfl ?_
        refine jr_iload_n hE dX12_copy_40 4 rfl ?_
        refine jr_if_ge (tgt := 48) hE dX12_copy_41 (by decide) (fun c41 => ?_) (fun c41 => ?_)
        · have hc := b2i_1 c25
          have ht0 : 0 ≤ m.toInt := by have := Int32.le_iff_toInt_le.mp c41; rwa [show (0 : Int32).toInt = 0 by decide] at this
          obtain ⟨q, hq0, hmq⟩ := sm_nI (x := m) (m := 15) ht0 hc.2 (by decide)
          subst hmq
          have htq : (nI q).toInt = q := nI_toInt (by omega)
          have hq : q < 16 := by omega
          have hrnq := nI_rn hq
          obtain ⟨z1q, z2q, z3q, z4q⟩ := hRW q hq
          have he : stCopy s (nI k) (nI p) (nI q) = if (s.1 p).length + (s.1 q).length ≤ 100 then (nI ((s.1 p).length + (s.1 q).length), setR s k (s.1 p ++ s.1 q)) else (-3, s) := by
            unfold stCopy moreL
            rw [if_pos ⟨nI_rowP hk, nI_rowP hp, hc⟩, hrnk, hrnp, if_neg (show ¬ (nI q).toInt < 0 by omega), hrnq]
          refine jr_aload_n hE dX12_copy_48 1 rfl ?_
          refine jr_get hE dX12_copy_49 f96 M0.ob rfl ?_
          refine jr_iload_n hE dX12_copy_52 4 rfl ?_
          refine jr_iald (v := nI (s.1 q).length) hE dX12_copy_53 (M0.I (k := 8) (N := 16) (by decide)) (vp_in_nI (by omega) (by decide)) (by rw [nI_clamp (by omega)]; exact z1q) ?_
          refine jr_iadd (z := nI ((s.1 p).length + (s.1 q).length)) hE dX12_copy_54 (nI_add _ _) ?_
          refine jr_istore (lv' := [(5, .int (nI ((s.1 p).length + (s.1 q).length))), (4, .int (nI (s.1 p).length)), (0, .ref o), (1, .int (nI k)), (2, .int (nI p)), (3, .int (nI q))]) hE dX12_copy_55 (by decide) rfl ?_
          refine jr_lv (lv' := [(5, .int (nI ((s.1 p).length + (s.1 q).length))), (4, .int (nI (s.1 p).length)), (0, .ref o), (1, .int (nI k)), (2, .int (nI p)), (3, .int (nI q))]) [0, 1, 2, 3, 4, 5] rfl ?_
          exact main k p hk hp z1p z2p z3p z4p (s.1 q) (nI q) z3q z4q (.inr ⟨q, hq, rfl, z2q⟩) he hR
        · refine jr_iconst (v := (0 : Int32)) hE dX12_copy_44 (by decide) ?_
          refine jr_goto (tgt := 54) hE dX12_copy_45 (by decide) ?_
          refine jr_iadd (z := nI ((s.1 p).length + ([] : List Nat).length)) hE dX12_copy_54 (Int32.add_zero _) ?_
          refine jr_istore (lv' := [(5, .int (nI ((s.1 p).length + ([] : List Nat).length))), (4, .int (nI (s.1 p).length)), (0, .ref o), (1, .int (nI k)), (2, .int (nI p)), (3, .int m)]) hE dX12_copy_55 (by decide) rfl ?_
          refine jr_lv (lv' := [(5, .int (nI ((s.1 p).length + ([] : List Nat).length))), (4, .int (nI (s.1 p).length)), (0, .ref o), (1, .int (nI k)), (2, .int (nI p)), (3, .int m)]) [0, 1, 2, 3, 4, 5] rfl ?_
          have hc := b2i_1 c25
          have hm0 : m.toInt < 0 := by
            refine Classical.byContradiction (fun h => c41 (Int32.le_iff_toInt_le.mpr ?_))
            rw [show (0 : Int32).toInt = 0 by decide]
            omega
          have he : stCopy s (nI k) (nI p) m = if (s.1 p).length + (([] : List Nat)).length ≤ 100 then (nI ((s.1 p).length + (([] : List Nat)).length), setR s k (s.1 p ++ ([] : List Nat))) else (-3, s) := by
            unfold stCopy moreL
            rw [if_pos ⟨nI_rowP hk, nI_rowP hp, hc⟩, hrnk, hrnp, if_pos hm0]
          exact main k p hk hp z1p z2p z3p z4p [] m (Nat.zero_le _) (fun b hb => absurd hb (List.not_mem_nil)) (.inl rfl) he hR
      · refine jr_iconst (v := (-1 : Int32)) hE dX12_copy_28 (by decide) ?_
        have e : stCopy s (nI k) (nI p) m = (-1, s) := by
          unfold stCopy
          rw [if_neg (fun h => absurd (b2i_t h.2.2) (by rw [c25]; decide))]
        exact hR F _ _ _ dX12_copy_29 rfl ⟨v, n, g, w, by rw [e]; exact hI, by rw [e], mO.rf o a F⟩

