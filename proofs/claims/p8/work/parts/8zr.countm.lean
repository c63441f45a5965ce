/-! THE REFERENCE'S count -/
def cnt (f : Nat → Bool) : Nat → Nat
  | 0 => 0
  | k + 1 => cnt f k + (if f k then 1 else 0)
theorem cnt_le (f : Nat → Bool) : ∀ k, cnt f k ≤ k
  | 0 => Nat.le_refl 0
  | k + 1 => by
    have := cnt_le f k
    show cnt f k + (if f k then 1 else 0) ≤ k + 1
    split <;> omega
theorem cnt_0 {f : Nat → Bool} {j : Nat} (h : ¬ f j = true) : nI (cnt f j) + 0 = nI (cnt f (j + 1)) := by
  show _ = nI (cnt f j + (if f j then 1 else 0))
  rw [if_neg h]
  exact Int32.add_zero _
theorem cnt_1 {f : Nat → Bool} {j : Nat} (h : f j = true) : nI (cnt f j) + 1 = nI (cnt f (j + 1)) := by
  show _ = nI (cnt f j + (if f j then 1 else 0))
  rw [if_pos h]
  exact nI_1 _
def stCount (s : ST) (x : Int32) : Int32 := if x = 0 then nI s.2.2.2.1.length else if x = 1 then nI (cnt (fun j => (s.2.2.2.2.1 j).isSome) s.2.2.2.1.length) else if x = 2 then nI (cnt (fun j => (s.2.2.2.2.2.1 j).isSome) s.2.2.2.1.length) else if x = 3 then (if s.2.2.2.2.2.2.isSome then 1 else 0) else if x = 4 then nI s.2.1.length else if x = 5 then nI s.2.2.1 else -1

set_option maxHeartbeats 4000000 in
set_option maxRecDepth 100000 in
theorem c_m_count (l : Launch) (G : Nat → ClassId) (o : Nat) (a : Nat → Nat) (v : Nat → Int32) (n : Nat → Option Nat) (g : Nat → Nat → Int64) (w : Nat → Nat → Int32) (s : ST) (x : Int32) : jKi l yX12_count wsX12_count ({ frames := 0, cells := 0, slots := 0, locals := 0 }) G [.ref o, .int x] (fun L F => mI G L F o a v n g w s) (fun L F z F1 => F = F1 ∧ z = stCount s x) := by
  refine jm_ki (cc := cX12_count) (maxL := 4) (rt := .int) (by decide) rfl (Nat.le_of_ble_eq_true rfl) ?_
  intro E L F hE hR hpre
  have hE : jOk E G _ cX12_count 4 RX12 wsX12_count := hE

  have f533 : jFl RX12 wsX12_count 533 12 16 := ⟨rfl, by decide, by decide +kernel, by decide +kernel⟩
  have f121 : jFl RX12 wsX12_count 121 12 18 := ⟨rfl, by decide, by decide +kernel, by decide +kernel⟩
  have f134 : jFl RX12 wsX12_count 134 12 22 := ⟨rfl, by decide, by decide +kernel, by decide +kernel⟩
  have f529 : jFl RX12 wsX12_count 529 12 24 := ⟨rfl, by decide, by decide +kernel, by decide +kernel⟩
  have f520 : jFl RX12 wsX12_count 520 12 10 := ⟨rfl, by decide, by decide +kernel, by decide +kernel⟩
  have f478 : jFl RX12 wsX12_count 478 12 31 := ⟨rfl, by decide, by decide +kernel, by decide +kernel⟩
  have hI := hpre
  obtain ⟨M0, hK, hC, htg, hrd, hRW, hpI⟩ := id hpre
  have lp1 : (∀ (F1 : Nat → va_E) (v_1 : Int32) (pc : Nat) (lv : List (Nat × Value)), decode cX12_count pc = .ok (.ireturn, 1) → narrow .int (.int v_1) = .int v_1 → F = F1 ∧ v_1 = stCount s (1 : Int32) → J E L F1 0 0 pc lv [.int v_1]) → ∀ (r0 j : Nat), j + r0 = s.2.2.2.1.length → J E L F 0 0 47 [(3, .int (nI j)), (2, .int (nI (cnt (fun j => (s.2.2.2.2.1 j).isSome) j))), (0, .ref o), (1, .int (1 : Int32))] [] := by
    intro hR r0
    have hm4 := hpI.2.2.1.2.1
    have hb : ∀ j, j < 4 → (w 18 j ≠ 0 → (fun j => (s.2.2.2.2.1 j).isSome) j = true) ∧ ((fun j => (s.2.2.2.2.1 j).isSome) j = true → w 18 j = 1) := fun j hj => by
      have q := (hpI.2.2.2.1 j hj).2
      show (w 18 j ≠ 0 → (s.2.2.2.2.1 j).isSome = true) ∧ ((s.2.2.2.2.1 j).isSome = true → w 18 j = 1)
      revert q
      cases s.2.2.2.2.1 j with
      | none => exact fun q => ⟨fun h => absurd q h, fun h => absurd h (by decide)⟩
      | some t => exact fun q => ⟨fun _ => rfl, fun _ => q.1⟩
    induction r0 with
    | zero =>
      intro j hj
      refine jr_iload_n hE dX12_count_47 0 rfl ?_
      refine jr_aload_n hE dX12_count_48 2 rfl ?_
      refine jr_get hE dX12_count_49 f533 M0.ob rfl ?_
      rw [hpI.2.2.1.1]
      refine jr_icmp_ge (tgt := 95) hE dX12_count_52 (by decide) (fun c_52 => ?_) (fun c_52 => absurd (nI_le (by omega) (by omega)) c_52)
      refine jr_iload_n hE dX12_count_95 1 rfl ?_
      exact hR F _ _ _ dX12_count_96 rfl ⟨rfl, by rw [show j = s.2.2.2.1.length by omega]; rfl⟩
    | succ r0 ih =>
      intro j hj
      refine jr_iload_n hE dX12_count_47 0 rfl ?_
      refine jr_aload_n hE dX12_count_48 2 rfl ?_
      refine jr_get hE dX12_count_49 f533 M0.ob rfl ?_
      rw [hpI.2.2.1.1]
      refine jr_icmp_ge (tgt := 95) hE dX12_count_52 (by decide) (fun c_52 => absurd c_52 (nI_ge (by omega) (by omega))) (fun c_52 => ?_)
      refine jr_iload_n hE dX12_count_55 1 rfl ?_
      refine jr_iload_n hE dX12_count_56 3 rfl ?_
      refine jr_iconst (v := (1 : Int32)) hE dX12_count_57 (by decide) ?_
      refine jr_icmp_ne (tgt := 73) hE dX12_count_58 (by decide) (fun c_58 => absurd c_58 (by decide)) (fun c_58 => ?_)
      refine jr_aload_n hE dX12_count_61 2 rfl ?_
      refine jr_get hE dX12_count_62 f121 M0.ob rfl ?_
      refine jr_iload_n hE dX12_count_65 0 rfl ?_
      refine jr_zald (v := w 18 j) hE dX12_count_66 (M0.Z (k := 18) (N := 4) (by decide)) (vp_in_nI (by omega) (by decide)) (by rw [nI_clamp (by omega)]) ?_
      refine jr_if_eq (tgt := 86) hE dX12_count_67 (by decide) (fun c67 => ?_) (fun c67 => ?_)
      · refine jr_iconst (v := (0 : Int32)) hE dX12_count_86 (by decide) ?_
        refine jr_iadd (z := nI (cnt (fun j => (s.2.2.2.2.1 j).isSome) (j + 1))) hE dX12_count_87 (cnt_0 (f := (fun j => (s.2.2.2.2.1 j).isSome)) (fun q => absurd ((hb j (by omega)).2 q) (by rw [c67]; decide))) ?_
        refine jr_istore_n (lv' := [(2, .int (nI (cnt (fun j => (s.2.2.2.2.1 j).isSome) (j + 1)))), (3, .int (nI j)), (0, .ref o), (1, .int (1 : Int32))]) hE dX12_count_88 (by decide) rfl ?_
        refine jr_iinc (v := nI (j + 1)) (lv' := [(3, .int (nI (j + 1))), (2, .int (nI (cnt (fun j => (s.2.2.2.2.1 j).isSome) (j + 1)))), (0, .ref o), (1, .int (1 : Int32))]) hE dX12_count_89 1 rfl (nI_1 _) (by decide) rfl ?_
        refine jr_goto (tgt := 47) hE dX12_count_92 (by decide) ?_
        refine jr_lv (lv' := [(3, .int (nI (j + 1))), (2, .int (nI (cnt (fun j => (s.2.2.2.2.1 j).isSome) (j + 1)))), (0, .ref o), (1, .int (1 : Int32))]) [0, 1, 2, 3] rfl ?_
        exact ih (j + 1) (by omega)
      · refine jr_goto (tgt := 82) hE dX12_count_70 (by decide) ?_
        refine jr_iconst (v := (1 : Int32)) hE dX12_count_82 (by decide) ?_
        refine jr_goto (tgt := 87) hE dX12_count_83 (by decide) ?_
        refine jr_iadd (z := nI (cnt (fun j => (s.2.2.2.2.1 j).isSome) (j + 1))) hE dX12_count_87 (cnt_1 (f := (fun j => (s.2.2.2.2.1 j).isSome)) ((hb j (by omega)).1 c67)) ?_
        refine jr_istore_n (lv' := [(2, .int (nI (cnt (fun j => (s.2.2.2.2.1 j).isSome) (j + 1)))), (3, .int (nI j)), (0, .ref o), (1, .int (1 : Int32))]) hE dX12_count_88 (by decide) rfl ?_
        refine jr_iinc (v := nI (j + 1)) (lv' := [(3, .int (nI (j + 1))), (2, .int (nI (cnt (fun j => (s.2.2.2.2.1 j).isSome) (j + 1)))), (0, .ref o), (1, .int (1 : Int32))]) hE dX12_count_89 1 rfl (nI_1 _) (by decide) rfl ?_
        refine jr_goto (tgt := 47) hE dX12_count_92 (by decide) ?_
        refine jr_lv (lv' := [(3, .int (nI (j + 1))), (2, .int (nI (cnt (fun j => (s.2.2.2.2.1 j).isSome) (j + 1)))), (0, .ref o), (1, .int (1 : Int32))]) [0, 1, 2, 3] rfl ?_
        exact ih (j + 1) (by omega)
  have lp2 : (∀ (F1 : Nat → va_E) (v_1 : Int32) (pc : Nat) (lv : List (Nat × Value)), decode cX12_count pc = .ok (.ireturn, 1) → narrow .int (.int v_1) = .int v_1 → F = F1 ∧ v_1 = stCount s (2 : Int32) → J E L F1 0 0 pc lv [.int v_1]) → ∀ (r0 j : Nat), j + r0 = s.2.2.2.1.length → J E L F 0 0 47 [(3, .int (nI j)), (2, .int (nI (cnt (fun j => (s.2.2.2.2.2.1 j).isSome) j))), (0, .ref o), (1, .int (2 : Int32))] [] := by
    intro hR r0
    have hm4 := hpI.2.2.1.2.1
    have hb : ∀ j, j < 4 → (w 22 j ≠ 0 → (fun j => (s.2.2.2.2.2.1 j).isSome) j = true) ∧ ((fun j => (s.2.2.2.2.2.1 j).isSome) j = true → w 22 j = 1) := fun j hj => by
      have q := (hpI.2.2.2.2.1 j hj).2
      show (w 22 j ≠ 0 → (s.2.2.2.2.2.1 j).isSome = true) ∧ ((s.2.2.2.2.2.1 j).isSome = true → w 22 j = 1)
      revert q
      cases s.2.2.2.2.2.1 j with
      | none => exact fun q => ⟨fun h => absurd q h, fun h => absurd h (by decide)⟩
      | some t => exact fun q => ⟨fun _ => rfl, fun _ => q.1⟩
    induction r0 with
    | zero =>
      intro j hj
      refine jr_iload_n hE dX12_count_47 0 rfl ?_
      refine jr_aload_n hE dX12_count_48 2 rfl ?_
      refine jr_get hE dX12_count_49 f533 M0.ob rfl ?_
      rw [hpI.2.2.1.1]
      refine jr_icmp_ge (tgt := 95) hE dX12_count_52 (by decide) (fun c_52 => ?_) (fun c_52 => absurd (nI_le (by omega) (by omega)) c_52)
      refine jr_iload_n hE dX12_count_95 1 rfl ?_
      exact hR F _ _ _ dX12_count_96 rfl ⟨rfl, by rw [show j = s.2.2.2.1.length by omega]; rfl⟩
    | succ r0 ih =>
      intro j hj
      refine jr_iload_n hE dX12_count_47 0 rfl ?_
      refine jr_aload_n hE dX12_count_48 2 rfl ?_
      refine jr_get hE dX12_count_49 f533 M0.ob rfl ?_
      rw [hpI.2.2.1.1]
      refine jr_icmp_ge (tgt := 95) hE dX12_count_52 (by decide) (fun c_52 => absurd c_52 (nI_ge (by omega) (by omega))) (fun c_52 => ?_)
      refine jr_iload_n hE dX12_count_55 1 rfl ?_
      refine jr_iload_n hE dX12_count_56 3 rfl ?_
      refine jr_iconst (v := (1 : Int32)) hE dX12_count_57 (by decide) ?_
      refine jr_icmp_ne (tgt := 73) hE dX12_count_58 (by decide) (fun c58 => ?_) (fun c58 => ?_)
      · refine jr_aload_n hE dX12_count_73 2 rfl ?_
        refine jr_get hE dX12_count_74 f134 M0.ob rfl ?_
        refine jr_iload_n hE dX12_count_77 0 rfl ?_
        refine jr_zald (v := w 22 j) hE dX12_count_78 (M0.Z (k := 22) (N := 4) (by decide)) (vp_in_nI (by omega) (by decide)) (by rw [nI_clamp (by omega)]) ?_
        refine jr_if_eq (tgt := 86) hE dX12_count_79 (by decide) (fun c79 => ?_) (fun c79 => ?_)
        · refine jr_iconst (v := (0 : Int32)) hE dX12_count_86 (by decide) ?_
          refine jr_iadd (z := nI (cnt (fun j => (s.2.2.2.2.2.1 j).isSome) (j + 1))) hE dX12_count_87 (cnt_0 (f := (fun j => (s.2.2.2.2.2.1 j).isSome)) (fun q => absurd ((hb j (by omega)).2 q) (by rw [c79]; decide))) ?_
          refine jr_istore_n (lv' := [(2, .int (nI (cnt (fun j => (s.2.2.2.2.2.1 j).isSome) (j + 1)))), (3, .int (nI j)), (0, .ref o), (1, .int (2 : Int32))]) hE dX12_count_88 (by decide) rfl ?_
          refine jr_iinc (v := nI (j + 1)) (lv' := [(3, .int (nI (j + 1))), (2, .int (nI (cnt (fun j => (s.2.2.2.2.2.1 j).isSome) (j + 1)))), (0, .ref o), (1, .int (2 : Int32))]) hE dX12_count_89 1 rfl (nI_1 _) (by decide) rfl ?_
          refine jr_goto (tgt := 47) hE dX12_count_92 (by decide) ?_
          refine jr_lv (lv' := [(3, .int (nI (j + 1))), (2, .int (nI (cnt (fun j => (s.2.2.2.2.2.1 j).isSome) (j + 1)))), (0, .ref o), (1, .int (2 : Int32))]) [0, 1, 2, 3] rfl ?_
          exact ih (j + 1) (by omega)
        · refine jr_iconst (v := (1 : Int32)) hE dX12_count_82 (by decide) ?_
          refine jr_goto (tgt := 87) hE dX12_count_83 (by decide) ?_
          refine jr_iadd (z := nI (cnt (fun j => (s.2.2.2.2.2.1 j).isSome) (j + 1))) hE dX12_count_87 (cnt_1 (f := (fun j => (s.2.2.2.2.2.1 j).isSome)) ((hb j (by omega)).1 c79)) ?_
          refine jr_istore_n (lv' := [(2, .int (nI (cnt (fun j => (s.2.2.2.2.2.1 j).isSome) (j + 1)))), (3, .int (nI j)), (0, .ref o), (1, .int (2 : Int32))]) hE dX12_count_88 (by decide) rfl ?_
          refine jr_iinc (v := nI (j + 1)) (lv' := [(3, .int (nI (j + 1))), (2, .int (nI (cnt (fun j => (s.2.2.2.2.2.1 j).isSome) (j + 1)))), (0, .ref o), (1, .int (2 : Int32))]) hE dX12_count_89 1 rfl (nI_1 _) (by decide) rfl ?_
          refine jr_goto (tgt := 47) hE dX12_count_92 (by decide) ?_
          refine jr_lv (lv' := [(3, .int (nI (j + 1))), (2, .int (nI (cnt (fun j => (s.2.2.2.2.2.1 j).isSome) (j + 1)))), (0, .ref o), (1, .int (2 : Int32))]) [0, 1, 2, 3] rfl ?_
          exact ih (j + 1) (by omega)
      · exact absurd c58 (by decide)
  have hs3 : (v 24 ≠ 0 → s.2.2.2.2.2.2.isSome = true) ∧ (s.2.2.2.2.2.2.isSome = true → v 24 = 1) := by
    have q := hpI.2.2.2.2.2
    unfold seI at q
    revert q
    cases s.2.2.2.2.2.2 with
    | none => exact fun q => ⟨fun h => absurd q h, fun h => absurd h (by decide)⟩
    | some t => exact fun q => ⟨fun _ => rfl, fun _ => q.1⟩
  have sw : J E L F 0 0 3 [(2, .int (0 : Int32)), (0, .ref o), (1, .int x)] [.int x] := by
    by_cases c0 : x = 0
    · subst c0
      refine jr_tabIn 40 hE dX12_count_3 (by decide) (by decide) (off := 37) (by decide) (by decide) ?_
      refine jr_aload_n hE dX12_count_40 1 rfl ?_
      refine jr_get hE dX12_count_41 f533 M0.ob rfl ?_
      rw [hpI.2.2.1.1]
      exact hR F _ _ _ dX12_count_44 rfl ⟨rfl, rfl⟩
    by_cases c1 : x = 1
    · subst c1
      refine jr_tabIn 45 hE dX12_count_3 (by decide) (by decide) (off := 42) (by decide) (by decide) ?_
      refine jr_iconst (v := (0 : Int32)) hE dX12_count_45 (by decide) ?_
      refine jr_istore_n (lv' := [(3, .int (0 : Int32)), (2, .int (0 : Int32)), (0, .ref o), (1, .int (1 : Int32))]) hE dX12_count_46 (by decide) rfl ?_
      refine jr_lv (lv' := [(3, .int (0 : Int32)), (2, .int (0 : Int32)), (0, .ref o), (1, .int (1 : Int32))]) [0, 1, 2, 3] rfl ?_
      exact lp1 hR s.2.2.2.1.length 0 (Nat.zero_add _)
    by_cases c2 : x = 2
    · subst c2
      refine jr_tabIn 45 hE dX12_count_3 (by decide) (by decide) (off := 42) (by decide) (by decide) ?_
      refine jr_iconst (v := (0 : Int32)) hE dX12_count_45 (by decide) ?_
      refine jr_istore_n (lv' := [(3, .int (0 : Int32)), (2, .int (0 : Int32)), (0, .ref o), (1, .int (2 : Int32))]) hE dX12_count_46 (by decide) rfl ?_
      refine jr_lv (lv' := [(3, .int (0 : Int32)), (2, .int (0 : Int32)), (0, .ref o), (1, .int (2 : Int32))]) [0, 1, 2, 3] rfl ?_
      exact lp2 hR s.2.2.2.1.length 0 (Nat.zero_add _)
    by_cases c3 : x = 3
    · subst c3
      refine jr_tabIn 97 hE dX12_count_3 (by decide) (by decide) (off := 94) (by decide) (by decide) ?_
      refine jr_aload_n hE dX12_count_97 1 rfl ?_
      refine jr_get hE dX12_count_98 f529 M0.ob rfl ?_
      refine jr_if_eq (tgt := 108) hE dX12_count_101 (by decide) (fun c101 => ?_) (fun c101 => ?_)
      · refine jr_iconst (v := (0 : Int32)) hE dX12_count_108 (by decide) ?_
        exact hR F _ _ _ dX12_count_109 rfl ⟨rfl, by
          show _ = (if s.2.2.2.2.2.2.isSome then _ else _)
          rw [if_neg (fun q => absurd (hs3.2 q) (by rw [c101]; decide))]⟩
      · refine jr_iconst (v := (1 : Int32)) hE dX12_count_104 (by decide) ?_
        refine jr_goto (tgt := 109) hE dX12_count_105 (by decide) ?_
        exact hR F _ _ _ dX12_count_109 rfl ⟨rfl, by
          show _ = (if s.2.2.2.2.2.2.isSome then _ else _)
          rw [if_pos (hs3.1 c101)]⟩
    by_cases c4 : x = 4
    · subst c4
      refine jr_tabIn 110 hE dX12_count_3 (by decide) (by decide) (off := 107) (by decide) (by decide) ?_
      refine jr_aload_n hE dX12_count_110 1 rfl ?_
      refine jr_get hE dX12_count_111 f520 M0.ob rfl ?_
      rw [hpI.1.1]
      exact hR F _ _ _ dX12_count_114 rfl ⟨rfl, rfl⟩
    by_cases c5 : x = 5
    · subst c5
      refine jr_tabIn 115 hE dX12_count_3 (by decide) (by decide) (off := 112) (by decide) (by decide) ?_
      refine jr_aload_n hE dX12_count_115 1 rfl ?_
      refine jr_get hE dX12_count_116 f478 M0.ob rfl ?_
      rw [hpI.2.1.1]
      exact hR F _ _ _ dX12_count_119 rfl ⟨rfl, rfl⟩
    refine jr_tabOut 120 hE dX12_count_3 (Classical.byContradiction (fun h => ?_)) (by decide) ?_
    · obtain ⟨t, ht, hx⟩ := sm_nI (x := x) (m := 5) (by omega) (by omega) (by decide)
      subst hx
      have : t = 0 ∨ t = 1 ∨ t = 2 ∨ t = 3 ∨ t = 4 ∨ t = 5 := by omega
      rcases this with rfl | rfl | rfl | rfl | rfl | rfl
      · exact c0 rfl
      · exact c1 rfl
      · exact c2 rfl
      · exact c3 rfl
      · exact c4 rfl
      · exact c5 rfl
    refine jr_iconst (v := (-1 : Int32)) hE dX12_count_120 (by decide) ?_
    exact hR F _ _ _ dX12_count_121 rfl ⟨rfl, by unfold stCount; rw [if_neg c0, if_neg c1, if_neg c2, if_neg c3, if_neg c4, if_neg c5]⟩
  refine jr_iconst (v := (0 : Int32)) hE dX12_count_0 (by decide) ?_
  refine jr_istore_n (lv' := [(2, .int (0 : Int32)), (0, .ref o), (1, .int x)]) hE dX12_count_1 (by decide) rfl ?_
  refine jr_iload_n hE dX12_count_2 2 rfl ?_
  refine jr_lv (lv' := [(2, .int (0 : Int32)), (0, .ref o), (1, .int x)]) [0, 1, 2] rfl ?_
  exact sw

