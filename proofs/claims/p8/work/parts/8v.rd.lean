/-! THE REFERENCE'S reads, tells -/
theorem MW.I {G : Nat → ClassId} {L : List Nat} {F : Nat → va_E} {o : Nat} {a : Nat → Nat} {v : Nat → Int32} {n : Nat → Option Nat} {g : Nat → Nat → Int64} {w : Nat → Nat → Int32} (M : MW G L F o a v n g w) {k N : Nat} (h : ik k N) : jF L F (a k) (.inl (G 1, N, .inl (w k))) := by
  obtain ⟨s, H, -⟩ := M
  exact H.I h
theorem MW.Z {G : Nat → ClassId} {L : List Nat} {F : Nat → va_E} {o : Nat} {a : Nat → Nat} {v : Nat → Int32} {n : Nat → Option Nat} {g : Nat → Nat → Int64} {w : Nat → Nat → Int32} (M : MW G L F o a v n g w) {k N : Nat} (h : zk k N) : jF L F (a k) (.inl (G 3, N, .inl (w k))) := by
  obtain ⟨s, H, -⟩ := M
  exact H.Z h
theorem MW.setI {G : Nat → ClassId} {L : List Nat} {F F1 : Nat → va_E} {o : Nat} {a : Nat → Nat} {v : Nat → Int32} {n : Nat → Option Nat} {g : Nat → Nat → Int64} {w : Nat → Nat → Int32} (M : MW G L F o a v n g w) {k N : Nat} {f : Nat → Int32} (h : ik k N) (h1 : jF L F1 (a k) (.inl (G 1, N, .inl f))) (u : ∀ x, x ≠ a k → F1 x = F x) : MW G L F1 o a v n g (uz w k f) := by
  obtain ⟨s, H, hn, hg⟩ := M
  exact ⟨s, H.setI h h1 u, hn, hg⟩
theorem MW.setZ {G : Nat → ClassId} {L : List Nat} {F F1 : Nat → va_E} {o : Nat} {a : Nat → Nat} {v : Nat → Int32} {n : Nat → Option Nat} {g : Nat → Nat → Int64} {w : Nat → Nat → Int32} (M : MW G L F o a v n g w) {k N : Nat} {f : Nat → Int32} (h : zk k N) (h1 : jF L F1 (a k) (.inl (G 3, N, .inl f))) (u : ∀ x, x ≠ a k → F1 x = F x) : MW G L F1 o a v n g (uz w k f) := by
  obtain ⟨s, H, hn, hg⟩ := M
  exact ⟨s, H.setZ h h1 u, hn, hg⟩
theorem MW.setV {G : Nat → ClassId} {L : List Nat} {F F1 : Nat → va_E} {o : Nat} {a : Nat → Nat} {v v' : Nat → Int32} {n : Nat → Option Nat} {g : Nat → Nat → Int64} {w : Nat → Nat → Int32} (M : MW G L F o a v n g w) (h1 : jF L F1 o (.inr (12, mFs a v'))) (u : ∀ x, x ≠ o → F1 x = F x) : MW G L F1 o a v' n g w := by
  obtain ⟨s, H, hn, hg⟩ := M
  exact ⟨s, H.setV h1 u, hn, hg⟩
theorem ep_neg {x y : Nat} (hx : x < PP) : ep PP (x : Int) (-(y : Int)) = some (x, fk (-1) y) := by
  unfold ep fk
  rw [Int.emod_eq_of_lt (by omega) (by omega), Int.toNat_natCast, Int.neg_one_mul]
theorem lf_neg {V : Nat} (h : isX V) : isE PP (V : Int) ((fk (-1) (eyE V) : Nat) : Int) := by
  refine isE_c (isE_n (lf_on h)) (zd0 PP (by omega)) ?_
  have k := zfk (a := eyE V) (a' := (eyE V : Int)) (-1) (zd0 PP (by omega))
  show zd PP (((fk (-1) (eyE V) : Nat) : Int) - -((eyE V : Nat) : Int))
  generalize ((fk (-1) (eyE V) : Nat) : Int) = p at *
  generalize ((eyE V : Nat) : Int) = q at *
  exact k.l1 1 (by omega)
theorem rdE_3 {V : Nat} (h : isX V) : rdE 3 V = some (V, fk (-1) (eyE V)) := by
  show ep PP ((V : Nat) : Int) (-((eyE V : Nat) : Int)) = _
  exact ep_neg h.1
theorem rdE_2 {f V : Nat} (h : f ≠ 3) : rdE f V = lfE V := if_neg h
/-- the 33 bytes of a point -/
def pbE (A : EP) : List Nat := match A with
  | none => List.replicate 33 0
  | some a => (if a.2 % 2 = 1 then 3 else 2) :: bex a.1 32
theorem pbE_len (A : EP) : (pbE A).length = 33 := by
  cases A with
  | none => simp [pbE]
  | some a => simp [pbE, bex_len]
theorem rep_z (k : Nat) (h : k < 33) : (List.replicate 33 0 : List Nat).take k ++ [0] = (List.replicate 33 0).take (k + 1) := by
  rw [List.take_replicate, List.take_replicate, Nat.min_eq_left (by omega), Nat.min_eq_left (by omega), List.replicate_succ']
theorem nI_odd (y : Nat) : (2 : Int32) + nI (y % 2) = nI (if y % 2 = 1 then 3 else 2) := by
  rcases Nat.mod_two_eq_zero_or_one y with h | h
  · rw [h]; rfl
  · rw [h]; rfl
theorem wrt_cons {f : Nat → Int32} {s b : Nat} {l : List Nat} (hs : s < 2 ^ 31) : wrt (upd f (nI s).toNatClampNeg (nI b)) (s + 1) l = wrt f s (b :: l) := by
  rw [nI_clamp hs]
  funext j
  show (if _ then _ else (if j = s then _ else _)) = (if _ then _ else _)
  by_cases e : j = s
  · subst e
    rw [if_neg (by omega), if_pos rfl, if_pos (by simp), Nat.sub_self]
    rfl
  · by_cases q : s + 1 ≤ j ∧ j < s + 1 + l.length
    · rw [if_pos q, if_pos (by simp; omega)]
      obtain ⟨m, hm⟩ : ∃ m, j - s = m + 1 := ⟨j - s - 1, by omega⟩
      rw [hm, show j - (s + 1) = m by omega]
      rfl
    · rw [if_neg q, if_neg e, if_neg (by simp; omega)]

set_option maxHeartbeats 4000000 in
set_option maxRecDepth 100000 in
theorem c_m_reads (l : Launch) (G : Nat → ClassId) (o : Nat) (a : Nat → Nat) (v : Nat → Int32) (n : Nat → Option Nat) (g : Nat → Nat → Int64) (w : Nat → Nat → Int32) (kb fr N fb V : Nat) : jKi l yX12_reads wsX12_reads ({ frames := 5, cells := 0, slots := 0, locals := 132 }) G [.ref o, .ref (a kb), .int (nI fr)] (fun L F => MW G L F o a v n g w ∧ mK n g ∧ mC n ∧ ik kb N ∧ fr + 33 ≤ N ∧ N < 2 ^ 30 ∧ bB (w kb) fr 33 ∧ fb = bt (w kb) fr ∧ V = bnum (bl (w kb) (fr + 1) 32)) (fun L F r F1 => ∃ n', MW G L F1 o a v n' g w ∧ (∀ k, k ∉ [40, 41, 42, 43, 35, 36, 49] → n' k = n k) ∧ (rdX fb V → qE n' (rdE fb V)) ∧ r = b2i (rdX fb V) ∧ mO o a F F1) := by
  refine jm_ki (cc := cX12_reads) (maxL := 3) (rt := .boolean) (by decide) rfl (Nat.le_of_ble_eq_true rfl) ?_
  intro E L F hE hR hpre
  have hE : jOk E G _ cX12_reads 3 RX12 wsX12_reads := hE
  obtain ⟨M0, hK, hC, hkb, hN, hN2, hB, hfb, hV⟩ := hpre
  have hfl : fb < 256 := by rw [hfb]; exact hB 0 (by decide)
  have f205 : jFl RX12 wsX12_reads 205 12 49 := ⟨rfl, by decide, by decide +kernel, by decide +kernel⟩
  refine jr_aload_n hE dX12_reads_0 1 rfl ?_
  refine jr_iload_n hE dX12_reads_1 2 rfl ?_
  refine jr_iald (v := nI fb) hE dX12_reads_2 (M0.I (k := kb) (N := N) hkb) (vp_in_nI (by omega) (by omega)) (by rw [nI_clamp (by omega), hfb]; exact bt_nI _ _) ?_
  refine jr_iconst (v := (2 : Int32)) hE dX12_reads_3 (by decide) ?_
  refine jr_icmp_eq (tgt := 16) hE dX12_reads_4 (by decide) (fun c4 => ?_) (fun c4 => ?_)
  · have h23 : fb = 2 ∨ fb = 3 := Or.inl ((nI_eq (by omega) (by decide)).mp c4)
    refine jr_aload_n hE dX12_reads_16 0 rfl ?_
    refine jr_get hE dX12_reads_17 f205 M0.ob rfl ?_
    refine jr_aload_n hE dX12_reads_20 1 rfl ?_
    refine jr_iload_n hE dX12_reads_21 2 rfl ?_
    refine jr_iconst (v := (1 : Int32)) hE dX12_reads_22 (by decide) ?_
    refine jr_iadd (z := nI (fr + 1)) hE dX12_reads_23 (nI_1 _) ?_
    refine jr_kSv (n := 3) (As := [.ref (a 49), .ref (a kb), .int (nI (fr + 1))]) (rest := []) hE dX12_reads_24 (fun l => c_m_numberOf l G o a v n g w 49 kb (fr + 1) N) gX12_reads_X12_numberOf rfl (by decide +kernel) ⟨rfl, rfl, by decide, by decide⟩ (by decide) rfl rfl (Nat.le_of_ble_eq_true rfl) (⟨M0, by decide, hkb, by omega, hN2, hB.sub (a := 1) (b := 32) (by omega)⟩) (fun F1 q2 => ?_)
    obtain ⟨M1, O1⟩ := q2
    rw [← hV] at M1
    refine jr_aload_n hE dX12_reads_27 0 rfl ?_
    refine jr_aload_n hE dX12_reads_28 0 rfl ?_
    refine jr_get hE dX12_reads_29 f205 M1.ob rfl ?_
    refine jr_kVi (ci := 12) (n := 1) (As := [.ref (a 49)]) (rest := []) hE dX12_reads_32 (fun l => c_m_lift l G o a v (uz n 49 (some V)) g w 49 V) gX12_reads_X12_lift rfl M1.ob rfl (by decide +kernel) ⟨rfl, rfl, by decide, by decide⟩ (by decide) rfl rfl (Nat.le_of_ble_eq_true rfl) (⟨M1, hK, hC, by decide, by decide, rfl⟩) (fun r5 F3 q4 => ?_)
    obtain ⟨n2, M2, hf2, hq2, rfl, O2'⟩ := q4
    have O2 := O1.tr O2'
    refine jr_if_ne (tgt := 40) hE dX12_reads_35 (by decide) (fun c35 => ?_) (fun c35 => ?_)
    · have hX : isX V := b2i_1 c35
      obtain ⟨x7, y7, h40, h41, hx7, hy7, he7, hE7⟩ := hq2 hX
      have h7 : V = x7 ∧ eyE V = y7 := by
        have := Option.some.inj he7
        exact ⟨congrArg Prod.fst this, congrArg Prod.snd this⟩
      rw [← h7.1] at h40
      rw [← h7.2] at h41
      refine jr_aload_n hE dX12_reads_40 1 rfl ?_
      refine jr_iload_n hE dX12_reads_41 2 rfl ?_
      refine jr_iald (v := nI fb) hE dX12_reads_42 (M2.I (k := kb) (N := N) hkb) (vp_in_nI (by omega) (by omega)) (by rw [nI_clamp (by omega), hfb]; exact bt_nI _ _) ?_
      refine jr_iconst (v := (3 : Int32)) hE dX12_reads_43 (by decide) ?_
      refine jr_icmp_ne (tgt := 51) hE dX12_reads_44 (by decide) (fun c44 => ?_) (fun c44 => ?_)
      · refine jr_iconst (v := (1 : Int32)) hE dX12_reads_51 (by decide) ?_
        have hb3 : fb ≠ 3 := fun e => c44 (by rw [e]; rfl)
        exact hR F3 1 _ _ dX12_reads_52 rfl ⟨n2, M2, fun k hk => (hf2 k (jnsub (V := [40, 41, 42, 43, 35, 36]) hk [0, 1, 2, 3, 4, 5] rfl)).trans (uz_n _ _ (jne hk 6 rfl)), fun _ => by rw [rdE_2 hb3]; exact hq2 hX, (b2i_t ⟨h23, hX⟩).symm, O2⟩
      · refine jr_aload_n hE dX12_reads_47 0 rfl ?_
        refine jr_kVv (ci := 12) (n := 0) (As := []) (rest := []) hE dX12_reads_48 (fun l => c_m_negateQ l G o a v n2 g w (eyE V)) gX12_reads_X12_negateQ rfl M2.ob rfl (by decide +kernel) ⟨rfl, rfl, by decide, by decide⟩ (by decide) rfl rfl (Nat.le_of_ble_eq_true rfl) (⟨M2, hK.fr (hf2 0 (by decide)) (hf2 1 (by decide)) (hf2 32 (by decide)) (hf2 33 (by decide)), h41, lf_y V⟩) (fun F6 q7 => ?_)
        obtain ⟨n3, M3, hf3, h413, O3'⟩ := q7
        have O3 := O2.tr O3'
        refine jr_iconst (v := (1 : Int32)) hE dX12_reads_51 (by decide) ?_
        have hb3 : fb = 3 := (nI_eq (by omega) (by decide)).mp c44
        exact hR F6 1 _ _ dX12_reads_52 rfl ⟨n3, M3, fun k hk => (hf3 k (jnsub (V := [41]) hk [1] rfl)).trans ((hf2 k (jnsub (V := [40, 41, 42, 43, 35, 36]) hk [0, 1, 2, 3, 4, 5] rfl)).trans (uz_n _ _ (jne hk 6 rfl))), fun _ => by rw [hb3, rdE_3 hX]; exact ⟨V, fk (-1) (eyE V), (hf3 40 (by decide)).trans h40, h413, hX.1, fk_lt _ _, rfl, lf_neg hX⟩, (b2i_t ⟨h23, hX⟩).symm, O3⟩
    · refine jr_iconst (v := (0 : Int32)) hE dX12_reads_38 (by decide) ?_
      have hX : ¬ isX V := fun e => by
        rw [b2i_t e] at c35
        exact absurd c35 (by decide)
      exact hR F3 0 _ _ dX12_reads_39 rfl ⟨n2, M2, fun k hk => (hf2 k (jnsub (V := [40, 41, 42, 43, 35, 36]) hk [0, 1, 2, 3, 4, 5] rfl)).trans (uz_n _ _ (jne hk 6 rfl)), fun e => absurd e.2 hX, (b2i_f (fun e => hX e.2)).symm, O2⟩
  · refine jr_aload_n hE dX12_reads_7 1 rfl ?_
    refine jr_iload_n hE dX12_reads_8 2 rfl ?_
    refine jr_iald (v := nI fb) hE dX12_reads_9 (M0.I (k := kb) (N := N) hkb) (vp_in_nI (by omega) (by omega)) (by rw [nI_clamp (by omega), hfb]; exact bt_nI _ _) ?_
    refine jr_iconst (v := (3 : Int32)) hE dX12_reads_10 (by decide) ?_
    refine jr_icmp_eq (tgt := 16) hE dX12_reads_11 (by decide) (fun c11 => ?_) (fun c11 => ?_)
    · have h23 : fb = 2 ∨ fb = 3 := Or.inr ((nI_eq (by omega) (by decide)).mp c11)
      refine jr_aload_n hE dX12_reads_16 0 rfl ?_
      refine jr_get hE dX12_reads_17 f205 M0.ob rfl ?_
      refine jr_aload_n hE dX12_reads_20 1 rfl ?_
      refine jr_iload_n hE dX12_reads_21 2 rfl ?_
      refine jr_iconst (v := (1 : Int32)) hE dX12_reads_22 (by decide) ?_
      refine jr_iadd (z := nI (fr + 1)) hE dX12_reads_23 (nI_1 _) ?_
      refine jr_kSv (n := 3) (As := [.ref (a 49), .ref (a kb), .int (nI (fr + 1))]) (rest := []) hE dX12_reads_24 (fun l => c_m_numberOf l G o a v n g w 49 kb (fr + 1) N) gX12_reads_X12_numberOf rfl (by decide +kernel) ⟨rfl, rfl, by decide, by decide⟩ (by decide) rfl rfl (Nat.le_of_ble_eq_true rfl) (⟨M0, by decide, hkb, by omega, hN2, hB.sub (a := 1) (b := 32) (by omega)⟩) (fun F8 q9 => ?_)
      obtain ⟨M1, O1⟩ := q9
      rw [← hV] at M1
      refine jr_aload_n hE dX12_reads_27 0 rfl ?_
      refine jr_aload_n hE dX12_reads_28 0 rfl ?_
      refine jr_get hE dX12_reads_29 f205 M1.ob rfl ?_
      refine jr_kVi (ci := 12) (n := 1) (As := [.ref (a 49)]) (rest := []) hE dX12_reads_32 (fun l => c_m_lift l G o a v (uz n 49 (some V)) g w 49 V) gX12_reads_X12_lift rfl M1.ob rfl (by decide +kernel) ⟨rfl, rfl, by decide, by decide⟩ (by decide) rfl rfl (Nat.le_of_ble_eq_true rfl) (⟨M1, hK, hC, by decide, by decide, rfl⟩) (fun r12 F10 q11 => ?_)
      obtain ⟨n2, M2, hf2, hq2, rfl, O2'⟩ := q11
      have O2 := O1.tr O2'
      refine jr_if_ne (tgt := 40) hE dX12_reads_35 (by decide) (fun c35 => ?_) (fun c35 => ?_)
      · have hX : isX V := b2i_1 c35
        obtain ⟨x7, y7, h40, h41, hx7, hy7, he7, hE7⟩ := hq2 hX
        have h7 : V = x7 ∧ eyE V = y7 := by
          have := Option.some.inj he7
          exact ⟨congrArg Prod.fst this, congrArg Prod.snd this⟩
        rw [← h7.1] at h40
        rw [← h7.2] at h41
        refine jr_aload_n hE dX12_reads_40 1 rfl ?_
        refine jr_iload_n hE dX12_reads_41 2 rfl ?_
        refine jr_iald (v := nI fb) hE dX12_reads_42 (M2.I (k := kb) (N := N) hkb) (vp_in_nI (by omega) (by omega)) (by rw [nI_clamp (by omega), hfb]; exact bt_nI _ _) ?_
        refine jr_iconst (v := (3 : Int32)) hE dX12_reads_43 (by decide) ?_
        refine jr_icmp_ne (tgt := 51) hE dX12_reads_44 (by decide) (fun c44 => ?_) (fun c44 => ?_)
        · refine jr_iconst (v := (1 : Int32)) hE dX12_reads_51 (by decide) ?_
          have hb3 : fb ≠ 3 := fun e => c44 (by rw [e]; rfl)
          exact hR F10 1 _ _ dX12_reads_52 rfl ⟨n2, M2, fun k hk => (hf2 k (jnsub (V := [40, 41, 42, 43, 35, 36]) hk [0, 1, 2, 3, 4, 5] rfl)).trans (uz_n _ _ (jne hk 6 rfl)), fun _ => by rw [rdE_2 hb3]; exact hq2 hX, (b2i_t ⟨h23, hX⟩).symm, O2⟩
        · refine jr_aload_n hE dX12_reads_47 0 rfl ?_
          refine jr_kVv (ci := 12) (n := 0) (As := []) (rest := []) hE dX12_reads_48 (fun l => c_m_negateQ l G o a v n2 g w (eyE V)) gX12_reads_X12_negateQ rfl M2.ob rfl (by decide +kernel) ⟨rfl, rfl, by decide, by decide⟩ (by decide) rfl rfl (Nat.le_of_ble_eq_true rfl) (⟨M2, hK.fr (hf2 0 (by decide)) (hf2 1 (by decide)) (hf2 32 (by decide)) (hf2 33 (by decide)), h41, lf_y V⟩) (fun F13 q14 => ?_)
          obtain ⟨n3, M3, hf3, h413, O3'⟩ := q14
          have O3 := O2.tr O3'
          refine jr_iconst (v := (1 : Int32)) hE dX12_reads_51 (by decide) ?_
          have hb3 : fb = 3 := (nI_eq (by omega) (by decide)).mp c44
          exact hR F13 1 _ _ dX12_reads_52 rfl ⟨n3, M3, fun k hk => (hf3 k (jnsub (V := [41]) hk [1] rfl)).trans ((hf2 k (jnsub (V := [40, 41, 42, 43, 35, 36]) hk [0, 1, 2, 3, 4, 5] rfl)).trans (uz_n _ _ (jne hk 6 rfl))), fun _ => by rw [hb3, rdE_3 hX]; exact ⟨V, fk (-1) (eyE V), (hf3 40 (by decide)).trans h40, h413, hX.1, fk_lt _ _, rfl, lf_neg hX⟩, (b2i_t ⟨h23, hX⟩).symm, O3⟩
      · refine jr_iconst (v := (0 : Int32)) hE dX12_reads_38 (by decide) ?_
        have hX : ¬ isX V := fun e => by
          rw [b2i_t e] at c35
          exact absurd c35 (by decide)
        exact hR F10 0 _ _ dX12_reads_39 rfl ⟨n2, M2, fun k hk => (hf2 k (jnsub (V := [40, 41, 42, 43, 35, 36]) hk [0, 1, 2, 3, 4, 5] rfl)).trans (uz_n _ _ (jne hk 6 rfl)), fun e => absurd e.2 hX, (b2i_f (fun e => hX e.2)).symm, O2⟩
    · refine jr_iconst (v := (0 : Int32)) hE dX12_reads_14 (by decide) ?_
      have h23 : ¬ (fb = 2 ∨ fb = 3) := fun e => e.elim (fun e => c4 (by rw [e]; rfl)) (fun e => c11 (by rw [e]; rfl))
      exact hR F 0 _ _ dX12_reads_15 rfl ⟨n, M0, fun _ _ => rfl, fun e => absurd e.1 h23, (b2i_f (fun e => h23 e.1)).symm, mO.rf o a F⟩

set_option maxHeartbeats 4000000 in
set_option maxRecDepth 100000 in
theorem c_m_tells (l : Launch) (G : Nat → ClassId) (o : Nat) (a : Nat → Nat) (v : Nat → Int32) (n : Nat → Option Nat) (g : Nat → Nat → Int64) (w : Nat → Nat → Int32) (kb fr N : Nat) (A : EP) : jKv l yX12_tells wsX12_tells ({ frames := 1, cells := 0, slots := 0, locals := 23 }) G [.ref o, .ref (a kb), .int (nI fr)] (fun L F => MW G L F o a v n g w ∧ pS n A ∧ ik kb N ∧ fr + 33 ≤ N ∧ N < 2 ^ 30) (fun L F F1 => MW G L F1 o a v n g (uz w kb (wrt (w kb) fr (pbE A))) ∧ mO o a F F1) := by
  refine jm_kv (cc := cX12_tells) (maxL := 5) (by decide) rfl (Nat.le_of_ble_eq_true rfl) ?_
  intro E L F hE hR hpre
  have hE : jOk E G _ cX12_tells 5 RX12 wsX12_tells := hE

  have f173 : jFl RX12 wsX12_tells 173 12 39 := ⟨rfl, by decide, by decide +kernel, by decide +kernel⟩
  have f170 : jFl RX12 wsX12_tells 170 12 38 := ⟨rfl, by decide, by decide +kernel, by decide +kernel⟩
  have f167 : jFl RX12 wsX12_tells 167 12 37 := ⟨rfl, by decide, by decide +kernel, by decide +kernel⟩
  obtain ⟨M0, hA, hkb, hN, hN2⟩ := hpre
  rcases hA with ⟨rfl, h39⟩ | ⟨x, y, rfl, hx, hy, h37, h38, h39⟩
  · have loop : ∀ (r0 k : Nat) (F2 : Nat → va_E) (f : Nat → Int32), k + r0 = 33 → MW G L F2 o a v n g (uz w kb f) → f = wrt (w kb) fr ((List.replicate 33 0).take k) → mO o a F F2 → J E L F2 0 0 11 [(4, .int (nI k)), (3, .int 1), (0, .ref o), (1, .ref (a kb)), (2, .int (nI fr))] [] := by
      intro r0
      induction r0 with
      | zero =>
        intro k F2 f hk H hf O
        refine jr_iload hE dX12_tells_11 0 rfl ?_
        refine jr_bipush (v := (33 : Int32)) hE dX12_tells_13 (by decide) ?_
        refine jr_icmp_ge (tgt := 35) hE dX12_tells_15 (by decide) (fun c_15 => ?_) (fun c_15 => absurd (nI_le (a := 33) (by omega) (by omega)) c_15)
        refine jr_iload_n hE dX12_tells_35 1 rfl ?_
        refine jr_if_ne (tgt := 64) hE dX12_tells_36 (by decide) (fun c_36 => ?_) (fun c_36 => absurd c_36 (by decide))
        rw [List.take_of_length_le (by simp; omega)] at hf
        rw [hf] at H
        exact hR F2 _ _ dX12_tells_64 ⟨H, O⟩
      | succ r0 ih =>
        intro k F2 f hk H hf O
        refine jr_iload hE dX12_tells_11 0 rfl ?_
        refine jr_bipush (v := (33 : Int32)) hE dX12_tells_13 (by decide) ?_
        refine jr_icmp_ge (tgt := 35) hE dX12_tells_15 (by decide) (fun c_15 => absurd c_15 (nI_ge (b := 33) (by omega) (by omega))) (fun c_15 => ?_)
        refine jr_iload_n hE dX12_tells_18 1 rfl ?_
        refine jr_if_eq (tgt := 35) hE dX12_tells_19 (by decide) (fun c_19 => absurd c_19 (by decide)) (fun c_19 => ?_)
        refine jr_aload_n hE dX12_tells_22 3 rfl ?_
        refine jr_iload_n hE dX12_tells_23 4 rfl ?_
        refine jr_iload hE dX12_tells_24 0 rfl ?_
        refine jr_iadd (z := nI (fr + k)) hE dX12_tells_26 (nI_add _ _) ?_
        refine jr_iconst (v := (0 : Int32)) hE dX12_tells_27 (by decide) ?_
        refine jr_iast hE dX12_tells_28 (H.I (k := kb) (N := N) hkb) (vp_in_nI (by omega) (by omega)) (fun F1 g2 u3 => ?_)
        have H4 := H.setI (k := kb) (N := N) hkb g2 u3
        have O5 := O.st (k := kb) hkb.1 hkb.k u3
        rw [uz_uz, uz_s] at H4
        refine jr_iinc (v := nI (k + 1)) (lv' := [(4, .int (nI (k + 1))), (3, .int 1), (0, .ref o), (1, .ref (a kb)), (2, .int (nI fr))]) hE dX12_tells_29 0 rfl (nI_1 _) (by decide) rfl ?_
        refine jr_goto (tgt := 11) hE dX12_tells_32 (by decide) ?_
        refine jr_lv (lv' := [(4, .int (nI (k + 1))), (3, .int 1), (0, .ref o), (1, .ref (a kb)), (2, .int (nI fr))]) [0, 1, 2, 3, 4] rfl ?_
        exact ih (k + 1) F1 _ (by omega) H4 (by rw [wrt_snoc (b := 0) (x := 0) hf (by simp; omega) rfl (by omega), rep_z k (by omega)]) O5
    refine jr_aload_n hE dX12_tells_0 0 rfl ?_
    refine jr_get hE dX12_tells_1 f173 M0.ob rfl ?_
    refine jr_kSi (n := 1) (As := [.ref (a 39)]) (rest := []) hE dX12_tells_4 (fun l => c_m_isNull l G o a v n g w 39 0) gX12_tells_X12_isNull rfl (by decide +kernel) ⟨rfl, rfl, by decide, by decide⟩ (by decide) rfl rfl (Nat.le_of_ble_eq_true rfl) (⟨M0, by decide, h39⟩) (fun r3 F1 q2 => ?_)
    obtain ⟨eq2, rq2⟩ := q2
    subst eq2 rq2
    refine jr_istore_n (lv' := [(3, .int (b2i ((0 : Nat) = 0))), (0, .ref o), (1, .ref (a kb)), (2, .int (nI fr))]) hE dX12_tells_7 (by decide) rfl ?_
    refine jr_iconst (v := (0 : Int32)) hE dX12_tells_8 (by decide) ?_
    refine jr_istore (lv' := [(4, .int (0 : Int32)), (3, .int (b2i ((0 : Nat) = 0))), (0, .ref o), (1, .ref (a kb)), (2, .int (nI fr))]) hE dX12_tells_9 (by decide) rfl ?_
    refine jr_lv (lv' := [(4, .int (0 : Int32)), (3, .int (b2i ((0 : Nat) = 0))), (0, .ref o), (1, .ref (a kb)), (2, .int (nI fr))]) [0, 1, 2, 3, 4] rfl ?_
    exact loop 33 0 F (w kb) rfl (by rw [uz_id]; exact M0) (by rw [List.take_zero, wrt_nil]) (mO.rf o a F)
  · have hone := 0
    refine jr_aload_n hE dX12_tells_0 0 rfl ?_
    refine jr_get hE dX12_tells_1 f173 M0.ob rfl ?_
    refine jr_kSi (n := 1) (As := [.ref (a 39)]) (rest := []) hE dX12_tells_4 (fun l => c_m_isNull l G o a v n g w 39 1) gX12_tells_X12_isNull rfl (by decide +kernel) ⟨rfl, rfl, by decide, by decide⟩ (by decide) rfl rfl (Nat.le_of_ble_eq_true rfl) (⟨M0, by decide, h39⟩) (fun r3 F1 q2 => ?_)
    obtain ⟨eq2, rq2⟩ := q2
    subst eq2 rq2
    refine jr_istore_n (lv' := [(3, .int (b2i ((1 : Nat) = 0))), (0, .ref o), (1, .ref (a kb)), (2, .int (nI fr))]) hE dX12_tells_7 (by decide) rfl ?_
    refine jr_iconst (v := (0 : Int32)) hE dX12_tells_8 (by decide) ?_
    refine jr_istore (lv' := [(4, .int (0 : Int32)), (3, .int (b2i ((1 : Nat) = 0))), (0, .ref o), (1, .ref (a kb)), (2, .int (nI fr))]) hE dX12_tells_9 (by decide) rfl ?_
    refine jr_iload hE dX12_tells_11 0 rfl ?_
    refine jr_bipush (v := (33 : Int32)) hE dX12_tells_13 (by decide) ?_
    refine jr_icmp_ge (tgt := 35) hE dX12_tells_15 (by decide) (fun c_15 => absurd c_15 (by decide)) (fun c_15 => ?_)
    refine jr_iload_n hE dX12_tells_18 1 rfl ?_
    refine jr_if_eq (tgt := 35) hE dX12_tells_19 (by decide) (fun c_19 => ?_) (fun c_19 => absurd (rfl) c_19)
    refine jr_iload_n hE dX12_tells_35 1 rfl ?_
    refine jr_if_ne (tgt := 64) hE dX12_tells_36 (by decide) (fun c_36 => absurd c_36 (by decide)) (fun c_36 => ?_)
    refine jr_aload_n hE dX12_tells_39 3 rfl ?_
    refine jr_iload_n hE dX12_tells_40 4 rfl ?_
    refine jr_iconst (v := (2 : Int32)) hE dX12_tells_41 (by decide) ?_
    refine jr_aload_n hE dX12_tells_42 2 rfl ?_
    refine jr_get hE dX12_tells_43 f170 M0.ob rfl ?_
    refine jr_iconst (v := (0 : Int32)) hE dX12_tells_46 (by decide) ?_
    obtain ⟨f4, jf4, ef4⟩ := M0.ld (k := 38) (by decide) (x := y) h38
    refine jr_lald (v := lN (y / 2 ^ (32 * 0) % 2 ^ 32)) hE dX12_tells_47 jf4 (vp_in_nI (n := 0) (by decide) (by decide)) (ef4 0 (by decide)) ?_
    refine jr_lconst (v := (1 : Int64)) hE dX12_tells_48 (by decide) ?_
    refine jr_land (z := lN (y % 2)) hE dX12_tells_49 (by rw [wb_a1 (Nat.lt_trans (Nat.mod_lt _ (Nat.two_pow_pos 32)) (by decide)), dig0]) ?_
    refine jr_l2i (z := nI (y % 2)) hE dX12_tells_50 (lN_i _) ?_
    refine jr_iadd (z := nI (if y % 2 = 1 then 3 else 2)) hE dX12_tells_51 (nI_odd y) ?_
    refine jr_iast hE dX12_tells_52 (M0.I (k := kb) (N := N) hkb) (vp_in_nI (by omega) (by omega)) (fun F5 g6 u7 => ?_)
    have H8 := M0.setI (k := kb) (N := N) hkb g6 u7
    have O9 := (mO.rf o a F).st (k := kb) hkb.1 hkb.k u7
    refine jr_aload_n hE dX12_tells_53 3 rfl ?_
    refine jr_iload_n hE dX12_tells_54 4 rfl ?_
    refine jr_iconst (v := (1 : Int32)) hE dX12_tells_55 (by decide) ?_
    refine jr_iadd (z := nI (fr + 1)) hE dX12_tells_56 (nI_1 _) ?_
    refine jr_aload_n hE dX12_tells_57 2 rfl ?_
    refine jr_get hE dX12_tells_58 f167 H8.ob rfl ?_
    refine jr_kSv (n := 3) (As := [.ref (a kb), .int (nI (fr + 1)), .ref (a 37)]) (rest := []) hE dX12_tells_61 (fun l => c_m_bytesOf l G o a v n g (uz w kb (upd (w kb) (nI fr).toNatClampNeg (nI (if y % 2 = 1 then 3 else 2)))) kb (fr + 1) 37 N x) gX12_tells_X12_bytesOf rfl (by decide +kernel) ⟨rfl, rfl, by decide, by decide⟩ (by decide) rfl rfl (Nat.le_of_ble_eq_true rfl) (⟨H8, hkb, by decide, by omega, hN2, h37⟩) (fun F10 q11 => ?_)
    obtain ⟨M5, O5⟩ := q11
    rw [uz_uz, uz_s, wrt_cons (by omega)] at M5
    exact hR F10 _ _ dX12_tells_64 ⟨M5, O9.tr O5⟩

