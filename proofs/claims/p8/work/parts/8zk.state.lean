/-! THE STATE that both sides hold: rows; entries; WORK; signers; nonces; what was told; session -/
abbrev SE : Type := List Nat × List Nat × List Nat × Nat
abbrev SNo : Type := Nat × Nat × List Nat
abbrev SSe : Type := List Nat × Nat × Nat × Nat × Bool
abbrev S2 : Type := List SE × Nat × List (List Nat) × (Nat → Option SNo) × (Nat → Option (List Nat)) × Option SSe
abbrev ST : Type := (Nat → List Nat) × S2
def rwI (w : Nat → Nat → Int32) (R : Nat → List Nat) : Prop := ∀ r, r < 16 → w 8 r = nI (R r).length ∧ bl (w 9) (100 * r) (R r).length = R r ∧ (R r).length ≤ 100 ∧ ∀ b, b ∈ R r → b < 256
def enI (v : Nat → Int32) (g : Nat → Nat → Int64) (w : Nat → Nat → Int32) (En : List SE) : Prop := v 10 = nI En.length ∧ En.length ≤ 4 ∧ ∀ i, ∀ h : i < En.length, bl (w 11) (32 * i) 32 = En[i].1 ∧ w 13 i = nI En[i].2.1.length ∧ En[i].2.1.length ≤ 40 ∧ bl (w 12) (40 * i) En[i].2.1.length = En[i].2.1 ∧ bl (w 14) (64 * i) 64 = En[i].2.2.1 ∧ g 15 i = lN En[i].2.2.2 ∧ 1 ≤ En[i].2.2.2 ∧ En[i].2.2.2 ≤ 2 ^ 62 ∧ (∀ b, b ∈ En[i].1 → b < 256) ∧ (∀ b, b ∈ En[i].2.1 → b < 256) ∧ ∀ b, b ∈ En[i].2.2.1 → b < 256
def sgI (v : Nat → Int32) (w : Nat → Nat → Int32) (Sg : List (List Nat)) : Prop := v 16 = nI Sg.length ∧ Sg.length ≤ 4 ∧ bB (w 17) 0 (33 * Sg.length) ∧ ∀ j, ∀ h : j < Sg.length, bl (w 17) (33 * j) 33 = Sg[j] ∧ rdX (fK (w 17) j) (vK (w 17) j)
def ncI (g : Nat → Nat → Int64) (w : Nat → Nat → Int32) (Nc : Nat → Option SNo) (m : Nat) : Prop := ∀ j, j < 4 → (m ≤ j → Nc j = none) ∧ match Nc j with
  | none => w 18 j = 0
  | some t => w 18 j = 1 ∧ mN (fun i => g 19 (8 * j + i)) t.1 ∧ mN (fun i => g 20 (8 * j + i)) t.2.1 ∧ bl (w 21) (66 * j) 66 = t.2.2 ∧ t.1 < NN ∧ t.2.1 < NN
def tdI (w : Nat → Nat → Int32) (Td : Nat → Option (List Nat)) (m : Nat) : Prop := ∀ j, j < 4 → (m ≤ j → Td j = none) ∧ match Td j with
  | none => w 22 j = 0
  | some t => w 22 j = 1 ∧ bl (w 23) (66 * j) 66 = t ∧ bB (w 23) (66 * j) 66 ∧ rdX (fT (w 23) 0 j) (vT (w 23) 0 j) ∧ rdX (fT (w 23) 1 j) (vT (w 23) 1 j)
def seI (v : Nat → Int32) (n : Nat → Option Nat) (w : Nat → Nat → Int32) (t : S2) : Prop := match t.2.2.2.2.2 with
  | none => v 24 = 0
  | some s => v 24 = 1 ∧ 1 ≤ t.2.2.1.length ∧ bl (w 25) 0 66 = s.1 ∧ (∀ b, b ∈ s.1 → b < 256) ∧ n 26 = some s.2.1 ∧ n 27 = some s.2.2.1 ∧ n 28 = some s.2.2.2.1 ∧ v 29 = bi s.2.2.2.2 ∧ s.2.1 < NN ∧ s.2.2.1 < NN ∧ s.2.2.2.1 < PP ∧ (∃ x y : Nat, qS (w 17) t.2.2.1.length t.2.2.1.length = some (x, y) ∧ v 30 = b2i (y % 2 = 1)) ∧ ∀ j, j < t.2.2.1.length → t.2.2.2.2.1 j ≠ none
def pI (v : Nat → Int32) (n : Nat → Option Nat) (g : Nat → Nat → Int64) (w : Nat → Nat → Int32) (t : S2) : Prop := enI v g w t.1 ∧ (v 31 = nI t.2.1 ∧ t.2.1 ≤ 48) ∧ sgI v w t.2.2.1 ∧ ncI g w t.2.2.2.1 t.2.2.1.length ∧ tdI w t.2.2.2.2.1 t.2.2.1.length ∧ seI v n w t
abbrev pLv : List Nat := [10, 16, 24, 29, 30, 31]
abbrev pLw : List Nat := [11, 12, 13, 14, 17, 18, 21, 22, 23, 25]
theorem pI.fr {v v' : Nat → Int32} {n n' : Nat → Option Nat} {g : Nat → Nat → Int64} {w w' : Nat → Nat → Int32} {t : S2} (h : pI v n g w t) (hv : ∀ k, k ∈ pLv → v' k = v k) (hn : ∀ k, k ∈ [26, 27, 28] → n' k = n k) (hw : ∀ k, k ∈ pLw → w' k = w k) : pI v' n' g w' t := by
  unfold pI enI sgI ncI tdI seI at *
  rw [hv 10 (by decide), hv 16 (by decide), hv 24 (by decide), hv 29 (by decide), hv 30 (by decide), hv 31 (by decide), hn 26 (by decide), hn 27 (by decide), hn 28 (by decide), hw 11 (by decide), hw 12 (by decide), hw 13 (by decide), hw 14 (by decide), hw 17 (by decide), hw 18 (by decide), hw 21 (by decide), hw 22 (by decide), hw 23 (by decide), hw 25 (by decide)]
  exact h
/-- the reference holds the state s -/
def mI (G : Nat → ClassId) (L : List Nat) (F : Nat → va_E) (o : Nat) (a : Nat → Nat) (v : Nat → Int32) (n : Nat → Option Nat) (g : Nat → Nat → Int64) (w : Nat → Nat → Int32) (s : ST) : Prop := MW G L F o a v n g w ∧ mK n g ∧ mC n ∧ tgOK w ∧ rdOK w ∧ rwI w s.1 ∧ pI v n g w s.2
def setR (s : ST) (k : Nat) (l : List Nat) : ST := (fun j => if j = k then l else s.1 j, s.2)
theorem rwI.set {w w' : Nat → Nat → Int32} {R : Nat → List Nat} {k : Nat} {l : List Nat} (h : rwI w R) (h8 : w' 8 = upd (w 8) k (nI l.length)) (h9 : ∀ j, (j < 100 * k ∨ 100 * k + 100 ≤ j) → w' 9 j = w 9 j) (hl : bl (w' 9) (100 * k) l.length = l) (hn : l.length ≤ 100) (hb : ∀ b, b ∈ l → b < 256) : rwI w' (fun j => if j = k then l else R j) := by
  intro r hr
  by_cases e : r = k
  · simp only [if_pos e]
    subst e
    exact ⟨by rw [h8]; exact if_pos rfl, hl, hn, hb⟩
  · simp only [if_neg e]
    obtain ⟨a1, a2, a3, a4⟩ := h r hr
    refine ⟨by rw [h8]; exact (if_neg e).trans a1, ?_, a3, a4⟩
    rw [← a2, bl_len]
    exact bl_cg (fun i hi => h9 _ (by omega))
/-- a call that changes one row alone -/
theorem mI.row {G : Nat → ClassId} {L : List Nat} {F F1 : Nat → va_E} {o : Nat} {a : Nat → Nat} {v v' : Nat → Int32} {n n' : Nat → Option Nat} {g : Nat → Nat → Int64} {w w' : Nat → Nat → Int32} {s : ST} {k : Nat} {l : List Nat} (h : mI G L F o a v n g w s) (M : MW G L F1 o a v' n' g w') (hv : ∀ k, k ∈ pLv → v' k = v k) (hn : ∀ k, k ∈ [0, 1, 4, 5, 6, 7, 26, 27, 28, 32, 33, 48] → n' k = n k) (hw : ∀ k, k ∈ [50, 51, 52] ++ pLw → w' k = w k) (h8 : w' 8 = upd (w 8) k (nI l.length)) (h9 : ∀ j, (j < 100 * k ∨ 100 * k + 100 ≤ j) → w' 9 j = w 9 j) (hl : bl (w' 9) (100 * k) l.length = l) (hln : l.length ≤ 100) (hb : ∀ b, b ∈ l → b < 256) : mI G L F1 o a v' n' g w' (setR s k l) := by
  obtain ⟨_, a2, a3, a4, a5, a6, a7⟩ := h
  refine ⟨M, a2.fr (hn 0 (by decide)) (hn 1 (by decide)) (hn 32 (by decide)) (hn 33 (by decide)), a3.fr (hn 4 (by decide)) (hn 5 (by decide)) (hn 6 (by decide)) (hn 7 (by decide)) (hn 48 (by decide)), ?_, ?_, a6.set h8 h9 hl hln hb, a7.fr hv (fun k hk => hn k ?_) (fun k hk => hw k ?_)⟩
  · exact ⟨fun i hi => by rw [hw 50 (by decide)]; exact a4.1 i hi, fun i hi => by rw [hw 51 (by decide)]; exact a4.2 i hi⟩
  · exact fun i hi => by rw [hw 52 (by decide)]; exact a5 i hi
  · simp only [List.mem_cons, List.not_mem_nil, or_false] at hk ⊢
    omega
  · exact List.mem_append_right _ hk
def rn (r : Int32) : Nat := r.toInt.toNat
theorem rowP_rn {r : Int32} (h : rowP r) : rn r < 16 ∧ r = nI (rn r) := by
  obtain ⟨k, hk, rfl⟩ := rowP_nI h
  have e : rn (nI k) = k := by
    unfold rn
    rw [nI_toInt (by omega)]
    omega
  rw [e]
  exact ⟨hk, rfl⟩
theorem nI_rn {k : Nat} (h : k < 16) : rn (nI k) = k := by
  unfold rn
  rw [nI_toInt (by omega)]
  omega
/-! the steps on rows -/
def stClear (s : ST) (r : Int32) : Int32 × ST := if rowP r then (nI (s.1 (rn r)).length, setR s (rn r) []) else (-1, s)
def stAt (s : ST) (r i : Int32) : Int32 := if ¬ rowP r ∨ i.toInt < -1 then -1 else if i.toInt < 0 then nI (s.1 (rn r)).length else if i.toInt < (s.1 (rn r)).length then nI ((s.1 (rn r)).getD i.toInt.toNat 0) else -4

set_option maxHeartbeats 4000000 in
set_option maxRecDepth 100000 in
theorem c_m_clear (l : Launch) (G : Nat → ClassId) (o : Nat) (a : Nat → Nat) (v : Nat → Int32) (n : Nat → Option Nat) (g : Nat → Nat → Int64) (w : Nat → Nat → Int32) (s : ST) (r : Int32) : jKi l yX12_clear wsX12_clear ({ frames := 2, cells := 0, slots := 0, locals := 45 }) G [.ref o, .int r] (fun L F => mI G L F o a v n g w s) (fun L F q F1 => ∃ v' n' g' w', mI G L F1 o a v' n' g' w' (stClear s r).2 ∧ q = (stClear s r).1 ∧ mO o a F F1) := by
  refine jm_ki (cc := cX12_clear) (maxL := 3) (rt := .int) (by decide) rfl (Nat.le_of_ble_eq_true rfl) ?_
  intro E L F hE hR hpre
  have hE : jOk E G _ cX12_clear 3 RX12 wsX12_clear := hE
  have hI := hpre
  obtain ⟨M0, hK, hC, htg, hrd, hRW, hpI⟩ := id hpre
  have f96 : jFl RX12 wsX12_clear 96 12 8 := ⟨rfl, by decide, by decide +kernel, by decide +kernel⟩
  refine jr_iload_n hE dX12_clear_0 1 rfl ?_
  refine jr_kSi (n := 1) (As := [.int r]) (rest := []) hE dX12_clear_1 (fun l => c_m_isRow l G r) gX12_clear_X12_isRow rfl (by decide +kernel) ⟨rfl, rfl, by decide, by decide⟩ (by decide) rfl rfl (Nat.le_of_ble_eq_true rfl) (trivial) (fun r3 F1 q2 => ?_)
  obtain ⟨eq2, rq2⟩ := q2
  subst eq2 rq2
  refine jr_if_ne (tgt := 9) hE dX12_clear_4 (by decide) (fun c4 => ?_) (fun c4 => ?_)
  · have hrk : rowP r := b2i_1 c4
    obtain ⟨k, hk, rfl⟩ := rowP_nI hrk
    obtain ⟨z1k, z2k, z3k, z4k⟩ := hRW k hk
    have hrnk := nI_rn hk
    refine jr_aload_n hE dX12_clear_9 0 rfl ?_
    refine jr_get hE dX12_clear_10 f96 M0.ob rfl ?_
    refine jr_iload_n hE dX12_clear_13 1 rfl ?_
    refine jr_iald (v := nI (s.1 k).length) hE dX12_clear_14 (M0.I (k := 8) (N := 16) (by decide)) (vp_in_nI (by omega) (by decide)) (by rw [nI_clamp (by omega)]; exact z1k) ?_
    refine jr_istore_n (lv' := [(2, .int (nI (s.1 k).length)), (0, .ref o), (1, .int (nI k))]) hE dX12_clear_15 (by decide) rfl ?_
    refine jr_aload_n hE dX12_clear_16 1 rfl ?_
    refine jr_get hE dX12_clear_17 f96 M0.ob rfl ?_
    refine jr_iload_n hE dX12_clear_20 2 rfl ?_
    refine jr_iconst (v := (0 : Int32)) hE dX12_clear_21 (by decide) ?_
    refine jr_iast hE dX12_clear_22 (M0.I (k := 8) (N := 16) (by decide)) (vp_in_nI (by omega) (by decide)) (fun F4 g5 u6 => ?_)
    have H7 := M0.setI (k := 8) (N := 16) (by decide) g5 u6
    have O8 := (mO.rf o a F).st (k := 8) (by decide) (by decide) u6
    refine jr_iload_n hE dX12_clear_23 0 rfl ?_
    have e : stClear s (nI k) = (nI (s.1 k).length, setR s k []) := by
      unfold stClear
      rw [if_pos (nI_rowP hk), hrnk]
    exact hR F4 _ _ _ dX12_clear_24 rfl ⟨v, n, g, _, by
      rw [e]
      exact hI.row H7 (fun _ _ => rfl) (fun _ _ => rfl) (fun z hz => uz_n _ _ (fun q => by
        subst q
        exact absurd hz (by decide))) (by rw [uz_s, nI_clamp (by omega)]; rfl) (fun _ _ => rfl) rfl (Nat.zero_le _) (fun b hb => absurd hb (List.not_mem_nil)), by rw [e], O8⟩
  · refine jr_iconst (v := (-1 : Int32)) hE dX12_clear_7 (by decide) ?_
    have hr : ¬ rowP r := fun q => absurd (b2i_t q) (by rw [c4]; decide)
    have e : stClear s r = (-1, s) := if_neg hr
    exact hR F _ _ _ dX12_clear_8 rfl ⟨v, n, g, w, by rw [e]; exact hI, by rw [e], mO.rf o a F⟩

