/-! THE REFERENCE'S sign; what serves the long methods -/
theorem uz_ab {α : Type} (s : Nat → α) (k : Nat) (f : α) : ∃ t, uz s k f = t ∧ (∀ j, j ∉ [k] → t j = s j) ∧ t k = f := ⟨_, rfl, fun j hj => uz_n _ _ (jne hj 0 rfl), uz_s _ _ _⟩
theorem jdj {A B : List Nat} {z : Nat} (h : (A.all fun x => !(B.contains x)) = true) (hz : z ∈ A) : z ∉ B := fun q => by
  have e := List.all_eq_true.mp h z hz
  rw [List.contains_iff_mem.mpr q] at e
  exact absurd e (by decide)
theorem tgOK.fr {w w' : Nat → Nat → Int32} (h : tgOK w) (h0 : w' 50 = w 50) (h1 : w' 51 = w 51) : tgOK w' := ⟨fun i hi => by rw [h0]; exact h.1 i hi, fun i hi => by rw [h1]; exact h.2 i hi⟩
theorem rdOK.fr {w w' : Nat → Nat → Int32} (h : rdOK w) (h0 : w' 52 = w 52) : rdOK w' := fun i hi => by rw [h0]; exact h i hi
theorem bB_of {f : Nat → Int32} {s n : Nat} {l : List Nat} (h : bl f s n = l) (hb : ∀ b, b ∈ l → b < 256) : bB f s n := fun i hi => by
  have e := bl_get f s n i hi
  rw [h] at e
  rw [← e]
  exact gd_lt hb i
theorem bl_w0 {f : Nat → Int32} {l : List Nat} {m : Nat} (hl : l.length = m) (hb : ∀ b, b ∈ l → b < 256) : bl (wrt f 0 l) 0 m = l := by
  rw [← hl]
  exact bl_wrt f 0 l (fun b h => Nat.lt_trans (hb b h) (by decide))
theorem bl_ext {f : Nat → Int32} {l1 l2 : List Nat} {n m N : Nat} (h : bl f 0 n = l1) (hl : l2.length = m) (hb : ∀ b, b ∈ l2 → b < 256) (hN : N = n + m) : bl (wrt f n l2) 0 N = l1 ++ l2 := by
  rw [hN, bl_app, Nat.zero_add]
  congr 1
  · rw [← h]
    exact bl_wrt_out f n 0 n l2 (Or.inl (by omega))
  · rw [← hl]
    exact bl_wrt f n l2 (fun b h => Nat.lt_trans (hb b h) (by decide))
theorem app_lt {l1 l2 : List Nat} (h1 : ∀ b, b ∈ l1 → b < 256) (h2 : ∀ b, b ∈ l2 → b < 256) : ∀ b, b ∈ l1 ++ l2 → b < 256 := fun b h => (List.mem_append.mp h).elim (h1 b) (h2 b)
theorem xorL_len (p q : List Nat) : (xorL p q).length = 32 := by simp [xorL]
theorem xorL_lt {p q : List Nat} (hp : ∀ b, b ∈ p → b < 256) (hq : ∀ b, b ∈ q → b < 256) : ∀ b, b ∈ xorL p q → b < 256 := by
  intro b hb
  simp only [xorL, List.mem_map, List.mem_range] at hb
  obtain ⟨i, _, rfl⟩ := hb
  exact Nat.xor_lt_two_pow (n := 8) (gd_lt hp i) (gd_lt hq i)
theorem sec_get {n : Nat → Option Nat} {f : Nat → Int32} {t : Nat} {l : List Nat} (hd : l.length = 32 → n 62 = some (bnum (bl f t 32))) (h : bl f t l.length = l) (e : l.length = 32) : n 62 = some (bnum l) := by
  have q := hd e
  rw [e] at h
  rwa [h] at q
/-- the coordinates of a point -/
def exE (A : EP) : Nat := match A with
  | none => 0
  | some a => a.1
def eyN (A : EP) : Nat := match A with
  | none => 0
  | some a => a.2
def eyO (A : EP) : Bool := eyN A % 2 == 1
theorem pS.xy {n : Nat → Option Nat} {A : EP} (h : pS n A) (hA : A ≠ none) : n 37 = some (exE A) ∧ n 38 = some (eyN A) ∧ n 39 = some 1 ∧ exE A < PP ∧ eyN A < PP := by
  rcases h with ⟨a, b⟩ | ⟨x, y, rfl, b, c, d, e, f⟩
  · exact absurd a hA
  · exact ⟨d, e, f, b, c⟩
theorem sS.xy {n : Nat → Option Nat} {A : EP} (h : sS n A) (hA : A ≠ none) : n 68 = some (exE A) ∧ n 69 = some (eyN A) ∧ n 70 = some 1 ∧ exE A < PP ∧ eyN A < PP := by
  rcases h with ⟨a, b⟩ | ⟨x, y, rfl, b, c, d, e, f⟩
  · exact absurd a hA
  · exact ⟨d, e, f, b, c⟩
theorem pS.z {n : Nat → Option Nat} {A : EP} (h : pS n A) : n 39 = some (if A = none then 0 else 1) := by
  rcases h with ⟨rfl, b⟩ | ⟨x, y, rfl, b, c, d, e, f⟩
  · exact b
  · exact f
theorem sS.z {n : Nat → Option Nat} {A : EP} (h : sS n A) : n 70 = some (if A = none then 0 else 1) := by
  rcases h with ⟨rfl, b⟩ | ⟨x, y, rfl, b, c, d, e, f⟩
  · exact b
  · exact f
theorem emulG_ne {k : Nat} (h0 : k ≠ 0) (h : k < NN) : emul PP k GE ≠ none := fun e => h0 (G_inj h NN0 (e.trans (show none = emul PP 0 GE from rfl)))
theorem qE_ng {n : Nat → Option Nat} {B : EP} {x y : Nat} (e : B = some (x, y)) (hx : x < PP) (hy : y < PP) (hB : isE PP x y) (h0 : n 40 = some x) (h1 : n 41 = some (fk (-1) y)) : qE n (eneg PP B) := by
  subst e
  have e : eneg PP (some (x, y)) = some (x, fk (-1) y) := ep_neg hx
  rw [e]
  refine ⟨x, fk (-1) y, h0, h1, hx, fk_lt _ _, rfl, ?_⟩
  have q : onE PP (eneg PP (some (x, y))) := onE_neg gdP ⟨hx, hy, hB⟩
  rw [e] at q
  exact q.2.2
/-- the challenge -/
def chS (x y : Nat) (m : List Nat) : Nat := bnum (sha (sha (tgb 2) ++ sha (tgb 2) ++ bex x 32 ++ bex y 32 ++ m)) % NN
theorem chS_eq (x y : Nat) (m : List Nat) : chS x y m = bnum (sha (sha (tgb 2) ++ sha (tgb 2) ++ bex x 32 ++ bex y 32 ++ m)) % NN := rfl
theorem ngN_0 {q : Bool} {x : Nat} (h : q = false) : ngN q x = x := by rw [h]; rfl
theorem ngN_1 {q : Bool} {x : Nat} (h : q = true) (h0 : x ≠ 0) : ngN q x = NN - x := if_pos ⟨h, h0⟩
theorem ngN_lt {q : Bool} {x : Nat} (h : x < NN) : ngN q x < NN := by
  unfold ngN
  split
  · omega
  · exact h
theorem odd_t {A : EP} (h : eyN A % 2 = 1) : eyO A = true := by
  unfold eyO
  rw [h]
  rfl
theorem odd_f {A : EP} (h : ¬ eyN A % 2 = 1) : eyO A = false := by
  unfold eyO
  exact beq_false_of_ne h
noncomputable def sgD (d : Nat) : Nat := ngN (eyO (emul PP d GE)) d
noncomputable def sgK (d : Nat) (m f : List Nat) : Nat := bnum (sha (sha (tgb 1) ++ sha (tgb 1) ++ xorL (bex (sgD d) 32) (sha (sha (tgb 0) ++ sha (tgb 0) ++ f)) ++ bex (exE (emul PP d GE)) 32 ++ m)) % NN
noncomputable def sgL (d : Nat) (m f : List Nat) : List Nat := bex (exE (emul PP (sgK d m f) GE)) 32 ++ bex ((ngN (eyO (emul PP (sgK d m f) GE)) (sgK d m f) + chS (exE (emul PP (sgK d m f) GE)) (exE (emul PP d GE)) m * sgD d % NN) % NN) 32
noncomputable def stSign (s : ST) (r q m f : Int32) : Int32 × ST := if rowP r ∧ rowP q ∧ rowP m ∧ rowP f then (if secOK (s.1 (rn q)) ∧ (s.1 (rn f)).length = 32 then (if 48 < s.2.2.1 + 2 then (-5, s) else if sgK (bnum (s.1 (rn q))) (s.1 (rn m)) (s.1 (rn f)) = 0 then (-2, setK s (s.2.2.1 + 2)) else (64, setK (setR s (rn r) (sgL (bnum (s.1 (rn q))) (s.1 (rn m)) (s.1 (rn f)))) (s.2.2.1 + 2))) else (-2, s)) else (-1, s)

set_option maxHeartbeats 4000000 in
set_option maxRecDepth 100000 in
theorem c_m_sign (l : Launch) (G : Nat → ClassId) (o : Nat) (a : Nat → Nat) (v : Nat → Int32) (n : Nat → Option Nat) (g : Nat → Nat → Int64) (w : Nat → Nat → Int32) (s : ST) (r c m t : Int32) : jKi l yX12_sign wsX12_sign ({ frames := 7, cells := 0, slots := 0, locals := 172 }) G [.ref o, .int r, .int c, .int m, .int t] (fun L F => mI G L F o a v n g w s) (fun L F q F1 => ∃ v' n' g' w', mI G L F1 o a v' n' g' w' (stSign s r c m t).2 ∧ q = (stSign s r c m t).1 ∧ mO o a F F1) := by
  refine jm_ki (cc := cX12_sign) (maxL := 5) (rt := .int) (by decide) rfl (Nat.le_of_ble_eq_true rfl) ?_
  intro E L F hE hR hpre
  have hE : jOk E G _ cX12_sign 5 RX12 wsX12_sign := hE
  have hI := hpre
  obtain ⟨M0, hK, hC, htg, hrd, hRW, hpI⟩ := id hpre
  have hwk48 := hpI.2.1.2
  have hs4 := hpI.2.2.1.2.1
  have f96 : jFl RX12 wsX12_sign 96 12 8 := ⟨rfl, by decide, by decide +kernel, by decide +kernel⟩
  have f478 : jFl RX12 wsX12_sign 478 12 31 := ⟨rfl, by decide, by decide +kernel, by decide +kernel⟩
  have f305 : jFl RX12 wsX12_sign 305 12 62 := ⟨rfl, by decide, by decide +kernel, by decide +kernel⟩
  have f308 : jFl RX12 wsX12_sign 308 12 63 := ⟨rfl, by decide, by decide +kernel, by decide +kernel⟩
  have f167 : jFl RX12 wsX12_sign 167 12 37 := ⟨rfl, by decide, by decide +kernel, by decide +kernel⟩
  have f170 : jFl RX12 wsX12_sign 170 12 38 := ⟨rfl, by decide, by decide +kernel, by decide +kernel⟩
  have f27 : jFl RX12 wsX12_sign 27 12 1 := ⟨rfl, by decide, by decide +kernel, by decide +kernel⟩
  have f320 : jFl RX12 wsX12_sign 320 12 67 := ⟨rfl, by decide, by decide +kernel, by decide +kernel⟩
  have f100 : jFl RX12 wsX12_sign 100 12 9 := ⟨rfl, by decide, by decide +kernel, by decide +kernel⟩
  have f311 : jFl RX12 wsX12_sign 311 12 64 := ⟨rfl, by decide, by decide +kernel, by decide +kernel⟩
  have f302 : jFl RX12 wsX12_sign 302 12 61 := ⟨rfl, by decide, by decide +kernel, by decide +kernel⟩
  have f317 : jFl RX12 wsX12_sign 317 12 66 := ⟨rfl, by decide, by decide +kernel, by decide +kernel⟩
  refine jr_iload_n hE dX12_sign_0 1 rfl ?_
  refine jr_kSi (n := 1) (As := [.int r]) (rest := []) hE dX12_sign_1 (fun l => c_m_isRow l G r) gX12_sign_X12_isRow rfl (by decide +kernel) ⟨rfl, rfl, by decide, by decide⟩ (by decide) rfl rfl (Nat.le_of_ble_eq_true rfl) (trivial) (fun r3 F1 q2 => ?_)
  obtain ⟨eq2, rq2⟩ := q2
  subst eq2 rq2
  refine jr_if_eq (tgt := 29) hE dX12_sign_4 (by decide) (fun c4 => ?_) (fun c4 => ?_)
  · refine jr_iconst (v := (-1 : Int32)) hE dX12_sign_29 (by decide) ?_
    have e : stSign s r c m t = (-1, s) := by
      unfold stSign
      rw [if_neg (fun h => absurd (b2i_t h.1) (by rw [c4]; decide))]
    exact hR F _ _ _ dX12_sign_30 rfl ⟨v, n, g, w, by rw [e]; exact hI, by rw [e], mO.rf o a F⟩
  · have hrk : rowP r := b2i_1 c4
    obtain ⟨k, hk, rfl⟩ := rowP_nI hrk
    obtain ⟨z1k, z2k, z3k, z4k⟩ := hRW k hk
    have hrnk := nI_rn hk
    refine jr_iload_n hE dX12_sign_7 2 rfl ?_
    refine jr_kSi (n := 1) (As := [.int c]) (rest := []) hE dX12_sign_8 (fun l => c_m_isRow l G c) gX12_sign_X12_isRow rfl (by decide +kernel) ⟨rfl, rfl, by decide, by decide⟩ (by decide) rfl rfl (Nat.le_of_ble_eq_true rfl) (trivial) (fun r6 F4 q5 => ?_)
    obtain ⟨eq5, rq5⟩ := q5
    subst eq5 rq5
    refine jr_if_eq (tgt := 29) hE dX12_sign_11 (by decide) (fun c11 => ?_) (fun c11 => ?_)
    · refine jr_iconst (v := (-1 : Int32)) hE dX12_sign_29 (by decide) ?_
      have e : stSign s (nI k) c m t = (-1, s) := by
        unfold stSign
        rw [if_neg (fun h => absurd (b2i_t h.2.1) (by rw [c11]; decide))]
      exact hR F _ _ _ dX12_sign_30 rfl ⟨v, n, g, w, by rw [e]; exact hI, by rw [e], mO.rf o a F⟩
    · have hrp : rowP c := b2i_1 c11
      obtain ⟨p, hp, rfl⟩ := rowP_nI hrp
      obtain ⟨z1p, z2p, z3p, z4p⟩ := hRW p hp
      have hrnp := nI_rn hp
      refine jr_iload_n hE dX12_sign_14 3 rfl ?_
      refine jr_kSi (n := 1) (As := [.int m]) (rest := []) hE dX12_sign_15 (fun l => c_m_isRow l G m) gX12_sign_X12_isRow rfl (by decide +kernel) ⟨rfl, rfl, by decide, by decide⟩ (by decide) rfl rfl (Nat.le_of_ble_eq_true rfl) (trivial) (fun r9 F7 q8 => ?_)
      obtain ⟨eq8, rq8⟩ := q8
      subst eq8 rq8
      refine jr_if_eq (tgt := 29) hE dX12_sign_18 (by decide) (fun c18 => ?_) (fun c18 => ?_)
      · refine jr_iconst (v := (-1 : Int32)) hE dX12_sign_29 (by decide) ?_
        have e : stSign s (nI k) (nI p) m t = (-1, s) := by
          unfold stSign
          rw [if_neg (fun h => absurd (b2i_t h.2.2.1) (by rw [c18]; decide))]
        exact hR F _ _ _ dX12_sign_30 rfl ⟨v, n, g, w, by rw [e]; exact hI, by rw [e], mO.rf o a F⟩
      · have hrb : rowP m := b2i_1 c18
        obtain ⟨b, hb, rfl⟩ := rowP_nI hrb
        obtain ⟨z1b, z2b, z3b, z4b⟩ := hRW b hb
        have hrnb := nI_rn hb
        refine jr_iload hE dX12_sign_21 4 rfl ?_
        refine jr_kSi (n := 1) (As := [.int t]) (rest := []) hE dX12_sign_23 (fun l => c_m_isRow l G t) gX12_sign_X12_isRow rfl (by decide +kernel) ⟨rfl, rfl, by decide, by decide⟩ (by decide) rfl rfl (Nat.le_of_ble_eq_true rfl) (trivial) (fun r12 F10 q11 => ?_)
        obtain ⟨eq11, rq11⟩ := q11
        subst eq11 rq11
        refine jr_if_ne (tgt := 31) hE dX12_sign_26 (by decide) (fun c26 => ?_) (fun c26 => ?_)
        · have hrj : rowP t := b2i_1 c26
          obtain ⟨j, hj, rfl⟩ := rowP_nI hrj
          obtain ⟨z1j, z2j, z3j, z4j⟩ := hRW j hj
          have hrnj := nI_rn hj
          refine jr_aload_n hE dX12_sign_31 0 rfl ?_
          refine jr_iload_n hE dX12_sign_32 2 rfl ?_
          refine jr_kVi (ci := 12) (n := 1) (As := [.int (nI p)]) (rest := []) hE dX12_sign_33 (fun l => c_m_isSecret l G o a v n g w p (s.1 p).length) gX12_sign_X12_isSecret rfl M0.ob rfl (by decide +kernel) ⟨rfl, rfl, by decide, by decide⟩ (by decide) rfl rfl (Nat.le_of_ble_eq_true rfl) (⟨M0, hK, hp, z1p, z3p, fun h => by rw [← h]; exact bB_of z2p z4p⟩) (fun r16 F14 q15 => ?_)
          obtain ⟨n17, M17, hf17, hd17, r16e, P17⟩ := q15
          rw [secI z2p] at r16e
          subst r16e
          have O17 := (mO.rf o a F).tr P17
          refine jr_if_eq (tgt := 51) hE dX12_sign_36 (by decide) (fun c36 => ?_) (fun c36 => ?_)
          · refine jr_bipush (v := (-2 : Int32)) hE dX12_sign_51 (by decide) ?_
            have hvF : ∀ z, z ∉ [999] → v z = v z := (fun z hz => rfl)
            have hnF : ∀ z, z ∉ [62] → n17 z = n z := (fun z hz => (hf17 z (jnsub (V := [62]) hz [0] rfl)))
            have hwF : ∀ z, z ∉ [999] → w z = w z := (fun z hz => rfl)
            have e : stSign s (nI k) (nI p) (nI b) (nI j) = (-2, s) := by
              unfold stSign
              rw [if_pos ⟨nI_rowP hk, nI_rowP hp, nI_rowP hb, nI_rowP hj⟩, hrnp, if_neg (fun h => absurd (b2i_t h.1) (by rw [c36]; decide))]
            exact hR F14 _ _ _ dX12_sign_53 rfl ⟨_, _, _, _, by rw [e]; exact hI.keep (c := s.2.2.1) M17 hpI.2.1.1 (hpI.2.1.2) (fun z hz => hvF z (jdj rfl hz)) (fun z hz => hnF z (jdj rfl hz)) (fun z hz => hwF z (jdj rfl hz)), by rw [e], O17⟩
          · have hs := b2i_1 c36
            have hS19 : n17 62 = some (bnum (s.1 p)) := sec_get hd17 z2p hs.1
            obtain ⟨d, hd⟩ : ∃ d, d = (bnum (s.1 p)) := ⟨_, rfl⟩
            rw [← hd] at hS19
            refine jr_aload_n hE dX12_sign_39 0 rfl ?_
            refine jr_get hE dX12_sign_40 f96 M17.ob rfl ?_
            refine jr_iload hE dX12_sign_43 4 rfl ?_
            refine jr_iald (v := nI (s.1 j).length) hE dX12_sign_45 (M17.I (k := 8) (N := 16) (by decide)) (vp_in_nI (by omega) (by decide)) (by rw [nI_clamp (by omega)]; exact z1j) ?_
            refine jr_bipush (v := (32 : Int32)) hE dX12_sign_46 (by decide) ?_
            refine jr_icmp_eq (tgt := 54) hE dX12_sign_48 (by decide) (fun c48 => ?_) (fun c48 => ?_)
            · have hlj : (s.1 j).length = 32 := (nI_eq (by omega) (by decide)).mp c48
              have z5j : bl (w 9) (100 * j) 32 = s.1 j := by have q := z2j; rw [hlj] at q; exact q
              refine jr_aload_n hE dX12_sign_54 0 rfl ?_
              refine jr_iconst (v := (2 : Int32)) hE dX12_sign_55 (by decide) ?_
              refine jr_kVi (ci := 12) (n := 1) (As := [.int (2 : Int32)]) (rest := []) hE dX12_sign_56 (fun l => c_m_isSpent l G o a v n17 g w s.2.2.1 2) gX12_sign_X12_isSpent rfl M17.ob rfl (by decide +kernel) ⟨rfl, rfl, by decide, by decide⟩ (by decide) rfl rfl (Nat.le_of_ble_eq_true rfl) (⟨M17, hpI.2.1.1, by omega, by omega⟩) (fun r22 F20 q21 => ?_)
              obtain ⟨eq21, rq21⟩ := q21
              subst eq21 rq21
              refine jr_if_eq (tgt := 65) hE dX12_sign_59 (by decide) (fun c59 => ?_) (fun c59 => ?_)
              · have hd0 : d ≠ 0 := by rw [hd]; exact hs.2.1
                have hdN : d < NN := by rw [hd]; exact hs.2.2
                have hw48 : ¬ 48 < s.2.2.1 + 2 := fun h => absurd (b2i_t h) (by rw [c59]; decide)
                refine jr_aload_n hE dX12_sign_65 0 rfl ?_
                refine jr_dup hE dX12_sign_66 rfl ?_
                refine jr_get hE dX12_sign_67 f478 M17.ob rfl ?_
                rw [hpI.2.1.1]
                refine jr_iconst (v := (2 : Int32)) hE dX12_sign_70 (by decide) ?_
                refine jr_iadd (z := nI (s.2.2.1 + 2)) hE dX12_sign_71 (nI_add _ 2) ?_
                refine jr_put (ty := .int) hE dX12_sign_72 f478 M17.ob rfl (by decide +kernel) rfl rfl (Nat.le_of_ble_eq_true rfl) (fun F23 g24 u25 => ?_)
                have H26 := M17.setV (v' := uz v 31 (nI (s.2.2.1 + 2))) g24 u25
                have O27 := O17.so u25
                obtain ⟨v28, e28, hvv28, hvx28⟩ := uz_ab v 31 (nI (s.2.2.1 + 2))
                rw [e28] at H26
                refine jr_aload_n hE dX12_sign_75 0 rfl ?_
                have hC29 : mC n17 := hC.fr (hf17 4 (by decide)) (hf17 5 (by decide)) (hf17 6 (by decide)) (hf17 7 (by decide)) (hf17 48 (by decide))
                refine jr_kVv (ci := 12) (n := 0) (As := []) (rest := []) hE dX12_sign_76 (fun l => c_m_generator l G o a v28 n17 g w) gX12_sign_X12_generator rfl H26.ob rfl (by decide +kernel) ⟨rfl, rfl, by decide, by decide⟩ (by decide) rfl rfl (Nat.le_of_ble_eq_true rfl) (⟨H26, hC29⟩) (fun F30 q31 => ?_)
                obtain ⟨n32, M32, hf32, hq32, P32⟩ := q31
                have O32 := O27.tr P32
                refine jr_aload_n hE dX12_sign_79 0 rfl ?_
                refine jr_aload_n hE dX12_sign_80 0 rfl ?_
                refine jr_get hE dX12_sign_81 f305 M32.ob rfl ?_
                have hN33 : n32 62 = some d := (hf32 62 (by decide)).trans hS19
                have hK34 : mK n32 g := hK.fr ((hf32 0 (by decide)).trans (hf17 0 (by decide))) ((hf32 1 (by decide)).trans (hf17 1 (by decide))) ((hf32 32 (by decide)).trans (hf17 32 (by decide))) ((hf32 33 (by decide)).trans (hf17 33 (by decide)))
                have hC35 : mC n32 := hC29.fr (hf32 4 (by decide)) (hf32 5 (by decide)) (hf32 6 (by decide)) (hf32 7 (by decide)) (hf32 48 (by decide))
                refine jr_kVv (ci := 12) (n := 1) (As := [.ref (a 62)]) (rest := []) hE dX12_sign_84 (fun l => c_m_multiply l G o a v28 n32 g w 62 d GE) gX12_sign_X12_multiply rfl M32.ob rfl (by decide +kernel) ⟨rfl, rfl, by decide, by decide⟩ (by decide) rfl rfl (Nat.le_of_ble_eq_true rfl) (⟨M32, hK34, hC35.1, by decide, by decide, hN33, hq32⟩) (fun F36 q37 => ?_)
                obtain ⟨n38, M38, hf38, hp38, P38⟩ := q37
                have O38 := O32.tr P38
                have hxy39 := hp38.xy (emulG_ne hd0 hdN)
                refine jr_aload_n hE dX12_sign_87 0 rfl ?_
                refine jr_get hE dX12_sign_88 f308 M38.ob rfl ?_
                refine jr_aload_n hE dX12_sign_91 0 rfl ?_
                refine jr_get hE dX12_sign_92 f167 M38.ob rfl ?_
                refine jr_kSv (n := 2) (As := [.ref (a 63), .ref (a 37)]) (rest := []) hE dX12_sign_95 (fun l => c_m_set l G o a v28 n38 g w 63 37) gX12_sign_X12_set rfl (by decide +kernel) ⟨rfl, rfl, by decide, by decide⟩ (by decide) rfl rfl (Nat.le_of_ble_eq_true rfl) (⟨M38, by decide, by decide⟩) (fun F40 q41 => ?_)
                obtain ⟨M42, P42⟩ := q41
                have O42 := O38.tr P42
                obtain ⟨n42, e42, hf42, hv42⟩ := uz_ab n38 63 (n38 37)
                rw [e42] at M42
                have hN43 : n42 38 = some (eyN (emul PP d GE)) := (hf42 38 (by decide)).trans hxy39.2.1
                have hN44 : n42 62 = some d := ((hf42 62 (by decide)).trans (hf38 62 (by decide))).trans hN33
                have hN45 : n42 1 = some NN := ((hf42 1 (by decide)).trans ((hf38 1 (by decide)).trans ((hf32 1 (by decide)).trans (hf17 1 (by decide))))).trans hK.2.1
                have U46 : (∀ (F1 : Nat → va_E) (n1 : Nat → Option Nat), MW G L F1 o a v28 n1 g w → (∀ z, z ∉ [62] → n1 z = n42 z) → n1 62 = some (ngN (eyO (emul PP d GE)) d) → mO o a F40 F1 → J E L F1 0 0 126 [(0, .ref o), (1, .int (nI k)), (2, .int (nI p)), (3, .int (nI b)), (4, .int (nI j))] []) → J E L F40 0 0 98 [(0, .ref o), (1, .int (nI k)), (2, .int (nI p)), (3, .int (nI b)), (4, .int (nI j))] [] := by
                  intro cont
                  refine jr_aload_n hE dX12_sign_98 0 rfl ?_
                  refine jr_get hE dX12_sign_99 f170 M42.ob rfl ?_
                  refine jr_iconst (v := (0 : Int32)) hE dX12_sign_102 (by decide) ?_
                  obtain ⟨f47, jf47, ef47⟩ := M42.ld (k := 38) (by decide) (x := (eyN (emul PP d GE))) hN43
                  refine jr_lald (v := lN ((eyN (emul PP d GE)) / 2 ^ (32 * 0) % 2 ^ 32)) hE dX12_sign_103 jf47 (vp_in_nI (n := 0) (by decide) (by decide)) (ef47 0 (by decide)) ?_
                  refine jr_lconst (v := (1 : Int64)) hE dX12_sign_104 (by decide) ?_
                  refine jr_land (z := lN ((eyN (emul PP d GE)) % 2)) hE dX12_sign_105 (by rw [wb_a1 (Nat.lt_trans (Nat.mod_lt _ (Nat.two_pow_pos 32)) (by decide)), dig0]) ?_
                  refine jr_lconst (v := (1 : Int64)) hE dX12_sign_106 (by decide) ?_
                  refine jr_lcmp hE dX12_sign_107 ?_
                  refine jr_if_ne (tgt := 126) hE dX12_sign_108 (by decide) (fun c108 => ?_) (fun c108 => ?_)
                  · exact cont F40 n42 M42 (fun z hz => rfl) (hN44.trans (by rw [ngN_0 (odd_f (fun e => c108 ((cmp0 (b := 1) (by omega) (by decide)).mpr e)))])) (mO.rf o a F40)
                  · refine jr_aload_n hE dX12_sign_111 0 rfl ?_
                    refine jr_get hE dX12_sign_112 f305 M42.ob rfl ?_
                    refine jr_aload_n hE dX12_sign_115 0 rfl ?_
                    refine jr_get hE dX12_sign_116 f27 M42.ob rfl ?_
                    refine jr_aload_n hE dX12_sign_119 0 rfl ?_
                    refine jr_get hE dX12_sign_120 f305 M42.ob rfl ?_
                    refine jr_kSv (n := 3) (As := [.ref (a 62), .ref (a 1), .ref (a 62)]) (rest := []) hE dX12_sign_123 (fun l => c_m_take l G o a v28 n42 g w 62 1 62 NN d) gX12_sign_X12_take rfl (by decide +kernel) ⟨rfl, rfl, by decide, by decide⟩ (by decide) rfl rfl (Nat.le_of_ble_eq_true rfl) (⟨M42, by decide, by decide, by decide, hN45, hN44⟩) (fun F48 q49 => ?_)
                    obtain ⟨M50, P50⟩ := q49
                    have O50 := (mO.rf o a F40).tr P50
                    rw [show (NN + 2 ^ 256 - d) % 2 ^ 256 = NN - d from neg_tk hd0 hdN NN_256] at M50
                    obtain ⟨n50, e50, hf50, hv50⟩ := uz_ab n42 62 (some (NN - d))
                    rw [e50] at M50
                    exact cont F48 n50 M50 (fun z hz => (hf50 z (jnsub (V := [62]) hz [0] rfl))) (hv50.trans (by rw [ngN_1 (odd_t ((cmp0 (b := 1) (by omega) (by decide)).mp c108)) hd0])) O50
                refine U46 (fun F46 n46 M46 hu46 hy46 P46 => ?_)
                have O46 := O42.tr P46
                refine jr_aload_n hE dX12_sign_126 0 rfl ?_
                refine jr_iconst (v := (0 : Int32)) hE dX12_sign_127 (by decide) ?_
                refine jr_iload hE dX12_sign_128 4 rfl ?_
                refine jr_kVv (ci := 12) (n := 2) (As := [.int (0 : Int32), .int (nI j)]) (rest := []) hE dX12_sign_130 (fun l => c_m_mix l G o a v28 n46 g w 0 j (ngN (eyO (emul PP d GE)) d)) gX12_sign_X12_mix rfl M46.ob rfl (by decide +kernel) ⟨rfl, rfl, by decide, by decide⟩ (by decide) rfl rfl (Nat.le_of_ble_eq_true rfl) (⟨M46, by decide, htg, hrd, by omega, hy46, bB_of z5j z4j⟩) (fun F51 q52 => ?_)
                obtain ⟨v53, w53, M53, hvv53, hw53, hm53, P53⟩ := q52
                rw [z5j] at hm53
                have O53 := O46.tr P53
                refine jr_aload_n hE dX12_sign_133 0 rfl ?_
                refine jr_iconst (v := (1 : Int32)) hE dX12_sign_134 (by decide) ?_
                have hT54 : tgOK w53 := htg.fr (hw53 50 (by decide)) (hw53 51 (by decide))
                have hD55 : rdOK w53 := hrd.fr (hw53 52 (by decide))
                refine jr_kVv (ci := 12) (n := 1) (As := [.int (1 : Int32)]) (rest := []) hE dX12_sign_135 (fun l => c_m_begin l G o a v53 n46 g w53 1) gX12_sign_X12_begin rfl M53.ob rfl (by decide +kernel) ⟨rfl, rfl, by decide, by decide⟩ (by decide) rfl rfl (Nat.le_of_ble_eq_true rfl) (⟨M53, by decide, hT54, hD55⟩) (fun F56 q57 => ?_)
                obtain ⟨v58, w58, M58, hvv58, hw58, hX58, P58⟩ := q57
                have O58 := O53.tr P58
                refine jr_aload_n hE dX12_sign_138 0 rfl ?_
                refine jr_aload_n hE dX12_sign_139 0 rfl ?_
                refine jr_get hE dX12_sign_140 f320 M58.ob rfl ?_
                refine jr_iconst (v := (0 : Int32)) hE dX12_sign_143 (by decide) ?_
                refine jr_bipush (v := (32 : Int32)) hE dX12_sign_144 (by decide) ?_
                have hC59 : bl (w58 67) 0 32 = xorL (bex (ngN (eyO (emul PP d GE)) d) 32) (sha (sha (tgb 0) ++ sha (tgb 0) ++ s.1 j)) := by
                  rw [show w58 67 = w53 67 from (hw58 67 (by decide))]
                  exact hm53
                refine jr_kVv (ci := 12) (n := 3) (As := [.ref (a 67), .int (0 : Int32), .int (32 : Int32)]) (rest := []) hE dX12_sign_146 (fun l => c_m_putAll l G o a v58 n46 g w58 _ 67 0 32 32) gX12_sign_X12_putAll rfl M58.ob rfl (by decide +kernel) ⟨rfl, rfl, by decide, by decide⟩ (by decide) rfl rfl (Nat.le_of_ble_eq_true rfl) (⟨M58, hX58, by decide, by decide, by omega, by decide, by simp only [List.length_append, sha_len, bl_len, bex_len, xorL_len, pbE_len, List.length_cons, List.length_nil, List.length_replicate]; omega, bB_of hC59 (xorL_lt (bex_lt _ _) (sha_lt _))⟩) (fun F60 q61 => ?_)
                obtain ⟨v62, w62, M62, hvv62, hw62, hX62, P62⟩ := q61
                rw [hC59] at hX62
                have O62 := O58.tr P62
                refine jr_aload_n hE dX12_sign_149 0 rfl ?_
                refine jr_aload_n hE dX12_sign_150 0 rfl ?_
                refine jr_get hE dX12_sign_151 f308 M62.ob rfl ?_
                have hN63 : n46 63 = some (exE (emul PP d GE)) := (hu46 63 (by decide)).trans (hv42.trans hxy39.1)
                refine jr_kVv (ci := 12) (n := 1) (As := [.ref (a 63)]) (rest := []) hE dX12_sign_154 (fun l => c_m_putNumber l G o a v62 n46 g w62 _ 63 (exE (emul PP d GE))) gX12_sign_X12_putNumber rfl M62.ob rfl (by decide +kernel) ⟨rfl, rfl, by decide, by decide⟩ (by decide) rfl rfl (Nat.le_of_ble_eq_true rfl) (⟨M62, hX62, by decide, hN63, by simp only [List.length_append, sha_len, bl_len, bex_len, xorL_len, pbE_len, List.length_cons, List.length_nil, List.length_replicate]; omega⟩) (fun F64 q65 => ?_)
                obtain ⟨v66, w66, M66, hvv66, hw66, hX66, P66⟩ := q65
                have O66 := O62.tr P66
                refine jr_aload_n hE dX12_sign_157 0 rfl ?_
                refine jr_aload_n hE dX12_sign_158 0 rfl ?_
                refine jr_get hE dX12_sign_159 f100 M66.ob rfl ?_
                refine jr_bipush (v := (100 : Int32)) hE dX12_sign_162 (by decide) ?_
                refine jr_iload_n hE dX12_sign_164 3 rfl ?_
                refine jr_imul (z := nI (100 * b)) hE dX12_sign_165 (pk_mul 100 b) ?_
                refine jr_aload_n hE dX12_sign_166 0 rfl ?_
                refine jr_get hE dX12_sign_167 f96 M66.ob rfl ?_
                refine jr_iload_n hE dX12_sign_170 3 rfl ?_
                refine jr_iald (v := nI (s.1 b).length) hE dX12_sign_171 (M66.I (k := 8) (N := 16) (by decide)) (vp_in_nI (by omega) (by decide)) (by rw [nI_clamp (by omega)]; exact (congrFun ((hw66 8 (by decide)).trans ((hw62 8 (by decide)).trans ((hw58 8 (by decide)).trans (hw53 8 (by decide))))) b).trans z1b) ?_
                have hC67 : bl (w66 9) (100 * b) ((s.1 b).length) = s.1 b := by
                  rw [show w66 9 = w 9 from ((hw66 9 (by decide)).trans ((hw62 9 (by decide)).trans ((hw58 9 (by decide)).trans (hw53 9 (by decide)))))]
                  exact z2b
                refine jr_kVv (ci := 12) (n := 3) (As := [.ref (a 9), .int (nI (100 * b)), .int (nI (s.1 b).length)]) (rest := []) hE dX12_sign_172 (fun l => c_m_putAll l G o a v66 n46 g w66 _ 9 (100 * b) ((s.1 b).length) 1600) gX12_sign_X12_putAll rfl M66.ob rfl (by decide +kernel) ⟨rfl, rfl, by decide, by decide⟩ (by decide) rfl rfl (Nat.le_of_ble_eq_true rfl) (⟨M66, hX66, by decide, by decide, by omega, by decide, by simp only [List.length_append, sha_len, bl_len, bex_len, xorL_len, pbE_len, List.length_cons, List.length_nil, List.length_replicate]; omega, bB_of hC67 z4b⟩) (fun F68 q69 => ?_)
                obtain ⟨v70, w70, M70, hvv70, hw70, hX70, P70⟩ := q69
                rw [hC67] at hX70
                have O70 := O66.tr P70
                refine jr_aload_n hE dX12_sign_175 0 rfl ?_
                refine jr_aload_n hE dX12_sign_176 0 rfl ?_
                refine jr_get hE dX12_sign_177 f311 M70.ob rfl ?_
                have hK71 : mK n46 g := hK34.fr ((hu46 0 (by decide)).trans ((hf42 0 (by decide)).trans (hf38 0 (by decide)))) ((hu46 1 (by decide)).trans ((hf42 1 (by decide)).trans (hf38 1 (by decide)))) ((hu46 32 (by decide)).trans ((hf42 32 (by decide)).trans (hf38 32 (by decide)))) ((hu46 33 (by decide)).trans ((hf42 33 (by decide)).trans (hf38 33 (by decide))))
                have hD72 : rdOK w70 := hD55.fr ((hw70 52 (by decide)).trans ((hw66 52 (by decide)).trans ((hw62 52 (by decide)).trans (hw58 52 (by decide)))))
                refine jr_kVv (ci := 12) (n := 1) (As := [.ref (a 64)]) (rest := []) hE dX12_sign_180 (fun l => c_m_endNumber l G o a v70 n46 g w70 _ 64 _) gX12_sign_X12_endNumber rfl M70.ob rfl (by decide +kernel) ⟨rfl, rfl, by decide, by decide⟩ (by decide) rfl rfl (Nat.le_of_ble_eq_true rfl) (⟨M70, hK71, hX70, hD72, by decide, rfl⟩) (fun F73 q74 => ?_)
                obtain ⟨w75, M75, hw75, hs75, P75⟩ := q74
                have O75 := O70.tr P75
                obtain ⟨KS, eKS⟩ : ∃ x, x = bnum (sha (sha (tgb 1) ++ sha (tgb 1) ++ xorL (bex (ngN (eyO (emul PP d GE)) d) 32) (sha (sha (tgb 0) ++ sha (tgb 0) ++ s.1 j)) ++ bex (exE (emul PP d GE)) 32 ++ s.1 b)) % NN := ⟨_, rfl⟩
                rw [← eKS] at M75
                obtain ⟨n75, e75, hf75, hv75⟩ := uz_ab n46 64 (some KS)
                rw [e75] at M75
                have hKN : KS < NN := by rw [eKS]; exact Nat.mod_lt _ NN0
                have eK : sgK d (s.1 b) (s.1 j) = KS := by rw [eKS]; rfl
                refine jr_aload_n hE dX12_sign_183 0 rfl ?_
                refine jr_get hE dX12_sign_184 f311 M75.ob rfl ?_
                refine jr_kSi (n := 1) (As := [.ref (a 64)]) (rest := []) hE dX12_sign_187 (fun l => c_m_isNull l G o a v70 n75 g w75 64 KS) gX12_sign_X12_isNull rfl (by decide +kernel) ⟨rfl, rfl, by decide, by decide⟩ (by decide) rfl rfl (Nat.le_of_ble_eq_true rfl) (⟨M75, by decide, hv75⟩) (fun r78 F76 q77 => ?_)
                obtain ⟨eq77, rq77⟩ := q77
                subst eq77 rq77
                refine jr_if_eq (tgt := 196) hE dX12_sign_190 (by decide) (fun c190 => ?_) (fun c190 => ?_)
                · have hK0 : KS ≠ 0 := b2i_0 c190
                  refine jr_aload_n hE dX12_sign_196 0 rfl ?_
                  have hC79 : mC n75 := hC35.fr ((hf75 4 (by decide)).trans ((hu46 4 (by decide)).trans ((hf42 4 (by decide)).trans (hf38 4 (by decide))))) ((hf75 5 (by decide)).trans ((hu46 5 (by decide)).trans ((hf42 5 (by decide)).trans (hf38 5 (by decide))))) ((hf75 6 (by decide)).trans ((hu46 6 (by decide)).trans ((hf42 6 (by decide)).trans (hf38 6 (by decide))))) ((hf75 7 (by decide)).trans ((hu46 7 (by decide)).trans ((hf42 7 (by decide)).trans (hf38 7 (by decide))))) ((hf75 48 (by decide)).trans ((hu46 48 (by decide)).trans ((hf42 48 (by decide)).trans (hf38 48 (by decide)))))
                  refine jr_kVv (ci := 12) (n := 0) (As := []) (rest := []) hE dX12_sign_197 (fun l => c_m_generator l G o a v70 n75 g w75) gX12_sign_X12_generator rfl M75.ob rfl (by decide +kernel) ⟨rfl, rfl, by decide, by decide⟩ (by decide) rfl rfl (Nat.le_of_ble_eq_true rfl) (⟨M75, hC79⟩) (fun F80 q81 => ?_)
                  obtain ⟨n82, M82, hf82, hq82, P82⟩ := q81
                  have O82 := O75.tr P82
                  refine jr_aload_n hE dX12_sign_200 0 rfl ?_
                  refine jr_aload_n hE dX12_sign_201 0 rfl ?_
                  refine jr_get hE dX12_sign_202 f311 M82.ob rfl ?_
                  have hN83 : n82 64 = some KS := (hf82 64 (by decide)).trans hv75
                  have hK84 : mK n82 g := hK71.fr ((hf82 0 (by decide)).trans (hf75 0 (by decide))) ((hf82 1 (by decide)).trans (hf75 1 (by decide))) ((hf82 32 (by decide)).trans (hf75 32 (by decide))) ((hf82 33 (by decide)).trans (hf75 33 (by decide)))
                  have hC85 : mC n82 := hC79.fr (hf82 4 (by decide)) (hf82 5 (by decide)) (hf82 6 (by decide)) (hf82 7 (by decide)) (hf82 48 (by decide))
                  refine jr_kVv (ci := 12) (n := 1) (As := [.ref (a 64)]) (rest := []) hE dX12_sign_205 (fun l => c_m_multiply l G o a v70 n82 g w75 64 KS GE) gX12_sign_X12_multiply rfl M82.ob rfl (by decide +kernel) ⟨rfl, rfl, by decide, by decide⟩ (by decide) rfl rfl (Nat.le_of_ble_eq_true rfl) (⟨M82, hK84, hC85.1, by decide, by decide, hN83, hq82⟩) (fun F86 q87 => ?_)
                  obtain ⟨n88, M88, hf88, hp88, P88⟩ := q87
                  have O88 := O82.tr P88
                  have hxy89 := hp88.xy (emulG_ne hK0 hKN)
                  have hN90 : n88 64 = some KS := (hf88 64 (by decide)).trans hN83
                  have hN91 : n88 1 = some NN := ((hf88 1 (by decide)).trans ((hf82 1 (by decide)).trans ((hf75 1 (by decide)).trans (hu46 1 (by decide))))).trans hN45
                  have U92 : (∀ (F1 : Nat → va_E) (n1 : Nat → Option Nat), MW G L F1 o a v70 n1 g w75 → (∀ z, z ∉ [64] → n1 z = n88 z) → n1 64 = some (ngN (eyO (emul PP KS GE)) KS) → mO o a F86 F1 → J E L F1 0 0 236 [(0, .ref o), (1, .int (nI k)), (2, .int (nI p)), (3, .int (nI b)), (4, .int (nI j))] []) → J E L F86 0 0 208 [(0, .ref o), (1, .int (nI k)), (2, .int (nI p)), (3, .int (nI b)), (4, .int (nI j))] [] := by
                    intro cont
                    refine jr_aload_n hE dX12_sign_208 0 rfl ?_
                    refine jr_get hE dX12_sign_209 f170 M88.ob rfl ?_
                    refine jr_iconst (v := (0 : Int32)) hE dX12_sign_212 (by decide) ?_
                    obtain ⟨f93, jf93, ef93⟩ := M88.ld (k := 38) (by decide) (x := (eyN (emul PP KS GE))) hxy89.2.1
                    refine jr_lald (v := lN ((eyN (emul PP KS GE)) / 2 ^ (32 * 0) % 2 ^ 32)) hE dX12_sign_213 jf93 (vp_in_nI (n := 0) (by decide) (by decide)) (ef93 0 (by decide)) ?_
                    refine jr_lconst (v := (1 : Int64)) hE dX12_sign_214 (by decide) ?_
                    refine jr_land (z := lN ((eyN (emul PP KS GE)) % 2)) hE dX12_sign_215 (by rw [wb_a1 (Nat.lt_trans (Nat.mod_lt _ (Nat.two_pow_pos 32)) (by decide)), dig0]) ?_
                    refine jr_lconst (v := (1 : Int64)) hE dX12_sign_216 (by decide) ?_
                    refine jr_lcmp hE dX12_sign_217 ?_
                    refine jr_if_ne (tgt := 236) hE dX12_sign_218 (by decide) (fun c218 => ?_) (fun c218 => ?_)
                    · exact cont F86 n88 M88 (fun z hz => rfl) (hN90.trans (by rw [ngN_0 (odd_f (fun e => c218 ((cmp0 (b := 1) (by omega) (by decide)).mpr e)))])) (mO.rf o a F86)
                    · refine jr_aload_n hE dX12_sign_221 0 rfl ?_
                      refine jr_get hE dX12_sign_222 f311 M88.ob rfl ?_
                      refine jr_aload_n hE dX12_sign_225 0 rfl ?_
                      refine jr_get hE dX12_sign_226 f27 M88.ob rfl ?_
                      refine jr_aload_n hE dX12_sign_229 0 rfl ?_
                      refine jr_get hE dX12_sign_230 f311 M88.ob rfl ?_
                      refine jr_kSv (n := 3) (As := [.ref (a 64), .ref (a 1), .ref (a 64)]) (rest := []) hE dX12_sign_233 (fun l => c_m_take l G o a v70 n88 g w75 64 1 64 NN KS) gX12_sign_X12_take rfl (by decide +kernel) ⟨rfl, rfl, by decide, by decide⟩ (by decide) rfl rfl (Nat.le_of_ble_eq_true rfl) (⟨M88, by decide, by decide, by decide, hN91, hN90⟩) (fun F94 q95 => ?_)
                      obtain ⟨M96, P96⟩ := q95
                      have O96 := (mO.rf o a F86).tr P96
                      rw [show (NN + 2 ^ 256 - KS) % 2 ^ 256 = NN - KS from neg_tk hK0 hKN NN_256] at M96
                      obtain ⟨n96, e96, hf96, hv96⟩ := uz_ab n88 64 (some (NN - KS))
                      rw [e96] at M96
                      exact cont F94 n96 M96 (fun z hz => (hf96 z (jnsub (V := [64]) hz [0] rfl))) (hv96.trans (by rw [ngN_1 (odd_t ((cmp0 (b := 1) (by omega) (by decide)).mp c218)) hK0])) O96
                  refine U92 (fun F92 n92 M92 hu92 hy92 P92 => ?_)
                  have O92 := O88.tr P92
                  refine jr_aload_n hE dX12_sign_236 0 rfl ?_
                  refine jr_get hE dX12_sign_237 f302 M92.ob rfl ?_
                  refine jr_iconst (v := (0 : Int32)) hE dX12_sign_240 (by decide) ?_
                  refine jr_aload_n hE dX12_sign_241 0 rfl ?_
                  refine jr_get hE dX12_sign_242 f167 M92.ob rfl ?_
                  have hN97 : n92 37 = some (exE (emul PP KS GE)) := (hu92 37 (by decide)).trans hxy89.1
                  refine jr_kSv (n := 3) (As := [.ref (a 61), .int (0 : Int32), .ref (a 37)]) (rest := []) hE dX12_sign_245 (fun l => c_m_bytesOf l G o a v70 n92 g w75 61 0 37 66 (exE (emul PP KS GE))) gX12_sign_X12_bytesOf rfl (by decide +kernel) ⟨rfl, rfl, by decide, by decide⟩ (by decide) rfl rfl (Nat.le_of_ble_eq_true rfl) (⟨M92, by decide, by decide, by decide, by decide, hN97⟩) (fun F98 q99 => ?_)
                  obtain ⟨M100, P100⟩ := q99
                  have O100 := O92.tr P100
                  obtain ⟨w100, e100, hw100, hx100⟩ := uz_ab w75 61 (wrt (w75 61) 0 (bex (exE (emul PP KS GE)) 32))
                  rw [e100] at M100
                  have ho100 : bl (w100 61) 0 32 = bex (exE (emul PP KS GE)) 32 := by rw [hx100]; exact bl_w0 (bex_len _ _) (bex_lt _ _)
                  refine jr_aload_n hE dX12_sign_248 0 rfl ?_
                  refine jr_aload_n hE dX12_sign_249 0 rfl ?_
                  refine jr_get hE dX12_sign_250 f317 M100.ob rfl ?_
                  refine jr_aload_n hE dX12_sign_253 0 rfl ?_
                  refine jr_get hE dX12_sign_254 f167 M100.ob rfl ?_
                  refine jr_aload_n hE dX12_sign_257 0 rfl ?_
                  refine jr_get hE dX12_sign_258 f308 M100.ob rfl ?_
                  refine jr_aload_n hE dX12_sign_261 0 rfl ?_
                  refine jr_get hE dX12_sign_262 f100 M100.ob rfl ?_
                  refine jr_bipush (v := (100 : Int32)) hE dX12_sign_265 (by decide) ?_
                  refine jr_iload_n hE dX12_sign_267 3 rfl ?_
                  refine jr_imul (z := nI (100 * b)) hE dX12_sign_268 (pk_mul 100 b) ?_
                  refine jr_aload_n hE dX12_sign_269 0 rfl ?_
                  refine jr_get hE dX12_sign_270 f96 M100.ob rfl ?_
                  refine jr_iload_n hE dX12_sign_273 3 rfl ?_
                  refine jr_iald (v := nI (s.1 b).length) hE dX12_sign_274 (M100.I (k := 8) (N := 16) (by decide)) (vp_in_nI (by omega) (by decide)) (by rw [nI_clamp (by omega)]; exact (congrFun ((hw100 8 (by decide)).trans ((hw75 8 (by decide)).trans ((hw70 8 (by decide)).trans ((hw66 8 (by decide)).trans ((hw62 8 (by decide)).trans ((hw58 8 (by decide)).trans (hw53 8 (by decide)))))))) b).trans z1b) ?_
                  have hN101 : n92 63 = some (exE (emul PP d GE)) := ((hu92 63 (by decide)).trans ((hf88 63 (by decide)).trans ((hf82 63 (by decide)).trans (hf75 63 (by decide))))).trans hN63
                  have hC102 : bl (w100 9) (100 * b) ((s.1 b).length) = s.1 b := by
                    rw [show w100 9 = w66 9 from ((hw100 9 (by decide)).trans ((hw75 9 (by decide)).trans (hw70 9 (by decide))))]
                    exact hC67
                  have hK103 : mK n92 g := hK84.fr ((hu92 0 (by decide)).trans (hf88 0 (by decide))) ((hu92 1 (by decide)).trans (hf88 1 (by decide))) ((hu92 32 (by decide)).trans (hf88 32 (by decide))) ((hu92 33 (by decide)).trans (hf88 33 (by decide)))
                  have hT104 : tgOK w100 := hT54.fr ((hw100 50 (by decide)).trans ((hw75 50 (by decide)).trans ((hw70 50 (by decide)).trans ((hw66 50 (by decide)).trans ((hw62 50 (by decide)).trans (hw58 50 (by decide))))))) ((hw100 51 (by decide)).trans ((hw75 51 (by decide)).trans ((hw70 51 (by decide)).trans ((hw66 51 (by decide)).trans ((hw62 51 (by decide)).trans (hw58 51 (by decide)))))))
                  have hD105 : rdOK w100 := hD72.fr ((hw100 52 (by decide)).trans (hw75 52 (by decide)))
                  refine jr_kVv (ci := 12) (n := 6) (As := [.ref (a 66), .ref (a 37), .ref (a 63), .ref (a 9), .int (nI (100 * b)), .int (nI (s.1 b).length)]) (rest := []) hE dX12_sign_275 (fun l => c_m_challenge l G o a v70 n92 g w100 66 37 63 9 (100 * b) ((s.1 b).length) 1600 (exE (emul PP KS GE)) (exE (emul PP d GE))) gX12_sign_X12_challenge rfl M100.ob rfl (by decide +kernel) ⟨rfl, rfl, by decide, by decide⟩ (by decide) rfl rfl (Nat.le_of_ble_eq_true rfl) (⟨M100, hK103, hT104, hD105, by decide, by decide, by decide, hN97, hN101, by decide, by decide, by omega, by decide, by omega, bB_of hC102 z4b⟩) (fun F106 q107 => ?_)
                  obtain ⟨v108, w108, M108, hvv108, hw108, P108⟩ := q107
                  rw [hC102] at M108
                  have O108 := O100.tr P108
                  rw [← chS_eq] at M108
                  obtain ⟨n108, e108, hf108, hv108⟩ := uz_ab n92 66 (some (chS (exE (emul PP KS GE)) (exE (emul PP d GE)) (s.1 b)))
                  rw [e108] at M108
                  refine jr_aload_n hE dX12_sign_278 0 rfl ?_
                  refine jr_aload_n hE dX12_sign_279 0 rfl ?_
                  refine jr_get hE dX12_sign_280 f317 M108.ob rfl ?_
                  refine jr_aload_n hE dX12_sign_283 0 rfl ?_
                  refine jr_get hE dX12_sign_284 f317 M108.ob rfl ?_
                  refine jr_aload_n hE dX12_sign_287 0 rfl ?_
                  refine jr_get hE dX12_sign_288 f305 M108.ob rfl ?_
                  refine jr_iconst (v := (1 : Int32)) hE dX12_sign_291 (by decide) ?_
                  have hN109 : n108 62 = some (ngN (eyO (emul PP d GE)) d) := ((hf108 62 (by decide)).trans ((hu92 62 (by decide)).trans ((hf88 62 (by decide)).trans ((hf82 62 (by decide)).trans (hf75 62 (by decide)))))).trans hy46
                  have hK110 : mK n108 g := hK103.fr (hf108 0 (by decide)) (hf108 1 (by decide)) (hf108 32 (by decide)) (hf108 33 (by decide))
                  refine jr_kVv (ci := 12) (n := 4) (As := [.ref (a 66), .ref (a 66), .ref (a 62), .int (1 : Int32)]) (rest := []) hE dX12_sign_292 (fun l => c_m_times l G o a v108 n108 g w108 66 66 62 (chS (exE (emul PP KS GE)) (exE (emul PP d GE)) (s.1 b)) (ngN (eyO (emul PP d GE)) d) true) gX12_sign_X12_times rfl M108.ob rfl (by decide +kernel) ⟨rfl, rfl, by decide, by decide⟩ (by decide) rfl rfl (Nat.le_of_ble_eq_true rfl) (⟨M108, hK110, by decide, by decide, by decide, hv108, hN109⟩) (fun F111 q112 => ?_)
                  obtain ⟨M113, P113⟩ := q112
                  have O113 := O108.tr P113
                  have M113 : MW G L F111 o a v108 (uz n108 66 (some ((chS (exE (emul PP KS GE)) (exE (emul PP d GE)) (s.1 b)) * (ngN (eyO (emul PP d GE)) d) % NN))) g w108 := M113
                  obtain ⟨n113, e113, hf113, hv113⟩ := uz_ab n108 66 (some ((chS (exE (emul PP KS GE)) (exE (emul PP d GE)) (s.1 b)) * (ngN (eyO (emul PP d GE)) d) % NN))
                  rw [e113] at M113
                  refine jr_aload_n hE dX12_sign_295 0 rfl ?_
                  refine jr_aload_n hE dX12_sign_296 0 rfl ?_
                  refine jr_get hE dX12_sign_297 f311 M113.ob rfl ?_
                  refine jr_aload_n hE dX12_sign_300 0 rfl ?_
                  refine jr_get hE dX12_sign_301 f311 M113.ob rfl ?_
                  refine jr_aload_n hE dX12_sign_304 0 rfl ?_
                  refine jr_get hE dX12_sign_305 f317 M113.ob rfl ?_
                  refine jr_iconst (v := (1 : Int32)) hE dX12_sign_308 (by decide) ?_
                  have hN114 : n113 64 = some (ngN (eyO (emul PP KS GE)) KS) := ((hf113 64 (by decide)).trans (hf108 64 (by decide))).trans hy92
                  have hK115 : mK n113 g := hK110.fr (hf113 0 (by decide)) (hf113 1 (by decide)) (hf113 32 (by decide)) (hf113 33 (by decide))
                  refine jr_kVv (ci := 12) (n := 4) (As := [.ref (a 64), .ref (a 64), .ref (a 66), .int (1 : Int32)]) (rest := []) hE dX12_sign_309 (fun l => c_m_add l G o a v108 n113 g w108 64 64 66 (ngN (eyO (emul PP KS GE)) KS) ((chS (exE (emul PP KS GE)) (exE (emul PP d GE)) (s.1 b)) * (ngN (eyO (emul PP d GE)) d) % NN) true) gX12_sign_X12_add rfl M113.ob rfl (by decide +kernel) ⟨rfl, rfl, by decide, by decide⟩ (by decide) rfl rfl (Nat.le_of_ble_eq_true rfl) (⟨M113, hK115, by decide, by decide, by decide, hN114, hv113⟩) (fun F116 q117 => ?_)
                  obtain ⟨M118, P118⟩ := q117
                  have O118 := O113.tr P118
                  have M118 : MW G L F116 o a v108 (uz n113 64 (some (((ngN (eyO (emul PP KS GE)) KS) + (chS (exE (emul PP KS GE)) (exE (emul PP d GE)) (s.1 b)) * (ngN (eyO (emul PP d GE)) d) % NN) % NN))) g w108 := M118
                  obtain ⟨n118, e118, hf118, hv118⟩ := uz_ab n113 64 (some (((ngN (eyO (emul PP KS GE)) KS) + (chS (exE (emul PP KS GE)) (exE (emul PP d GE)) (s.1 b)) * (ngN (eyO (emul PP d GE)) d) % NN) % NN))
                  rw [e118] at M118
                  refine jr_aload_n hE dX12_sign_312 0 rfl ?_
                  refine jr_get hE dX12_sign_313 f302 M118.ob rfl ?_
                  refine jr_bipush (v := (32 : Int32)) hE dX12_sign_316 (by decide) ?_
                  refine jr_aload_n hE dX12_sign_318 0 rfl ?_
                  refine jr_get hE dX12_sign_319 f311 M118.ob rfl ?_
                  have hC119 : bl (w108 61) 0 32 = bex (exE (emul PP KS GE)) 32 := by
                    rw [show w108 61 = w100 61 from (hw108 61 (by decide))]
                    exact ho100
                  refine jr_kSv (n := 3) (As := [.ref (a 61), .int (32 : Int32), .ref (a 64)]) (rest := []) hE dX12_sign_322 (fun l => c_m_bytesOf l G o a v108 n118 g w108 61 32 64 66 (((ngN (eyO (emul PP KS GE)) KS) + (chS (exE (emul PP KS GE)) (exE (emul PP d GE)) (s.1 b)) * (ngN (eyO (emul PP d GE)) d) % NN) % NN)) gX12_sign_X12_bytesOf rfl (by decide +kernel) ⟨rfl, rfl, by decide, by decide⟩ (by decide) rfl rfl (Nat.le_of_ble_eq_true rfl) (⟨M118, by decide, by decide, by decide, by decide, hv118⟩) (fun F120 q121 => ?_)
                  obtain ⟨M122, P122⟩ := q121
                  have O122 := O118.tr P122
                  obtain ⟨w122, e122, hw122, hx122⟩ := uz_ab w108 61 (wrt (w108 61) 32 (bex (((ngN (eyO (emul PP KS GE)) KS) + (chS (exE (emul PP KS GE)) (exE (emul PP d GE)) (s.1 b)) * (ngN (eyO (emul PP d GE)) d) % NN) % NN) 32))
                  rw [e122] at M122
                  have ho122 : bl (w122 61) 0 64 = bex (exE (emul PP KS GE)) 32 ++ bex (((ngN (eyO (emul PP KS GE)) KS) + (chS (exE (emul PP KS GE)) (exE (emul PP d GE)) (s.1 b)) * (ngN (eyO (emul PP d GE)) d) % NN) % NN) 32 := by rw [hx122]; exact bl_ext hC119 (bex_len _ _) (bex_lt _ _) rfl
                  refine jr_aload_n hE dX12_sign_325 0 rfl ?_
                  refine jr_iload_n hE dX12_sign_326 1 rfl ?_
                  refine jr_bipush (v := (64 : Int32)) hE dX12_sign_327 (by decide) ?_
                  refine jr_kVi (ci := 12) (n := 2) (As := [.int (nI k), .int (64 : Int32)]) (rest := []) hE dX12_sign_329 (fun l => c_m_gives l G o a v108 n118 g w122 k 64) gX12_sign_X12_gives rfl M122.ob rfl (by decide +kernel) ⟨rfl, rfl, by decide, by decide⟩ (by decide) rfl rfl (Nat.le_of_ble_eq_true rfl) (⟨M122, hk, by decide⟩) (fun r125 F123 q124 => ?_)
                  obtain ⟨w126, M126, h9126, h8126, hw126, rfl, P126⟩ := q124
                  have O126 := O122.tr P126
                  rw [ho122, show w122 9 = w 9 from ((hw122 9 (by decide)).trans ((hw108 9 (by decide)).trans ((hw100 9 (by decide)).trans ((hw75 9 (by decide)).trans ((hw70 9 (by decide)).trans ((hw66 9 (by decide)).trans ((hw62 9 (by decide)).trans ((hw58 9 (by decide)).trans (hw53 9 (by decide))))))))))] at h9126
                  rw [show w122 8 = w 8 from ((hw122 8 (by decide)).trans ((hw108 8 (by decide)).trans ((hw100 8 (by decide)).trans ((hw75 8 (by decide)).trans ((hw70 8 (by decide)).trans ((hw66 8 (by decide)).trans ((hw62 8 (by decide)).trans ((hw58 8 (by decide)).trans (hw53 8 (by decide))))))))))] at h8126
                  have hV127 : v108 31 = (nI (s.2.2.1 + 2)) := ((hvv108 31 (by decide)).trans ((hvv70 31 (by decide)).trans ((hvv66 31 (by decide)).trans ((hvv62 31 (by decide)).trans ((hvv58 31 (by decide)).trans (hvv53 31 (by decide))))))).trans hvx28
                  have hvF : ∀ z, z ∉ [31, 57] → v108 z = v z := (fun z hz => ((hvv108 z (jne hz 1 rfl)).trans ((hvv70 z (jne hz 1 rfl)).trans ((hvv66 z (jne hz 1 rfl)).trans ((hvv62 z (jne hz 1 rfl)).trans ((hvv58 z (jne hz 1 rfl)).trans ((hvv53 z (jne hz 1 rfl)).trans (hvv28 z (jnsub (V := [31]) hz [0] rfl)))))))))
                  have hnF : ∀ z, z ∉ [34, 35, 36, 37, 38, 39, 40, 41, 42, 43, 44, 45, 46, 47, 62, 63, 64, 66] → n118 z = n z := (fun z hz => ((hf118 z (jnsub (V := [64]) hz [16] rfl)).trans ((hf113 z (jnsub (V := [66]) hz [17] rfl)).trans ((hf108 z (jnsub (V := [66]) hz [17] rfl)).trans ((hu92 z (jnsub (V := [64]) hz [16] rfl)).trans ((hf88 z (jnsub (V := [37, 38, 39, 42, 43, 44, 45, 46, 47, 34, 35, 36]) hz [3, 4, 5, 8, 9, 10, 11, 12, 13, 0, 1, 2] rfl)).trans ((hf82 z (jnsub (V := [40, 41]) hz [6, 7] rfl)).trans ((hf75 z (jnsub (V := [64]) hz [16] rfl)).trans ((hu46 z (jnsub (V := [62]) hz [14] rfl)).trans ((hf42 z (jnsub (V := [63]) hz [15] rfl)).trans ((hf38 z (jnsub (V := [37, 38, 39, 42, 43, 44, 45, 46, 47, 34, 35, 36]) hz [3, 4, 5, 8, 9, 10, 11, 12, 13, 0, 1, 2] rfl)).trans ((hf32 z (jnsub (V := [40, 41]) hz [6, 7] rfl)).trans (hf17 z (jnsub (V := [62]) hz [14] rfl))))))))))))))
                  have hwF : ∀ z, z ∉ [8, 9, 53, 54, 55, 56, 58, 59, 61, 67] → w126 z = w z := (fun z hz => ((hw126 z (jne hz 0 rfl) (jne hz 1 rfl)).trans ((hw122 z (jnsub (V := [61]) hz [8] rfl)).trans ((hw108 z (jnsub (V := [53, 54, 55, 56, 58, 59]) hz [2, 3, 4, 5, 6, 7] rfl)).trans ((hw100 z (jnsub (V := [61]) hz [8] rfl)).trans ((hw75 z (jnsub (V := [53, 54, 55, 58]) hz [2, 3, 4, 6] rfl)).trans ((hw70 z (jne hz 5 rfl)).trans ((hw66 z (jne hz 5 rfl)).trans ((hw62 z (jne hz 5 rfl)).trans ((hw58 z (jnsub (V := [53, 54, 55, 56, 58, 59]) hz [2, 3, 4, 5, 6, 7] rfl)).trans (hw53 z (jnsub (V := [53, 54, 55, 56, 58, 59, 67]) hz [2, 3, 4, 5, 6, 7, 9] rfl))))))))))))
                  have e : stSign s (nI k) (nI p) (nI b) (nI j) = (64, setK (setR s k (sgL d (s.1 b) (s.1 j))) (s.2.2.1 + 2)) := by
                    unfold stSign
                    rw [if_pos ⟨nI_rowP hk, nI_rowP hp, nI_rowP hb, nI_rowP hj⟩, hrnp, hrnb, hrnj, hrnk, if_pos ⟨hs, hlj⟩, if_neg hw48, ← hd, eK, if_neg hK0]
                  have hgl : sgL d (s.1 b) (s.1 j) = bex (exE (emul PP KS GE)) 32 ++ bex ((ngN (eyO (emul PP KS GE)) KS + chS (exE (emul PP KS GE)) (exE (emul PP d GE)) (s.1 b) * ngN (eyO (emul PP d GE)) d % NN) % NN) 32 := by
                    unfold sgL
                    rw [eK]
                    rfl
                  rw [hgl] at e
                  have hln : (bex (exE (emul PP KS GE)) 32 ++ bex (((ngN (eyO (emul PP KS GE)) KS) + (chS (exE (emul PP KS GE)) (exE (emul PP d GE)) (s.1 b)) * (ngN (eyO (emul PP d GE)) d) % NN) % NN) 32).length = 64 := by simp only [List.length_append, bex_len]
                  exact hR F123 _ _ _ dX12_sign_332 rfl ⟨_, _, _, _, by rw [e]; exact hI.rowk (k := k) (l := bex (exE (emul PP KS GE)) 32 ++ bex (((ngN (eyO (emul PP KS GE)) KS) + (chS (exE (emul PP KS GE)) (exE (emul PP d GE)) (s.1 b)) * (ngN (eyO (emul PP d GE)) d) % NN) % NN) 32) (c := s.2.2.1 + 2) M126 hV127 (by omega) (fun z hz => hvF z (jdj rfl hz)) (fun z hz => hnF z (jdj rfl hz)) (fun z hz => hwF z (jdj rfl hz)) (by rw [h8126, hln]) h9126 (by rw [hln]; decide) (app_lt (bex_lt _ _) (bex_lt _ _)), by rw [e]; rfl, O126⟩
                · refine jr_bipush (v := (-2 : Int32)) hE dX12_sign_193 (by decide) ?_
                  have hV129 : v70 31 = (nI (s.2.2.1 + 2)) := ((hvv70 31 (by decide)).trans ((hvv66 31 (by decide)).trans ((hvv62 31 (by decide)).trans ((hvv58 31 (by decide)).trans (hvv53 31 (by decide)))))).trans hvx28
                  have hvF : ∀ z, z ∉ [31, 57] → v70 z = v z := (fun z hz => ((hvv70 z (jne hz 1 rfl)).trans ((hvv66 z (jne hz 1 rfl)).trans ((hvv62 z (jne hz 1 rfl)).trans ((hvv58 z (jne hz 1 rfl)).trans ((hvv53 z (jne hz 1 rfl)).trans (hvv28 z (jnsub (V := [31]) hz [0] rfl))))))))
                  have hnF : ∀ z, z ∉ [34, 35, 36, 37, 38, 39, 40, 41, 42, 43, 44, 45, 46, 47, 62, 63, 64] → n75 z = n z := (fun z hz => ((hf75 z (jnsub (V := [64]) hz [16] rfl)).trans ((hu46 z (jnsub (V := [62]) hz [14] rfl)).trans ((hf42 z (jnsub (V := [63]) hz [15] rfl)).trans ((hf38 z (jnsub (V := [37, 38, 39, 42, 43, 44, 45, 46, 47, 34, 35, 36]) hz [3, 4, 5, 8, 9, 10, 11, 12, 13, 0, 1, 2] rfl)).trans ((hf32 z (jnsub (V := [40, 41]) hz [6, 7] rfl)).trans (hf17 z (jnsub (V := [62]) hz [14] rfl))))))))
                  have hwF : ∀ z, z ∉ [53, 54, 55, 56, 58, 59, 67] → w75 z = w z := (fun z hz => ((hw75 z (jnsub (V := [53, 54, 55, 58]) hz [0, 1, 2, 4] rfl)).trans ((hw70 z (jne hz 3 rfl)).trans ((hw66 z (jne hz 3 rfl)).trans ((hw62 z (jne hz 3 rfl)).trans ((hw58 z (jnsub (V := [53, 54, 55, 56, 58, 59]) hz [0, 1, 2, 3, 4, 5] rfl)).trans (hw53 z (jnsub (V := [53, 54, 55, 56, 58, 59, 67]) hz [0, 1, 2, 3, 4, 5, 6] rfl))))))))
                  have e : stSign s (nI k) (nI p) (nI b) (nI j) = (-2, setK s (s.2.2.1 + 2)) := by
                    unfold stSign
                    rw [if_pos ⟨nI_rowP hk, nI_rowP hp, nI_rowP hb, nI_rowP hj⟩, hrnp, hrnb, hrnj, hrnk, if_pos ⟨hs, hlj⟩, if_neg hw48, ← hd, eK, if_pos (b2i_1 (p := KS = 0) c190)]
                  exact hR F73 _ _ _ dX12_sign_195 rfl ⟨_, _, _, _, by rw [e]; exact hI.keep (c := s.2.2.1 + 2) M75 hV129 (by omega) (fun z hz => hvF z (jdj rfl hz)) (fun z hz => hnF z (jdj rfl hz)) (fun z hz => hwF z (jdj rfl hz)), by rw [e], O75⟩
              · refine jr_bipush (v := (-5 : Int32)) hE dX12_sign_62 (by decide) ?_
                have hvF : ∀ z, z ∉ [999] → v z = v z := (fun z hz => rfl)
                have hnF : ∀ z, z ∉ [62] → n17 z = n z := (fun z hz => (hf17 z (jnsub (V := [62]) hz [0] rfl)))
                have hwF : ∀ z, z ∉ [999] → w z = w z := (fun z hz => rfl)
                have e : stSign s (nI k) (nI p) (nI b) (nI j) = (-5, s) := by
                  unfold stSign
                  rw [if_pos ⟨nI_rowP hk, nI_rowP hp, nI_rowP hb, nI_rowP hj⟩, hrnp, hrnj, if_pos ⟨hs, hlj⟩, if_pos (b2i_1 (p := 48 < s.2.2.1 + 2) c59)]
                exact hR F14 _ _ _ dX12_sign_64 rfl ⟨_, _, _, _, by rw [e]; exact hI.keep (c := s.2.2.1) M17 hpI.2.1.1 (hpI.2.1.2) (fun z hz => hvF z (jdj rfl hz)) (fun z hz => hnF z (jdj rfl hz)) (fun z hz => hwF z (jdj rfl hz)), by rw [e], O17⟩
            · refine jr_bipush (v := (-2 : Int32)) hE dX12_sign_51 (by decide) ?_
              have hvF : ∀ z, z ∉ [999] → v z = v z := (fun z hz => rfl)
              have hnF : ∀ z, z ∉ [62] → n17 z = n z := (fun z hz => (hf17 z (jnsub (V := [62]) hz [0] rfl)))
              have hwF : ∀ z, z ∉ [999] → w z = w z := (fun z hz => rfl)
              have e : stSign s (nI k) (nI p) (nI b) (nI j) = (-2, s) := by
                unfold stSign
                rw [if_pos ⟨nI_rowP hk, nI_rowP hp, nI_rowP hb, nI_rowP hj⟩, hrnj, if_neg (fun h => c48 ((nI_eq (by omega) (by decide)).mpr h.2))]
              exact hR F14 _ _ _ dX12_sign_53 rfl ⟨_, _, _, _, by rw [e]; exact hI.keep (c := s.2.2.1) M17 hpI.2.1.1 (hpI.2.1.2) (fun z hz => hvF z (jdj rfl hz)) (fun z hz => hnF z (jdj rfl hz)) (fun z hz => hwF z (jdj rfl hz)), by rw [e], O17⟩
        · refine jr_iconst (v := (-1 : Int32)) hE dX12_sign_29 (by decide) ?_
          have e : stSign s (nI k) (nI p) (nI b) t = (-1, s) := by
            unfold stSign
            rw [if_neg (fun h => absurd (b2i_t h.2.2.2) (by rw [c26]; decide))]
          exact hR F _ _ _ dX12_sign_30 rfl ⟨v, n, g, w, by rw [e]; exact hI, by rw [e], mO.rf o a F⟩

