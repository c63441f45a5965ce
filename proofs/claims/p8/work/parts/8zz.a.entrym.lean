/-! THE REFERENCE'S entry -/
theorem MW.L {G : Nat → ClassId} {L : List Nat} {F : Nat → va_E} {o : Nat} {a : Nat → Nat} {v : Nat → Int32} {n : Nat → Option Nat} {g : Nat → Nat → Int64} {w : Nat → Nat → Int32} (M : MW G L F o a v n g w) {k N : Nat} (h : lk k N) (hk : mg k) : jF L F (a k) (.inl (G 2, N, .inr (.inl (g k)))) := by
  obtain ⟨s, H, hn, hg⟩ := M
  rw [← hg k hk]
  exact H.L h
theorem MW.setL {G : Nat → ClassId} {L : List Nat} {F F1 : Nat → va_E} {o : Nat} {a : Nat → Nat} {v : Nat → Int32} {n : Nat → Option Nat} {g : Nat → Nat → Int64} {w : Nat → Nat → Int32} (M : MW G L F o a v n g w) {k N : Nat} {f : Nat → Int64} (h : lk k N) (hk : mg k) (h1 : jF L F1 (a k) (.inl (G 2, N, .inr (.inl f)))) (u : ∀ x, x ≠ a k → F1 x = F x) : MW G L F1 o a v (uz n k none) (uz g k f) w := by
  obtain ⟨s, H, hn, hg⟩ := M
  refine ⟨uz s k f, H.setL h h1 u, fun j x e => ?_, fun j hj => ?_⟩
  · by_cases q : j = k
    · rw [q, uz_s] at e
      cases e
    · rw [uz_n _ _ q] at e ⊢
      exact hn j x e
  · by_cases q : j = k
    · rw [q, uz_s, uz_s]
    · rw [uz_n _ _ q, uz_n _ _ q]
      exact hg j hj
theorem mK.frg {n n' : Nat → Option Nat} {g g' : Nat → Nat → Int64} (h : mK n g) (h0 : n' 0 = n 0) (h1 : n' 1 = n 1) (h2 : n' 32 = n 32) (h3 : n' 33 = n 33) (h4 : g' 2 = g 2) (h5 : g' 3 = g 3) : mK n' g' := by
  obtain ⟨a1, a2, a3, a4, a5, a6⟩ := h
  exact ⟨h0.trans a1, h1.trans a2, h2.trans a3, h3.trans a4, fun j hj => by rw [h4]; exact a5 j hj, fun j hj => by rw [h5]; exact a6 j hj⟩
theorem cmp_e {x y : Int64} : lg_cmp x y = 0 ↔ x = y := by
  constructor
  · intro h
    have h1 := cmp_lt (x := x) (y := y)
    have h2 := cmp_gt (x := x) (y := y)
    rw [h] at h1 h2
    have h3 : ¬ x.toInt < y.toInt := fun q => absurd (h1.mpr q) (by decide)
    have h4 : ¬ y.toInt < x.toInt := fun q => absurd (h2.mpr q) (by decide)
    exact Int64.toInt_inj.mp (by omega)
  · rintro rfl
    unfold lg_cmp
    rw [if_neg (Int64.lt_irrefl), if_pos rfl]
theorem nI_leC {x m : Nat} (h : x < 2 ^ 31) (hm : m < 2 ^ 31) (c : nI x ≤ nI m) : x ≤ m := by
  have q := Int32.le_iff_toInt_le.mp c
  rw [nI_toInt h, nI_toInt hm] at q
  omega
theorem lN_to {a : Int64} (h : 0 ≤ a.toInt) : lN a.toInt.toNat = a := by
  apply Int64.toInt_inj.mp
  have h2 : a.toInt < 2 ^ 63 := Int64.toInt_lt a
  unfold lN
  rw [Int64.toInt_ofNat_of_lt (by omega)]
  omega
abbrev enA (m : Nat) (a : Int64) : Prop := (m = 0 → a = 1) ∧ (m ≠ 0 → 1 ≤ a.toInt ∧ a.toInt ≤ 4611686018427387904)
theorem enA.r {m : Nat} {a : Int64} (h : enA m a) : 1 ≤ a.toInt ∧ a.toInt ≤ 4611686018427387904 := by
  by_cases q : m = 0
  · rw [h.1 q]
    decide
  · exact h.2 q
def addE (s : ST) (e : SE) : ST := (s.1, (s.2.1 ++ [e], s.2.2))
noncomputable def stEntry (s : ST) (r q f : Int32) (x : Int64) : Int32 × ST := if rowP r ∧ rowP q ∧ rowP f ∧ enA s.2.1.length x then (if (s.1 (rn r)).length = 32 ∧ (s.1 (rn f)).length = 64 ∧ (s.1 (rn q)).length ≤ 40 then (if s.2.1.length = 4 then (-3, s) else (nI (s.2.1.length + 1), addE s (s.1 (rn r), s.1 (rn q), s.1 (rn f), x.toInt.toNat))) else (-2, s)) else (-1, s)
abbrev enOK (e : SE) : Prop := e.1.length = 32 ∧ e.2.1.length ≤ 40 ∧ e.2.2.1.length = 64 ∧ 1 ≤ e.2.2.2 ∧ e.2.2.2 ≤ 2 ^ 62 ∧ (∀ b, b ∈ e.1 → b < 256) ∧ (∀ b, b ∈ e.2.1 → b < 256) ∧ ∀ b, b ∈ e.2.2.1 → b < 256
theorem bl_wr {f : Nat → Int32} {t n : Nat} {l : List Nat} (hl : l.length = n) (hb : ∀ b, b ∈ l → b < 256) : bl (wrt f t l) t n = l := by
  rw [← hl]
  exact bl_wrt f t l (fun b h => Nat.lt_trans (hb b h) (by decide))
theorem enI.snoc {v v' : Nat → Int32} {g g' : Nat → Nat → Int64} {w w' : Nat → Nat → Int32} {En : List SE} {e : SE} (h : enI v g w En) (hok : enOK e) (h4 : En.length < 4) (h10 : v' 10 = nI (En.length + 1)) (h11 : w' 11 = wrt (w 11) (32 * En.length) e.1) (h12 : w' 12 = wrt (w 12) (40 * En.length) e.2.1) (h13 : w' 13 = upd (w 13) En.length (nI e.2.1.length)) (h14 : w' 14 = wrt (w 14) (64 * En.length) e.2.2.1) (h15 : g' 15 = vp_updL (g 15) En.length (lN e.2.2.2)) : enI v' g' w' (En ++ [e]) := by
  obtain ⟨a1, a2, a3⟩ := h
  obtain ⟨o1, o2, o3, o4, o5, o6, o7, o8⟩ := hok
  refine ⟨by rw [h10, List.length_append]; rfl, by rw [List.length_append]; show _ + 1 ≤ 4; omega, fun i hi => ?_⟩
  rw [List.length_append] at hi
  have hi' : i < En.length + 1 := hi
  by_cases q : i < En.length
  · have b := a3 i q
    rw [List.getElem_append_left q]
    obtain ⟨b1, b2, b3, b4, b5, b6, b7⟩ := b
    refine ⟨?_, ?_, b3, ?_, ?_, ?_, b7⟩
    · rw [h11, bl_wrt_out _ _ _ _ _ (by omega)]; exact b1
    · rw [h13]; exact (if_neg (by omega)).trans b2
    · rw [h12, bl_wrt_out _ _ _ _ _ (by omega)]; exact b4
    · rw [h14, bl_wrt_out _ _ _ _ _ (by omega)]; exact b5
    · rw [h15]; exact (if_neg (by omega)).trans b6
  · have e2 : i = En.length := by omega
    subst e2
    rw [List.getElem_append_right (Nat.le_refl _)]
    simp only [Nat.sub_self, List.getElem_cons_zero]
    refine ⟨?_, ?_, o2, ?_, ?_, ?_, o4, o5, o6, o7, o8⟩
    · rw [h11]; exact bl_wr o1 o6
    · rw [h13]; exact if_pos rfl
    · rw [h12]; exact bl_wr rfl o7
    · rw [h14]; exact bl_wr o3 o8
    · rw [h15]; exact if_pos rfl
theorem mI.en {G : Nat → ClassId} {L : List Nat} {F F1 : Nat → va_E} {o : Nat} {a : Nat → Nat} {v v' : Nat → Int32} {n n' : Nat → Option Nat} {g g' : Nat → Nat → Int64} {w w' : Nat → Nat → Int32} {s : ST} {e : SE} (h : mI G L F o a v n g w s) (M : MW G L F1 o a v' n' g' w') (hv : ∀ k, k ∈ [16, 24, 29, 30, 31] → v' k = v k) (hn : ∀ k, k ∈ [0, 1, 4, 5, 6, 7, 26, 27, 28, 32, 33, 48] → n' k = n k) (hg : ∀ k, k ∈ [2, 3, 19, 20] → g' k = g k) (hw : ∀ k, k ∈ [8, 9, 50, 51, 52, 17, 18, 21, 22, 23, 25] → w' k = w k) (hok : enOK e) (h4 : s.2.1.length < 4) (h10 : v' 10 = nI (s.2.1.length + 1)) (h11 : w' 11 = wrt (w 11) (32 * s.2.1.length) e.1) (h12 : w' 12 = wrt (w 12) (40 * s.2.1.length) e.2.1) (h13 : w' 13 = upd (w 13) s.2.1.length (nI e.2.1.length)) (h14 : w' 14 = wrt (w 14) (64 * s.2.1.length) e.2.2.1) (h15 : g' 15 = vp_updL (g 15) s.2.1.length (lN e.2.2.2)) : mI G L F1 o a v' n' g' w' (addE s e) := by
  obtain ⟨_, a2, a3, a4, a5, a6, hen, hwk, hsg, hnc, htd, hse⟩ := h
  refine ⟨M, a2.frg (hn 0 (by decide)) (hn 1 (by decide)) (hn 32 (by decide)) (hn 33 (by decide)) (hg 2 (by decide)) (hg 3 (by decide)), a3.fr (hn 4 (by decide)) (hn 5 (by decide)) (hn 6 (by decide)) (hn 7 (by decide)) (hn 48 (by decide)), a4.fr (hw 50 (by decide)) (hw 51 (by decide)), a5.fr (hw 52 (by decide)), fun r hr => ?_, ⟨hen.snoc hok h4 h10 h11 h12 h13 h14 h15, ?_, ?_, ?_, ?_, ?_⟩⟩
  · rw [hw 8 (by decide), hw 9 (by decide)]
    exact a6 r hr
  · rw [hv 31 (by decide)]
    exact hwk
  · unfold sgI at *
    rw [hv 16 (by decide), hw 17 (by decide)]
    exact hsg
  · unfold ncI at *
    rw [hw 18 (by decide), hw 21 (by decide), hg 19 (by decide), hg 20 (by decide)]
    exact hnc
  · unfold tdI at *
    rw [hw 22 (by decide), hw 23 (by decide)]
    exact htd
  · unfold seI at *
    rw [hv 24 (by decide), hv 29 (by decide), hv 30 (by decide), hw 25 (by decide), hw 17 (by decide), hn 26 (by decide), hn 27 (by decide), hn 28 (by decide)]
    exact hse

set_option maxHeartbeats 4000000 in
set_option maxRecDepth 100000 in
theorem c_m_entry (l : Launch) (G : Nat → ClassId) (o : Nat) (a : Nat → Nat) (v : Nat → Int32) (n : Nat → Option Nat) (g : Nat → Nat → Int64) (w : Nat → Nat → Int32) (s : ST) (r m t : Int32) (x : Int64) : jKi l yX12_entry wsX12_entry ({ frames := 2, cells := 0, slots := 0, locals := 45 }) G [.ref o, .int r, .int m, .int t, .long x] (fun L F => mI G L F o a v n g w s) (fun L F q F1 => ∃ v' n' g' w', mI G L F1 o a v' n' g' w' (stEntry s r m t x).2 ∧ q = (stEntry s r m t x).1 ∧ mO o a F F1) := by
  refine jm_ki (cc := cX12_entry) (maxL := 7) (rt := .int) (by decide) rfl (Nat.le_of_ble_eq_true rfl) ?_
  intro E L F hE hR hpre
  have hE : jOk E G _ cX12_entry 7 RX12 wsX12_entry := hE
  have hI := hpre
  obtain ⟨M0, hK, hC, htg, hrd, hRW, hpI⟩ := id hpre
  have hwk48 := hpI.2.1.2
  have hs4 := hpI.2.2.1.2.1
  have hen4 := hpI.1.2.1
  have f520 : jFl RX12 wsX12_entry 520 12 10 := ⟨rfl, by decide, by decide +kernel, by decide +kernel⟩
  have f96 : jFl RX12 wsX12_entry 96 12 8 := ⟨rfl, by decide, by decide +kernel, by decide +kernel⟩
  have f112 : jFl RX12 wsX12_entry 112 12 14 := ⟨rfl, by decide, by decide +kernel, by decide +kernel⟩
  have f100 : jFl RX12 wsX12_entry 100 12 9 := ⟨rfl, by decide, by decide +kernel, by decide +kernel⟩
  have f103 : jFl RX12 wsX12_entry 103 12 11 := ⟨rfl, by decide, by decide +kernel, by decide +kernel⟩
  have f106 : jFl RX12 wsX12_entry 106 12 12 := ⟨rfl, by decide, by decide +kernel, by decide +kernel⟩
  have f109 : jFl RX12 wsX12_entry 109 12 13 := ⟨rfl, by decide, by decide +kernel, by decide +kernel⟩
  have f115 : jFl RX12 wsX12_entry 115 12 15 := ⟨rfl, by decide, by decide +kernel, by decide +kernel⟩
  refine jr_iload_n hE dX12_entry_0 1 rfl ?_
  refine jr_kSi (n := 1) (As := [.int r]) (rest := []) hE dX12_entry_1 (fun l => c_m_isRow l G r) gX12_entry_X12_isRow rfl (by decide +kernel) ⟨rfl, rfl, by decide, by decide⟩ (by decide) rfl rfl (Nat.le_of_ble_eq_true rfl) (trivial) (fun r3 F1 q2 => ?_)
  obtain ⟨eq2, rq2⟩ := q2
  subst eq2 rq2
  refine jr_if_eq (tgt := 50) hE dX12_entry_4 (by decide) (fun c4 => ?_) (fun c4 => ?_)
  · refine jr_iconst (v := (-1 : Int32)) hE dX12_entry_50 (by decide) ?_
    have e : stEntry s r m t x = (-1, s) := by
      unfold stEntry
      rw [if_neg (fun h => absurd (b2i_t h.1) (by rw [c4]; decide))]
    exact hR F _ _ _ dX12_entry_51 rfl ⟨v, n, g, w, by rw [e]; exact hI, by rw [e], mO.rf o a F⟩
  · have hrk : rowP r := b2i_1 c4
    obtain ⟨k, hk, rfl⟩ := rowP_nI hrk
    obtain ⟨z1k, z2k, z3k, z4k⟩ := hRW k hk
    have hrnk := nI_rn hk
    refine jr_iload_n hE dX12_entry_7 2 rfl ?_
    refine jr_kSi (n := 1) (As := [.int m]) (rest := []) hE dX12_entry_8 (fun l => c_m_isRow l G m) gX12_entry_X12_isRow rfl (by decide +kernel) ⟨rfl, rfl, by decide, by decide⟩ (by decide) rfl rfl (Nat.le_of_ble_eq_true rfl) (trivial) (fun r6 F4 q5 => ?_)
    obtain ⟨eq5, rq5⟩ := q5
    subst eq5 rq5
    refine jr_if_eq (tgt := 50) hE dX12_entry_11 (by decide) (fun c11 => ?_) (fun c11 => ?_)
    · refine jr_iconst (v := (-1 : Int32)) hE dX12_entry_50 (by decide) ?_
      have e : stEntry s (nI k) m t x = (-1, s) := by
        unfold stEntry
        rw [if_neg (fun h => absurd (b2i_t h.2.1) (by rw [c11]; decide))]
      exact hR F _ _ _ dX12_entry_51 rfl ⟨v, n, g, w, by rw [e]; exact hI, by rw [e], mO.rf o a F⟩
    · have hrb : rowP m := b2i_1 c11
      obtain ⟨b, hb, rfl⟩ := rowP_nI hrb
      obtain ⟨z1b, z2b, z3b, z4b⟩ := hRW b hb
      have hrnb := nI_rn hb
      refine jr_iload_n hE dX12_entry_14 3 rfl ?_
      refine jr_kSi (n := 1) (As := [.int t]) (rest := []) hE dX12_entry_15 (fun l => c_m_isRow l G t) gX12_entry_X12_isRow rfl (by decide +kernel) ⟨rfl, rfl, by decide, by decide⟩ (by decide) rfl rfl (Nat.le_of_ble_eq_true rfl) (trivial) (fun r9 F7 q8 => ?_)
      obtain ⟨eq8, rq8⟩ := q8
      subst eq8 rq8
      refine jr_if_eq (tgt := 50) hE dX12_entry_18 (by decide) (fun c18 => ?_) (fun c18 => ?_)
      · refine jr_iconst (v := (-1 : Int32)) hE dX12_entry_50 (by decide) ?_
        have e : stEntry s (nI k) (nI b) t x = (-1, s) := by
          unfold stEntry
          rw [if_neg (fun h => absurd (b2i_t h.2.2.1) (by rw [c18]; decide))]
        exact hR F _ _ _ dX12_entry_51 rfl ⟨v, n, g, w, by rw [e]; exact hI, by rw [e], mO.rf o a F⟩
      · have hrj : rowP t := b2i_1 c18
        obtain ⟨j, hj, rfl⟩ := rowP_nI hrj
        obtain ⟨z1j, z2j, z3j, z4j⟩ := hRW j hj
        have hrnj := nI_rn hj
        have U10 : (∀ (F1 : Nat → va_E) (n1 : Nat → Option Nat), MW G L F1 o a v n1 g w → (∀ z, z ∉ [999] → n1 z = n z) → enA s.2.1.length x → mO o a F F1 → J E L F1 0 0 52 [(0, .ref o), (1, .int (nI k)), (2, .int (nI b)), (3, .int (nI j)), (4, .long x)] []) → J E L F 0 0 21 [(0, .ref o), (1, .int (nI k)), (2, .int (nI b)), (3, .int (nI j)), (4, .long x)] [] := by
          intro cont
          refine jr_aload_n hE dX12_entry_21 0 rfl ?_
          refine jr_get hE dX12_entry_22 f520 M0.ob rfl ?_
          rw [hpI.1.1]
          refine jr_if_ne (tgt := 38) hE dX12_entry_25 (by decide) (fun c25 => ?_) (fun c25 => ?_)
          · have hz0 : s.2.1.length ≠ 0 := fun h => c25 ((nI_eq (by omega) (by decide)).mpr h)
            refine jr_lload hE dX12_entry_38 4 rfl ?_
            refine jr_lconst (v := (1 : Int64)) hE dX12_entry_40 (by decide) ?_
            refine jr_ldc2 (v := (4611686018427387904 : Int64)) hE dX12_entry_41 (by decide +kernel) ?_
            refine jr_kSi (n := 3) (As := [.long x, .long (1 : Int64), .long (4611686018427387904 : Int64)]) (rest := []) hE dX12_entry_44 (fun l => c_m_in l G x 1 4611686018427387904) gX12_entry_X12_in rfl (by decide +kernel) ⟨rfl, rfl, by decide, by decide⟩ (by decide) rfl rfl (Nat.le_of_ble_eq_true rfl) (trivial) (fun r13 F11 q12 => ?_)
            obtain ⟨eq12, rq12⟩ := q12
            subst eq12 rq12
            rw [show b2i ((1 : Int64).toInt ≤ x.toInt ∧ x.toInt ≤ (4611686018427387904 : Int64).toInt) = b2i (1 ≤ x.toInt ∧ x.toInt ≤ 4611686018427387904) from rfl]
            refine jr_if_ne (tgt := 52) hE dX12_entry_47 (by decide) (fun c47 => ?_) (fun c47 => ?_)
            · exact cont F n M0 (fun z hz => rfl) ⟨fun q => absurd q hz0, fun _ => b2i_1 c47⟩ (mO.rf o a F)
            · refine jr_iconst (v := (-1 : Int32)) hE dX12_entry_50 (by decide) ?_
              have e : stEntry s (nI k) (nI b) (nI j) x = (-1, s) := by
                unfold stEntry
                rw [if_neg (fun h => absurd (b2i_t (h.2.2.2.2 hz0)) (by rw [c47]; decide))]
              exact hR F _ _ _ dX12_entry_51 rfl ⟨v, n, g, w, by rw [e]; exact hI, by rw [e], mO.rf o a F⟩
          · have hz0 : s.2.1.length = 0 := (nI_eq (by omega) (by decide)).mp c25
            refine jr_lload hE dX12_entry_28 4 rfl ?_
            refine jr_lconst (v := (1 : Int64)) hE dX12_entry_30 (by decide) ?_
            refine jr_lcmp hE dX12_entry_31 ?_
            refine jr_if_ne (tgt := 50) hE dX12_entry_32 (by decide) (fun c32 => ?_) (fun c32 => ?_)
            · refine jr_iconst (v := (-1 : Int32)) hE dX12_entry_50 (by decide) ?_
              have e : stEntry s (nI k) (nI b) (nI j) x = (-1, s) := by
                unfold stEntry
                rw [if_neg (fun h => c32 (cmp_e.mpr (h.2.2.2.1 hz0)))]
              exact hR F _ _ _ dX12_entry_51 rfl ⟨v, n, g, w, by rw [e]; exact hI, by rw [e], mO.rf o a F⟩
            · refine jr_goto (tgt := 52) hE dX12_entry_35 (by decide) ?_
              exact cont F n M0 (fun z hz => rfl) ⟨fun _ => cmp_e.mp c32, fun q => absurd hz0 q⟩ (mO.rf o a F)
        refine U10 (fun F10 n10 M10 hu10 hA10 P10 => ?_)
        have O10 := (mO.rf o a F).tr P10
        have hA := hA10
        refine jr_aload_n hE dX12_entry_52 0 rfl ?_
        refine jr_get hE dX12_entry_53 f96 M10.ob rfl ?_
        refine jr_iload_n hE dX12_entry_56 1 rfl ?_
        refine jr_iald (v := nI (s.1 k).length) hE dX12_entry_57 (M10.I (k := 8) (N := 16) (by decide)) (vp_in_nI (by omega) (by decide)) (by rw [nI_clamp (by omega)]; exact z1k) ?_
        refine jr_bipush (v := (32 : Int32)) hE dX12_entry_58 (by decide) ?_
        refine jr_icmp_ne (tgt := 85) hE dX12_entry_60 (by decide) (fun c60 => ?_) (fun c60 => ?_)
        · refine jr_bipush (v := (-2 : Int32)) hE dX12_entry_85 (by decide) ?_
          have hvF : ∀ z, z ∉ [999] → v z = v z := (fun z hz => rfl)
          have hnF : ∀ z, z ∉ [999] → n10 z = n z := (fun z hz => (hu10 z (jnsub (V := [999]) hz [0] rfl)))
          have hwF : ∀ z, z ∉ [999] → w z = w z := (fun z hz => rfl)
          have e : stEntry s (nI k) (nI b) (nI j) x = (-2, s) := by
            unfold stEntry
            rw [if_pos ⟨nI_rowP hk, nI_rowP hb, nI_rowP hj, hA⟩, hrnk, hrnb, hrnj, if_neg (fun h => c60 ((nI_eq (by omega) (by decide)).mpr h.1))]
          exact hR F10 _ _ _ dX12_entry_87 rfl ⟨_, _, _, _, by rw [e]; exact hI.keep (c := s.2.2.1) M10 hpI.2.1.1 (hpI.2.1.2) (fun z hz => hvF z (jdj rfl hz)) (fun z hz => hnF z (jdj rfl hz)) (fun z hz => hwF z (jdj rfl hz)), by rw [e], O10⟩
        · refine jr_aload_n hE dX12_entry_63 0 rfl ?_
          refine jr_get hE dX12_entry_64 f96 M10.ob rfl ?_
          refine jr_iload_n hE dX12_entry_67 3 rfl ?_
          refine jr_iald (v := nI (s.1 j).length) hE dX12_entry_68 (M10.I (k := 8) (N := 16) (by decide)) (vp_in_nI (by omega) (by decide)) (by rw [nI_clamp (by omega)]; exact z1j) ?_
          refine jr_bipush (v := (64 : Int32)) hE dX12_entry_69 (by decide) ?_
          refine jr_icmp_ne (tgt := 85) hE dX12_entry_71 (by decide) (fun c71 => ?_) (fun c71 => ?_)
          · refine jr_bipush (v := (-2 : Int32)) hE dX12_entry_85 (by decide) ?_
            have hvF : ∀ z, z ∉ [999] → v z = v z := (fun z hz => rfl)
            have hnF : ∀ z, z ∉ [999] → n10 z = n z := (fun z hz => (hu10 z (jnsub (V := [999]) hz [0] rfl)))
            have hwF : ∀ z, z ∉ [999] → w z = w z := (fun z hz => rfl)
            have e : stEntry s (nI k) (nI b) (nI j) x = (-2, s) := by
              unfold stEntry
              rw [if_pos ⟨nI_rowP hk, nI_rowP hb, nI_rowP hj, hA⟩, hrnk, hrnb, hrnj, if_neg (fun h => c71 ((nI_eq (by omega) (by decide)).mpr h.2.1))]
            exact hR F10 _ _ _ dX12_entry_87 rfl ⟨_, _, _, _, by rw [e]; exact hI.keep (c := s.2.2.1) M10 hpI.2.1.1 (hpI.2.1.2) (fun z hz => hvF z (jdj rfl hz)) (fun z hz => hnF z (jdj rfl hz)) (fun z hz => hwF z (jdj rfl hz)), by rw [e], O10⟩
          · refine jr_aload_n hE dX12_entry_74 0 rfl ?_
            refine jr_get hE dX12_entry_75 f96 M10.ob rfl ?_
            refine jr_iload_n hE dX12_entry_78 2 rfl ?_
            refine jr_iald (v := nI (s.1 b).length) hE dX12_entry_79 (M10.I (k := 8) (N := 16) (by decide)) (vp_in_nI (by omega) (by decide)) (by rw [nI_clamp (by omega)]; exact z1b) ?_
            refine jr_bipush (v := (40 : Int32)) hE dX12_entry_80 (by decide) ?_
            refine jr_icmp_le (tgt := 88) hE dX12_entry_82 (by decide) (fun c82 => ?_) (fun c82 => ?_)
            · have hok : (s.1 k).length = 32 ∧ (s.1 j).length = 64 ∧ (s.1 b).length ≤ 40 := ⟨(nI_eq (by omega) (by decide)).mp c60, (nI_eq (by omega) (by decide)).mp c71, nI_leC (by omega) (by decide) c82⟩
              have z5k : bl (w 9) (100 * k) 32 = s.1 k := by have q := z2k; rw [hok.1] at q; exact q
              have z5j : bl (w 9) (100 * j) 64 = s.1 j := by have q := z2j; rw [hok.2.1] at q; exact q
              refine jr_aload_n hE dX12_entry_88 0 rfl ?_
              refine jr_get hE dX12_entry_89 f520 M10.ob rfl ?_
              rw [hpI.1.1]
              refine jr_iconst (v := (4 : Int32)) hE dX12_entry_92 (by decide) ?_
              refine jr_icmp_ne (tgt := 99) hE dX12_entry_93 (by decide) (fun c93 => ?_) (fun c93 => ?_)
              · have h4 : ¬ s.2.1.length = 4 := fun h => c93 ((nI_eq (by omega) (by decide)).mpr h)
                have hok1 := hok.1
                have hok2 := hok.2.1
                have hok3 := hok.2.2
                refine jr_iconst (v := (0 : Int32)) hE dX12_entry_99 (by decide) ?_
                refine jr_istore (lv' := [(6, .int (0 : Int32)), (0, .ref o), (1, .int (nI k)), (2, .int (nI b)), (3, .int (nI j)), (4, .long x)]) hE dX12_entry_100 (by decide) rfl ?_
                have U16 : (∀ (F1 : Nat → va_E) (f : Nat → Int32), MW G L F1 o a v n10 g (uz w 14 f) → f = wrt (w 14) (64 * s.2.1.length) (bl (w 9) (100 * j) 64) → mO o a F10 F1 → J E L F1 0 0 142 [(6, .int (nI 64)), (0, .ref o), (1, .int (nI k)), (2, .int (nI b)), (3, .int (nI j)), (4, .long x)] []) → J E L F10 0 0 102 [(6, .int (0 : Int32)), (0, .ref o), (1, .int (nI k)), (2, .int (nI b)), (3, .int (nI j)), (4, .long x)] [] := by
                  intro cont
                  have loop : ∀ (r0 i : Nat) (F4 : Nat → va_E) (f : Nat → Int32), i + r0 = 64 → MW G L F4 o a v n10 g (uz w 14 f) → f = wrt (w 14) (64 * s.2.1.length) (bl (w 9) (100 * j) i) → mO o a F10 F4 → J E L F4 0 0 102 [(6, .int (nI i)), (0, .ref o), (1, .int (nI k)), (2, .int (nI b)), (3, .int (nI j)), (4, .long x)] [] := by
                    intro r0
                    induction r0 with
                    | zero =>
                      intro i F4 f hi H4 hf O4
                      have hwf : ∀ z, z ∉ [14] → (uz w 14 f) z = w z := fun z hz => uz_n _ _ (jne hz 0 rfl)
                      refine jr_iload hE dX12_entry_102 0 rfl ?_
                      refine jr_bipush (v := (64 : Int32)) hE dX12_entry_104 (by decide) ?_
                      refine jr_icmp_ge (tgt := 142) hE dX12_entry_106 (by decide) (fun c_106 => ?_) (fun c_106 => absurd (nI_le (a := 64) (by omega) (by omega)) c_106)
                      have hiN : i = 64 := by omega
                      subst hiN
                      exact cont F4 f H4 hf O4
                    | succ r0 ih =>
                      intro i F4 f hi H4 hf O4
                      have hwf : ∀ z, z ∉ [14] → (uz w 14 f) z = w z := fun z hz => uz_n _ _ (jne hz 0 rfl)
                      refine jr_iload hE dX12_entry_102 0 rfl ?_
                      refine jr_bipush (v := (64 : Int32)) hE dX12_entry_104 (by decide) ?_
                      refine jr_icmp_ge (tgt := 142) hE dX12_entry_106 (by decide) (fun c_106 => absurd c_106 (nI_ge (b := 64) (by omega) (by omega))) (fun c_106 => ?_)
                      refine jr_aload_n hE dX12_entry_109 1 rfl ?_
                      refine jr_get hE dX12_entry_110 f112 H4.ob rfl ?_
                      refine jr_bipush (v := (64 : Int32)) hE dX12_entry_113 (by decide) ?_
                      refine jr_aload_n hE dX12_entry_115 1 rfl ?_
                      refine jr_get hE dX12_entry_116 f520 H4.ob rfl ?_
                      rw [hpI.1.1]
                      refine jr_imul (z := nI (64 * s.2.1.length)) hE dX12_entry_119 (pk_mul 64 s.2.1.length) ?_
                      refine jr_iload hE dX12_entry_120 0 rfl ?_
                      refine jr_iadd (z := nI (64 * s.2.1.length + i)) hE dX12_entry_122 (nI_add _ _) ?_
                      refine jr_aload_n hE dX12_entry_123 1 rfl ?_
                      refine jr_get hE dX12_entry_124 f100 H4.ob rfl ?_
                      refine jr_bipush (v := (100 : Int32)) hE dX12_entry_127 (by decide) ?_
                      refine jr_iload_n hE dX12_entry_129 4 rfl ?_
                      refine jr_imul (z := nI (100 * j)) hE dX12_entry_130 (pk_mul 100 j) ?_
                      refine jr_iload hE dX12_entry_131 0 rfl ?_
                      refine jr_iadd (z := nI (100 * j + i)) hE dX12_entry_133 (nI_add _ _) ?_
                      refine jr_iald (v := w 9 (100 * j + i)) hE dX12_entry_134 (H4.I (k := 9) (N := 1600) (by decide)) (vp_in_nI (by omega) (by decide)) (by rw [nI_clamp (by omega)]; rfl) ?_
                      refine jr_iast hE dX12_entry_135 (H4.I (k := 14) (N := 256) (by decide)) (vp_in_nI (by omega) (by decide)) (fun F17 g18 u19 => ?_)
                      have H20 := H4.setI (k := 14) (N := 256) (by decide) g18 u19
                      have O21 := O4.st (k := 14) (by decide) (by decide) u19
                      rw [uz_uz, uz_s] at H20
                      refine jr_iinc (v := nI (i + 1)) (lv' := [(6, .int (nI (i + 1))), (0, .ref o), (1, .int (nI k)), (2, .int (nI b)), (3, .int (nI j)), (4, .long x)]) hE dX12_entry_136 0 rfl (nI_1 _) (by decide) rfl ?_
                      refine jr_goto (tgt := 102) hE dX12_entry_139 (by decide) ?_
                      refine jr_lv (lv' := [(6, .int (nI (i + 1))), (0, .ref o), (1, .int (nI k)), (2, .int (nI b)), (3, .int (nI j)), (4, .long x)]) [0, 1, 2, 3, 4, 5] rfl ?_
                      exact ih (i + 1) F17 _ (by omega) H20 (by
                        rw [bl_s]
                        exact wrt_snoc hf (bl_len _ _ _) (bt_nI _ _) (by omega)) O21
                  exact loop 64 0 F10 (w 14) (by omega) (by rw [uz_id]; exact M10) (by rw [show bl (w 9) (100 * j) 0 = [] from rfl, wrt_nil]) (mO.rf o a F10)
                refine U16 (fun F16 f16 M16 hf16 P16 => ?_)
                have O16 := O10.tr P16
                obtain ⟨w16, e16, hw16, hx16⟩ := uz_ab w 14 f16
                rw [e16] at M16
                rw [hf16] at hx16
                refine jr_iconst (v := (0 : Int32)) hE dX12_entry_142 (by decide) ?_
                refine jr_istore (lv' := [(6, .int (0 : Int32)), (0, .ref o), (1, .int (nI k)), (2, .int (nI b)), (3, .int (nI j)), (4, .long x)]) hE dX12_entry_143 (by decide) rfl ?_
                have U22 : (∀ (F1 : Nat → va_E) (f : Nat → Int32), MW G L F1 o a v n10 g (uz w16 11 f) → f = wrt (w16 11) (32 * s.2.1.length) (bl (w16 9) (100 * k) 32) → mO o a F16 F1 → J E L F1 0 0 185 [(6, .int (nI 32)), (0, .ref o), (1, .int (nI k)), (2, .int (nI b)), (3, .int (nI j)), (4, .long x)] []) → J E L F16 0 0 145 [(6, .int (0 : Int32)), (0, .ref o), (1, .int (nI k)), (2, .int (nI b)), (3, .int (nI j)), (4, .long x)] [] := by
                  intro cont
                  have loop : ∀ (r0 i : Nat) (F4 : Nat → va_E) (f : Nat → Int32), i + r0 = 32 → MW G L F4 o a v n10 g (uz w16 11 f) → f = wrt (w16 11) (32 * s.2.1.length) (bl (w16 9) (100 * k) i) → mO o a F16 F4 → J E L F4 0 0 145 [(6, .int (nI i)), (0, .ref o), (1, .int (nI k)), (2, .int (nI b)), (3, .int (nI j)), (4, .long x)] [] := by
                    intro r0
                    induction r0 with
                    | zero =>
                      intro i F4 f hi H4 hf O4
                      have hwf : ∀ z, z ∉ [11] → (uz w16 11 f) z = w16 z := fun z hz => uz_n _ _ (jne hz 0 rfl)
                      refine jr_iload hE dX12_entry_145 0 rfl ?_
                      refine jr_bipush (v := (32 : Int32)) hE dX12_entry_147 (by decide) ?_
                      refine jr_icmp_ge (tgt := 185) hE dX12_entry_149 (by decide) (fun c_149 => ?_) (fun c_149 => absurd (nI_le (a := 32) (by omega) (by omega)) c_149)
                      have hiN : i = 32 := by omega
                      subst hiN
                      exact cont F4 f H4 hf O4
                    | succ r0 ih =>
                      intro i F4 f hi H4 hf O4
                      have hwf : ∀ z, z ∉ [11] → (uz w16 11 f) z = w16 z := fun z hz => uz_n _ _ (jne hz 0 rfl)
                      refine jr_iload hE dX12_entry_145 0 rfl ?_
                      refine jr_bipush (v := (32 : Int32)) hE dX12_entry_147 (by decide) ?_
                      refine jr_icmp_ge (tgt := 185) hE dX12_entry_149 (by decide) (fun c_149 => absurd c_149 (nI_ge (b := 32) (by omega) (by omega))) (fun c_149 => ?_)
                      refine jr_aload_n hE dX12_entry_152 1 rfl ?_
                      refine jr_get hE dX12_entry_153 f103 H4.ob rfl ?_
                      refine jr_bipush (v := (32 : Int32)) hE dX12_entry_156 (by decide) ?_
                      refine jr_aload_n hE dX12_entry_158 1 rfl ?_
                      refine jr_get hE dX12_entry_159 f520 H4.ob rfl ?_
                      rw [hpI.1.1]
                      refine jr_imul (z := nI (32 * s.2.1.length)) hE dX12_entry_162 (pk_mul 32 s.2.1.length) ?_
                      refine jr_iload hE dX12_entry_163 0 rfl ?_
                      refine jr_iadd (z := nI (32 * s.2.1.length + i)) hE dX12_entry_165 (nI_add _ _) ?_
                      refine jr_aload_n hE dX12_entry_166 1 rfl ?_
                      refine jr_get hE dX12_entry_167 f100 H4.ob rfl ?_
                      refine jr_bipush (v := (100 : Int32)) hE dX12_entry_170 (by decide) ?_
                      refine jr_iload_n hE dX12_entry_172 2 rfl ?_
                      refine jr_imul (z := nI (100 * k)) hE dX12_entry_173 (pk_mul 100 k) ?_
                      refine jr_iload hE dX12_entry_174 0 rfl ?_
                      refine jr_iadd (z := nI (100 * k + i)) hE dX12_entry_176 (nI_add _ _) ?_
                      refine jr_iald (v := w16 9 (100 * k + i)) hE dX12_entry_177 (H4.I (k := 9) (N := 1600) (by decide)) (vp_in_nI (by omega) (by decide)) (by rw [nI_clamp (by omega)]; rfl) ?_
                      refine jr_iast hE dX12_entry_178 (H4.I (k := 11) (N := 128) (by decide)) (vp_in_nI (by omega) (by decide)) (fun F23 g24 u25 => ?_)
                      have H26 := H4.setI (k := 11) (N := 128) (by decide) g24 u25
                      have O27 := O4.st (k := 11) (by decide) (by decide) u25
                      rw [uz_uz, uz_s] at H26
                      refine jr_iinc (v := nI (i + 1)) (lv' := [(6, .int (nI (i + 1))), (0, .ref o), (1, .int (nI k)), (2, .int (nI b)), (3, .int (nI j)), (4, .long x)]) hE dX12_entry_179 0 rfl (nI_1 _) (by decide) rfl ?_
                      refine jr_goto (tgt := 145) hE dX12_entry_182 (by decide) ?_
                      refine jr_lv (lv' := [(6, .int (nI (i + 1))), (0, .ref o), (1, .int (nI k)), (2, .int (nI b)), (3, .int (nI j)), (4, .long x)]) [0, 1, 2, 3, 4, 5] rfl ?_
                      exact ih (i + 1) F23 _ (by omega) H26 (by
                        rw [bl_s]
                        exact wrt_snoc hf (bl_len _ _ _) (bt_nI _ _) (by omega)) O27
                  exact loop 32 0 F16 (w16 11) (by omega) (by rw [uz_id]; exact M16) (by rw [show bl (w16 9) (100 * k) 0 = [] from rfl, wrt_nil]) (mO.rf o a F16)
                refine U22 (fun F22 f22 M22 hf22 P22 => ?_)
                have O22 := O16.tr P22
                obtain ⟨w22, e22, hw22, hx22⟩ := uz_ab w16 11 f22
                rw [e22] at M22
                rw [hf22] at hx22
                refine jr_iconst (v := (0 : Int32)) hE dX12_entry_185 (by decide) ?_
                refine jr_istore (lv' := [(6, .int (0 : Int32)), (0, .ref o), (1, .int (nI k)), (2, .int (nI b)), (3, .int (nI j)), (4, .long x)]) hE dX12_entry_186 (by decide) rfl ?_
                have U28 : (∀ (F1 : Nat → va_E) (f : Nat → Int32), MW G L F1 o a v n10 g (uz w22 12 f) → f = wrt (w22 12) (40 * s.2.1.length) (bl (w22 9) (100 * b) ((s.1 b).length)) → mO o a F22 F1 → J E L F1 0 0 232 [(6, .int (nI ((s.1 b).length))), (0, .ref o), (1, .int (nI k)), (2, .int (nI b)), (3, .int (nI j)), (4, .long x)] []) → J E L F22 0 0 188 [(6, .int (0 : Int32)), (0, .ref o), (1, .int (nI k)), (2, .int (nI b)), (3, .int (nI j)), (4, .long x)] [] := by
                  intro cont
                  have loop : ∀ (r0 i : Nat) (F4 : Nat → va_E) (f : Nat → Int32), i + r0 = (s.1 b).length → MW G L F4 o a v n10 g (uz w22 12 f) → f = wrt (w22 12) (40 * s.2.1.length) (bl (w22 9) (100 * b) i) → mO o a F22 F4 → J E L F4 0 0 188 [(6, .int (nI i)), (0, .ref o), (1, .int (nI k)), (2, .int (nI b)), (3, .int (nI j)), (4, .long x)] [] := by
                    intro r0
                    induction r0 with
                    | zero =>
                      intro i F4 f hi H4 hf O4
                      have hwf : ∀ z, z ∉ [12] → (uz w22 12 f) z = w22 z := fun z hz => uz_n _ _ (jne hz 0 rfl)
                      refine jr_iload hE dX12_entry_188 0 rfl ?_
                      refine jr_aload_n hE dX12_entry_190 1 rfl ?_
                      refine jr_get hE dX12_entry_191 f96 H4.ob rfl ?_
                      refine jr_iload_n hE dX12_entry_194 3 rfl ?_
                      refine jr_iald (v := nI (s.1 b).length) hE dX12_entry_195 (H4.I (k := 8) (N := 16) (by decide)) (vp_in_nI (by omega) (by decide)) (by rw [nI_clamp (by omega)]; exact (congrFun ((hwf 8 (by decide)).trans ((hw22 8 (by decide)).trans (hw16 8 (by decide)))) b).trans z1b) ?_
                      refine jr_icmp_ge (tgt := 232) hE dX12_entry_196 (by decide) (fun c_196 => ?_) (fun c_196 => absurd (nI_le (a := (s.1 b).length) (by omega) (by omega)) c_196)
                      have hiN : i = (s.1 b).length := by omega
                      subst hiN
                      exact cont F4 f H4 hf O4
                    | succ r0 ih =>
                      intro i F4 f hi H4 hf O4
                      have hwf : ∀ z, z ∉ [12] → (uz w22 12 f) z = w22 z := fun z hz => uz_n _ _ (jne hz 0 rfl)
                      refine jr_iload hE dX12_entry_188 0 rfl ?_
                      refine jr_aload_n hE dX12_entry_190 1 rfl ?_
                      refine jr_get hE dX12_entry_191 f96 H4.ob rfl ?_
                      refine jr_iload_n hE dX12_entry_194 3 rfl ?_
                      refine jr_iald (v := nI (s.1 b).length) hE dX12_entry_195 (H4.I (k := 8) (N := 16) (by decide)) (vp_in_nI (by omega) (by decide)) (by rw [nI_clamp (by omega)]; exact (congrFun ((hwf 8 (by decide)).trans ((hw22 8 (by decide)).trans (hw16 8 (by decide)))) b).trans z1b) ?_
                      refine jr_icmp_ge (tgt := 232) hE dX12_entry_196 (by decide) (fun c_196 => absurd c_196 (nI_ge (b := (s.1 b).length) (by omega) (by omega))) (fun c_196 => ?_)
                      refine jr_aload_n hE dX12_entry_199 1 rfl ?_
                      refine jr_get hE dX12_entry_200 f106 H4.ob rfl ?_
                      refine jr_bipush (v := (40 : Int32)) hE dX12_entry_203 (by decide) ?_
                      refine jr_aload_n hE dX12_entry_205 1 rfl ?_
                      refine jr_get hE dX12_entry_206 f520 H4.ob rfl ?_
                      rw [hpI.1.1]
                      refine jr_imul (z := nI (40 * s.2.1.length)) hE dX12_entry_209 (pk_mul 40 s.2.1.length) ?_
                      refine jr_iload hE dX12_entry_210 0 rfl ?_
                      refine jr_iadd (z := nI (40 * s.2.1.length + i)) hE dX12_entry_212 (nI_add _ _) ?_
                      refine jr_aload_n hE dX12_entry_213 1 rfl ?_
                      refine jr_get hE dX12_entry_214 f100 H4.ob rfl ?_
                      refine jr_bipush (v := (100 : Int32)) hE dX12_entry_217 (by decide) ?_
                      refine jr_iload_n hE dX12_entry_219 3 rfl ?_
                      refine jr_imul (z := nI (100 * b)) hE dX12_entry_220 (pk_mul 100 b) ?_
                      refine jr_iload hE dX12_entry_221 0 rfl ?_
                      refine jr_iadd (z := nI (100 * b + i)) hE dX12_entry_223 (nI_add _ _) ?_
                      refine jr_iald (v := w22 9 (100 * b + i)) hE dX12_entry_224 (H4.I (k := 9) (N := 1600) (by decide)) (vp_in_nI (by omega) (by decide)) (by rw [nI_clamp (by omega)]; rfl) ?_
                      refine jr_iast hE dX12_entry_225 (H4.I (k := 12) (N := 160) (by decide)) (vp_in_nI (by omega) (by decide)) (fun F29 g30 u31 => ?_)
                      have H32 := H4.setI (k := 12) (N := 160) (by decide) g30 u31
                      have O33 := O4.st (k := 12) (by decide) (by decide) u31
                      rw [uz_uz, uz_s] at H32
                      refine jr_iinc (v := nI (i + 1)) (lv' := [(6, .int (nI (i + 1))), (0, .ref o), (1, .int (nI k)), (2, .int (nI b)), (3, .int (nI j)), (4, .long x)]) hE dX12_entry_226 0 rfl (nI_1 _) (by decide) rfl ?_
                      refine jr_goto (tgt := 188) hE dX12_entry_229 (by decide) ?_
                      refine jr_lv (lv' := [(6, .int (nI (i + 1))), (0, .ref o), (1, .int (nI k)), (2, .int (nI b)), (3, .int (nI j)), (4, .long x)]) [0, 1, 2, 3, 4, 5] rfl ?_
                      exact ih (i + 1) F29 _ (by omega) H32 (by
                        rw [bl_s]
                        exact wrt_snoc hf (bl_len _ _ _) (bt_nI _ _) (by omega)) O33
                  exact loop (s.1 b).length 0 F22 (w22 12) (by omega) (by rw [uz_id]; exact M22) (by rw [show bl (w22 9) (100 * b) 0 = [] from rfl, wrt_nil]) (mO.rf o a F22)
                refine U28 (fun F28 f28 M28 hf28 P28 => ?_)
                have O28 := O22.tr P28
                obtain ⟨w28, e28, hw28, hx28⟩ := uz_ab w22 12 f28
                rw [e28] at M28
                rw [hf28] at hx28
                refine jr_aload_n hE dX12_entry_232 1 rfl ?_
                refine jr_get hE dX12_entry_233 f109 M28.ob rfl ?_
                refine jr_aload_n hE dX12_entry_236 1 rfl ?_
                refine jr_get hE dX12_entry_237 f520 M28.ob rfl ?_
                rw [hpI.1.1]
                refine jr_aload_n hE dX12_entry_240 1 rfl ?_
                refine jr_get hE dX12_entry_241 f96 M28.ob rfl ?_
                refine jr_iload_n hE dX12_entry_244 3 rfl ?_
                refine jr_iald (v := nI (s.1 b).length) hE dX12_entry_245 (M28.I (k := 8) (N := 16) (by decide)) (vp_in_nI (by omega) (by decide)) (by rw [nI_clamp (by omega)]; exact (congrFun ((hw28 8 (by decide)).trans ((hw22 8 (by decide)).trans (hw16 8 (by decide)))) b).trans z1b) ?_
                refine jr_iast hE dX12_entry_246 (M28.I (k := 13) (N := 4) (by decide)) (vp_in_nI (by omega) (by decide)) (fun F34 g35 u36 => ?_)
                have H37 := M28.setI (k := 13) (N := 4) (by decide) g35 u36
                have O38 := O28.st (k := 13) (by decide) (by decide) u36
                obtain ⟨w39, e39, hw39, hx39⟩ := uz_ab w28 13 (upd (w28 13) (nI s.2.1.length).toNatClampNeg (nI (s.1 b).length))
                rw [e39] at H37
                rw [nI_clamp (by omega), show w28 13 = w 13 from ((hw28 13 (by decide)).trans ((hw22 13 (by decide)).trans (hw16 13 (by decide))))] at hx39
                
                refine jr_aload_n hE dX12_entry_247 1 rfl ?_
                refine jr_get hE dX12_entry_248 f115 H37.ob rfl ?_
                refine jr_aload_n hE dX12_entry_251 1 rfl ?_
                refine jr_get hE dX12_entry_252 f520 H37.ob rfl ?_
                rw [hpI.1.1]
                refine jr_lload hE dX12_entry_255 5 rfl ?_
                refine jr_last hE dX12_entry_257 (H37.L (k := 15) (N := 4) (by decide) (by decide)) (vp_in_nI (by omega) (by decide)) (fun F40 h40 u40 => ?_)
                have M40 := H37.setL (k := 15) (N := 4) (by decide) (by decide) h40 u40
                have O40 := O38.st (k := 15) (by decide) (by decide) u40
                obtain ⟨n40, en40, hf40, hv40⟩ := uz_ab n10 15 none
                rw [en40] at M40
                obtain ⟨g40, eg40, hg40, hgx40⟩ := uz_ab g 15 (vp_updL (g 15) (nI s.2.1.length).toNatClampNeg x)
                rw [eg40] at M40
                rw [nI_clamp (by omega)] at hgx40
                refine jr_aload_n hE dX12_entry_258 1 rfl ?_
                refine jr_dup hE dX12_entry_259 rfl ?_
                refine jr_get hE dX12_entry_260 f520 M40.ob rfl ?_
                rw [hpI.1.1]
                refine jr_iconst (v := (1 : Int32)) hE dX12_entry_263 (by decide) ?_
                refine jr_iadd (z := nI (s.2.1.length + 1)) hE dX12_entry_264 (nI_add _ 1) ?_
                refine jr_put (ty := .int) hE dX12_entry_265 f520 M40.ob rfl (by decide +kernel) rfl rfl (Nat.le_of_ble_eq_true rfl) (fun F41 g42 u43 => ?_)
                have H44 := M40.setV (v' := uz v 10 (nI (s.2.1.length + 1))) g42 u43
                have O45 := O40.so u43
                obtain ⟨v46, e46, hvv46, hvx46⟩ := uz_ab v 10 (nI (s.2.1.length + 1))
                rw [e46] at H44
                refine jr_aload_n hE dX12_entry_268 1 rfl ?_
                refine jr_get hE dX12_entry_269 f520 H44.ob rfl ?_
                rw [hvx46]
                have hvF : ∀ z, z ∉ [10] → v46 z = v z := (fun z hz => (hvv46 z (jnsub (V := [10]) hz [0] rfl)))
                have hnF : ∀ z, z ∉ [15, 999] → n40 z = n z := (fun z hz => ((hf40 z (jnsub (V := [15]) hz [0] rfl)).trans (hu10 z (jnsub (V := [999]) hz [1] rfl))))
                have hwF : ∀ z, z ∉ [11, 12, 13, 14] → w39 z = w z := (fun z hz => ((hw39 z (jnsub (V := [13]) hz [2] rfl)).trans ((hw28 z (jnsub (V := [12]) hz [1] rfl)).trans ((hw22 z (jnsub (V := [11]) hz [0] rfl)).trans (hw16 z (jnsub (V := [14]) hz [3] rfl))))))
                have e : stEntry s (nI k) (nI b) (nI j) x = (nI (s.2.1.length + 1), addE s (s.1 k, s.1 b, s.1 j, x.toInt.toNat)) := by
                  unfold stEntry
                  rw [if_pos ⟨nI_rowP hk, nI_rowP hb, nI_rowP hj, hA⟩, hrnk, hrnb, hrnj, if_pos hok, if_neg h4]
                have gh14 : w39 14 = wrt (w 14) (64 * s.2.1.length) (s.1 j) := by
                  rw [show w39 14 = w16 14 from ((hw39 14 (by decide)).trans ((hw28 14 (by decide)).trans (hw22 14 (by decide)))), hx16, show w 14 = w 14 from rfl, show w 9 = w 9 from rfl, z5j]
                have gh11 : w39 11 = wrt (w 11) (32 * s.2.1.length) (s.1 k) := by
                  rw [show w39 11 = w22 11 from ((hw39 11 (by decide)).trans (hw28 11 (by decide))), hx22, show w16 11 = w 11 from (hw16 11 (by decide)), show w16 9 = w 9 from (hw16 9 (by decide)), z5k]
                have gh12 : w39 12 = wrt (w 12) (40 * s.2.1.length) (s.1 b) := by
                  rw [show w39 12 = w28 12 from (hw39 12 (by decide)), hx28, show w22 12 = w 12 from ((hw22 12 (by decide)).trans (hw16 12 (by decide))), show w22 9 = w 9 from ((hw22 9 (by decide)).trans (hw16 9 (by decide))), z2b]
                have gh13 : w39 13 = upd (w 13) s.2.1.length (nI (s.1 b).length) := hx39
                have gh15 : g40 15 = vp_updL (g 15) s.2.1.length (lN x.toInt.toNat) := by rw [lN_to (by have := hA.r; omega)]; exact hgx40
                have hA2 := hA.r
                exact hR F41 _ _ _ dX12_entry_272 rfl ⟨_, _, _, _, by rw [e]; exact hI.en (e := (s.1 k, s.1 b, s.1 j, x.toInt.toNat)) H44 (fun z hz => hvF z (jdj rfl hz)) (fun z hz => hnF z (jdj rfl hz)) (fun z hz => hg40 z (jdj rfl hz)) (fun z hz => hwF z (jdj rfl hz)) ⟨hok.1, hok.2.2, hok.2.1, by show 1 ≤ x.toInt.toNat; omega, by show x.toInt.toNat ≤ 2 ^ 62; omega, z4k, z4b, z4j⟩ (by omega) hvx46 gh11 gh12 gh13 gh14 gh15, by rw [e], O45⟩
              · refine jr_bipush (v := (-3 : Int32)) hE dX12_entry_96 (by decide) ?_
                have hvF : ∀ z, z ∉ [999] → v z = v z := (fun z hz => rfl)
                have hnF : ∀ z, z ∉ [999] → n10 z = n z := (fun z hz => (hu10 z (jnsub (V := [999]) hz [0] rfl)))
                have hwF : ∀ z, z ∉ [999] → w z = w z := (fun z hz => rfl)
                have e : stEntry s (nI k) (nI b) (nI j) x = (-3, s) := by
                  unfold stEntry
                  rw [if_pos ⟨nI_rowP hk, nI_rowP hb, nI_rowP hj, hA⟩, hrnk, hrnb, hrnj, if_pos hok, if_pos ((nI_eq (by omega) (by decide)).mp c93)]
                exact hR F10 _ _ _ dX12_entry_98 rfl ⟨_, _, _, _, by rw [e]; exact hI.keep (c := s.2.2.1) M10 hpI.2.1.1 (hpI.2.1.2) (fun z hz => hvF z (jdj rfl hz)) (fun z hz => hnF z (jdj rfl hz)) (fun z hz => hwF z (jdj rfl hz)), by rw [e], O10⟩
            · refine jr_bipush (v := (-2 : Int32)) hE dX12_entry_85 (by decide) ?_
              have hvF : ∀ z, z ∉ [999] → v z = v z := (fun z hz => rfl)
              have hnF : ∀ z, z ∉ [999] → n10 z = n z := (fun z hz => (hu10 z (jnsub (V := [999]) hz [0] rfl)))
              have hwF : ∀ z, z ∉ [999] → w z = w z := (fun z hz => rfl)
              have e : stEntry s (nI k) (nI b) (nI j) x = (-2, s) := by
                unfold stEntry
                rw [if_pos ⟨nI_rowP hk, nI_rowP hb, nI_rowP hj, hA⟩, hrnk, hrnb, hrnj, if_neg (fun h => c82 (nI_le (b := 40) h.2.2 (by decide)))]
              exact hR F10 _ _ _ dX12_entry_87 rfl ⟨_, _, _, _, by rw [e]; exact hI.keep (c := s.2.2.1) M10 hpI.2.1.1 (hpI.2.1.2) (fun z hz => hvF z (jdj rfl hz)) (fun z hz => hnF z (jdj rfl hz)) (fun z hz => hwF z (jdj rfl hz)), by rw [e], O10⟩

