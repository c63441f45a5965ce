/-! JointSigns: nonce, session -/
theorem cnt_out {f : Nat → Bool} {m : Nat} : ∀ d, (∀ j, m ≤ j → j < m + d → f j = false) → cnt f (m + d) = cnt f m
  | 0, _ => rfl
  | d + 1, h => by
    rw [← Nat.add_assoc, cnu_0 (h (m + d) (by omega) (by omega)), Nat.add_zero]
    exact cnt_out d (fun j h1 h2 => h j h1 (by omega))
theorem cnt_full {f : Nat → Bool} : ∀ m, m ≤ cnt f m ↔ ∀ j, j < m → f j = true
  | 0 => ⟨fun _ j hj => absurd hj (Nat.not_lt_zero j), fun _ => Nat.zero_le _⟩
  | m + 1 => by
    have ih := cnt_full (f := f) m
    have hle := cnt_le f m
    rcases e : f m with _ | _
    · rw [cnu_0 e]
      exact ⟨fun h => absurd h (by omega), fun h => absurd (h m (by omega)) (by rw [e]; decide)⟩
    · rw [cnu_1 e]
      constructor
      · intro h j hj
        by_cases g : j = m
        · rw [g]; exact e
        · exact ih.mp (by omega) j (by omega)
      · intro h
        have := ih.mpr (fun j hj => h j (by omega))
        omega
theorem cnt_all {f : Nat → Bool} {m : Nat} (hm : m ≤ 4) (hz : ∀ j, m ≤ j → j < 4 → f j = false) : m ≤ cnt f 4 ↔ ∀ j, j < m → f j = true := by
  obtain ⟨d, hd⟩ : ∃ d, 4 = m + d := ⟨4 - m, by omega⟩
  rw [hd, cnt_out d (fun j h1 h2 => hz j h1 (by omega))]
  exact cnt_full m
/-- the class's nonce: where a number of the nonce is 0 it takes 2 more than the reference (stNo1) -/
noncomputable def stNoC1 (s : ST) (k u p j b : Nat) : Int32 × ST := if secOK (s.1 p) ∧ (s.1 j).length = 32 ∧ (s.1 b).length ≤ 40 then (if 48 < s.2.2.1 + (3 + s.2.2.2.1.length) then (-5, s) else if pbE (emul PP (bnum (s.1 p)) GE) = s.2.2.2.1.getD u [] then (if qSs s.2.2.2.1 s.2.2.2.1.length = none then (-2, setK s (s.2.2.1 + 1 + s.2.2.2.1.length)) else if noN s (bnum (s.1 p)) (s.1 j) (s.1 b) 0 = 0 ∨ noN s (bnum (s.1 p)) (s.1 j) (s.1 b) 1 = 0 then (-2, setK s (s.2.2.1 + 1 + s.2.2.2.1.length + 2)) else (66, setN (setK (setR s k (noL s (bnum (s.1 p)) (s.1 j) (s.1 b))) (s.2.2.1 + 1 + s.2.2.2.1.length + 2)) (fun t => if t = u then some (noN s (bnum (s.1 p)) (s.1 j) (s.1 b) 0, noN s (bnum (s.1 p)) (s.1 j) (s.1 b) 1, noL s (bnum (s.1 p)) (s.1 j) (s.1 b)) else s.2.2.2.2.1 t))) else (-2, setK s (s.2.2.1 + 1))) else (-2, s)
noncomputable def stNonC (s : ST) (r x c y m : Int32) : Int32 × ST := if rowP r ∧ (0 ≤ x.toInt ∧ x.toInt < s.2.2.2.1.length) ∧ rowP c ∧ rowP y ∧ rowP m then stNoC1 s (rn r) (rn x) (rn c) (rn y) (rn m) else (-1, s)
/-- no number of a nonce of these is 0 -/
def ncOK (s : ST) (r x c y m : Int32) : Prop := noN s (bnum (s.1 (rn c))) (s.1 (rn y)) (s.1 (rn m)) 0 ≠ 0 ∧ noN s (bnum (s.1 (rn c))) (s.1 (rn y)) (s.1 (rn m)) 1 ≠ 0
/-- the answer is the reference's in any case -/
theorem stNonC_1 (s : ST) (r x c y m : Int32) : (stNonC s r x c y m).1 = (stNonce s r x c y m).1 := by
  unfold stNonC stNonce stNoC1 stNo1
  by_cases h1 : qSs s.2.2.2.1 s.2.2.2.1.length = none
  · simp only [h1, if_true, true_or]
  · by_cases h2 : noN s (bnum (s.1 (rn c))) (s.1 (rn y)) (s.1 (rn m)) 0 = 0 ∨ noN s (bnum (s.1 (rn c))) (s.1 (rn y)) (s.1 (rn m)) 1 = 0
    · rw [if_neg h1, if_pos h2, if_pos (Or.inr h2)]
      repeat' split
      all_goals rfl
    · have h3 : ¬ (qSs s.2.2.2.1 s.2.2.2.1.length = none ∨ noN s (bnum (s.1 (rn c))) (s.1 (rn y)) (s.1 (rn m)) 0 = 0 ∨ noN s (bnum (s.1 (rn c))) (s.1 (rn y)) (s.1 (rn m)) 1 = 0) := fun q => q.elim h1 h2
      rw [if_neg h1, if_neg h2, if_neg h3]
/-- and the state too, where no such number is 0 -/
theorem stNonC_eq (s : ST) (r x c y m : Int32) (h : secOK (s.1 (rn c)) ∧ (s.1 (rn y)).length = 32 ∧ (s.1 (rn m)).length ≤ 40 → ncOK s r x c y m) : stNonC s r x c y m = stNonce s r x c y m := by
  unfold stNonC stNonce stNoC1 stNo1
  by_cases h0 : secOK (s.1 (rn c)) ∧ (s.1 (rn y)).length = 32 ∧ (s.1 (rn m)).length ≤ 40
  · have h2 : ¬ (noN s (bnum (s.1 (rn c))) (s.1 (rn y)) (s.1 (rn m)) 0 = 0 ∨ noN s (bnum (s.1 (rn c))) (s.1 (rn y)) (s.1 (rn m)) 1 = 0) := fun q => q.elim (h h0).1 (h h0).2
    by_cases h1 : qSs s.2.2.2.1 s.2.2.2.1.length = none
    · rw [if_pos h1, if_pos (Or.inl h1)]
    · have h3 : ¬ (qSs s.2.2.2.1 s.2.2.2.1.length = none ∨ noN s (bnum (s.1 (rn c))) (s.1 (rn y)) (s.1 (rn m)) 0 = 0 ∨ noN s (bnum (s.1 (rn c))) (s.1 (rn y)) (s.1 (rn m)) 1 = 0) := fun q => q.elim h1 h2
      rw [if_neg h1, if_neg h2, if_neg h3]
  · rw [if_neg h0, if_neg h0]

theorem noL_len (s : ST) (d : Nat) (z m : List Nat) : (noL s d z m).length = 66 := by
  unfold noL
  rw [List.length_append, pbE_len, pbE_len]
set_option maxHeartbeats 4000000 in
set_option maxRecDepth 100000 in
theorem c_c_nonce (l : Launch) (G : Nat → ClassId) (c : Nat → Nat) (B : Nat → List Nat) (S : Nat → Nat) (P : Nat → JP) (q : SS) (X : Nat) (v : Nat → Int32) (s : ST) (r j p z m : Int32) : jKi l yX11_nonce wsX11_nonce ({ frames := 7, cells := 0, slots := 0, locals := 171 }) G [.ref (c 0), .int r, .int j, .int p, .int z, .int m] (fun L F => cI G L F c B S P q X v s) (fun L F ans F1 => ∃ B1 S1 P1 q1 X1 v1, cI G L F1 c B1 S1 P1 q1 X1 v1 (stNonC s r j p z m).2 ∧ ans = (stNonC s r j p z m).1 ∧ cO c F F1) := by
  refine jm_ki (cc := cX11_nonce) (maxL := 6) (rt := .int) (by decide) rfl (Nat.le_of_ble_eq_true rfl) ?_
  intro E L F hE hR hpre
  have hE : jOk E G _ cX11_nonce 6 RX11 wsX11_nonce := hE
  have hI := hpre
  obtain ⟨W0, hG, hRw, h0, hen, hwk, h2, hsg, hnc, htd, hse⟩ := id hpre
  have hwk48 := hwk.2
  have hs4 := hsg.1
  have hen4 := hen.1
  have f46 : jFl RX11 wsX11_nonce 46 11 4 := ⟨rfl, by decide, by decide +kernel, by decide +kernel⟩
  have f37 : jFl RX11 wsX11_nonce 37 11 3 := ⟨rfl, by decide, by decide +kernel, by decide +kernel⟩
  have f11 : jFl RX11 wsX11_nonce 11 11 0 := ⟨rfl, by decide, by decide +kernel, by decide +kernel⟩
  have f68 : jFl RX11 wsX11_nonce 68 0 1 := ⟨rfl, by decide, by decide +kernel, by decide +kernel⟩
  have f167 : jFl RX11 wsX11_nonce 167 4 0 := ⟨rfl, by decide, by decide +kernel, by decide +kernel⟩
  have f60 : jFl RX11 wsX11_nonce 60 11 7 := ⟨rfl, by decide, by decide +kernel, by decide +kernel⟩
  have f18 : jFl RX11 wsX11_nonce 18 11 1 := ⟨rfl, by decide, by decide +kernel, by decide +kernel⟩
  refine jr_iload_n hE dX11_nonce_0 1 rfl ?_
  refine jr_iload_n hE dX11_nonce_1 3 rfl ?_
  refine jr_kSi (n := 2) (As := [.int r, .int p]) (rest := []) hE dX11_nonce_2 (fun l => c_c_areRows l G r p) gX11_nonce_X11_areRows rfl (by decide +kernel) ⟨rfl, rfl, by decide, by decide⟩ (by decide) rfl rfl (Nat.le_of_ble_eq_true rfl) (trivial) (fun r3 F1 q2 => ?_)
  obtain ⟨eq2, rq2⟩ := q2
  subst eq2 rq2
  refine jr_if_eq (tgt := 29) hE dX11_nonce_5 (by decide) (fun c5 => ?_) (fun c5 => ?_)
  · refine jr_iconst (v := (-1 : Int32)) hE dX11_nonce_29 (by decide) ?_
    have e : stNonC s r j p z m = (-1, s) := by
      unfold stNonC
      rw [if_neg (fun h => absurd (b2i_t (p := rowP r ∧ rowP p) ⟨h.1, h.2.2.1⟩) (by rw [c5]; decide))]
    exact hR F _ _ _ dX11_nonce_30 rfl ⟨B, S, P, q, X, v, by rw [e]; exact hI, by rw [e], cO.rf c F⟩
  · have hrr := b2i_1 c5
    have hrk : rowP r := hrr.1
    obtain ⟨k, hk, rfl⟩ := rowP_nI hrk
    have hrnk := nI_rn hk
    have hlk : (s.1 k).length ≤ 100 := by rw [← hRw k hk]; have q := W0.cp k (by omega); rw [bcr (by omega)] at q; exact q
    have hrp1 : rowP p := hrr.2
    obtain ⟨p1, hp1, rfl⟩ := rowP_nI hrp1
    have hrnp1 := nI_rn hp1
    have hlp1 : (s.1 p1).length ≤ 100 := by rw [← hRw p1 hp1]; have q := W0.cp p1 (by omega); rw [bcr (by omega)] at q; exact q
    refine jr_iload hE dX11_nonce_8 4 rfl ?_
    refine jr_iload hE dX11_nonce_10 5 rfl ?_
    refine jr_kSi (n := 2) (As := [.int z, .int m]) (rest := []) hE dX11_nonce_12 (fun l => c_c_areRows l G z m) gX11_nonce_X11_areRows rfl (by decide +kernel) ⟨rfl, rfl, by decide, by decide⟩ (by decide) rfl rfl (Nat.le_of_ble_eq_true rfl) (trivial) (fun r6 F4 q5 => ?_)
    obtain ⟨eq5, rq5⟩ := q5
    subst eq5 rq5
    refine jr_if_eq (tgt := 29) hE dX11_nonce_15 (by decide) (fun c15 => ?_) (fun c15 => ?_)
    · refine jr_iconst (v := (-1 : Int32)) hE dX11_nonce_29 (by decide) ?_
      have e : stNonC s (nI k) j (nI p1) z m = (-1, s) := by
        unfold stNonC
        rw [if_neg (fun h => absurd (b2i_t h.2.2.2) (by rw [c15]; decide))]
      exact hR F _ _ _ dX11_nonce_30 rfl ⟨B, S, P, q, X, v, by rw [e]; exact hI, by rw [e], cO.rf c F⟩
    · have hrs := b2i_1 c15
      have hra1 : rowP z := hrs.1
      obtain ⟨a1, ha1, rfl⟩ := rowP_nI hra1
      have hrna1 := nI_rn ha1
      have hla1 : (s.1 a1).length ≤ 100 := by rw [← hRw a1 ha1]; have q := W0.cp a1 (by omega); rw [bcr (by omega)] at q; exact q
      have hra2 : rowP m := hrs.2
      obtain ⟨a2, ha2, rfl⟩ := rowP_nI hra2
      have hrna2 := nI_rn ha2
      have hla2 : (s.1 a2).length ≤ 100 := by rw [← hRw a2 ha2]; have q := W0.cp a2 (by omega); rw [bcr (by omega)] at q; exact q
      refine jr_aload_n hE dX11_nonce_18 0 rfl ?_
      refine jr_get hE dX11_nonce_19 f46 W0.o0 rfl ?_
      refine jr_iload_n hE dX11_nonce_22 2 rfl ?_
      refine jr_kVi (ci := 4) (n := 1) (As := [.int j]) (rest := []) hE dX11_nonce_23 (fun l => c_g_hasMember l G c B S P q X v j s.2.2.2.1.length) gX11_nonce_X4_hasMember rfl W0.o7 rfl (by decide +kernel) ⟨rfl, rfl, by decide, by decide⟩ (by decide) rfl rfl (Nat.le_of_ble_eq_true rfl) (⟨W0, h2, hs4⟩) (fun r9 F7 q8 => ?_)
      obtain ⟨eq8, rq8⟩ := q8
      subst eq8 rq8
      refine jr_if_ne (tgt := 31) hE dX11_nonce_26 (by decide) (fun c26 => ?_) (fun c26 => ?_)
      · have hmu := b2i_1 c26
        obtain ⟨u, hu, rfl⟩ := mem_nI hs4 hmu
        have hrnu : rn (nI u) = u := rn_n (by omega)
        have hu4 : u < 4 := by omega
        refine jr_aload_n hE dX11_nonce_31 0 rfl ?_
        refine jr_get hE dX11_nonce_32 f37 W0.o0 rfl ?_
        refine jr_aload_n hE dX11_nonce_35 0 rfl ?_
        refine jr_get hE dX11_nonce_36 f11 W0.o0 rfl ?_
        refine jr_iload_n hE dX11_nonce_39 3 rfl ?_
        obtain ⟨fa10, ja10, ga10⟩ := W0.aR
        refine jr_aald (v := c (270 + 2 * p1)) hE dX11_nonce_40 ja10 rfl (vp_in_nI (n := p1) (by omega) (by decide)) (by rw [nI_clamp (by omega)]; exact ga10 p1 (by omega)) ?_
        refine jr_kVi (ci := 10) (n := 1) (As := [.ref (c (270 + 2 * p1))]) (rest := []) hE dX11_nonce_41 (fun l => c_s_takeSecret l G c B S P q X v p1) gX11_nonce_X10_takeSecret rfl W0.o6 rfl (by decide +kernel) ⟨rfl, rfl, by decide, by decide⟩ (by decide) rfl rfl (Nat.le_of_ble_eq_true rfl) (⟨W0, by omega⟩) (fun r13 F11 q12 => ?_)
        obtain ⟨S14, W14, hS14, f14_0, r13e, P14⟩ := q12
        subst r13e
        have O14 := (cO.rf c F).tr P14
        refine jr_if_eq (tgt := 77) hE dX11_nonce_44 (by decide) (fun c44 => ?_) (fun c44 => ?_)
        · refine jr_bipush (v := (-2 : Int32)) hE dX11_nonce_77 (by decide) ?_
          have e : stNonC s (nI k) (nI u) (nI p1) (nI a1) (nI a2) = (-2, s) := by
            unfold stNonC
            rw [if_pos ⟨nI_rowP hk, hmu, nI_rowP hp1, nI_rowP ha1, nI_rowP ha2⟩, hrnk, hrnu, hrnp1, hrna1, hrna2]
            unfold stNoC1
            rw [if_neg (fun h => (fun h => absurd (b2i_t (p := secOK (B p1)) (by rw [show B p1 = s.1 p1 from (hRw p1 hp1)]; exact h)) (by rw [c44]; decide)) h.1)]
          exact hR F11 _ _ _ dX11_nonce_79 rfl ⟨_, _, _, _, _, _, by rw [e]; exact hI.upd (k := s.2.2.1) W14 (fun z hz => rfl) (fun z hz => (hS14 z (by simp only [List.mem_cons, List.not_mem_nil, or_false, not_or] at hz ⊢; omega))) (fun z hz => rfl) (fun z hz => rfl) hwk.1 (hwk.2), by rw [e], O14⟩
        · have hs : secOK (s.1 p1) := by have q := b2i_1 c44; rw [show B p1 = s.1 p1 from (hRw p1 hp1)] at q; exact q
          obtain ⟨d, hd⟩ : ∃ d, d = bnum (s.1 p1) := ⟨_, rfl⟩
          have hS0 : S14 0 = d := by have q := f14_0; rw [show B p1 = s.1 p1 from (hRw p1 hp1)] at q; rw [hd]; exact q hs.1
          have hd0 : d ≠ 0 := by rw [hd]; exact hs.2.1
          have hdN : d < NN := by rw [hd]; exact hs.2.2
          refine jr_aload_n hE dX11_nonce_47 0 rfl ?_
          refine jr_get hE dX11_nonce_48 f11 W14.o0 rfl ?_
          refine jr_iload hE dX11_nonce_51 4 rfl ?_
          obtain ⟨fa15, ja15, ga15⟩ := W14.aR
          refine jr_aald (v := c (270 + 2 * a1)) hE dX11_nonce_53 ja15 rfl (vp_in_nI (n := a1) (by omega) (by decide)) (by rw [nI_clamp (by omega)]; exact ga15 a1 (by omega)) ?_
          refine jr_get hE dX11_nonce_54 f68 (W14.by a1 (by omega)).ob rfl ?_
          rw [show B a1 = (s.1 a1) from (hRw a1 ha1)]
          refine jr_bipush (v := (32 : Int32)) hE dX11_nonce_57 (by decide) ?_
          refine jr_icmp_ne (tgt := 77) hE dX11_nonce_59 (by decide) (fun c59 => ?_) (fun c59 => ?_)
          · refine jr_bipush (v := (-2 : Int32)) hE dX11_nonce_77 (by decide) ?_
            have e : stNonC s (nI k) (nI u) (nI p1) (nI a1) (nI a2) = (-2, s) := by
              unfold stNonC
              rw [if_pos ⟨nI_rowP hk, hmu, nI_rowP hp1, nI_rowP ha1, nI_rowP ha2⟩, hrnk, hrnu, hrnp1, hrna1, hrna2]
              unfold stNoC1
              rw [if_neg (fun h => c59 ((nI_eq (by omega) (by decide)).mpr h.2.1))]
            exact hR F11 _ _ _ dX11_nonce_79 rfl ⟨_, _, _, _, _, _, by rw [e]; exact hI.upd (k := s.2.2.1) W14 (fun z hz => rfl) (fun z hz => (hS14 z (by simp only [List.mem_cons, List.not_mem_nil, or_false, not_or] at hz ⊢; omega))) (fun z hz => rfl) (fun z hz => rfl) hwk.1 (hwk.2), by rw [e], O14⟩
          · have hl32 : (s.1 a1).length = 32 := (nI_eq (by omega) (by decide)).mp c59
            refine jr_aload_n hE dX11_nonce_62 0 rfl ?_
            refine jr_get hE dX11_nonce_63 f11 W14.o0 rfl ?_
            refine jr_iload hE dX11_nonce_66 5 rfl ?_
            obtain ⟨fa16, ja16, ga16⟩ := W14.aR
            refine jr_aald (v := c (270 + 2 * a2)) hE dX11_nonce_68 ja16 rfl (vp_in_nI (n := a2) (by omega) (by decide)) (by rw [nI_clamp (by omega)]; exact ga16 a2 (by omega)) ?_
            refine jr_get hE dX11_nonce_69 f68 (W14.by a2 (by omega)).ob rfl ?_
            rw [show B a2 = (s.1 a2) from (hRw a2 ha2)]
            refine jr_bipush (v := (40 : Int32)) hE dX11_nonce_72 (by decide) ?_
            refine jr_icmp_le (tgt := 80) hE dX11_nonce_74 (by decide) (fun c74 => ?_) (fun c74 => ?_)
            · have hl40 : (s.1 a2).length ≤ 40 := nI_leC (m := 40) (by omega) (by decide) c74
              refine jr_aload_n hE dX11_nonce_80 0 rfl ?_
              refine jr_iconst (v := (3 : Int32)) hE dX11_nonce_81 (by decide) ?_
              refine jr_aload_n hE dX11_nonce_82 0 rfl ?_
              refine jr_get hE dX11_nonce_83 f46 W14.o0 rfl ?_
              refine jr_get hE dX11_nonce_86 f167 W14.o7 rfl ?_
              rw [show v 2 = (nI s.2.2.2.1.length) from h2]
              refine jr_iadd (z := nI (3 + s.2.2.2.1.length)) hE dX11_nonce_89 (nI_add 3 _) ?_
              refine jr_kVi (ci := 11) (n := 1) (As := [.int (nI (3 + s.2.2.2.1.length))]) (rest := []) hE dX11_nonce_90 (fun l => c_c_wouldPass l G c B S14 P q X v s.2.2.1 (3 + s.2.2.2.1.length)) gX11_nonce_X11_wouldPass rfl W14.o0 rfl (by decide +kernel) ⟨rfl, rfl, by decide, by decide⟩ (by decide) rfl rfl (Nat.le_of_ble_eq_true rfl) (⟨W14, hwk.1, by omega, by omega⟩) (fun r19 F17 q18 => ?_)
              obtain ⟨eq18, rq18⟩ := q18
              subst eq18 rq18
              refine jr_if_eq (tgt := 99) hE dX11_nonce_93 (by decide) (fun c93 => ?_) (fun c93 => ?_)
              · have hw48 : ¬ 48 < s.2.2.1 + (3 + s.2.2.2.1.length) := b2i_0 c93
                refine jr_aload_n hE dX11_nonce_99 0 rfl ?_
                refine jr_dup hE dX11_nonce_100 rfl ?_
                refine jr_get hE dX11_nonce_101 f60 W14.o0 rfl ?_
                rw [show v 1 = (nI s.2.2.1) from hwk.1]
                refine jr_iconst (v := (1 : Int32)) hE dX11_nonce_104 (by decide) ?_
                refine jr_iadd (z := nI (s.2.2.1 + 1)) hE dX11_nonce_105 (nI_add _ 1) ?_
                refine jr_put (ty := .int) hE dX11_nonce_106 f60 W14.o0 rfl (by decide +kernel) rfl rfl (Nat.le_of_ble_eq_true rfl) (fun F20 h20 u20 => ?_)
                obtain ⟨W20, P20⟩ := W14.setV0 (v1 := (uz v 1 (nI (s.2.2.1 + 1)))) h20 (fun z hz => uz_n _ _ (jne hz 1 rfl)) u20
                have O20 := O14.tr P20
                obtain ⟨v20, ev20, hv20, yv20⟩ := uz_ab v 1 (nI (s.2.2.1 + 1))
                rw [ev20] at W20
                have nv20 : ∀ z, z ≠ 1 → v20 z = v z := fun z hz => hv20 z (fun e => hz (List.mem_singleton.mp e))
                refine jr_aload_n hE dX11_nonce_109 0 rfl ?_
                refine jr_get hE dX11_nonce_110 f37 W20.o0 rfl ?_
                refine jr_kVv (ci := 10) (n := 0) (As := []) (rest := []) hE dX11_nonce_113 (fun l => c_s_findOwn l G c B S14 P q X v20 ) gX11_nonce_X10_findOwn rfl W20.o6 rfl (by decide +kernel) ⟨rfl, rfl, by decide, by decide⟩ (by decide) rfl rfl (Nat.le_of_ble_eq_true rfl) (⟨W20, hG, (by rw [show S14 0 = d from hS0]; exact hdN)⟩) (fun F21 q22 => ?_)
                obtain ⟨B23, Pf23, W23, hB23, hPf23, f23_0, P23⟩ := q22
                have O23 := O20.tr P23
                refine jr_aload_n hE dX11_nonce_116 0 rfl ?_
                refine jr_get hE dX11_nonce_117 f46 W23.o0 rfl ?_
                refine jr_iload_n hE dX11_nonce_120 2 rfl ?_
                have hv24 : v20 2 = (nI s.2.2.2.1.length) := (nv20 2 (by decide)).trans h2
                have hB25 : B23 (38 + 3 * u) = (s.2.2.2.1.getD u []) := (hB23 (38 + 3 * u) (by simp only [List.mem_cons, List.not_mem_nil, or_false, not_or]; omega)).trans ((hsg.2 u hu).1)
                refine jr_kVi (ci := 4) (n := 1) (As := [.int (nI u)]) (rest := []) hE dX11_nonce_121 (fun l => c_g_isOwn l G c B23 S14 Pf23 q X v20 u s.2.2.2.1.length) gX11_nonce_X4_isOwn rfl W23.o7 rfl (by decide +kernel) ⟨rfl, rfl, by decide, by decide⟩ (by decide) rfl rfl (Nat.le_of_ble_eq_true rfl) (⟨W23, hv24, hu, hs4⟩) (fun r28 F26 q27 => ?_)
                obtain ⟨eq27, rq27⟩ := q27
                subst eq27 rq27
                refine jr_if_ne (tgt := 130) hE dX11_nonce_124 (by decide) (fun c124 => ?_) (fun c124 => ?_)
                · have hown : pbE (emul PP d GE) = s.2.2.2.1.getD u [] := by have q := b2i_1 (p := B23 (38 + 3 * u) = B23 18) c124; rw [show B23 (38 + 3 * u) = s.2.2.2.1.getD u [] from hB25, show B23 18 = pbE (emul PP d GE) from (by have q := f23_0; rw [show S14 0 = d from hS0] at q; exact q)] at q; exact q.symm
                  refine jr_aload_n hE dX11_nonce_130 0 rfl ?_
                  refine jr_dup hE dX11_nonce_131 rfl ?_
                  refine jr_get hE dX11_nonce_132 f60 W23.o0 rfl ?_
                  rw [show v20 1 = (nI (s.2.2.1 + 1)) from yv20]
                  refine jr_aload_n hE dX11_nonce_135 0 rfl ?_
                  refine jr_get hE dX11_nonce_136 f46 W23.o0 rfl ?_
                  refine jr_get hE dX11_nonce_139 f167 W23.o7 rfl ?_
                  rw [show v20 2 = (nI s.2.2.2.1.length) from hv24]
                  refine jr_iadd (z := nI (s.2.2.1 + 1 + s.2.2.2.1.length)) hE dX11_nonce_142 (nI_add _ _) ?_
                  refine jr_put (ty := .int) hE dX11_nonce_143 f60 W23.o0 rfl (by decide +kernel) rfl rfl (Nat.le_of_ble_eq_true rfl) (fun F29 h29 u29 => ?_)
                  obtain ⟨W29, P29⟩ := W23.setV0 (v1 := (uz v20 1 (nI (s.2.2.1 + 1 + s.2.2.2.1.length)))) h29 (fun z hz => uz_n _ _ (jne hz 1 rfl)) u29
                  have O29 := O23.tr P29
                  obtain ⟨v29, ev29, hv29, yv29⟩ := uz_ab v20 1 (nI (s.2.2.1 + 1 + s.2.2.2.1.length))
                  rw [ev29] at W29
                  have nv29 : ∀ z, z ≠ 1 → v29 z = v20 z := fun z hz => hv29 z (fun e => hz (List.mem_singleton.mp e))
                  refine jr_aload_n hE dX11_nonce_146 0 rfl ?_
                  refine jr_get hE dX11_nonce_147 f46 W29.o0 rfl ?_
                  have hv30 : v29 2 = (nI s.2.2.2.1.length) := (nv29 2 (by decide)).trans hv24
                  refine jr_kVi (ci := 4) (n := 0) (As := []) (rest := []) hE dX11_nonce_150 (fun l => c_g_joinKeys l G c B23 S14 Pf23 q X v29 s.2.2.2.1) gX11_nonce_X4_joinKeys rfl W29.o7 rfl (by decide +kernel) ⟨rfl, rfl, by decide, by decide⟩ (by decide) rfl rfl (Nat.le_of_ble_eq_true rfl) (⟨W29, (fun t ht => by have h8 := hs4; rw [show B23 (38 + 3 * t) = B (38 + 3 * t) from (hB23 (38 + 3 * t) (by simp only [List.mem_cons, List.not_mem_nil, or_false, not_or]; omega))]; exact ⟨(hsg.2 t ht).1, (hsg.2 t ht).2.1⟩), hv30, hs4, (fun t ht => by have h8 := hs4; rw [show Pf23 (29 + 3 * t) = P (29 + 3 * t) from (hPf23 (29 + 3 * t) (by simp only [List.mem_cons, List.not_mem_nil, or_false, not_or]; omega))]; exact (hsg.2 t ht).2.2)⟩) (fun r33 F31 q32 => ?_)
                  obtain ⟨B34, S34, Pf34, v34, q34, W34, hB34, hS34, hPf34, hv34, f34_0, f34_1, r33e, P34⟩ := q32
                  subst r33e
                  have O34 := O29.tr P34
                  refine jr_if_ne (tgt := 159) hE dX11_nonce_153 (by decide) (fun c153 => ?_) (fun c153 => ?_)
                  · have hQ : (qSs s.2.2.2.1 s.2.2.2.1.length) ≠ none := b2i_1 c153
                    obtain ⟨j1, j2⟩ := f34_1 hQ
                    have hv4 : v34 4 = bi (oQ s) := j2.trans (bi_b2i _)
                    refine jr_aload_n hE dX11_nonce_159 0 rfl ?_
                    refine jr_dup hE dX11_nonce_160 rfl ?_
                    refine jr_get hE dX11_nonce_161 f60 W34.o0 rfl ?_
                    have hv35 : v34 1 = (nI (s.2.2.1 + 1 + s.2.2.2.1.length)) := (hv34 1 (by decide)).trans yv29
                    rw [show v34 1 = (nI (s.2.2.1 + 1 + s.2.2.2.1.length)) from hv35]
                    refine jr_iconst (v := (2 : Int32)) hE dX11_nonce_164 (by decide) ?_
                    refine jr_iadd (z := nI (s.2.2.1 + 1 + s.2.2.2.1.length + 2)) hE dX11_nonce_165 (nI_add _ 2) ?_
                    refine jr_put (ty := .int) hE dX11_nonce_166 f60 W34.o0 rfl (by decide +kernel) rfl rfl (Nat.le_of_ble_eq_true rfl) (fun F36 h36 u36 => ?_)
                    obtain ⟨W36, P36⟩ := W34.setV0 (v1 := (uz v34 1 (nI (s.2.2.1 + 1 + s.2.2.2.1.length + 2)))) h36 (fun z hz => uz_n _ _ (jne hz 1 rfl)) u36
                    have O36 := O34.tr P36
                    obtain ⟨v36, ev36, hv36, yv36⟩ := uz_ab v34 1 (nI (s.2.2.1 + 1 + s.2.2.2.1.length + 2))
                    rw [ev36] at W36
                    have nv36 : ∀ z, z ≠ 1 → v36 z = v34 z := fun z hz => hv36 z (fun e => hz (List.mem_singleton.mp e))
                    refine jr_aload_n hE dX11_nonce_169 0 rfl ?_
                    refine jr_get hE dX11_nonce_170 f46 W36.o0 rfl ?_
                    refine jr_iload_n hE dX11_nonce_173 2 rfl ?_
                    refine jr_aload_n hE dX11_nonce_174 0 rfl ?_
                    refine jr_get hE dX11_nonce_175 f11 W36.o0 rfl ?_
                    refine jr_iload hE dX11_nonce_178 4 rfl ?_
                    obtain ⟨fa37, ja37, ga37⟩ := W36.aR
                    refine jr_aald (v := c (270 + 2 * a1)) hE dX11_nonce_180 ja37 rfl (vp_in_nI (n := a1) (by omega) (by decide)) (by rw [nI_clamp (by omega)]; exact ga37 a1 (by omega)) ?_
                    refine jr_aload_n hE dX11_nonce_181 0 rfl ?_
                    refine jr_get hE dX11_nonce_182 f11 W36.o0 rfl ?_
                    refine jr_iload hE dX11_nonce_185 5 rfl ?_
                    obtain ⟨fa38, ja38, ga38⟩ := W36.aR
                    refine jr_aald (v := c (270 + 2 * a2)) hE dX11_nonce_187 ja38 rfl (vp_in_nI (n := a2) (by omega) (by decide)) (by rw [nI_clamp (by omega)]; exact ga38 a2 (by omega)) ?_
                    have hv39 : v36 2 = (nI s.2.2.2.1.length) := ((nv36 2 (by decide)).trans (hv34 2 (by decide))).trans hv30
                    have hS40 : S34 0 = d := (hS34 0 (by decide)).trans hS0
                    have hB41 : B34 18 = (pbE (emul PP d GE)) := (hB34 18 (by decide)).trans (by have q := f23_0; rw [show S14 0 = d from hS0] at q; exact q)
                    have hB42 : B34 a1 = (s.1 a1) := ((hB34 a1 (by simp only [List.mem_cons, List.not_mem_nil, or_false, not_or]; omega)).trans (hB23 a1 (by simp only [List.mem_cons, List.not_mem_nil, or_false, not_or]; omega))).trans (hRw a1 ha1)
                    have hB43 : B34 a2 = (s.1 a2) := ((hB34 a2 (by simp only [List.mem_cons, List.not_mem_nil, or_false, not_or]; omega)).trans (hB23 a2 (by simp only [List.mem_cons, List.not_mem_nil, or_false, not_or]; omega))).trans (hRw a2 ha2)
                    refine jr_kVi (ci := 4) (n := 3) (As := [.int (nI u), .ref (c (270 + 2 * a1)), .ref (c (270 + 2 * a2))]) (rest := []) hE dX11_nonce_188 (fun l => c_g_drawNonce l G c B34 S34 Pf34 q34 X v36 u s.2.2.2.1.length a1 a2 (exE (qSs s.2.2.2.1 s.2.2.2.1.length))) gX11_nonce_X4_drawNonce rfl W36.o7 rfl (by decide +kernel) ⟨rfl, rfl, by decide, by decide⟩ (by decide) rfl rfl (Nat.le_of_ble_eq_true rfl) (⟨W36, hv39, hu, hs4, ha1, ha2, (by rw [show B34 a1 = s.1 a1 from hB42]; omega), (by rw [show B34 a2 = s.1 a2 from hB43]; exact hl40), (by rw [show B34 18 = pbE (emul PP d GE) from hB41]; exact pbE_len _), j1⟩) (fun r46 F44 q45 => ?_)
                    obtain ⟨B47, S47, v47, q47, W47, hB47, hS47, hv47, f47_0, f47_1, r46e, P47⟩ := q45
                    subst r46e
                    have O47 := O36.tr P47
                    refine jr_if_ne (tgt := 197) hE dX11_nonce_191 (by decide) (fun c191 => ?_) (fun c191 => ?_)
                    · have hn0 : (noK (xorL (bex (S34 0) 32) (sha (sha (tgb 5) ++ sha (tgb 5) ++ B34 a1))) (B34 18) (exE (qSs s.2.2.2.1 s.2.2.2.1.length)) (B34 a2) 0) = (noN s d (s.1 a1) (s.1 a2) 0) := by
                        rw [show S34 0 = d from hS40, show B34 18 = pbE (emul PP d GE) from hB41, show B34 a1 = s.1 a1 from hB42, show B34 a2 = s.1 a2 from hB43]
                        rfl
                      have hn1 : (noK (xorL (bex (S34 0) 32) (sha (sha (tgb 5) ++ sha (tgb 5) ++ B34 a1))) (B34 18) (exE (qSs s.2.2.2.1 s.2.2.2.1.length)) (B34 a2) 1) = (noN s d (s.1 a1) (s.1 a2) 1) := by
                        rw [show S34 0 = d from hS40, show B34 18 = pbE (emul PP d GE) from hB41, show B34 a1 = s.1 a1 from hB42, show B34 a2 = s.1 a2 from hB43]
                        rfl
                      have hok := b2i_1 (p := (noK (xorL (bex (S34 0) 32) (sha (sha (tgb 5) ++ sha (tgb 5) ++ B34 a1))) (B34 18) (exE (qSs s.2.2.2.1 s.2.2.2.1.length)) (B34 a2) 0) ≠ 0 ∧ (noK (xorL (bex (S34 0) 32) (sha (sha (tgb 5) ++ sha (tgb 5) ++ B34 a1))) (B34 18) (exE (qSs s.2.2.2.1 s.2.2.2.1.length)) (B34 a2) 1) ≠ 0) c191
                      obtain ⟨g1, g2, g3⟩ := f47_0 hok
                      rw [hn0] at g1
                      rw [hn1] at g2
                      rw [hn0, hn1] at hok
                      refine jr_aload_n hE dX11_nonce_197 0 rfl ?_
                      refine jr_get hE dX11_nonce_198 f46 W47.o0 rfl ?_
                      refine jr_iload_n hE dX11_nonce_201 2 rfl ?_
                      refine jr_aload_n hE dX11_nonce_202 0 rfl ?_
                      refine jr_get hE dX11_nonce_203 f18 W47.o0 rfl ?_
                      have hv48 : v47 2 = (nI s.2.2.2.1.length) := (hv47 2 (by simp only [List.mem_cons, List.not_mem_nil, or_false, not_or]; omega)).trans hv39
                      have hp49 : rep (Pf34 16) GE := by rw [show Pf34 16 = P 16 from ((hPf34 16 (by decide)).trans (hPf23 16 (by decide)))]; exact hG
                      refine jr_kVv (ci := 4) (n := 2) (As := [.int (nI u), .ref (c (270 + 2 * 16))]) (rest := []) hE dX11_nonce_206 (fun l => c_g_tellNonce l G c B47 S47 Pf34 q47 X v47 u s.2.2.2.1.length) gX11_nonce_X4_tellNonce rfl W47.o7 rfl (by decide +kernel) ⟨rfl, rfl, by decide, by decide⟩ (by decide) rfl rfl (Nat.le_of_ble_eq_true rfl) (⟨W47, hv48, hu, hs4, (by rw [show S47 (19 + 3 * u) = (noN s d (s.1 a1) (s.1 a2) 0) from g1]; exact (show (noN s d (s.1 a1) (s.1 a2) 0) < NN from Nat.mod_lt _ NN0)), (by rw [show S47 (20 + 3 * u) = (noN s d (s.1 a1) (s.1 a2) 1) from g2]; exact (show (noN s d (s.1 a1) (s.1 a2) 1) < NN from Nat.mod_lt _ NN0)), hp49⟩) (fun F50 q51 => ?_)
                      obtain ⟨B52, Pf52, W52, hB52, hPf52, f52_0, f52_1, P52⟩ := q51
                      have O52 := O47.tr P52
                      have g520 := f52_0
                      rw [show S47 (19 + 3 * u) = (noN s d (s.1 a1) (s.1 a2) 0) from g1, show S47 (20 + 3 * u) = (noN s d (s.1 a1) (s.1 a2) 1) from g2] at g520
                      have g521 := f52_1
                      rw [show S47 (19 + 3 * u) = (noN s d (s.1 a1) (s.1 a2) 0) from g1, show S47 (20 + 3 * u) = (noN s d (s.1 a1) (s.1 a2) 1) from g2] at g521
                      refine jr_aload_n hE dX11_nonce_209 0 rfl ?_
                      refine jr_iload_n hE dX11_nonce_210 1 rfl ?_
                      have hv53 : v47 1 = (nI (s.2.2.1 + 1 + s.2.2.2.1.length + 2)) := (hv47 1 (by simp only [List.mem_cons, List.not_mem_nil, or_false, not_or]; omega)).trans yv36
                      have hv54 : v47 4 = (bi (oQ s)) := ((hv47 4 (by simp only [List.mem_cons, List.not_mem_nil, or_false, not_or]; omega)).trans (nv36 4 (by decide))).trans hv4
                      have hNew : ncC B52 S47 v47 (fun t => if t = u then some ((noN s d (s.1 a1) (s.1 a2) 0), (noN s d (s.1 a1) (s.1 a2) 1), (noL s d (s.1 a1) (s.1 a2))) else s.2.2.2.2.1 t) s.2.2.2.1.length := by
                        intro x1 hx1
                        show (s.2.2.2.1.length ≤ x1 → (if x1 = u then some ((noN s d (s.1 a1) (s.1 a2) 0), (noN s d (s.1 a1) (s.1 a2) 1), (noL s d (s.1 a1) (s.1 a2))) else s.2.2.2.2.1 x1) = none) ∧ v47 (6 + 2 * x1) = bi (if x1 = u then some ((noN s d (s.1 a1) (s.1 a2) 0), (noN s d (s.1 a1) (s.1 a2) 1), (noL s d (s.1 a1) (s.1 a2))) else s.2.2.2.2.1 x1).isSome ∧ ∀ y, (if x1 = u then some ((noN s d (s.1 a1) (s.1 a2) 0), (noN s d (s.1 a1) (s.1 a2) 1), (noL s d (s.1 a1) (s.1 a2))) else s.2.2.2.2.1 x1) = some y → S47 (19 + 3 * x1) = y.1 ∧ S47 (20 + 3 * x1) = y.2.1 ∧ B52 (39 + 3 * x1) = y.2.2 ∧ y.1 < NN ∧ y.2.1 < NN
                        by_cases e : x1 = u
                        · rw [if_pos e, e]
                          exact ⟨fun g => absurd g (by omega), g3, fun y hy => by cases hy; exact ⟨g1, g2, g520, (show (noN s d (s.1 a1) (s.1 a2) 0) < NN from Nat.mod_lt _ NN0), (show (noN s d (s.1 a1) (s.1 a2) 1) < NN from Nat.mod_lt _ NN0)⟩⟩
                        · rw [if_neg e]
                          have q := hnc x1 hx1
                          rw [show v47 (6 + 2 * x1) = v (6 + 2 * x1) from ((hv47 (6 + 2 * x1) (by simp only [List.mem_cons, List.not_mem_nil, or_false, not_or]; omega)).trans ((nv36 (6 + 2 * x1) (by omega)).trans ((hv34 (6 + 2 * x1) (by simp only [List.mem_cons, List.not_mem_nil, or_false, not_or]; omega)).trans ((nv29 (6 + 2 * x1) (by omega)).trans (nv20 (6 + 2 * x1) (by omega)))))), show S47 (19 + 3 * x1) = S (19 + 3 * x1) from ((hS47 (19 + 3 * x1) (by simp only [List.mem_cons, List.not_mem_nil, or_false, not_or]; omega)).trans ((hS34 (19 + 3 * x1) (by simp only [List.mem_cons, List.not_mem_nil, or_false, not_or]; omega)).trans (hS14 (19 + 3 * x1) (by simp only [List.mem_cons, List.not_mem_nil, or_false, not_or]; omega)))), show S47 (20 + 3 * x1) = S (20 + 3 * x1) from ((hS47 (20 + 3 * x1) (by simp only [List.mem_cons, List.not_mem_nil, or_false, not_or]; omega)).trans ((hS34 (20 + 3 * x1) (by simp only [List.mem_cons, List.not_mem_nil, or_false, not_or]; omega)).trans (hS14 (20 + 3 * x1) (by simp only [List.mem_cons, List.not_mem_nil, or_false, not_or]; omega)))), show B52 (39 + 3 * x1) = B (39 + 3 * x1) from ((hB52 (39 + 3 * x1) (by simp only [List.mem_cons, List.not_mem_nil, or_false, not_or]; omega)).trans ((hB47 (39 + 3 * x1) (by simp only [List.mem_cons, List.not_mem_nil, or_false, not_or]; omega)).trans ((hB34 (39 + 3 * x1) (by simp only [List.mem_cons, List.not_mem_nil, or_false, not_or]; omega)).trans (hB23 (39 + 3 * x1) (by simp only [List.mem_cons, List.not_mem_nil, or_false, not_or]; omega)))))]
                          exact q
                      have hJ := hI.nc (k := s.2.2.1 + 1 + s.2.2.2.1.length + 2) W52 (fun z hz => ((hB52 z (by (try simp only [List.mem_cons, List.not_mem_nil, or_false, not_or] at hz ⊢); omega)).trans ((hB47 z (by (try simp only [List.mem_cons, List.not_mem_nil, or_false, not_or] at hz ⊢); omega)).trans ((hB34 z (by (try simp only [List.mem_cons, List.not_mem_nil, or_false, not_or] at hz ⊢); omega)).trans (hB23 z (by (try simp only [List.mem_cons, List.not_mem_nil, or_false, not_or] at hz ⊢); omega)))))) (fun z hz => ((hS47 z (by (try simp only [List.mem_cons, List.not_mem_nil, or_false, not_or] at hz ⊢); omega)).trans ((hS34 z (by (try simp only [List.mem_cons, List.not_mem_nil, or_false, not_or] at hz ⊢); omega)).trans (hS14 z (by (try simp only [List.mem_cons, List.not_mem_nil, or_false, not_or] at hz ⊢); omega))))) (fun z hz => ((hPf52 z (by (try simp only [List.mem_cons, List.not_mem_nil, or_false, not_or] at hz ⊢); omega)).trans ((hPf34 z (by (try simp only [List.mem_cons, List.not_mem_nil, or_false, not_or] at hz ⊢); omega)).trans (hPf23 z (by (try simp only [List.mem_cons, List.not_mem_nil, or_false, not_or] at hz ⊢); omega))))) (fun z hz => ((hv47 z (by (try simp only [List.mem_cons, List.not_mem_nil, or_false, not_or] at hz ⊢); omega)).trans ((nv36 z (by (try simp only [List.mem_cons, List.not_mem_nil, or_false, not_or] at hz); omega)).trans ((hv34 z (by (try simp only [List.mem_cons, List.not_mem_nil, or_false, not_or] at hz ⊢); omega)).trans ((nv29 z (by (try simp only [List.mem_cons, List.not_mem_nil, or_false, not_or] at hz); omega)).trans (nv20 z (by (try simp only [List.mem_cons, List.not_mem_nil, or_false, not_or] at hz); omega))))))) hv53 (by omega) hNew (fun _ => ⟨fun t ht => ((hS47 (18 + 3 * t) (by simp only [List.mem_cons, List.not_mem_nil, or_false, not_or]; omega))).trans (f34_0 t ht), hv54⟩)
                      refine jr_kVi (ci := 11) (n := 1) (As := [.int (nI k)]) (rest := []) hE dX11_nonce_211 (fun l => c_c_answerIn l G c B52 S47 Pf52 q47 X v47 k) gX11_nonce_X11_answerIn rfl W52.o0 rfl (by decide +kernel) ⟨rfl, rfl, by decide, by decide⟩ (by decide) rfl rfl (Nat.le_of_ble_eq_true rfl) (⟨W52, hk⟩) (fun r57 F55 q56 => ?_)
                      obtain ⟨B58, W58, hB58, f58_0, r57e, P58⟩ := q56
                      subst r57e
                      have O58 := O52.tr P58
                      have e : stNonC s (nI k) (nI u) (nI p1) (nI a1) (nI a2) = (66, setN (setK (setR s k (noL s d (s.1 a1) (s.1 a2))) (s.2.2.1 + 1 + s.2.2.2.1.length + 2)) (fun t => if t = u then some ((noN s d (s.1 a1) (s.1 a2) 0), (noN s d (s.1 a1) (s.1 a2) 1), (noL s d (s.1 a1) (s.1 a2))) else s.2.2.2.2.1 t)) := by
                        unfold stNonC
                        rw [if_pos ⟨nI_rowP hk, hmu, nI_rowP hp1, nI_rowP ha1, nI_rowP ha2⟩, hrnk, hrnu, hrnp1, hrna1, hrna2]
                        unfold stNoC1
                        rw [if_pos ⟨hs, hl32, hl40⟩, if_neg hw48, if_pos (by rw [← hd]; exact hown), ← hd, if_neg hQ, if_neg (fun q => q.elim hok.1 hok.2)]
                      exact hR F55 _ _ _ dX11_nonce_214 rfl ⟨_, _, _, _, _, _, by rw [e]; exact hJ.row W58 hk (fun z hz => hB58 z (fun q => hz (List.mem_singleton.mp q))) (f58_0.trans g521), by rw [e, show B52 16 = (noL s d (s.1 a1) (s.1 a2)) from g521, noL_len]; rfl, O58⟩
                    · have hn0 : (noK (xorL (bex (S34 0) 32) (sha (sha (tgb 5) ++ sha (tgb 5) ++ B34 a1))) (B34 18) (exE (qSs s.2.2.2.1 s.2.2.2.1.length)) (B34 a2) 0) = (noN s d (s.1 a1) (s.1 a2) 0) := by
                        rw [show S34 0 = d from hS40, show B34 18 = pbE (emul PP d GE) from hB41, show B34 a1 = s.1 a1 from hB42, show B34 a2 = s.1 a2 from hB43]
                        rfl
                      have hn1 : (noK (xorL (bex (S34 0) 32) (sha (sha (tgb 5) ++ sha (tgb 5) ++ B34 a1))) (B34 18) (exE (qSs s.2.2.2.1 s.2.2.2.1.length)) (B34 a2) 1) = (noN s d (s.1 a1) (s.1 a2) 1) := by
                        rw [show S34 0 = d from hS40, show B34 18 = pbE (emul PP d GE) from hB41, show B34 a1 = s.1 a1 from hB42, show B34 a2 = s.1 a2 from hB43]
                        rfl
                      have hnk := b2i_0 (p := (noK (xorL (bex (S34 0) 32) (sha (sha (tgb 5) ++ sha (tgb 5) ++ B34 a1))) (B34 18) (exE (qSs s.2.2.2.1 s.2.2.2.1.length)) (B34 a2) 0) ≠ 0 ∧ (noK (xorL (bex (S34 0) 32) (sha (sha (tgb 5) ++ sha (tgb 5) ++ B34 a1))) (B34 18) (exE (qSs s.2.2.2.1 s.2.2.2.1.length)) (B34 a2) 1) ≠ 0) c191
                      obtain ⟨g1, g2, g3⟩ := f47_1 hnk
                      rw [hn0, hn1] at hnk
                      have hor : (noN s d (s.1 a1) (s.1 a2) 0) = 0 ∨ (noN s d (s.1 a1) (s.1 a2) 1) = 0 := by
                        rcases Nat.eq_zero_or_pos (noN s d (s.1 a1) (s.1 a2) 0) with q | q
                        · exact .inl q
                        · rcases Nat.eq_zero_or_pos (noN s d (s.1 a1) (s.1 a2) 1) with q2 | q2
                          · exact .inr q2
                          · exact absurd ⟨Nat.ne_of_gt q, Nat.ne_of_gt q2⟩ hnk
                      refine jr_bipush (v := (-2 : Int32)) hE dX11_nonce_194 (by decide) ?_
                      have hSn : ∀ z, z ∉ [0, 1, 2, 3, 4, 7, 8, 9, 11, 13, 15, 17, 18, 21, 24, 27] → S47 z = S z := by
                        intro z hz
                        by_cases e : z = 19 + 3 * u
                        · rw [e, g1]; exact ((hS34 (19 + 3 * u) (by simp only [List.mem_cons, List.not_mem_nil, or_false, not_or]; omega)).trans (hS14 (19 + 3 * u) (by simp only [List.mem_cons, List.not_mem_nil, or_false, not_or]; omega)))
                        · by_cases e2 : z = 20 + 3 * u
                          · rw [e2, g2]; exact ((hS34 (20 + 3 * u) (by simp only [List.mem_cons, List.not_mem_nil, or_false, not_or]; omega)).trans (hS14 (20 + 3 * u) (by simp only [List.mem_cons, List.not_mem_nil, or_false, not_or]; omega)))
                          · exact ((hS47 z (by (try simp only [List.mem_cons, List.not_mem_nil, or_false, not_or] at hz ⊢); omega)).trans ((hS34 z (by (try simp only [List.mem_cons, List.not_mem_nil, or_false, not_or] at hz ⊢); omega)).trans (hS14 z (by (try simp only [List.mem_cons, List.not_mem_nil, or_false, not_or] at hz ⊢); omega))))
                      have hvn : ∀ z, z ∉ [1, 4] → v47 z = v z := by
                        intro z hz
                        by_cases e : z = 6 + 2 * u
                        · rw [e, g3]; exact ((nv36 (6 + 2 * u) (by omega)).trans ((hv34 (6 + 2 * u) (by simp only [List.mem_cons, List.not_mem_nil, or_false, not_or]; omega)).trans ((nv29 (6 + 2 * u) (by omega)).trans (nv20 (6 + 2 * u) (by omega)))))
                        · exact ((hv47 z (by (try simp only [List.mem_cons, List.not_mem_nil, or_false, not_or] at hz ⊢); omega)).trans ((nv36 z (by (try simp only [List.mem_cons, List.not_mem_nil, or_false, not_or] at hz); omega)).trans ((hv34 z (by (try simp only [List.mem_cons, List.not_mem_nil, or_false, not_or] at hz ⊢); omega)).trans ((nv29 z (by (try simp only [List.mem_cons, List.not_mem_nil, or_false, not_or] at hz); omega)).trans (nv20 z (by (try simp only [List.mem_cons, List.not_mem_nil, or_false, not_or] at hz); omega))))))
                      have hv59 : v47 1 = (nI (s.2.2.1 + 1 + s.2.2.2.1.length + 2)) := (hv47 1 (by simp only [List.mem_cons, List.not_mem_nil, or_false, not_or]; omega)).trans yv36
                      have hv60 : v47 4 = (bi (oQ s)) := ((hv47 4 (by simp only [List.mem_cons, List.not_mem_nil, or_false, not_or]; omega)).trans (nv36 4 (by decide))).trans hv4
                      have e : stNonC s (nI k) (nI u) (nI p1) (nI a1) (nI a2) = (-2, setK s (s.2.2.1 + 1 + s.2.2.2.1.length + 2)) := by
                        unfold stNonC
                        rw [if_pos ⟨nI_rowP hk, hmu, nI_rowP hp1, nI_rowP ha1, nI_rowP ha2⟩, hrnk, hrnu, hrnp1, hrna1, hrna2]
                        unfold stNoC1
                        rw [if_pos ⟨hs, hl32, hl40⟩, if_neg hw48, if_pos (by rw [← hd]; exact hown), ← hd, if_neg hQ, if_pos hor]
                      exact hR F44 _ _ _ dX11_nonce_196 rfl ⟨_, _, _, _, _, _, by rw [e]; exact hI.updG (k := s.2.2.1 + 1 + s.2.2.2.1.length + 2) W47 (fun z hz => ((hB47 z (by simp only [List.mem_cons, List.not_mem_nil, or_false, not_or] at hz ⊢; omega)).trans ((hB34 z (by simp only [List.mem_cons, List.not_mem_nil, or_false, not_or] at hz ⊢; omega)).trans (hB23 z (by simp only [List.mem_cons, List.not_mem_nil, or_false, not_or] at hz ⊢; omega))))) hSn (fun z hz => ((hPf34 z (by simp only [List.mem_cons, List.not_mem_nil, or_false, not_or] at hz ⊢; omega)).trans (hPf23 z (by simp only [List.mem_cons, List.not_mem_nil, or_false, not_or] at hz ⊢; omega)))) hvn hv59 (by omega) (fun _ => ⟨fun t ht => ((hS47 (18 + 3 * t) (by simp only [List.mem_cons, List.not_mem_nil, or_false, not_or]; omega))).trans (f34_0 t ht), hv60⟩), by rw [e], O47⟩
                  · refine jr_bipush (v := (-2 : Int32)) hE dX11_nonce_156 (by decide) ?_
                    have hv61 : v34 1 = (nI (s.2.2.1 + 1 + s.2.2.2.1.length)) := (hv34 1 (by decide)).trans yv29
                    have e : stNonC s (nI k) (nI u) (nI p1) (nI a1) (nI a2) = (-2, setK s (s.2.2.1 + 1 + s.2.2.2.1.length)) := by
                      unfold stNonC
                      rw [if_pos ⟨nI_rowP hk, hmu, nI_rowP hp1, nI_rowP ha1, nI_rowP ha2⟩, hrnk, hrnu, hrnp1, hrna1, hrna2]
                      unfold stNoC1
                      rw [if_pos ⟨hs, hl32, hl40⟩, if_neg hw48, if_pos (by rw [← hd]; exact hown), if_pos (Classical.byContradiction (fun h => b2i_0 c153 h))]
                    exact hR F31 _ _ _ dX11_nonce_158 rfl ⟨_, _, _, _, _, _, by rw [e]; exact hI.updG (k := s.2.2.1 + 1 + s.2.2.2.1.length) W34 (fun z hz => ((hB34 z (by simp only [List.mem_cons, List.not_mem_nil, or_false, not_or] at hz ⊢; omega)).trans (hB23 z (by simp only [List.mem_cons, List.not_mem_nil, or_false, not_or] at hz ⊢; omega)))) (fun z hz => ((hS34 z (by simp only [List.mem_cons, List.not_mem_nil, or_false, not_or] at hz ⊢; omega)).trans (hS14 z (by simp only [List.mem_cons, List.not_mem_nil, or_false, not_or] at hz ⊢; omega)))) (fun z hz => ((hPf34 z (by simp only [List.mem_cons, List.not_mem_nil, or_false, not_or] at hz ⊢; omega)).trans (hPf23 z (by simp only [List.mem_cons, List.not_mem_nil, or_false, not_or] at hz ⊢; omega)))) (fun z hz => ((hv34 z (by simp only [List.mem_cons, List.not_mem_nil, or_false, not_or] at hz ⊢; omega)).trans ((nv29 z (by simp only [List.mem_cons, List.not_mem_nil, or_false, not_or] at hz; omega)).trans (nv20 z (by simp only [List.mem_cons, List.not_mem_nil, or_false, not_or] at hz; omega))))) hv61 (by omega) (fun hn => absurd (hI.jne hn) (fun h => b2i_0 c153 h)), by rw [e], O34⟩
                · refine jr_bipush (v := (-2 : Int32)) hE dX11_nonce_127 (by decide) ?_
                  have hown : ¬ pbE (emul PP d GE) = s.2.2.2.1.getD u [] := fun h => b2i_0 (p := B23 (38 + 3 * u) = B23 18) c124 (by rw [show B23 (38 + 3 * u) = s.2.2.2.1.getD u [] from hB25, show B23 18 = pbE (emul PP d GE) from (by have q := f23_0; rw [show S14 0 = d from hS0] at q; exact q)]; exact h.symm)
                  have e : stNonC s (nI k) (nI u) (nI p1) (nI a1) (nI a2) = (-2, setK s (s.2.2.1 + 1)) := by
                    unfold stNonC
                    rw [if_pos ⟨nI_rowP hk, hmu, nI_rowP hp1, nI_rowP ha1, nI_rowP ha2⟩, hrnk, hrnu, hrnp1, hrna1, hrna2]
                    unfold stNoC1
                    rw [if_pos ⟨hs, hl32, hl40⟩, if_neg hw48, if_neg (by rw [← hd]; exact hown)]
                  exact hR F21 _ _ _ dX11_nonce_129 rfl ⟨_, _, _, _, _, _, by rw [e]; exact hI.upd (k := s.2.2.1 + 1) W23 (fun z hz => (hB23 z (by simp only [List.mem_cons, List.not_mem_nil, or_false, not_or] at hz ⊢; omega))) (fun z hz => (hS14 z (by simp only [List.mem_cons, List.not_mem_nil, or_false, not_or] at hz ⊢; omega))) (fun z hz => (hPf23 z (by simp only [List.mem_cons, List.not_mem_nil, or_false, not_or] at hz ⊢; omega))) (fun z hz => (nv20 z hz)) yv20 (by omega), by rw [e], O23⟩
              · refine jr_bipush (v := (-5 : Int32)) hE dX11_nonce_96 (by decide) ?_
                have e : stNonC s (nI k) (nI u) (nI p1) (nI a1) (nI a2) = (-5, s) := by
                  unfold stNonC
                  rw [if_pos ⟨nI_rowP hk, hmu, nI_rowP hp1, nI_rowP ha1, nI_rowP ha2⟩, hrnk, hrnu, hrnp1, hrna1, hrna2]
                  unfold stNoC1
                  rw [if_pos ⟨hs, hl32, hl40⟩, if_pos (b2i_1 (p := 48 < s.2.2.1 + (3 + s.2.2.2.1.length)) c93)]
                exact hR F11 _ _ _ dX11_nonce_98 rfl ⟨_, _, _, _, _, _, by rw [e]; exact hI.upd (k := s.2.2.1) W14 (fun z hz => rfl) (fun z hz => (hS14 z (by simp only [List.mem_cons, List.not_mem_nil, or_false, not_or] at hz ⊢; omega))) (fun z hz => rfl) (fun z hz => rfl) hwk.1 (hwk.2), by rw [e], O14⟩
            · refine jr_bipush (v := (-2 : Int32)) hE dX11_nonce_77 (by decide) ?_
              have e : stNonC s (nI k) (nI u) (nI p1) (nI a1) (nI a2) = (-2, s) := by
                unfold stNonC
                rw [if_pos ⟨nI_rowP hk, hmu, nI_rowP hp1, nI_rowP ha1, nI_rowP ha2⟩, hrnk, hrnu, hrnp1, hrna1, hrna2]
                unfold stNoC1
                rw [if_neg (fun h => c74 (nI_le (b := 40) h.2.2 (by decide)))]
              exact hR F11 _ _ _ dX11_nonce_79 rfl ⟨_, _, _, _, _, _, by rw [e]; exact hI.upd (k := s.2.2.1) W14 (fun z hz => rfl) (fun z hz => (hS14 z (by simp only [List.mem_cons, List.not_mem_nil, or_false, not_or] at hz ⊢; omega))) (fun z hz => rfl) (fun z hz => rfl) hwk.1 (hwk.2), by rw [e], O14⟩
      · refine jr_iconst (v := (-1 : Int32)) hE dX11_nonce_29 (by decide) ?_
        have e : stNonC s (nI k) j (nI p1) (nI a1) (nI a2) = (-1, s) := by
          unfold stNonC
          rw [if_neg (fun h => absurd (b2i_t h.2.1) (by rw [c26]; decide))]
        exact hR F _ _ _ dX11_nonce_30 rfl ⟨B, S, P, q, X, v, by rw [e]; exact hI, by rw [e], cO.rf c F⟩

set_option maxHeartbeats 4000000 in
set_option maxRecDepth 100000 in
theorem c_c_session (l : Launch) (G : Nat → ClassId) (c : Nat → Nat) (B : Nat → List Nat) (S : Nat → Nat) (P : Nat → JP) (q : SS) (X : Nat) (v : Nat → Int32) (s : ST) (m : Int32) : jKi l yX11_session wsX11_session ({ frames := 7, cells := 0, slots := 0, locals := 189 }) G [.ref (c 0), .int m] (fun L F => cI G L F c B S P q X v s) (fun L F ans F1 => ∃ B1 S1 P1 q1 X1 v1, cI G L F1 c B1 S1 P1 q1 X1 v1 (stSess s m).2 ∧ ans = (stSess s m).1 ∧ cO c F F1) := by
  refine jm_ki (cc := cX11_session) (maxL := 2) (rt := .int) (by decide) rfl (Nat.le_of_ble_eq_true rfl) ?_
  intro E L F hE hR hpre
  have hE : jOk E G _ cX11_session 2 RX11 wsX11_session := hE
  have hI := hpre
  obtain ⟨W0, hG, hRw, h0, hen, hwk, h2, hsg, hnc, htd, hse⟩ := id hpre
  have hwk48 := hwk.2
  have hs4 := hsg.1
  have hen4 := hen.1
  have f11 : jFl RX11 wsX11_session 11 11 0 := ⟨rfl, by decide, by decide +kernel, by decide +kernel⟩
  have f68 : jFl RX11 wsX11_session 68 0 1 := ⟨rfl, by decide, by decide +kernel, by decide +kernel⟩
  have f46 : jFl RX11 wsX11_session 46 11 4 := ⟨rfl, by decide, by decide +kernel, by decide +kernel⟩
  have f167 : jFl RX11 wsX11_session 167 4 0 := ⟨rfl, by decide, by decide +kernel, by decide +kernel⟩
  have f60 : jFl RX11 wsX11_session 60 11 7 := ⟨rfl, by decide, by decide +kernel, by decide +kernel⟩
  refine jr_iload_n hE dX11_session_0 1 rfl ?_
  refine jr_kSi (n := 1) (As := [.int m]) (rest := []) hE dX11_session_1 (fun l => c_c_isRow l G m) gX11_session_X11_isRow rfl (by decide +kernel) ⟨rfl, rfl, by decide, by decide⟩ (by decide) rfl rfl (Nat.le_of_ble_eq_true rfl) (trivial) (fun r3 F1 q2 => ?_)
  obtain ⟨eq2, rq2⟩ := q2
  subst eq2 rq2
  refine jr_if_ne (tgt := 9) hE dX11_session_4 (by decide) (fun c4 => ?_) (fun c4 => ?_)
  · have hrk : rowP m := b2i_1 c4
    obtain ⟨k, hk, rfl⟩ := rowP_nI hrk
    have hrnk := nI_rn hk
    have hlk : (s.1 k).length ≤ 100 := by rw [← hRw k hk]; have q := W0.cp k (by omega); rw [bcr (by omega)] at q; exact q
    refine jr_aload_n hE dX11_session_9 0 rfl ?_
    refine jr_get hE dX11_session_10 f11 W0.o0 rfl ?_
    refine jr_iload_n hE dX11_session_13 1 rfl ?_
    obtain ⟨fa4, ja4, ga4⟩ := W0.aR
    refine jr_aald (v := c (270 + 2 * k)) hE dX11_session_14 ja4 rfl (vp_in_nI (n := k) (by omega) (by decide)) (by rw [nI_clamp (by omega)]; exact ga4 k (by omega)) ?_
    refine jr_get hE dX11_session_15 f68 (W0.by k (by omega)).ob rfl ?_
    rw [show B k = (s.1 k) from (hRw k hk)]
    refine jr_bipush (v := (40 : Int32)) hE dX11_session_18 (by decide) ?_
    refine jr_icmp_gt (tgt := 50) hE dX11_session_20 (by decide) (fun c20 => ?_) (fun c20 => ?_)
    · refine jr_bipush (v := (-2 : Int32)) hE dX11_session_50 (by decide) ?_
      have e : stSess s (nI k) = (-2, s) := by
        unfold stSess
        rw [if_pos (nI_rowP hk), hrnk, if_neg (fun h => absurd (nI_le (b := 40) h.1.1 (by decide)) (Int32.not_le.mpr c20))]
      exact hR F _ _ _ dX11_session_52 rfl ⟨B, S, P, q, X, v, by rw [e]; exact hI, by rw [e], cO.rf c F⟩
    · have hl40 : (s.1 k).length ≤ 40 := nI_leC (m := 40) (by omega) (by decide) (Int32.not_lt.mp c20)
      refine jr_aload_n hE dX11_session_23 0 rfl ?_
      refine jr_get hE dX11_session_24 f46 W0.o0 rfl ?_
      refine jr_get hE dX11_session_27 f167 W0.o7 rfl ?_
      rw [show v 2 = (nI s.2.2.2.1.length) from h2]
      refine jr_if_eq (tgt := 50) hE dX11_session_30 (by decide) (fun c30 => ?_) (fun c30 => ?_)
      · refine jr_bipush (v := (-2 : Int32)) hE dX11_session_50 (by decide) ?_
        have e : stSess s (nI k) = (-2, s) := by
          unfold stSess
          rw [if_pos (nI_rowP hk), hrnk, if_neg (fun h => by have q := (nI_eq (b := 0) (by omega) (by decide)).mp c30; have := h.1.2; omega)]
        exact hR F _ _ _ dX11_session_52 rfl ⟨B, S, P, q, X, v, by rw [e]; exact hI, by rw [e], cO.rf c F⟩
      · have hpos : 0 < s.2.2.2.1.length := Nat.pos_of_ne_zero (fun h => c30 ((nI_eq (b := 0) (by omega) (by decide)).mpr h))
        have hcl := cnt_le (fun j => (s.2.2.2.2.2.1 j).isSome) 4
        have hca := cnt_all (f := fun j => (s.2.2.2.2.2.1 j).isSome) hs4 (fun j h1 h2 => by show (s.2.2.2.2.2.1 j).isSome = false; rw [(htd j h2).1 h1]; rfl)
        refine jr_aload_n hE dX11_session_33 0 rfl ?_
        refine jr_get hE dX11_session_34 f46 W0.o0 rfl ?_
        refine jr_kVi (ci := 4) (n := 0) (As := []) (rest := []) hE dX11_session_37 (fun l => c_g_countTold l G c B S P q X v (fun j => (s.2.2.2.2.2.1 j).isSome)) gX11_session_X4_countTold rfl W0.o7 rfl (by decide +kernel) ⟨rfl, rfl, by decide, by decide⟩ (by decide) rfl rfl (Nat.le_of_ble_eq_true rfl) (⟨W0, fun j hj => (htd j hj).2.1⟩) (fun r7 F5 q6 => ?_)
        obtain ⟨eq6, rq6⟩ := q6
        subst eq6 rq6
        refine jr_aload_n hE dX11_session_40 0 rfl ?_
        refine jr_get hE dX11_session_41 f46 W0.o0 rfl ?_
        refine jr_get hE dX11_session_44 f167 W0.o7 rfl ?_
        rw [show v 2 = (nI s.2.2.2.1.length) from h2]
        refine jr_icmp_ge (tgt := 53) hE dX11_session_47 (by decide) (fun c47 => ?_) (fun c47 => ?_)
        · have hT : ∀ t, t < s.2.2.2.1.length → s.2.2.2.2.2.1 t ≠ none := fun t ht => Option.isSome_iff_ne_none.mp (hca.mp (nI_leC (by omega) (by omega) c47) t ht)
          have hcond : ((s.1 k).length ≤ 40 ∧ 0 < s.2.2.2.1.length) ∧ ∀ t, t < s.2.2.2.1.length → s.2.2.2.2.2.1 t ≠ none := ⟨⟨hl40, hpos⟩, hT⟩
          refine jr_aload_n hE dX11_session_53 0 rfl ?_
          refine jr_iconst (v := (1 : Int32)) hE dX11_session_54 (by decide) ?_
          refine jr_aload_n hE dX11_session_55 0 rfl ?_
          refine jr_get hE dX11_session_56 f46 W0.o0 rfl ?_
          refine jr_get hE dX11_session_59 f167 W0.o7 rfl ?_
          rw [show v 2 = (nI s.2.2.2.1.length) from h2]
          refine jr_iadd (z := nI (1 + s.2.2.2.1.length)) hE dX11_session_62 (nI_add 1 _) ?_
          refine jr_kVi (ci := 11) (n := 1) (As := [.int (nI (1 + s.2.2.2.1.length))]) (rest := []) hE dX11_session_63 (fun l => c_c_wouldPass l G c B S P q X v s.2.2.1 (1 + s.2.2.2.1.length)) gX11_session_X11_wouldPass rfl W0.o0 rfl (by decide +kernel) ⟨rfl, rfl, by decide, by decide⟩ (by decide) rfl rfl (Nat.le_of_ble_eq_true rfl) (⟨W0, hwk.1, by omega, by omega⟩) (fun r10 F8 q9 => ?_)
          obtain ⟨eq9, rq9⟩ := q9
          subst eq9 rq9
          refine jr_if_eq (tgt := 72) hE dX11_session_66 (by decide) (fun c66 => ?_) (fun c66 => ?_)
          · have hw48 : ¬ 48 < s.2.2.1 + (1 + s.2.2.2.1.length) := b2i_0 c66
            refine jr_aload_n hE dX11_session_72 0 rfl ?_
            refine jr_dup hE dX11_session_73 rfl ?_
            refine jr_get hE dX11_session_74 f60 W0.o0 rfl ?_
            rw [show v 1 = (nI s.2.2.1) from hwk.1]
            refine jr_aload_n hE dX11_session_77 0 rfl ?_
            refine jr_get hE dX11_session_78 f46 W0.o0 rfl ?_
            refine jr_get hE dX11_session_81 f167 W0.o7 rfl ?_
            rw [show v 2 = (nI s.2.2.2.1.length) from h2]
            refine jr_iadd (z := nI (s.2.2.1 + s.2.2.2.1.length)) hE dX11_session_84 (nI_add _ _) ?_
            refine jr_put (ty := .int) hE dX11_session_85 f60 W0.o0 rfl (by decide +kernel) rfl rfl (Nat.le_of_ble_eq_true rfl) (fun F11 h11 u11 => ?_)
            obtain ⟨W11, P11⟩ := W0.setV0 (v1 := (uz v 1 (nI (s.2.2.1 + s.2.2.2.1.length)))) h11 (fun z hz => uz_n _ _ (jne hz 1 rfl)) u11
            have O11 := (cO.rf c F).tr P11
            obtain ⟨v11, ev11, hv11, yv11⟩ := uz_ab v 1 (nI (s.2.2.1 + s.2.2.2.1.length))
            rw [ev11] at W11
            have nv11 : ∀ z, z ≠ 1 → v11 z = v z := fun z hz => hv11 z (fun e => hz (List.mem_singleton.mp e))
            refine jr_aload_n hE dX11_session_88 0 rfl ?_
            refine jr_get hE dX11_session_89 f46 W11.o0 rfl ?_
            have hv12 : v11 2 = (nI s.2.2.2.1.length) := (nv11 2 (by decide)).trans h2
            refine jr_kVi (ci := 4) (n := 0) (As := []) (rest := []) hE dX11_session_92 (fun l => c_g_joinKeys l G c B S P q X v11 s.2.2.2.1) gX11_session_X4_joinKeys rfl W11.o7 rfl (by decide +kernel) ⟨rfl, rfl, by decide, by decide⟩ (by decide) rfl rfl (Nat.le_of_ble_eq_true rfl) (⟨W11, (fun t ht => by have h8 := hs4; rw [show B (38 + 3 * t) = B (38 + 3 * t) from rfl]; exact ⟨(hsg.2 t ht).1, (hsg.2 t ht).2.1⟩), hv12, hs4, (fun t ht => by have h8 := hs4; rw [show P (29 + 3 * t) = P (29 + 3 * t) from rfl]; exact (hsg.2 t ht).2.2)⟩) (fun r15 F13 q14 => ?_)
            obtain ⟨B16, S16, Pf16, v16, q16, W16, hB16, hS16, hPf16, hv16, f16_0, f16_1, r15e, P16⟩ := q14
            subst r15e
            have O16 := O11.tr P16
            refine jr_if_ne (tgt := 101) hE dX11_session_95 (by decide) (fun c95 => ?_) (fun c95 => ?_)
            · have hQ : (qSs s.2.2.2.1 s.2.2.2.1.length) ≠ none := b2i_1 c95
              obtain ⟨j1, j2⟩ := f16_1 hQ
              have hv4 : v16 4 = bi (oQ s) := j2.trans (bi_b2i _)
              refine jr_aload_n hE dX11_session_101 0 rfl ?_
              refine jr_dup hE dX11_session_102 rfl ?_
              refine jr_get hE dX11_session_103 f60 W16.o0 rfl ?_
              have hv17 : v16 1 = (nI (s.2.2.1 + s.2.2.2.1.length)) := (hv16 1 (by decide)).trans yv11
              rw [show v16 1 = (nI (s.2.2.1 + s.2.2.2.1.length)) from hv17]
              refine jr_iconst (v := (1 : Int32)) hE dX11_session_106 (by decide) ?_
              refine jr_iadd (z := nI (s.2.2.1 + s.2.2.2.1.length + 1)) hE dX11_session_107 (nI_add _ 1) ?_
              refine jr_put (ty := .int) hE dX11_session_108 f60 W16.o0 rfl (by decide +kernel) rfl rfl (Nat.le_of_ble_eq_true rfl) (fun F18 h18 u18 => ?_)
              obtain ⟨W18, P18⟩ := W16.setV0 (v1 := (uz v16 1 (nI (s.2.2.1 + s.2.2.2.1.length + 1)))) h18 (fun z hz => uz_n _ _ (jne hz 1 rfl)) u18
              have O18 := O16.tr P18
              obtain ⟨v18, ev18, hv18, yv18⟩ := uz_ab v16 1 (nI (s.2.2.1 + s.2.2.2.1.length + 1))
              rw [ev18] at W18
              have nv18 : ∀ z, z ≠ 1 → v18 z = v16 z := fun z hz => hv18 z (fun e => hz (List.mem_singleton.mp e))
              refine jr_aload_n hE dX11_session_111 0 rfl ?_
              refine jr_get hE dX11_session_112 f46 W18.o0 rfl ?_
              refine jr_aload_n hE dX11_session_115 0 rfl ?_
              refine jr_get hE dX11_session_116 f11 W18.o0 rfl ?_
              refine jr_iload_n hE dX11_session_119 1 rfl ?_
              obtain ⟨fa19, ja19, ga19⟩ := W18.aR
              refine jr_aald (v := c (270 + 2 * k)) hE dX11_session_120 ja19 rfl (vp_in_nI (n := k) (by omega) (by decide)) (by rw [nI_clamp (by omega)]; exact ga19 k (by omega)) ?_
              have hB20 : B16 k = (s.1 k) := (hB16 k (by simp only [List.mem_cons, List.not_mem_nil, or_false, not_or]; omega)).trans (hRw k hk)
              have hv21 : v18 2 = (nI s.2.2.2.1.length) := ((nv18 2 (by decide)).trans (hv16 2 (by decide))).trans hv12
              have hp22 : rep (Pf16 16) GE := by rw [show Pf16 16 = P 16 from (hPf16 16 (by decide))]; exact hG
              have hdat : ∀ x1, x1 < s.2.2.2.1.length → rep (Pf16 (30 + 3 * x1)) (tdE 0 ((s.2.2.2.2.2.1 x1).getD [])) ∧ rep (Pf16 (31 + 3 * x1)) (tdE 1 ((s.2.2.2.2.2.1 x1).getD [])) := by
                intro x1 hx1
                obtain ⟨lo, hlo⟩ := Option.ne_none_iff_exists'.mp (hT x1 hx1)
                obtain ⟨y1, y2, y3⟩ := (htd x1 (by omega)).2.2 lo hlo
                rw [show Pf16 (30 + 3 * x1) = P (30 + 3 * x1) from (hPf16 (30 + 3 * x1) (by simp only [List.mem_cons, List.not_mem_nil, or_false, not_or]; omega)), show Pf16 (31 + 3 * x1) = P (31 + 3 * x1) from (hPf16 (31 + 3 * x1) (by simp only [List.mem_cons, List.not_mem_nil, or_false, not_or]; omega)), hlo]
                exact ⟨y2, y3⟩
              refine jr_kVv (ci := 4) (n := 1) (As := [.ref (c (270 + 2 * k))]) (rest := []) hE dX11_session_121 (fun l => c_g_open l G c B16 S16 Pf16 q16 X v18 k s.2.2.2.1.length (exE (qSs s.2.2.2.1 s.2.2.2.1.length)) s.2.2.2.2.2.1) gX11_session_X4_open rfl W18.o7 rfl (by decide +kernel) ⟨rfl, rfl, by decide, by decide⟩ (by decide) rfl rfl (Nat.le_of_ble_eq_true rfl) (⟨W18, hv21, hs4, hdat, hk, (by rw [show B16 k = s.1 k from hB20]; exact hl40), j1, hp22⟩) (fun F23 q24 => ?_)
              obtain ⟨B25, S25, Pf25, v25, q25, W25, hB25, hS25, hPf25, hv25, f25_0, f25_1, f25_2, f25_3, f25_4, f25_5, P25⟩ := q24
              have O25 := O18.tr P25
              have g251 := f25_1
              rw [show B16 k = s.1 k from hB20] at g251
              have g252 := f25_2
              rw [show B16 k = s.1 k from hB20] at g252
              have g253 := f25_3
              rw [show B16 k = s.1 k from hB20] at g253
              have g254 := f25_4
              rw [show B16 k = s.1 k from hB20] at g254
              refine jr_iconst (v := (1 : Int32)) hE dX11_session_124 (by decide) ?_
              have hv26 : v25 1 = (nI (s.2.2.1 + s.2.2.2.1.length + 1)) := (hv25 1 (by decide)).trans yv18
              have hv27 : v25 4 = (bi (oQ s)) := ((hv25 4 (by decide)).trans (nv18 4 (by decide))).trans hv4
              have e : stSess s (nI k) = (1, setSe (setK s (s.2.2.1 + s.2.2.2.1.length + 1)) (seTp s (s.1 k))) := by
                unfold stSess
                rw [if_pos (nI_rowP hk), hrnk, if_pos hcond, if_neg hw48, if_neg (show ¬ seJ s = none from hQ)]
              exact hR F23 _ _ _ dX11_session_125 rfl ⟨_, _, _, _, _, _, by rw [e]; exact hI.se (k := s.2.2.1 + s.2.2.2.1.length + 1) (t := seTp s (s.1 k)) W25 (fun z hz => ((hB25 z (by (try simp only [List.mem_cons, List.not_mem_nil, or_false, not_or] at hz ⊢); omega)).trans (hB16 z (by (try simp only [List.mem_cons, List.not_mem_nil, or_false, not_or] at hz ⊢); omega)))) (fun z hz => ((hS25 z (by (try simp only [List.mem_cons, List.not_mem_nil, or_false, not_or] at hz ⊢); omega)).trans (hS16 z (by (try simp only [List.mem_cons, List.not_mem_nil, or_false, not_or] at hz ⊢); omega)))) (fun z hz => ((hPf25 z (by (try simp only [List.mem_cons, List.not_mem_nil, or_false, not_or] at hz ⊢); omega)).trans (hPf16 z (by (try simp only [List.mem_cons, List.not_mem_nil, or_false, not_or] at hz ⊢); omega)))) (fun z hz => ((hv25 z (by (try simp only [List.mem_cons, List.not_mem_nil, or_false, not_or] at hz ⊢); omega)).trans ((nv18 z (by (try simp only [List.mem_cons, List.not_mem_nil, or_false, not_or] at hz); omega)).trans ((hv16 z (by (try simp only [List.mem_cons, List.not_mem_nil, or_false, not_or] at hz ⊢); omega)).trans (nv11 z (by (try simp only [List.mem_cons, List.not_mem_nil, or_false, not_or] at hz); omega)))))) hv26 (by omega) f25_5 f25_0 (by show (pbE _ ++ pbE _).length = 66; rw [List.length_append, pbE_len, pbE_len]) g251 g253 g252 g254 hv27 (fun x1 hx1 => ((hS25 (18 + 3 * x1) (by simp only [List.mem_cons, List.not_mem_nil, or_false, not_or]; omega))).trans (f16_0 x1 hx1)) (Nat.mod_lt _ NN0) (Nat.mod_lt _ NN0) hT hQ, by rw [e], O25⟩
            · refine jr_bipush (v := (-2 : Int32)) hE dX11_session_98 (by decide) ?_
              have hv28 : v16 1 = (nI (s.2.2.1 + s.2.2.2.1.length)) := (hv16 1 (by decide)).trans yv11
              have e : stSess s (nI k) = (-2, setK s (s.2.2.1 + s.2.2.2.1.length)) := by
                unfold stSess
                rw [if_pos (nI_rowP hk), hrnk, if_pos hcond, if_neg hw48, if_pos (show seJ s = none from Classical.byContradiction (fun h => b2i_0 c95 h))]
              exact hR F13 _ _ _ dX11_session_100 rfl ⟨_, _, _, _, _, _, by rw [e]; exact hI.updG (k := s.2.2.1 + s.2.2.2.1.length) W16 (fun z hz => (hB16 z (by simp only [List.mem_cons, List.not_mem_nil, or_false, not_or] at hz ⊢; omega))) (fun z hz => (hS16 z (by simp only [List.mem_cons, List.not_mem_nil, or_false, not_or] at hz ⊢; omega))) (fun z hz => (hPf16 z (by simp only [List.mem_cons, List.not_mem_nil, or_false, not_or] at hz ⊢; omega))) (fun z hz => ((hv16 z (by simp only [List.mem_cons, List.not_mem_nil, or_false, not_or] at hz ⊢; omega)).trans (nv11 z (by simp only [List.mem_cons, List.not_mem_nil, or_false, not_or] at hz; omega)))) hv28 (by omega) (fun hn => absurd (hI.jne hn) (fun h => b2i_0 c95 h)), by rw [e], O16⟩
          · refine jr_bipush (v := (-5 : Int32)) hE dX11_session_69 (by decide) ?_
            have e : stSess s (nI k) = (-5, s) := by
              unfold stSess
              rw [if_pos (nI_rowP hk), hrnk, if_pos hcond, if_pos (b2i_1 (p := 48 < s.2.2.1 + (1 + s.2.2.2.1.length)) c66)]
            exact hR F _ _ _ dX11_session_71 rfl ⟨B, S, P, q, X, v, by rw [e]; exact hI, by rw [e], cO.rf c F⟩
        · refine jr_bipush (v := (-2 : Int32)) hE dX11_session_50 (by decide) ?_
          have e : stSess s (nI k) = (-2, s) := by
            unfold stSess
            rw [if_pos (nI_rowP hk), hrnk, if_neg (fun h => c47 (nI_le (hca.mpr (fun j hj => Option.isSome_iff_ne_none.mpr (h.2 j hj))) (by omega)))]
          exact hR F _ _ _ dX11_session_52 rfl ⟨B, S, P, q, X, v, by rw [e]; exact hI, by rw [e], cO.rf c F⟩
  · refine jr_iconst (v := (-1 : Int32)) hE dX11_session_7 (by decide) ?_
    have e : stSess s m = (-1, s) := by
      unfold stSess
      rw [if_neg (fun h => absurd (b2i_t (p := rowP m) h) (by rw [c4]; decide))]
    exact hR F _ _ _ dX11_session_8 rfl ⟨B, S, P, q, X, v, by rw [e]; exact hI, by rw [e], cO.rf c F⟩

