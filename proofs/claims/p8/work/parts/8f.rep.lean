/-! SETTLED points, multiples by windows, the group's order -/
theorem rep_ng {P : JP} {A : EP} (h : rep P A) : rep (ngJ P) (eneg PP A) := by
  rcases h with ⟨h1, rfl⟩ | ⟨h1, X, Y, z, rfl, e, nz, hx, hy, hz⟩
  · exact Or.inl ⟨h1, rfl⟩
  · refine Or.inr ⟨h1, X, -Y, z, eneg_ep PP0 X Y, isE_n e, nz, hx, ?_, hz⟩
    have k := zfk (-1) hy
    show zd PP ((fk (-1) P.2.2.1 : Nat) - -Y * (z * z * z))
    exact k.l1 1 (by grind)
theorem stem_inv {e x p : Nat} (hp : prm p) (hP : p = PP) (he : e * 2 ^ 2 + 2 = p - 1) (h : ¬ p ∣ x) : zd PP (((fm (sqn (x ^ e % PP) 2) x : Nat) : Int) * x - 1) := by
  have h1 : fm (sqn (x ^ e % PP) 2) x % PP = x ^ (e * 2 ^ 2 + 1) % PP := by
    rw [sqn_pow]
    unfold fm
    rw [Nat.mod_mod, Nat.mul_mod, Nat.mod_mod, ← Nat.mul_mod, ← Nat.pow_succ]
  have h2 : fm (sqn (x ^ e % PP) 2) x * x % PP = 1 := by
    have hs : Nat.succ (e * 2 ^ 2 + 1) = p - 1 := he
    rw [Nat.mul_mod, h1, ← Nat.mul_mod, ← Nat.pow_succ, hs, ← hP]
    exact hp.fermat h
  have h3 := zmd PP (fm (sqn (x ^ e % PP) 2) x * x)
  rw [h2, Int.natCast_mul] at h3
  exact zd_sub h3
theorem rep_st {P : JP} {A : EP} (h : rep P A) : (A = none ∧ (stJ P).1 = true) ∨ ∃ x y : Nat, A = some (x, y) ∧ x < PP ∧ y < PP ∧ stJ P = (false, x, y, 1) := by
  rcases h with ⟨h1, rfl⟩ | ⟨h1, X, Y, z, rfl, e, nz, hx, hy, hz⟩
  · left
    refine ⟨rfl, ?_⟩
    unfold stJ
    rw [if_pos h1]
    exact h1
  · right
    obtain ⟨b, x, y, zz⟩ := P
    replace h1 : b = false := h1
    replace hx : zd PP ((x : Int) - X * (z * z)) := hx
    replace hy : zd PP ((y : Int) - Y * (z * z * z)) := hy
    replace hz : zd PP ((zz : Int) - z) := hz
    subst h1
    obtain ⟨e0, he0⟩ : ∃ e0 : Nat, e0 = 28948022309329048855892746252171976963317496166410141009864396001977208667915 := ⟨_, rfl⟩
    have hz2 : ¬ PP ∣ zz := fun q => nz ((show zd PP (zz : Int) from Int.ofNat_dvd.mpr q).l2 hz 1 (-1) (by grind))
    have ki := stem_inv (e := e0) prmP rfl (by rw [he0]; decide +kernel) hz2
    have hst : stJ (false, x, y, zz) = (false, fm x (fm (fm (sqn (zz ^ e0 % PP) 2) zz) (fm (sqn (zz ^ e0 % PP) 2) zz)), fm y (fm (fm (fm (sqn (zz ^ e0 % PP) 2) zz) (fm (sqn (zz ^ e0 % PP) 2) zz)) (fm (sqn (zz ^ e0 % PP) 2) zz)), 1) := by
      rw [he0]
      rfl
    rw [hst]
    generalize fm (sqn (zz ^ e0 % PP) 2) zz = t at *
    have kt : zd PP ((t : Int) * z - 1) := ki.l2 hz 1 (-(t : Int)) (by grind)
    have k0 : zd PP ((t : Int) - t) := zd0 PP (by omega)
    have ku := zfm k0 k0
    have kx := zfm hx ku
    have ky := zfm hy (zfm ku k0)
    refine ⟨_, _, ?_, fm_lt _ _, fm_lt _ _, rfl⟩
    rw [ep_self (fm_lt _ _) (fm_lt _ _)]
    refine (ep_iff PP0).mpr ⟨?_, ?_⟩
    · refine zd_sub (zd_tr kx (kt.l1 (X * (t * z + 1)) (by grind)))
    · refine zd_sub (zd_tr ky (kt.l1 (Y * (t * z * (t * z) + t * z + 1)) (by grind)))
/-- the point with that x and an even y -/
def lfE (V : Nat) : EP := some (V, if rtJ V % 2 = 1 then fk (-1) (rtJ V) else rtJ V)
theorem lf_y (V : Nat) : (if rtJ V % 2 = 1 then fk (-1) (rtJ V) else rtJ V) < PP := by
  split
  · exact fk_lt _ _
  · exact fm_lt _ _
theorem lf_on {V : Nat} (h : isX V) : isE PP (V : Int) ((if rtJ V % 2 = 1 then fk (-1) (rtJ V) else rtJ V : Nat) : Int) := by
  have k0 : zd PP ((V : Int) - V) := zd0 PP (by omega)
  have k1 : zd PP ((rtJ V : Int) - rtJ V) := zd0 PP (by omega)
  have k2 := zfm k1 k1
  rw [h.2] at k2
  have k3 : zd PP ((rhsJ V : Int) - (V * V * V + 7)) := by
    have h1 := zmd PP (fm (fm V V) V + 7)
    have h2 := zfm (zfm k0 k0) k0
    rw [Int.natCast_add] at h1
    unfold rhsJ
    exact h1.l2 h2 1 1 (by grind)
  have k4 : isE PP (V : Int) (rtJ V : Int) := by
    unfold isE
    exact k2.l2 k3 (-1) 1 (by grind)
  split
  · have k5 := zfk (-1) k1
    exact isE_c (isE_n k4) k0 (k5.l1 1 (by grind))
  · exact k4
theorem rep_ev {V : Nat} (h : isX V) : rep (evJ V) (lfE V) := by
  refine Or.inr ⟨rfl, (V : Int), _, 1, ep_self h.1 (lf_y V), lf_on h, ?_, zd0 PP (by show (V : Int) - V * (1 * 1) = 0; omega), zd0 PP ?_, zd0 PP (by show ((1 : Nat) : Int) - 1 = 0; omega)⟩
  · exact zd_small (a := 1) (by decide) (by decide +kernel)
  · show ((if rtJ V % 2 = 1 then fk (-1) (rtJ V) else rtJ V : Nat) : Int) - ((if rtJ V % 2 = 1 then fk (-1) (rtJ V) else rtJ V : Nat) : Int) * (1 * 1 * 1) = 0
    generalize ((if rtJ V % 2 = 1 then fk (-1) (rtJ V) else rtJ V : Nat) : Int) = w
    omega
def rdE (f V : Nat) : EP := if f = 3 then eneg PP (lfE V) else lfE V
theorem rep_rd {f V : Nat} (h : rdX f V) : rep (rdJ f V) (rdE f V) := by
  unfold rdJ rdE
  split
  · exact rep_ng (rep_ev h.2)
  · exact rep_ev h.2
/-! multiples -/
theorem rep_mt {P : JP} {A : EP} (h : rep P A) : ∀ j, 1 ≤ j → rep (mtJ P j) (emul PP j A)
  | 0, hj => absurd hj (by decide)
  | 1, _ => h
  | j + 2, _ => rep_pl (rep_mt h (j + 1) (by omega)) h
theorem rep_tws {P : JP} {A : EP} (k : Nat) (hA : onE PP A) (h : rep P (emul PP k A)) : ∀ n, rep (tws n P) (emul PP (2 ^ n * k) A)
  | 0 => by
    rw [Nat.pow_zero, Nat.one_mul]
    exact h
  | n + 1 => by
    rw [show 2 ^ (n + 1) * k = 2 ^ n * k + 2 ^ n * k by rw [Nat.pow_succ]; grind, emul_add gdP hA]
    exact rep_tw (rep_tws k hA h n)
theorem rep_wn {M : Nat → JP} {A : EP} {kv : Nat} (hA : onE PP A) (hM : ∀ j, 1 ≤ j → rep (M j) (emul PP j A)) : ∀ n Q, rep Q (emul PP (kv / 16 ^ n) A) → rep (wnJ M kv n Q) (emul PP kv A)
  | 0, Q, h => by
    rw [Nat.pow_zero, Nat.div_one] at h
    exact h
  | n + 1, Q, h => by
    rw [wnJ]
    refine rep_wn hA hM n _ ?_
    have h4 := rep_tws _ hA h 4
    have hq : kv / 16 ^ n = 2 ^ 4 * (kv / 16 ^ (n + 1)) + kv / 16 ^ n % 16 := by
      rw [show kv / 16 ^ (n + 1) = kv / 16 ^ n / 16 by rw [Nat.pow_succ, Nat.div_div_eq_div_mul]]
      omega
    generalize kv / 16 ^ (n + 1) = k at *
    generalize kv / 16 ^ n % 16 = d at *
    rw [hq]
    by_cases hd : d = 0
    · subst hd
      rw [if_pos rfl]
      exact h4
    · rw [if_neg hd, emul_add gdP hA]
      exact rep_pl h4 (hM d (by omega))
theorem rep_tm {O P : JP} {A : EP} {kv : Nat} (h : rep P A) (hk : kv < 2 ^ 256) : rep (tmJ O P kv) (emul PP kv A) := by
  refine rep_wn h.onE (rep_mt h) 64 _ ?_
  rw [Nat.div_eq_of_lt (by rw [show (16 : Nat) = 2 ^ 4 by rfl, ← Nat.pow_mul]; exact hk)]
  exact Or.inl ⟨rfl, rfl⟩
/-! the generator -/
def gX : Nat := 0x79be667ef9dcbbac55a06295ce870b07029bfcdb2dce28d959f2815b16f81798
def gY : Nat := 0x483ada7726a3c4655da4fbfc0e1108a8fd17b448a68554199c47d08ffb10d4b8
def GE : EP := some (gX, gY)
def GJ : JP := (false, gX, gY, 1)
theorem gX_lt : gX < PP := by decide +kernel
theorem gY_lt : gY < PP := by decide +kernel
theorem gE : isE PP (gX : Int) (gY : Int) := by
  have h : (gY * gY) % PP = (gX * gX * gX + 7) % PP := by decide +kernel
  have h1 := zmd PP (gY * gY)
  have h2 := zmd PP (gX * gX * gX + 7)
  rw [h] at h1
  unfold isE
  have e1 : ((gY * gY : Nat) : Int) = (gY : Int) * gY := by simp
  have e2 : ((gX * gX * gX + 7 : Nat) : Int) = (gX : Int) * gX * gX + 7 := by simp
  rw [e1] at h1
  rw [e2] at h2
  exact h1.l2 h2 (-1) 1 (by omega)
theorem rep_G : rep GJ GE := by
  refine Or.inr ⟨rfl, (gX : Int), (gY : Int), 1, ep_self gX_lt gY_lt, gE, ?_, zd0 PP ?_, zd0 PP ?_, zd0 PP ?_⟩
  · exact zd_small (a := 1) (by decide) (by decide +kernel)
  · show (gX : Int) - gX * (1 * 1) = 0
    generalize (gX : Int) = w
    omega
  · show (gY : Int) - gY * (1 * 1 * 1) = 0
    generalize (gY : Int) = w
    omega
  · show ((1 : Nat) : Int) - 1 = 0
    omega
theorem NG_c : (tmJ (true, 0, 0, 0) GJ NN).1 = true := by decide +kernel
theorem NG_0 : emul PP NN GE = none := by
  have h := rep_tm (O := (true, 0, 0, 0)) rep_G (kv := NN) (by decide +kernel)
  rcases h with ⟨_, h⟩ | ⟨h, _⟩
  · exact h
  · rw [NG_c] at h
    cases h
/-! the group has as many points as N says: NN times any point is nought -/
theorem pig : ∀ (m n : Nat) (f : Nat → Nat), (∀ i, i < n → f i < m) → (∀ i j, i < n → j < n → f i = f j → i = j) → n ≤ m
  | 0, n, f, h, _ => by
    refine Classical.byContradiction fun q => ?_
    have := h 0 (by omega)
    omega
  | m + 1, n, f, h, hi => by
    by_cases hk : ∃ k, k < n ∧ f k = m
    · obtain ⟨k, hk1, hk2⟩ := hk
      have := pig m (n - 1) (fun i => if i = k then f (n - 1) else f i) (fun i hin => by
        by_cases e : i = k
        · simp only [if_pos e]
          have h1 := h (n - 1) (by omega)
          have h2 : f (n - 1) ≠ m := fun q => by
            have := hi (n - 1) k (by omega) hk1 (q.trans hk2.symm)
            omega
          omega
        · simp only [if_neg e]
          have h1 := h i (by omega)
          have h2 : f i ≠ m := fun q => e (hi i k (by omega) hk1 (q.trans hk2.symm))
          omega) (fun i j hin hjn hij => by
        by_cases e : i = k
        · by_cases e' : j = k
          · omega
          · simp only [if_pos e, if_neg e'] at hij
            have := hi (n - 1) j (by omega) (by omega) hij
            omega
        · by_cases e' : j = k
          · simp only [if_neg e, if_pos e'] at hij
            have := hi i (n - 1) (by omega) (by omega) hij
            omega
          · simp only [if_neg e, if_neg e'] at hij
            exact hi i j (by omega) (by omega) hij)
      omega
    · have := pig m n f (fun i hin => by
        have h1 := h i hin
        have h2 : f i ≠ m := fun q => hk ⟨i, hin, q⟩
        omega) hi
      omega
def cde (A : EP) : Nat := match A with
  | none => 0
  | some a => 1 + 2 * a.1 + a.2 % 2
theorem cde_lt {A : EP} (h : onE PP A) : cde A < 2 * PP + 1 := by
  match A, h with
  | none, _ => show 0 < _; omega
  | some (x, y), h =>
    have := h.1
    show 1 + 2 * x + y % 2 < _
    replace this : x < PP := this
    omega
theorem cde_inj {A B : EP} (hA : onE PP A) (hB : onE PP B) (h : cde A = cde B) : A = B := by
  match A, B, hA, hB, h with
  | none, none, _, _, _ => rfl
  | none, some (x, y), _, _, h =>
    replace h : 0 = 1 + 2 * x + y % 2 := h
    omega
  | some (x, y), none, _, _, h =>
    replace h : 1 + 2 * x + y % 2 = 0 := h
    omega
  | some (x, y), some (x', y'), hA, hB, h =>
    replace h : 1 + 2 * x + y % 2 = 1 + 2 * x' + y' % 2 := h
    have hx : x = x' := by omega
    have hy : y % 2 = y' % 2 := by omega
    subst hx
    have l1 : y < PP := hA.2.1
    have l2 : y' < PP := hB.2.1
    rcases same_x gdP.1 hA.2.2 hB.2.2 (zd0 PP (by show (x : Int) - x = 0; omega)) with k | k
    · rw [nat_eq l2 l1 k]
    · exfalso
      replace k : zd PP ((y' : Int) + y) := k
      have k2 : PP ∣ y' + y := by
        unfold zd at k
        have e : ((y' + y : Nat) : Int) = (y' : Int) + y := by simp
        rw [← e] at k
        exact Int.ofNat_dvd.mp k
      have hodd : PP % 2 = 1 := by decide +kernel
      have hpos := PP0
      obtain ⟨c, hc⟩ := k2
      match c, hc with
      | 0, hc =>
        have h0 : y = 0 := by omega
        subst h0
        exact gdP.y hA.2.2 (zd0 PP (by show (2 : Int) * ((0 : Nat) : Int) = 0; omega))
      | 1, hc => omega
      | c + 2, hc =>
        rw [Nat.mul_add] at hc
        have := Nat.zero_le (PP * c)
        omega
theorem emul_gcd {p : Nat} (h : gdp p) {A : EP} (hA : onE p A) : ∀ x y, emul p x A = none → emul p y A = none → emul p (Nat.gcd x y) A = none := by
  intro x
  induction x using Nat.strongRecOn with
  | ind x ih =>
    intro y hx hy
    by_cases h0 : x = 0
    · subst h0
      rw [Nat.gcd_zero_left]
      exact hy
    · rw [Nat.gcd_rec]
      refine ih (y % x) (Nat.mod_lt y (by omega)) x ?_ hx
      have e : y = x * (y / x) + y % x := (Nat.div_add_mod y x).symm
      rw [e, emul_add h hA, emul_mul h hA, hx, emul_none, eadd_0'] at hy
      exact hy
def inG (A : EP) : Prop := ∃ k, A = emul PP k GE
theorem onG : onE PP GE := rep_G.onE
theorem inG.on {A : EP} (h : inG A) : onE PP A := by
  obtain ⟨k, rfl⟩ := h
  exact onE_mul gdP onG k
theorem inG.add {A B : EP} (h : inG A) (h' : inG B) : inG (eadd PP A B) := by
  obtain ⟨a, rfl⟩ := h
  obtain ⟨b, rfl⟩ := h'
  exact ⟨a + b, (emul_add gdP onG a b).symm⟩
theorem inG_neg (k : Nat) (hk : k ≤ NN) : eneg PP (emul PP k GE) = emul PP (NN - k) GE := by
  refine (eadd_z gdP (onE_mul gdP onG _) (onE_mul gdP onG _) ?_).symm
  rw [← emul_add gdP onG, show NN - k + k = NN by omega]
  exact NG_0
theorem emul_modN (k : Nat) : emul PP k GE = emul PP (k % NN) GE := by
  have e : k = NN * (k / NN) + k % NN := (Nat.div_add_mod k NN).symm
  have h : emul PP (NN * (k / NN) + k % NN) GE = emul PP (k % NN) GE := by
    rw [emul_add gdP onG, emul_mul gdP onG, NG_0, emul_none, eadd_0']
  rw [← e] at h
  exact h
theorem NN0 : 0 < NN := by decide +kernel
theorem inG.neg {A : EP} (h : inG A) : inG (eneg PP A) := by
  obtain ⟨k, rfl⟩ := h
  rw [emul_modN k, inG_neg _ (Nat.le_of_lt (Nat.mod_lt _ NN0))]
  exact ⟨_, rfl⟩
theorem GE_ne : GE ≠ none := fun e => by cases e
theorem G_inj {i j : Nat} (hi : i < NN) (hj : j < NN) (h : emul PP i GE = emul PP j GE) : i = j := by
  have main : ∀ a b, a < NN → b < NN → a < b → emul PP a GE = emul PP b GE → False := by
    intro a b ha hb hab e
    have h1 : emul PP (b - a) GE = none := by
      have h2 : emul PP b GE = eadd PP (emul PP (b - a) GE) (emul PP a GE) := by
        rw [← emul_add gdP onG, show b - a + a = b by omega]
      rw [← e] at h2
      have h3 := ecan gdP (onE_mul gdP onG _) (onE_mul gdP onG _) h2.symm
      rw [h3, eadd_neg gdP (onE_mul gdP onG _)]
    have h4 := emul_gcd gdP onG NN (b - a) NG_0 h1
    have h5 : ¬ NN ∣ b - a := fun q => by
      have := Nat.le_of_dvd (by omega) q
      omega
    rw [prmN.cop h5] at h4
    exact GE_ne h4
  rcases Nat.lt_trichotomy i j with q | q | q
  · exact (main i j hi hj q h).elim
  · exact q
  · exact (main j i hj hi q h.symm).elim
theorem dbl_z {A : EP} (hA : onE PP A) (h : eadd PP A A = none) : A = none := by
  refine Classical.byContradiction fun n => ?_
  obtain ⟨x, y, rfl, e⟩ := hA.ep n
  rw [eadd_tw gdP.1 (gdP.y e) (slope gdP.1 (gdP.y e) _)] at h
  cases h
theorem emul2 (A : EP) : emul PP 2 A = eadd PP A A := rfl
theorem half {C : EP} (hC : onE PP C) (h : inG (emul PP 2 C)) : inG C := by
  obtain ⟨m, hm⟩ := h
  obtain ⟨q, hq⟩ : ∃ q, emul PP m GE = emul PP (q * 2) GE := by
    rcases Nat.mod_two_eq_zero_or_one m with e | e
    · exact ⟨m / 2, by congr 1; omega⟩
    · refine ⟨(m + NN) / 2, ?_⟩
      have hodd : NN % 2 = 1 := by decide +kernel
      rw [show (m + NN) / 2 * 2 = m + NN by omega, emul_add gdP onG, NG_0, eadd_0]
  rw [hq, emul_mul gdP onG, emul2, emul2] at hm
  obtain ⟨D, hD⟩ : ∃ D, D = emul PP q GE := ⟨_, rfl⟩
  have hDon : onE PP D := hD ▸ onE_mul gdP onG q
  rw [← hD] at hm
  have nD := onE_neg gdP hDon
  have h2 : eadd PP (eadd PP C (eneg PP D)) (eadd PP C (eneg PP D)) = none := by
    have hs := emul_sum gdP hC nD 2
    rw [emul2, emul2, emul2, hm] at hs
    rw [hs, ← eneg_add gdP hDon hDon, eadd_neg gdP (onE_add gdP hDon hDon)]
  have h3 := dbl_z (onE_add gdP hC nD) h2
  have h4 := emove gdP hC hDon h3
  rw [eadd_0'] at h4
  exact ⟨q, h4.trans hD⟩
theorem all_inG {C : EP} (hC : onE PP C) : inG C := by
  refine Classical.byContradiction fun n1 => ?_
  have n2 : ¬ inG (emul PP 2 C) := fun e => n1 (half hC e)
  have sep : ∀ i i' j j', i < i' → i' < 3 → eadd PP (emul PP i C) (emul PP j GE) = eadd PP (emul PP i' C) (emul PP j' GE) → False := by
    intro i i' j j' h1 h2 e
    have hj := onE_mul gdP onG j
    have hj' := onE_mul gdP onG j'
    have hi := onE_mul gdP hC i
    have hd := onE_mul gdP hC (i' - i)
    rw [show i' = i + (i' - i) by omega, emul_add gdP hC, eassoc gdP hi hd hj'] at e
    have e2 := ecan' gdP hi hj e
    rw [eadd_comm gdP hi (onE_add gdP hd hj'), eadd_sub gdP (onE_add gdP hd hj') hi] at e2
    have e3 := ecan gdP hd hj' e2.symm
    have h3 : inG (emul PP (i' - i) C) := by
      rw [e3]
      exact inG.add ⟨j, rfl⟩ (inG.neg ⟨j', rfl⟩)
    rcases (by omega : i' - i = 1 ∨ i' - i = 2) with q | q
    · rw [q, emul_1] at h3
      exact n1 h3
    · rw [q] at h3
      exact n2 h3
  have hp := pig (2 * PP + 1) (3 * NN) (fun n => cde (eadd PP (emul PP (n / NN) C) (emul PP (n % NN) GE))) (fun n _ => cde_lt (onE_add gdP (onE_mul gdP hC _) (onE_mul gdP onG _))) (fun a b ha hb e => by
    have e1 := cde_inj (onE_add gdP (onE_mul gdP hC _) (onE_mul gdP onG _)) (onE_add gdP (onE_mul gdP hC _) (onE_mul gdP onG _)) e
    have qa : a / NN < 3 := (Nat.div_lt_iff_lt_mul NN0).mpr ha
    have qb : b / NN < 3 := (Nat.div_lt_iff_lt_mul NN0).mpr hb
    have q : a / NN = b / NN := by
      rcases Nat.lt_trichotomy (a / NN) (b / NN) with q | q | q
      · exact (sep _ _ _ _ q qb e1).elim
      · exact q
      · exact (sep _ _ _ _ q qa e1.symm).elim
    rw [q] at e1
    have e2 := ecan' gdP (onE_mul gdP hC _) (onE_mul gdP onG _) e1
    rw [eadd_comm gdP (onE_mul gdP hC _) (onE_mul gdP onG _), eadd_sub gdP (onE_mul gdP onG _) (onE_mul gdP hC _)] at e2
    have r := G_inj (Nat.mod_lt _ NN0) (Nat.mod_lt _ NN0) e2
    rw [← Nat.div_add_mod a NN, ← Nat.div_add_mod b NN, q, r])
  have : ¬ 3 * NN ≤ 2 * PP + 1 := by decide +kernel
  exact this hp
theorem NC_0 {C : EP} (hC : onE PP C) : emul PP NN C = none := by
  obtain ⟨k, rfl⟩ := all_inG hC
  rw [← emul_mul gdP onG, Nat.mul_comm, emul_mul gdP onG, NG_0, emul_none]
theorem emul_mod {C : EP} (hC : onE PP C) (k : Nat) : emul PP k C = emul PP (k % NN) C := by
  have e : k = NN * (k / NN) + k % NN := (Nat.div_add_mod k NN).symm
  have h : emul PP (NN * (k / NN) + k % NN) C = emul PP (k % NN) C := by
    rw [emul_add gdP hC, emul_mul gdP hC, NC_0 hC, emul_none, eadd_0']
  rw [← e] at h
  exact h
theorem emul_negN {C : EP} (hC : onE PP C) {k : Nat} (hk : k ≤ NN) : emul PP (NN - k) C = eneg PP (emul PP k C) := by
  refine eadd_z gdP (onE_mul gdP hC _) (onE_mul gdP hC _) ?_
  rw [← emul_add gdP hC, show NN - k + k = NN by omega]
  exact NC_0 hC

