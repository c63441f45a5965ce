/-! POINTS from their 33 bytes and back -/
theorem bnum_bex (x : Nat) : ∀ n, bnum (bex x n) = x % 256 ^ n
  | 0 => by rw [Nat.pow_zero, Nat.mod_one]; rfl
  | n + 1 => by
    have e : bex x (n + 1) = [x / 256 ^ n % 256] ++ bex x n := rfl
    rw [e, bnum_app, bex_len, bnum_bex x n]
    have h1 : bnum [x / 256 ^ n % 256] = x / 256 ^ n % 256 := by simp [bnum]
    rw [h1, Nat.pow_succ, Nat.mod_mul, Nat.add_comm, Nat.mul_comm]
theorem lt256 {x : Nat} (h : x < PP) : x < 256 ^ 32 := Nat.lt_trans h (by decide +kernel)
theorem bnum_bex32 {x : Nat} (h : x < PP) : bnum (bex x 32) = x := by
  rw [bnum_bex, Nat.mod_eq_of_lt (lt256 h)]
theorem nat_zd {a b : Nat} (ha : a < PP) (hb : b < PP) (h : zd PP ((a : Int) - b)) : a = b := by
  unfold zd at h
  have e : ((a : Int) - b) % (PP : Int) = 0 := Int.emod_eq_zero_of_dvd h
  have e2 : (a : Int) % (PP : Int) = (b : Int) % (PP : Int) := Int.emod_eq_emod_iff_emod_sub_eq_zero.mpr e
  rw [Int.emod_eq_of_lt (by omega) (by omega), Int.emod_eq_of_lt (by omega) (by omega)] at e2
  omega
theorem y_two {x y y' : Nat} (hy : y < PP) (hy' : y' < PP) (h : isE PP (x : Int) (y : Int)) (h' : isE PP (x : Int) (y' : Int)) : y = y' ∨ y = fk (-1) y' := by
  unfold isE at h h'
  have e : zd PP (((y : Int) - y') * (y + y')) := h.l2 h' 1 (-1) (by grind)
  rcases zd_mul prmP e with q | q
  · exact Or.inl (nat_zd hy hy' q)
  · refine Or.inr (nat_zd hy (fk_lt _ _) ?_)
    have k1 : zd PP ((y' : Int) - y') := zd0 PP (by omega)
    exact q.l2 (zfk (-1) k1) 1 (-1) (by grind)
theorem sq_pow {y R : Nat} (hR : R = fm y y) (hy : ¬ PP ∣ y) (e : Nat) (he : 4 * e = PP - 1 + 2) : fm (R ^ e % PP) (R ^ e % PP) = R := by
  have h1 : fm (R ^ e % PP) (R ^ e % PP) = (y * y) ^ (2 * e) % PP := by
    unfold fm at hR ⊢
    rw [← Nat.mul_mod, ← Nat.pow_add, hR, ← Nat.pow_mod, show e + e = 2 * e by omega]
  rw [h1, ← Nat.pow_two, ← Nat.pow_mul, show 2 * (2 * e) = PP - 1 + 2 by omega, Nat.pow_add, Nat.mul_mod, prmP.fermat hy, Nat.one_mul, Nat.mod_mod, hR, Nat.pow_two]
  rfl
theorem isX_of {x y : Nat} (hx : x < PP) (hy : y < PP) (h : isE PP (x : Int) (y : Int)) : isX x := by
  have k0 : zd PP ((x : Int) - x) := zd0 PP (by omega)
  have k1 : zd PP ((y : Int) - y) := zd0 PP (by omega)
  have k2 := zfm k1 k1
  have k3 : zd PP ((rhsJ x : Int) - (x * x * x + 7)) := by
    have h1 := zmd PP (fm (fm x x) x + 7)
    have h2 := zfm (zfm k0 k0) k0
    rw [Int.natCast_add] at h1
    unfold rhsJ
    exact h1.l2 h2 1 1 (by grind)
  have hR : rhsJ x = fm y y := by
    refine nat_zd (Nat.mod_lt _ PP0) (fm_lt _ _) ?_
    unfold isE at h
    exact k3.l3 h k2 1 (-1) (-1) (by grind)
  have hy0 : ¬ PP ∣ y := fun q => by
    have q2 : zd PP (y : Int) := Int.ofNat_dvd.mpr q
    exact gdP.y h (q2.l1 2 (by omega))
  refine ⟨hx, ?_⟩
  have e := rt_M x
  rw [show fa (fm (fm x x) x) 7 = rhsJ x from rfl] at e
  rw [e]
  exact sq_pow hR hy0 cQT (by decide +kernel)
/-- a point's 33 bytes give the point back -/
theorem pbE_rd {A : EP} (hA : onE PP A) (h0 : A ≠ none) : rdX ((pbE A).getD 0 0) (bnum ((pbE A).drop 1)) ∧ rdE ((pbE A).getD 0 0) (bnum ((pbE A).drop 1)) = A := by
  obtain ⟨⟨x, y⟩, rfl⟩ := Option.ne_none_iff_exists'.mp h0
  obtain ⟨hx, hy, hE⟩ := hA
  have hX := isX_of hx hy hE
  have e1 : (pbE (some (x, y))).getD 0 0 = if y % 2 = 1 then 3 else 2 := rfl
  have e2 : (pbE (some (x, y))).drop 1 = bex x 32 := rfl
  rw [e1, e2, bnum_bex32 hx]
  have hl : lfE x = some (x, eyE x) := rfl
  have hey : eyE x < PP := lf_y x
  have hev : eyE x % 2 = 0 := by
    unfold eyE
    split
    · rename_i h
      rw [fk_neg (show rtJ x < PP from fm_lt _ _)]
      have h2 : rtJ x < PP := fm_lt _ _
      have hodd : PP % 2 = 1 := by decide +kernel
      split
      · rfl
      · omega
    · rename_i h
      omega
  have ht := y_two hy hey hE (lf_on hX)
  rw [fk_neg hey] at ht
  have hodd : PP % 2 = 1 := by decide +kernel
  by_cases hp : y % 2 = 1
  · rw [if_pos hp]
    refine ⟨⟨Or.inr rfl, hX⟩, ?_⟩
    rw [rdE_3 hX, fk_neg hey]
    congr 2
    rcases ht with q | q
    · omega
    · exact q.symm
  · rw [if_neg hp]
    refine ⟨⟨Or.inl rfl, hX⟩, ?_⟩
    rw [rdE_2 (by decide), hl]
    congr 2
    rcases ht with q | q
    · exact q.symm
    · split at q
      · omega
      · omega

