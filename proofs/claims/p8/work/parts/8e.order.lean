/-! THE CURVE over PP -/
theorem no_root {p m f : Nat} (hp : prm p) (h7 : 7 < p) (hm : p - 1 = 3 * m) (hf : m < 2 ^ f) (hc : pwm (p - 7) p f m ≠ 1) (x : Int) : ¬ zd p (x * x * x + 7) := by
  intro hx
  have h0 : 0 < p := by omega
  have a1 := mo h0 x
  obtain ⟨n, hn⟩ : ∃ n, n = (x % p).toNat := ⟨_, rfl⟩
  rw [← hn] at a1
  have h1 : zd p ((n : Int) * n * n + 7) := hx.l2 a1 1 ((n : Int) * n + n * x + x * x) (by grind)
  have h2 : p ∣ n * n * n + 7 := by
    unfold zd at h1
    have : ((n * n * n + 7 : Nat) : Int) = (n : Int) * n * n + 7 := by simp
    rw [← this] at h1
    exact Int.ofNat_dvd.mp h1
  have hnd : ¬ p ∣ n := by
    intro e
    have h3 : p ∣ n * n * n := Nat.dvd_trans e (Nat.dvd_mul_left n (n * n))
    have h4 := (Nat.dvd_add_right h3).mp h2
    have := Nat.le_of_dvd (by decide) h4
    omega
  have h3 : n ^ 3 % p = (p - 7) % p := by
    have e : n ^ 3 = n * n * n := by rw [Nat.pow_succ, Nat.pow_two]
    rw [e]
    have h4 := Nat.mod_eq_zero_of_dvd h2
    rw [Nat.add_mod, Nat.mod_eq_of_lt h7] at h4
    have h5 := Nat.mod_lt (n * n * n) h0
    rw [Nat.mod_eq_of_lt (show p - 7 < p by omega)]
    generalize n * n * n % p = w at *
    have h6 : p ∣ w + 7 := Nat.dvd_of_mod_eq_zero h4
    obtain ⟨c, hc⟩ := h6
    match c, hc with
    | 0, hc => omega
    | 1, hc => omega
    | c + 2, hc =>
      rw [Nat.mul_add] at hc
      have := Nat.zero_le (p * c)
      omega
  have hf2 := hp.fermat hnd
  rw [hm, Nat.pow_mul, Nat.pow_mod, h3, ← Nat.pow_mod, ← pwm_eq _ _ f m hf] at hf2
  exact hc hf2
theorem gdP : gdp PP := by
  refine ⟨prmP, ?_, ?_⟩
  · exact zd_small (a := 2) (by decide) (by decide +kernel)
  · exact no_root (m := 38597363079105398474523661669562635951089994888546854679819194669302944890554) (f := 256) prmP (by decide +kernel) (by decide +kernel) (by decide +kernel) (by decide +kernel)
theorem PP0 : 0 < PP := by decide +kernel
/-! Jacobian coordinates -/
theorem zml {p : Nat} {a b a' b' : Int} (h : zd p (a - a')) (h' : zd p (b - b')) : zd p (a * b - a' * b') := h.l2 h' b a' (by grind)
theorem zsb {p : Nat} {a b a' b' : Int} (h : zd p (a - a')) (h' : zd p (b - b')) : zd p (a - b - (a' - b')) := h.l2 h' 1 (-1) (by grind)
theorem zmd (p a : Nat) : zd p (((a % p : Nat) : Int) - a) := by
  have := Nat.div_add_mod a p
  refine ⟨-((a / p : Nat) : Int), ?_⟩
  have h2 : ((p * (a / p) + a % p : Nat) : Int) = (a : Int) := congrArg _ this
  rw [Int.natCast_add, Int.natCast_mul] at h2
  rw [Int.mul_neg]
  omega
theorem zfm {a b : Nat} {a' b' : Int} (h : zd PP (a - a')) (h' : zd PP (b - b')) : zd PP ((fm a b : Nat) - a' * b') := by
  have h1 := zmd PP (a * b)
  rw [Int.natCast_mul] at h1
  exact zd_tr h1 (zml h h')
theorem zfs {a b : Nat} {a' b' : Int} (hb : b < PP) (h : zd PP (a - a')) (h' : zd PP (b - b')) : zd PP ((fs a b : Nat) - (a' - b')) := by
  have h1 := zmd PP (a + (PP - b))
  have h2 : ((a + (PP - b) : Nat) : Int) = (a : Int) - b + PP := by omega
  rw [h2] at h1
  have h3 : zd PP ((a : Int) - b + PP - (a - b)) := ⟨1, by omega⟩
  exact zd_tr h1 (zd_tr h3 (zsb h h'))
theorem zfk {a : Nat} {a' : Int} (k : Int) (h : zd PP (a - a')) : zd PP ((fk k a : Nat) - k * a') := zd_tr (mo PP0 (k * (a : Int))) (h.l1 k (by grind))
theorem fm_lt (a b : Nat) : fm a b < PP := Nat.mod_lt _ PP0
theorem fs_lt (a b : Nat) : fs a b < PP := Nat.mod_lt _ PP0
theorem fk_lt (k : Int) (a : Nat) : fk k a < PP := by
  have h0 := PP0
  have := Int.emod_lt_of_pos (k * (a : Int)) (show (0 : Int) < PP by omega)
  have := Int.emod_nonneg (k * (a : Int)) (show (PP : Int) ≠ 0 by omega)
  unfold fk
  omega
def repz (P : JP) (X Y z : Int) : Prop := isE PP X Y ∧ ¬ zd PP z ∧ zd PP (P.2.1 - X * (z * z)) ∧ zd PP (P.2.2.1 - Y * (z * z * z)) ∧ zd PP (P.2.2.2 - z)
def rep (P : JP) (A : EP) : Prop := (P.1 = true ∧ A = none) ∨ (P.1 = false ∧ ∃ X Y z : Int, A = ep PP X Y ∧ repz P X Y z)
theorem rep.onE {P : JP} {A : EP} (h : rep P A) : onE PP A := by
  rcases h with ⟨_, rfl⟩ | ⟨_, X, Y, z, rfl, h⟩
  · trivial
  · exact onE_ep PP0 h.1
theorem twJ_f {b : Bool} {x y z : Nat} (h : b = false) : twJ (b, x, y, z) = (false, fs (fs (fm (fk 3 (fm x x)) (fk 3 (fm x x))) (fk 4 (fm x (fm y y)))) (fk 4 (fm x (fm y y))), fs (fm (fs (fk 4 (fm x (fm y y))) (fs (fs (fm (fk 3 (fm x x)) (fk 3 (fm x x))) (fk 4 (fm x (fm y y)))) (fk 4 (fm x (fm y y))))) (fk 3 (fm x x))) (fk 8 (fm (fm y y) (fm y y))), fk 2 (fm z y)) := by
  subst h
  rfl
theorem zd_prod {p : Nat} (hp : prm p) {a b : Int} (h : ¬ zd p a) (h' : ¬ zd p b) : ¬ zd p (a * b) := fun e => (zd_mul hp e).elim h h'
theorem rep_tw {P : JP} {A : EP} (h : rep P A) : rep (twJ P) (eadd PP A A) := by
  rcases h with ⟨h1, rfl⟩ | ⟨h1, X, Y, z, rfl, e, nz, hx, hy, hz⟩
  · left
    refine ⟨?_, rfl⟩
    unfold twJ
    rw [if_pos h1]
    exact h1
  · right
    obtain ⟨b, x, y, zz⟩ := P
    have hl := slope gdP.1 (gdP.y e) (3 * X * X)
    rw [eadd_tw gdP.1 (gdP.y e) hl, twJ_f h1]
    generalize 3 * X * X * ivI PP (2 * Y) = l at *
    have nY : ¬ zd PP Y := fun q => gdP.y e (q.l1 2 (by omega))
    have n2 : ¬ zd PP 2 := gdP.2.1
    refine ⟨rfl, _, _, 2 * (z * (Y * (z * z * z))), rfl, isE_tw e hl, zd_prod gdP.1 n2 (zd_prod gdP.1 nz (zd_prod gdP.1 nY (zd_prod gdP.1 (zd_prod gdP.1 nz nz) nz))), ?_⟩
    have hs := zfm hy hy
    have hu := zfk 4 (zfm hx hs)
    have hr := zfk 3 (zfm hx hx)
    have hs2 := zfk 8 (zfm hs hs)
    have hX := zfs (fk_lt _ _) (zfs (fk_lt _ _) (zfm hr hr) hu) hu
    have hY := zfs (fk_lt _ _) (zfm (zfs (fs_lt _ _) hu hX) hr) hs2
    have hZ := zfk 2 (zfm hz hy)
    refine ⟨?_, ?_, hZ⟩
    · exact zd_tr hX (hl.l1 (-(z ^ 8) * (l * (2 * Y) + 3 * X * X)) (by grind))
    · exact zd_tr hY (hl.l1 (9*X^4*z^12 + 6*X^2*Y*l*z^12 - 12*X*Y^2*z^12 + 4*Y^2*l^2*z^12) (by grind))
theorem zz_iff {n : Nat} (h : n < PP) : n = 0 ↔ zd PP (n : Int) := by
  constructor
  · intro e
    exact zd0 PP (by omega)
  · intro e
    exact Classical.byContradiction fun q => zd_small (by omega) h e
theorem nat_eq {a b : Nat} (ha : a < PP) (hb : b < PP) (h : zd PP ((a : Int) - b)) : a = b := by
  have h1 := (tn_iff PP0 (a : Int) b).mpr h
  rw [Int.emod_eq_of_lt (by omega) (by omega), Int.emod_eq_of_lt (by omega) (by omega)] at h1
  omega
def hJ (x1 z1 x2 z2 : Nat) : Nat := fs (fm x2 (fm z1 z1)) (fm x1 (fm z2 z2))
def rJ (y1 z1 y2 z2 : Nat) : Nat := fs (fm (fm y2 (fm z1 z1)) z1) (fm (fm y1 (fm z2 z2)) z2)
def p3x (x1 z2 h r : Nat) : Nat := fs (fs (fs (fm r r) (fm h (fm h h))) (fm (fm x1 (fm z2 z2)) (fm h h))) (fm (fm x1 (fm z2 z2)) (fm h h))
theorem plJ_f (x1 y1 z1 x2 y2 z2 : Nat) : plJ (false, x1, y1, z1) (false, x2, y2, z2) = if hJ x1 z1 x2 z2 = 0 ∧ rJ y1 z1 y2 z2 = 0 then twJ (false, x1, y1, z1) else if hJ x1 z1 x2 z2 = 0 then (true, x1, y1, z1) else (false, p3x x1 z2 (hJ x1 z1 x2 z2) (rJ y1 z1 y2 z2), fs (fm (fs (fm (fm x1 (fm z2 z2)) (fm (hJ x1 z1 x2 z2) (hJ x1 z1 x2 z2))) (p3x x1 z2 (hJ x1 z1 x2 z2) (rJ y1 z1 y2 z2))) (rJ y1 z1 y2 z2)) (fm (fm (fm y1 (fm z2 z2)) z2) (fm (hJ x1 z1 x2 z2) (fm (hJ x1 z1 x2 z2) (hJ x1 z1 x2 z2)))), fm (fm z1 z2) (hJ x1 z1 x2 z2)) := rfl
set_option maxHeartbeats 2000000 in
theorem rep_pl {P Q : JP} {A B : EP} (h : rep P A) (h' : rep Q B) : rep (plJ P Q) (eadd PP A B) := by
  obtain ⟨b1, x1, y1, z1⟩ := P
  obtain ⟨b2, x2, y2, z2⟩ := Q
  rcases h' with ⟨q1, rfl⟩ | ⟨q1, X2, Y2, w2, rfl, e2, nz2, hx2, hy2, hz2⟩
  · unfold plJ
    rw [if_pos q1, eadd_0]
    exact h
  have h'2 : rep (b2, x2, y2, z2) (ep PP X2 Y2) := Or.inr ⟨q1, X2, Y2, w2, rfl, e2, nz2, hx2, hy2, hz2⟩
  rcases id h with ⟨p1, rfl⟩ | ⟨p1, X1, Y1, w1, rfl, e1, nz1, hx1, hy1, hz1⟩
  · unfold plJ
    rw [if_neg (by rw [q1]; decide), if_pos p1]
    exact h'2
  replace p1 : b1 = false := p1
  replace q1 : b2 = false := q1
  subst p1 q1
  rw [plJ_f]
  replace hx1 : zd PP ((x1 : Int) - X1 * (w1 * w1)) := hx1
  replace hy1 : zd PP ((y1 : Int) - Y1 * (w1 * w1 * w1)) := hy1
  replace hz1 : zd PP ((z1 : Int) - w1) := hz1
  replace hx2 : zd PP ((x2 : Int) - X2 * (w2 * w2)) := hx2
  replace hy2 : zd PP ((y2 : Int) - Y2 * (w2 * w2 * w2)) := hy2
  replace hz2 : zd PP ((z2 : Int) - w2) := hz2
  have ku := zfm hx1 (zfm hz2 hz2)
  have ks := zfm (zfm hy1 (zfm hz2 hz2)) hz2
  have kh : zd PP ((hJ x1 z1 x2 z2 : Nat) - (X2 * (w2 * w2) * (w1 * w1) - X1 * (w1 * w1) * (w2 * w2))) := zfs (fm_lt _ _) (zfm hx2 (zfm hz1 hz1)) ku
  have kr : zd PP ((rJ y1 z1 y2 z2 : Nat) - (Y2 * (w2 * w2 * w2) * (w1 * w1) * w1 - Y1 * (w1 * w1 * w1) * (w2 * w2) * w2)) := zfs (fm_lt _ _) (zfm (zfm hy2 (zfm hz1 hz1)) hz1) ks
  have lh : hJ x1 z1 x2 z2 < PP := fs_lt _ _
  have lr : rJ y1 z1 y2 z2 < PP := fs_lt _ _
  have n4 := zd_prod gdP.1 (zd_prod gdP.1 nz1 nz1) (zd_prod gdP.1 nz2 nz2)
  have n6 := zd_prod gdP.1 (zd_prod gdP.1 (zd_prod gdP.1 nz1 nz1) nz1) (zd_prod gdP.1 (zd_prod gdP.1 nz2 nz2) nz2)
  generalize hJ x1 z1 x2 z2 = hh at *
  generalize rJ y1 z1 y2 z2 = rr at *
  by_cases hx : zd PP (X2 - X1)
  · have h0 : hh = 0 := (zz_iff lh).mpr (kh.l2 hx 1 (w1 * w1 * (w2 * w2)) (by grind))
    by_cases hy : zd PP (Y2 - Y1)
    · have r0 : rr = 0 := (zz_iff lr).mpr (kr.l2 hy 1 (w1 * w1 * w1 * (w2 * w2 * w2)) (by grind))
      rw [if_pos ⟨h0, r0⟩, show ep PP X2 Y2 = ep PP X1 Y1 from (ep_iff PP0).mpr ⟨hx, hy⟩]
      exact rep_tw h
    · have r0 : ¬ rr = 0 := by
        intro e
        have k1 := (zz_iff lr).mp e
        exact hy (zd_can gdP.1 (k1.l2 kr 1 (-1) (by grind)) n6)
      rw [if_neg (fun e => r0 e.2), if_pos h0, eadd_op PP0 (zd_sub hx) (fun e => hy (zd_sub e))]
      exact Or.inl ⟨rfl, rfl⟩
  · have h0 : ¬ hh = 0 := by
      intro e
      have k1 := (zz_iff lh).mp e
      exact hx (zd_can gdP.1 (k1.l2 kh 1 (-1) (by grind)) n4)
    rw [if_neg (fun e => h0 e.1), if_neg h0]
    have hl := slope gdP.1 hx (Y2 - Y1)
    rw [eadd_ch gdP.1 hx hl]
    generalize (Y2 - Y1) * ivI PP (X2 - X1) = l at *
    refine Or.inr ⟨rfl, _, _, (w1 * w2) * (X2 * (w2 * w2) * (w1 * w1) - X1 * (w1 * w1) * (w2 * w2)), rfl, isE_ch gdP.1 e1 e2 hx hl, ?_⟩
    have nh : ¬ zd PP (X2 * (w2 * w2) * (w1 * w1) - X1 * (w1 * w1) * (w2 * w2)) := fun e => h0 ((zz_iff lh).mpr (e.l2 kh 1 1 (by grind)))
    refine ⟨zd_prod gdP.1 (zd_prod gdP.1 nz1 nz2) nh, ?_⟩
    have kX : zd PP ((p3x x1 z2 hh rr : Nat) - _) := zfs (fm_lt _ _) (zfs (fm_lt _ _) (zfs (fm_lt _ _) (zfm kr kr) (zfm kh (zfm kh kh))) (zfm ku (zfm kh kh))) (zfm ku (zfm kh kh))
    have lX : p3x x1 z2 hh rr < PP := fs_lt _ _
    have kY := zfs (fm_lt _ _) (zfm (zfs lX (zfm ku (zfm kh kh)) kX) kr) (zfm ks (zfm kh (zfm kh kh)))
    refine ⟨?_, ?_, zfm (zfm hz1 hz2) kh⟩
    · exact zd_tr kX (hl.l1 (X1*l*w1^6*w2^6 - X2*l*w1^6*w2^6 + Y1*w1^6*w2^6 - Y2*w1^6*w2^6) (by grind))
    · exact zd_tr kY (hl.l1 (-2*X1^3*w1^9*w2^9 + 3*X1^2*X2*w1^9*w2^9 + X1^2*l^2*w1^9*w2^9 - 2*X1*X2*l^2*w1^9*w2^9 + X1*Y1*l*w1^9*w2^9 - X1*Y2*l*w1^9*w2^9 - X2^3*w1^9*w2^9 + X2^2*l^2*w1^9*w2^9 - X2*Y1*l*w1^9*w2^9 + X2*Y2*l*w1^9*w2^9 + Y1^2*w1^9*w2^9 - 2*Y1*Y2*w1^9*w2^9 + Y2^2*w1^9*w2^9) (by grind))

