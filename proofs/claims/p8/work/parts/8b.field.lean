/-! THE FIELD AND THE CURVE -/
def zd (p : Nat) (e : Int) : Prop := (p : Int) ∣ e
theorem zd.l1 {p : Nat} {e r1 : Int} (h1 : zd p r1) (c1 : Int) (q : e = c1 * r1) : zd p e := q ▸ Int.dvd_trans h1 (Int.dvd_mul_left c1 _)
theorem zd.l2 {p : Nat} {e r1 r2 : Int} (h1 : zd p r1) (h2 : zd p r2) (c1 c2 : Int) (q : e = c1 * r1 + c2 * r2) : zd p e := by
  rw [q]
  exact Int.dvd_add (Int.dvd_trans h1 (Int.dvd_mul_left c1 _)) (Int.dvd_trans h2 (Int.dvd_mul_left c2 _))
theorem zd.l3 {p : Nat} {e r1 r2 r3 : Int} (h1 : zd p r1) (h2 : zd p r2) (h3 : zd p r3) (c1 c2 c3 : Int) (q : e = c1 * r1 + c2 * r2 + c3 * r3) : zd p e := by
  rw [q]
  exact Int.dvd_add (Int.dvd_add (Int.dvd_trans h1 (Int.dvd_mul_left c1 _)) (Int.dvd_trans h2 (Int.dvd_mul_left c2 _))) (Int.dvd_trans h3 (Int.dvd_mul_left c3 _))
theorem zd.l4 {p : Nat} {e r1 r2 r3 r4 : Int} (h1 : zd p r1) (h2 : zd p r2) (h3 : zd p r3) (h4 : zd p r4) (c1 c2 c3 c4 : Int) (q : e = c1 * r1 + c2 * r2 + c3 * r3 + c4 * r4) : zd p e := by
  rw [q]
  exact Int.dvd_add (Int.dvd_add (Int.dvd_add (Int.dvd_trans h1 (Int.dvd_mul_left c1 _)) (Int.dvd_trans h2 (Int.dvd_mul_left c2 _))) (Int.dvd_trans h3 (Int.dvd_mul_left c3 _))) (Int.dvd_trans h4 (Int.dvd_mul_left c4 _))
theorem zd0 (p : Nat) {e : Int} (h : e = 0) : zd p e := h ▸ Int.dvd_zero _
theorem zd_mul {p : Nat} (hp : prm p) {a b : Int} (h : zd p (a * b)) : zd p a ∨ zd p b := by
  unfold zd at *
  rw [Int.ofNat_dvd_left] at *
  rw [Int.ofNat_dvd_left]
  rw [Int.natAbs_mul] at h
  exact hp.mul h
theorem zd_can {p : Nat} (hp : prm p) {a b : Int} (h : zd p (a * b)) (n : ¬ zd p a) : zd p b := (zd_mul hp h).resolve_left n
theorem zd_nn {p : Nat} {a : Nat} (h : ¬ p ∣ a) : ¬ zd p (a : Int) := fun e => h (Int.ofNat_dvd.mp e)
theorem zd_small {p : Nat} {a : Nat} (h0 : 0 < a) (h : a < p) : ¬ zd p (a : Int) := zd_nn (fun e => by have := Nat.le_of_dvd h0 e; omega)
theorem inv_gen {p : Nat} (hp : prm p) {d : Int} (h : ¬ zd p d) : ∃ i : Int, zd p (d * i - 1) := by
  have h2 := hp.1
  have hn : (((d % p).toNat : Nat) : Int) = d % p := Int.toNat_of_nonneg (Int.emod_nonneg _ (by omega))
  obtain ⟨n, hnn⟩ : ∃ n, n = (d % p).toNat := ⟨_, rfl⟩
  rw [← hnn] at hn
  have hd : d = p * (d / p) + n := by rw [hn]; exact (Int.mul_ediv_add_emod d p).symm
  have hnd : ¬ p ∣ n := by
    intro e
    refine h ?_
    rw [hd]
    exact Int.dvd_add (Int.dvd_mul_right _ _) (Int.ofNat_dvd.mpr e)
  have hf := hp.fermat hnd
  have hq := Nat.div_add_mod (n ^ (p - 1)) p
  rw [hf] at hq
  obtain ⟨w, hw⟩ : ∃ w, w = n ^ (p - 2) := ⟨_, rfl⟩
  have hs : n * w = n ^ (p - 1) := by
    rw [hw, ← Nat.pow_succ', show (p - 2).succ = p - 1 by omega]
  rw [← hs] at hq
  obtain ⟨q, hq2⟩ : ∃ q, q = n * w / p := ⟨_, rfl⟩
  rw [← hq2] at hq
  refine ⟨(w : Int), ?_⟩
  have hz : (n : Int) * w = p * q + 1 := by
    have := congrArg (fun x : Nat => (x : Int)) hq
    simp only [Int.natCast_add, Int.natCast_mul] at this
    omega
  obtain ⟨c, hc⟩ : ∃ c, c = d / p := ⟨_, rfl⟩
  rw [← hc] at hd
  refine ⟨c * w + q, ?_⟩
  rw [hd]
  grind
noncomputable def ivI (p : Nat) (d : Int) : Int := @dite _ (∃ i : Int, zd p (d * i - 1)) (Classical.propDecidable _) (fun h => Classical.choose h) (fun _ => 0)
theorem ivI_ok {p : Nat} (hp : prm p) {d : Int} (h : ¬ zd p d) : zd p (d * ivI p d - 1) := by
  have h1 := inv_gen hp h
  unfold ivI
  rw [dif_pos h1]
  exact Classical.choose_spec h1
theorem slope {p : Nat} (hp : prm p) {d : Int} (h : ¬ zd p d) (e : Int) : zd p (e * ivI p d * d - e) := (ivI_ok hp h).l1 e (by grind)
abbrev EP : Type := Option (Nat × Nat)
def ep (p : Nat) (x y : Int) : EP := some ((x % p).toNat, (y % p).toNat)
theorem tn_iff {p : Nat} (h : 0 < p) (x x' : Int) : (x % p).toNat = (x' % p).toNat ↔ zd p (x - x') := by
  have h1 := Int.emod_nonneg x (show (p : Int) ≠ 0 by omega)
  have h2 := Int.emod_nonneg x' (show (p : Int) ≠ 0 by omega)
  unfold zd
  rw [Int.dvd_iff_emod_eq_zero, ← Int.emod_eq_emod_iff_emod_sub_eq_zero]
  omega
theorem ep_iff {p : Nat} (h : 0 < p) {x y x' y' : Int} : ep p x y = ep p x' y' ↔ zd p (x - x') ∧ zd p (y - y') := by
  unfold ep
  rw [Option.some.injEq, Prod.mk.injEq, tn_iff h, tn_iff h]
theorem ep_self {p x y : Nat} (hx : x < p) (hy : y < p) : (some (x, y) : EP) = ep p x y := by
  unfold ep
  rw [Int.emod_eq_of_lt (by omega) (by omega), Int.emod_eq_of_lt (by omega) (by omega), Int.toNat_natCast, Int.toNat_natCast]
/-- on the curve y^2 = x^3 + 7 -/
def isE (p : Nat) (x y : Int) : Prop := zd p (y * y - (x * x * x + 7))
/-- a third point, by the slope -/
def epl (p : Nat) (l x1 y1 x2 : Int) : EP := ep p (l * l - x1 - x2) (l * (x1 - (l * l - x1 - x2)) - y1)
theorem epl_c {p : Nat} (h0 : 0 < p) {l x1 y1 x2 l' x1' y1' x2' : Int} (hl : zd p (l - l')) (h1 : zd p (x1 - x1')) (hy : zd p (y1 - y1')) (h2 : zd p (x2 - x2')) : epl p l x1 y1 x2 = epl p l' x1' y1' x2' := by
  unfold epl
  have hx : zd p (l * l - x1 - x2 - (l' * l' - x1' - x2')) := hl.l3 h1 h2 (l + l') (-1) (-1) (by grind)
  refine (ep_iff h0).mpr ⟨hx, ?_⟩
  exact hl.l4 h1 hx hy (x1 - (l * l - x1 - x2)) l' (-l') (-1) (by grind)
noncomputable def eadd (p : Nat) (A B : EP) : EP := match A, B with
  | none, Q => Q
  | some a, none => some a
  | some a, some b => if a.1 = b.1 then (if a.2 = b.2 then epl p (3 * (a.1 : Int) * (a.1 : Int) * ivI p (2 * (a.2 : Int))) a.1 a.2 a.1 else none) else epl p (((b.2 : Int) - (a.2 : Int)) * ivI p ((b.1 : Int) - (a.1 : Int))) a.1 a.2 b.1
def eneg (p : Nat) (A : EP) : EP := match A with
  | none => none
  | some a => ep p a.1 (-(a.2 : Int))
theorem mo {p : Nat} (h0 : 0 < p) (x : Int) : zd p (((x % p).toNat : Int) - x) := by
  have hn : (((x % p).toNat : Nat) : Int) = x % p := Int.toNat_of_nonneg (Int.emod_nonneg _ (by omega))
  rw [hn]
  have := Int.mul_ediv_add_emod x p
  exact ⟨-(x / p), by rw [Int.mul_neg]; omega⟩
theorem zd_sub {p : Nat} {a b : Int} (h : zd p (a - b)) : zd p (b - a) := h.l1 (-1) (by omega)
theorem zd_tr {p : Nat} {a b c : Int} (h : zd p (a - b)) (h' : zd p (b - c)) : zd p (a - c) := h.l2 h' 1 1 (by omega)
theorem eadd_ch {p : Nat} (hp : prm p) {x1 y1 x2 y2 l : Int} (n : ¬ zd p (x2 - x1)) (hl : zd p (l * (x2 - x1) - (y2 - y1))) : eadd p (ep p x1 y1) (ep p x2 y2) = epl p l x1 y1 x2 := by
  have h0 : 0 < p := by have := hp.1; omega
  have a1 := mo h0 x1
  have a2 := mo h0 x2
  have b1 := mo h0 y1
  have b2 := mo h0 y2
  unfold ep
  show (if (x1 % p).toNat = (x2 % p).toNat then _ else _) = _
  have hn : ¬ (x1 % p).toNat = (x2 % p).toNat := fun e => n (zd_sub ((tn_iff h0 _ _).mp e))
  rw [if_neg hn]
  generalize ((x1 % p).toNat : Int) = X1 at *
  generalize ((x2 % p).toNat : Int) = X2 at *
  generalize ((y1 % p).toNat : Int) = Y1 at *
  generalize ((y2 % p).toNat : Int) = Y2 at *
  have hd : ¬ zd p (X2 - X1) := fun e => n (e.l3 a1 a2 1 1 (-1) (by grind))
  have hs := slope hp hd (Y2 - Y1)
  refine epl_c h0 ?_ a1 b1 a2
  generalize (Y2 - Y1) * ivI p (X2 - X1) = M at *
  have h1 : zd p (M * (x2 - x1) - (y2 - y1)) := by
    have h2 : zd p (M * (x2 - x1) - (Y2 - Y1)) := hs.l3 a1 a2 1 M (-M) (by grind)
    exact h2.l3 b1 b2 1 (-1) 1 (by grind)
  exact zd_can hp (a := x2 - x1) (h1.l2 hl 1 (-1) (by grind)) n
theorem eadd_tw {p : Nat} (hp : prm p) {x y l : Int} (n : ¬ zd p (2 * y)) (hl : zd p (l * (2 * y) - 3 * x * x)) : eadd p (ep p x y) (ep p x y) = epl p l x y x := by
  have h0 : 0 < p := by have := hp.1; omega
  have a1 := mo h0 x
  have b1 := mo h0 y
  unfold ep
  show (if (x % p).toNat = (x % p).toNat then _ else _) = _
  rw [if_pos rfl]
  show (if (y % p).toNat = (y % p).toNat then _ else _) = _
  rw [if_pos rfl]
  generalize ((x % p).toNat : Int) = X at *
  generalize ((y % p).toNat : Int) = Y at *
  have hd : ¬ zd p (2 * Y) := fun e => n (e.l2 b1 1 (-2) (by grind))
  have hs := slope hp hd (3 * X * X)
  refine epl_c h0 ?_ a1 b1 a1
  generalize 3 * X * X * ivI p (2 * Y) = M at *
  have h1 : zd p (M * (2 * y) - 3 * x * x) := hs.l2 (b1.l2 a1 (-(2 * M)) (3 * (X + x)) rfl) 1 1 (by grind)
  exact zd_can hp (a := 2 * y) (h1.l2 hl 1 (-1) (by grind)) n
theorem eadd_op {p : Nat} (h0 : 0 < p) {x y x' y' : Int} (hx : zd p (x - x')) (hy : ¬ zd p (y - y')) : eadd p (ep p x y) (ep p x' y') = none := by
  unfold ep
  show (if (x % p).toNat = (x' % p).toNat then _ else _) = _
  rw [if_pos ((tn_iff h0 _ _).mpr hx)]
  show (if (y % p).toNat = (y' % p).toNat then _ else _) = _
  rw [if_neg (fun e => hy ((tn_iff h0 _ _).mp e))]
theorem eneg_ep {p : Nat} (h0 : 0 < p) (x y : Int) : eneg p (ep p x y) = ep p x (-y) := by
  show ep p ((x % p).toNat : Int) (-((y % p).toNat : Int)) = _
  exact (ep_iff h0).mpr ⟨mo h0 x, (mo h0 y).l1 (-1) (by grind)⟩
theorem eadd_0 (p : Nat) (A : EP) : eadd p A none = A := by cases A <;> rfl
theorem eadd_0' (p : Nat) (A : EP) : eadd p none A = A := rfl
/-- what the curve wants of the prime: odd, and no point with y nought -/
def gdp (p : Nat) : Prop := prm p ∧ ¬ zd p 2 ∧ ∀ x : Int, ¬ zd p (x * x * x + 7)
theorem gdp.y {p : Nat} (h : gdp p) {x y : Int} (e : isE p x y) : ¬ zd p (2 * y) := by
  intro hd
  have h1 := zd_can h.1 hd h.2.1
  refine h.2.2 x ?_
  unfold isE at e
  exact h1.l2 e y (-1) (by grind)
def onE (p : Nat) (A : EP) : Prop := match A with
  | none => True
  | some a => a.1 < p ∧ a.2 < p ∧ isE p a.1 a.2
theorem onE.ep {p : Nat} {A : EP} (h : onE p A) (n : A ≠ none) : ∃ x y : Int, A = ep p x y ∧ isE p x y := by
  match A, h, n with
  | none, _, n => exact absurd rfl n
  | some (x, y), h, _ => exact ⟨x, y, ep_self h.1 h.2.1, h.2.2⟩
theorem isE_c {p : Nat} {x y x' y' : Int} (h : isE p x y) (hx : zd p (x' - x)) (hy : zd p (y' - y)) : isE p x' y' := by
  unfold isE at *
  exact h.l3 hx hy 1 (-(x' * x' + x' * x + x * x)) (y' + y) (by grind)
theorem onE_ep {p : Nat} (h0 : 0 < p) {x y : Int} (h : isE p x y) : onE p (ep p x y) := by
  refine ⟨?_, ?_, isE_c h (mo h0 x) (mo h0 y)⟩
  · have := Int.emod_lt_of_pos x (show (0 : Int) < p by omega)
    have := Int.emod_nonneg x (show (p : Int) ≠ 0 by omega)
    show (x % p).toNat < p
    omega
  · have := Int.emod_lt_of_pos y (show (0 : Int) < p by omega)
    have := Int.emod_nonneg y (show (p : Int) ≠ 0 by omega)
    show (y % p).toNat < p
    omega
theorem isE_n {p : Nat} {x y : Int} (h : isE p x y) : isE p x (-y) := by
  unfold isE at *
  exact h.l1 1 (by grind)
theorem same_x {p : Nat} (hp : prm p) {x1 y1 x2 y2 : Int} (e1 : isE p x1 y1) (e2 : isE p x2 y2) (hx : zd p (x2 - x1)) : zd p (y2 - y1) ∨ zd p (y2 + y1) := by
  unfold isE at *
  refine zd_mul hp (?_ : zd p ((y2 - y1) * (y2 + y1)))
  exact e2.l3 e1 hx 1 (-1) (x2 * x2 + x2 * x1 + x1 * x1) (by grind)
theorem chord_rel {p : Nat} (hp : prm p) {x1 y1 x2 y2 l : Int} (e1 : isE p x1 y1) (e2 : isE p x2 y2) (n : ¬ zd p (x2 - x1)) (hl : zd p (l * (x2 - x1) - (y2 - y1))) : zd p (l * (y1 + y2) - (x1 * x1 + x1 * x2 + x2 * x2)) := by
  unfold isE at *
  refine zd_can hp (a := x2 - x1) ?_ n
  exact hl.l3 e2 e1 (y1 + y2) 1 (-1) (by grind)
/-- the third point lies on the curve -/
theorem isE_ch {p : Nat} (hp : prm p) {x1 y1 x2 y2 l : Int} (e1 : isE p x1 y1) (e2 : isE p x2 y2) (n : ¬ zd p (x2 - x1)) (hl : zd p (l * (x2 - x1) - (y2 - y1))) : isE p (l * l - x1 - x2) (l * (x1 - (l * l - x1 - x2)) - y1) := by
  have hr := chord_rel hp e1 e2 n hl
  unfold isE at *
  have hr2 : zd p (l * (2 * y1 + l * (x2 - x1)) - (x1 * x1 + x1 * x2 + x2 * x2)) := hr.l2 hl 1 l (by grind)
  exact hr2.l2 e1 (l^2 - 2*x1 - x2) (1) (by grind)
theorem isE_tw {p : Nat} {x y l : Int} (e : isE p x y) (hl : zd p (l * (2 * y) - 3 * x * x)) : isE p (l * l - x - x) (l * (x - (l * l - x - x)) - y) := by
  unfold isE at *
  exact hl.l2 e (l^2 - 3*x) (1) (by grind)

