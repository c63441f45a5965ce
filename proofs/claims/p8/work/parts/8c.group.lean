/-! THE GROUP LAW -/
theorem i1x {x1 x2 x3 y2 a b y1 y3 xD yD xE yE u v s t : Int} (h1 : y1 = y2 - a * (x2 - x1)) (h3 : y3 = y2 + b * (x3 - x2)) (h4 : xD = a * a - x1 - x2) (h5 : yD = a * (x1 - xD) - y1) (h6 : xE = b * b - x2 - x3) (h7 : yE = b * (x2 - xE) - y2) (h8 : u = x3 - xD) (h9 : v = y3 - yD) (ha : s = xE - x1) (hb : t = yE - y1) : v * v * (s * s) - t * t * (u * u) - (xD + x3 - x1 - xE) * (u * u) * (s * s) = (-a^4*x1 + a^4*x2 - 2*a^3*b^3 + 4*a^3*b*x2 + 2*a^3*b*x3 - 2*a^3*y2 - 3*a^2*b^2*x1 - a^2*b^2*x2 - 2*a^2*b^2*x3 + 3*a^2*x1^2 + 3*a^2*x1*x2 + 6*a^2*x1*x3 - a^2*x2^2 + 2*a^2*x2*x3 + 2*a^2*x3^2 + 2*a*b^3*x1 + 3*a*b^3*x2 + a*b^3*x3 - 6*a*b*x1*x2 - 7*a*b*x2^2 - 7*a*b*x2*x3 - a*b*x3^2 + 4*a*x1*y2 + 4*a*x2*y2 + 4*a*x3*y2 + 3*b^2*x1^2 + 5*b^2*x1*x2 + 4*b^2*x1*x3 + b^2*x2^2 + 2*b^2*x2*x3 - 2*x1^3 - 6*x1^2*x2 - 6*x1^2*x3 - 4*x1*x2^2 - 10*x1*x2*x3 - 4*x1*x3^2 - 2*x2^2*x3 - 2*x2*x3^2) * (a * (y1 + y2) - (x1 * x1 + x1 * x2 + x2 * x2)) + (2*a^3*b^3 - a^3*b*x1 - 3*a^3*b*x2 - 2*a^3*b*x3 + 2*a^2*b^2*x1 + a^2*b^2*x2 + 3*a^2*b^2*x3 - 2*a^2*x1*x2 - 4*a^2*x1*x3 - a^2*x2^2 - 5*a^2*x2*x3 - 3*a^2*x3^2 - 2*a*b^3*x1 - 4*a*b^3*x2 + a*b*x1^2 + 7*a*b*x1*x2 + 7*a*b*x2^2 + 6*a*b*x2*x3 - b^4*x2 + b^4*x3 + 2*b^3*y2 - 2*b^2*x1^2 - 2*b^2*x1*x2 - 6*b^2*x1*x3 + b^2*x2^2 - 3*b^2*x2*x3 - 3*b^2*x3^2 - 4*b*x1*y2 - 4*b*x2*y2 - 4*b*x3*y2 + 2*x1^2*x2 + 4*x1^2*x3 + 2*x1*x2^2 + 10*x1*x2*x3 + 6*x1*x3^2 + 4*x2^2*x3 + 6*x2*x3^2 + 2*x3^3) * (b * (y2 + y3) - (x2 * x2 + x2 * x3 + x3 * x3)) := by
  subst h1 h3 h4 h5 h6 h7 h8 h9 ha hb
  grind
theorem i1y {x1 x2 x3 y2 a b y1 y3 xD yD xE yE u v s t : Int} (h1 : y1 = y2 - a * (x2 - x1)) (h3 : y3 = y2 + b * (x3 - x2)) (h4 : xD = a * a - x1 - x2) (h5 : yD = a * (x1 - xD) - y1) (h6 : xE = b * b - x2 - x3) (h7 : yE = b * (x2 - xE) - y2) (h8 : u = x3 - xD) (h9 : v = y3 - yD) (ha : s = xE - x1) (hb : t = yE - y1) : v * s * (x3 * (u * u) - (v * v - (xD + x3) * (u * u))) - y3 * (u * u * u * s) - (t * u * (x1 * (u * u) - (v * v - (xD + x3) * (u * u))) - y1 * (u * u * u * s)) = (-2*a^5*b^2 + 2*a^5*x1 + a^5*x2 + 3*a^5*x3 - 3*a^4*b*x2 + 3*a^4*b*x3 + 4*a^4*y2 + 4*a^3*b^2*x1 + 5*a^3*b^2*x2 + 3*a^3*b^2*x3 - 4*a^3*x1^2 - 9*a^3*x1*x2 - 7*a^3*x1*x3 - 2*a^3*x2^2 - 8*a^3*x2*x3 + a^2*b^3*x2 - a^2*b^3*x3 - 2*a^2*b^2*y2 + a^2*b*x1*x2 - a^2*b*x1*x3 + 4*a^2*b*x2^2 - 6*a^2*b*x2*x3 + 2*a^2*b*x3^2 - 2*a^2*x1*y2 - 6*a^2*x2*y2 + 2*a^2*x3*y2 + 2*a*b^4*x2 - 2*a*b^4*x3 - 4*a*b^3*y2 - 2*a*b^2*x1^2 - 5*a*b^2*x1*x2 - 3*a*b^2*x1*x3 - 2*a*b^2*x2^2 - 6*a*b^2*x2*x3 + 6*a*b^2*x3^2 + 12*a*b*x3*y2 + 2*a*x1^3 + 8*a*x1^2*x2 + 4*a*x1^2*x3 + 8*a*x1*x2^2 + 10*a*x1*x2*x3 - 2*a*x2^3 - 2*a*x2^2*x3 - 6*a*x2*x3^2 - 4*a*x3^3 + 4*a*y2^2 - b^3*x1*x2 + b^3*x1*x3 - 2*b^3*x2^2 + 2*b^3*x2*x3 + 2*b^2*x1*y2 + 4*b^2*x2*y2 + 2*b*x1^2*x2 - 2*b*x1^2*x3 + 4*b*x1*x2^2 - 4*b*x1*x3^2 + 2*b*x2^2*x3 - 2*b*x2*x3^2 - 2*x1^2*y2 - 4*x1*x2*y2 - 4*x1*x3*y2 - 2*x2*x3*y2) * (a * (y1 + y2) - (x1 * x1 + x1 * x2 + x2 * x2)) + (2*a^5*b^2 - 3*a^5*x2 - 3*a^5*x3 + 3*a^4*b*x2 - 3*a^4*b*x3 - 2*a^3*b^2*x1 - 5*a^3*b^2*x2 - 5*a^3*b^2*x3 - 4*a^3*b*y2 + 3*a^3*x1*x2 + 3*a^3*x1*x3 + 8*a^3*x2^2 + 14*a^3*x2*x3 + 2*a^3*x3^2 - a^2*b^3*x2 + a^2*b^3*x3 + 6*a^2*b^2*y2 - 3*a^2*b*x1*x2 + 3*a^2*b*x1*x3 - 2*a^2*b*x2^2 + 4*a^2*b*x2*x3 - 2*a^2*b*x3^2 - 8*a^2*x2*y2 - 10*a^2*x3*y2 + a*b^2*x1*x2 + 5*a*b^2*x1*x3 - 4*a*b^2*x2^2 + 10*a*b^2*x2*x3 + 4*a*b*x1*y2 + 8*a*b*x2*y2 - 2*a*x1*x2^2 - 8*a*x1*x2*x3 - 2*a*x1*x3^2 + 2*a*x2^3 - 4*a*x2^2*x3 - 4*a*x2*x3^2 + b^3*x1*x2 - b^3*x1*x3 + 2*b^3*x2*x3 - 2*b^3*x3^2 - 2*b^2*x1*y2 + 2*b^2*x2*y2 - 6*b^2*x3*y2 - 2*b*x1*x2^2 - 2*b*x1*x2*x3 + 4*b*x1*x3^2 - 4*b*x2^2*x3 + 2*b*x2*x3^2 + 2*b*x3^3 - 4*b*y2^2 + 2*x1*x2*y2 + 4*x1*x3*y2 + 4*x2*x3*y2 + 2*x3^2*y2) * (b * (y2 + y3) - (x2 * x2 + x2 * x3 + x3 * x3)) := by
  subst h1 h3 h4 h5 h6 h7 h8 h9 ha hb
  grind
theorem i2x {x1 x3 a b y1 y3 xD yD xE yE u v s t : Int} (h3 : y3 = y1 + b * (x3 - x1)) (h4 : xD = a * a - x1 - x1) (h5 : yD = a * (x1 - xD) - y1) (h6 : xE = b * b - x1 - x3) (h7 : yE = b * (x1 - xE) - y1) (h8 : u = x3 - xD) (h9 : v = y3 - yD) (ha : s = xE - x1) (hb : t = yE - y1) : v * v * (s * s) - t * t * (u * u) - (xD + x3 - x1 - xE) * (u * u) * (s * s) = (-2*a^3*b^3 + 4*a^3*b*x1 + 2*a^3*b*x3 - 2*a^3*y1 - 4*a^2*b^2*x1 - 2*a^2*b^2*x3 + 5*a^2*x1^2 + 8*a^2*x1*x3 + 2*a^2*x3^2 + 5*a*b^3*x1 + a*b^3*x3 - 13*a*b*x1^2 - 7*a*b*x1*x3 - a*b*x3^2 + 8*a*x1*y1 + 4*a*x3*y1 + 9*b^2*x1^2 + 6*b^2*x1*x3 - 12*x1^3 - 18*x1^2*x3 - 6*x1*x3^2) * (a * (2 * y1) - 3 * x1 * x1) + (2*a^3*b^3 - 4*a^3*b*x1 - 2*a^3*b*x3 + 3*a^2*b^2*x1 + 3*a^2*b^2*x3 - 3*a^2*x1^2 - 9*a^2*x1*x3 - 3*a^2*x3^2 - 6*a*b^3*x1 + 15*a*b*x1^2 + 6*a*b*x1*x3 - b^4*x1 + b^4*x3 + 2*b^3*y1 - 3*b^2*x1^2 - 9*b^2*x1*x3 - 3*b^2*x3^2 - 8*b*x1*y1 - 4*b*x3*y1 + 4*x1^3 + 18*x1^2*x3 + 12*x1*x3^2 + 2*x3^3) * (b * (y1 + y3) - (x1 * x1 + x1 * x3 + x3 * x3)) := by
  subst h3 h4 h5 h6 h7 h8 h9 ha hb
  grind
theorem i2y {x1 x3 a b y1 y3 xD yD xE yE u v s t : Int} (h3 : y3 = y1 + b * (x3 - x1)) (h4 : xD = a * a - x1 - x1) (h5 : yD = a * (x1 - xD) - y1) (h6 : xE = b * b - x1 - x3) (h7 : yE = b * (x1 - xE) - y1) (h8 : u = x3 - xD) (h9 : v = y3 - yD) (ha : s = xE - x1) (hb : t = yE - y1) : v * s * (x3 * (u * u) - (v * v - (xD + x3) * (u * u))) - y3 * (u * u * u * s) - (t * u * (x1 * (u * u) - (v * v - (xD + x3) * (u * u))) - y1 * (u * u * u * s)) = (-2*a^5*b^2 + 3*a^5*x1 + 3*a^5*x3 - 3*a^4*b*x1 + 3*a^4*b*x3 + 4*a^4*y1 + 9*a^3*b^2*x1 + 3*a^3*b^2*x3 - 15*a^3*x1^2 - 15*a^3*x1*x3 + 3*a^2*b^3*x1 - 3*a^2*b^3*x3 - 6*a^2*b^2*y1 + 7*a^2*b*x1^2 - 5*a^2*b*x1*x3 + 4*a^2*b*x3^2 - 8*a^2*x1*y1 + 2*a^2*x3*y1 - a*b^4*x1 + a*b^4*x3 + 2*a*b^3*y1 - 8*a*b^2*x1^2 - 11*a*b^2*x1*x3 - 2*a*b^2*x3^2 - 8*a*b*x1*y1 + 2*a*b*x3*y1 + 20*a*x1^3 + 21*a*x1^2*x3 + 3*a*x1*x3^2 + a*x3^3 + 4*a*y1^2 - 9*b^3*x1^2 + 9*b^3*x1*x3 + 18*b^2*x1*y1 - 6*b*x1^2*x3 - 12*b*x1*x3^2 - 6*x1^2*y1 - 6*x1*x3*y1) * (a * (2 * y1) - 3 * x1 * x1) + (2*a^5*b^2 - 3*a^5*x1 - 3*a^5*x3 + 3*a^4*b*x1 - 3*a^4*b*x3 - 7*a^3*b^2*x1 - 5*a^3*b^2*x3 + 11*a^3*x1^2 + 17*a^3*x1*x3 + 2*a^3*x3^2 - a^2*b^3*x1 + a^2*b^3*x3 - 11*a^2*b*x1^2 + 7*a^2*b*x1*x3 - 2*a^2*b*x3^2 + 6*a*b^2*x1^2 + 15*a*b^2*x1*x3 - 12*a*x1^3 - 27*a*x1^2*x3 - 6*a*x1*x3^2 + b^3*x1^2 + b^3*x1*x3 - 2*b^3*x3^2 - 6*b^2*x3*y1 + 16*b*x1^3 - 6*b*x1^2*x3 + 6*b*x1*x3^2 + 2*b*x3^3 - 4*b*y1^2 + 2*x1^2*y1 + 8*x1*x3*y1 + 2*x3^2*y1) * (b * (y1 + y3) - (x1 * x1 + x1 * x3 + x3 * x3)) := by
  subst h3 h4 h5 h6 h7 h8 h9 ha hb
  grind
theorem zd_can2 {p : Nat} (hp : prm p) {u s e : Int} (h : zd p (u * s * e)) (n1 : ¬ zd p u) (n2 : ¬ zd p s) : zd p e := by
  rcases zd_mul hp h with h1 | h1
  · rcases zd_mul hp h1 with h2 | h2
    · exact absurd h2 n1
    · exact absurd h2 n2
  · exact h1
theorem fx_id {l m u v s t x1 x3 xD xE : Int} : u * u * (s * s) * (l * l - xD - x3 - (m * m - x1 - xE)) = 1 * (v * v * (s * s) - t * t * (u * u) - (xD + x3 - x1 - xE) * (u * u) * (s * s)) + ((l * u + v) * (s * s)) * (l * u - v) + (-(m * s + t) * (u * u)) * (m * s - t) := by grind
theorem fy_id {l m u v s t x1 x3 xD y1 y3 X : Int} (hX : X = l * l - xD - x3) : u * u * u * s * ((l * (x3 - X) - y3) - (m * (x1 - X) - y1)) = 1 * (v * s * (x3 * (u * u) - (v * v - (xD + x3) * (u * u))) - y3 * (u * u * u * s) - (t * u * (x1 * (u * u) - (v * v - (xD + x3) * (u * u))) - y1 * (u * u * u * s))) + (s * (u * u) * (x3 - X) + (t * u - v * s) * (l * u + v)) * (l * u - v) + (-(u * u * u) * (x1 - X)) * (m * s - t) := by
  subst hX
  grind
theorem asc_core {p : Nat} (hp : prm p) {l m u v s t x1 y1 x3 y3 xD yD xE : Int} (h8 : u = x3 - xD) (h9 : v = y3 - yD) (hl : zd p (l * u - v)) (hm : zd p (m * s - t)) (nu : ¬ zd p u) (ns : ¬ zd p s) (hfx : zd p (v * v * (s * s) - t * t * (u * u) - (xD + x3 - x1 - xE) * (u * u) * (s * s))) (hfy : zd p (v * s * (x3 * (u * u) - (v * v - (xD + x3) * (u * u))) - y3 * (u * u * u * s) - (t * u * (x1 * (u * u) - (v * v - (xD + x3) * (u * u))) - y1 * (u * u * u * s)))) : epl p l xD yD x3 = epl p m x1 y1 xE := by
  have h0 : 0 < p := by have := hp.1; omega
  have nuu : ¬ zd p (u * u) := fun e => (zd_mul hp e).elim nu nu
  have nss : ¬ zd p (s * s) := fun e => (zd_mul hp e).elim ns ns
  have nu3 : ¬ zd p (u * u * u) := fun e => (zd_mul hp e).elim nuu nu
  have hX : zd p (l * l - xD - x3 - (m * m - x1 - xE)) := zd_can2 hp (hfx.l3 hl hm _ _ _ fx_id) nuu nss
  have hY : zd p ((l * (x3 - (l * l - xD - x3)) - y3) - (m * (x1 - (l * l - xD - x3)) - y1)) := zd_can2 hp (hfy.l3 hl hm _ _ _ (fy_id rfl)) nu3 ns
  refine (ep_iff h0).mpr ⟨hX, ?_⟩
  generalize l * l - xD - x3 = X at *
  generalize m * m - x1 - xE = X' at *
  subst h8 h9
  exact hY.l3 hl hX 1 (-1) (-m) (by grind)

theorem eas1 {p : Nat} (hp : prm p) {x1 x2 x3 y1 y2 y3 a b xD yD xE yE : Int} (e1 : isE p x1 y1) (e2 : isE p x2 y2) (e3 : isE p x3 y3) (n12 : ¬ zd p (x2 - x1)) (n23 : ¬ zd p (x3 - x2)) (h1 : y1 = y2 - a * (x2 - x1)) (h3 : y3 = y2 + b * (x3 - x2)) (h4 : xD = a * a - x1 - x2) (h5 : yD = a * (x1 - xD) - y1) (h6 : xE = b * b - x2 - x3) (h7 : yE = b * (x2 - xE) - y2) (nD : ¬ zd p (x3 - xD)) (nE : ¬ zd p (xE - x1)) : eadd p (ep p xD yD) (ep p x3 y3) = eadd p (ep p x1 y1) (ep p xE yE) := by
  have hl := slope hp nD (y3 - yD)
  have hm := slope hp nE (yE - y1)
  rw [eadd_ch hp nD hl, eadd_ch hp nE hm]
  have hr1 := chord_rel hp e1 e2 n12 (l := a) (zd0 p (by rw [h1]; omega))
  have hr2 := chord_rel hp e2 e3 n23 (l := b) (zd0 p (by rw [h3]; omega))
  exact asc_core hp rfl rfl hl hm nD nE (hr1.l2 hr2 _ _ (i1x h1 h3 h4 h5 h6 h7 rfl rfl rfl rfl)) (hr1.l2 hr2 _ _ (i1y h1 h3 h4 h5 h6 h7 rfl rfl rfl rfl))
theorem eas2 {p : Nat} (hp : prm p) {x1 x3 y1 y3 a b xD yD xE yE : Int} (e1 : isE p x1 y1) (e3 : isE p x3 y3) (n13 : ¬ zd p (x3 - x1)) (ht : zd p (a * (2 * y1) - 3 * x1 * x1)) (h3 : y3 = y1 + b * (x3 - x1)) (h4 : xD = a * a - x1 - x1) (h5 : yD = a * (x1 - xD) - y1) (h6 : xE = b * b - x1 - x3) (h7 : yE = b * (x1 - xE) - y1) (nD : ¬ zd p (x3 - xD)) (nE : ¬ zd p (xE - x1)) : eadd p (ep p xD yD) (ep p x3 y3) = eadd p (ep p x1 y1) (ep p xE yE) := by
  have hl := slope hp nD (y3 - yD)
  have hm := slope hp nE (yE - y1)
  rw [eadd_ch hp nD hl, eadd_ch hp nE hm]
  have hr2 := chord_rel hp e1 e3 n13 (l := b) (zd0 p (by rw [h3]; omega))
  exact asc_core hp rfl rfl hl hm nD nE (ht.l2 hr2 _ _ (i2x h3 h4 h5 h6 h7 rfl rfl rfl rfl)) (ht.l2 hr2 _ _ (i2y h3 h4 h5 h6 h7 rfl rfl rfl rfl))
theorem eadd_comm {p : Nat} (h : gdp p) {A B : EP} (hA : onE p A) (hB : onE p B) : eadd p A B = eadd p B A := by
  have h0 : 0 < p := by have := h.1.1; omega
  by_cases nA : A = none
  · subst nA
    rw [eadd_0, eadd_0']
  by_cases nB : B = none
  · subst nB
    rw [eadd_0, eadd_0']
  obtain ⟨x1, y1, rfl, e1⟩ := hA.ep nA
  obtain ⟨x2, y2, rfl, e2⟩ := hB.ep nB
  by_cases hx : zd p (x2 - x1)
  · by_cases hy : zd p (y2 - y1)
    · rw [(ep_iff h0).mpr ⟨hx, hy⟩]
    · rw [eadd_op h0 (zd_sub hx) (fun e => hy (zd_sub e)), eadd_op h0 hx hy]
  · have hl := slope h.1 hx (y2 - y1)
    rw [eadd_ch h.1 hx hl, eadd_ch h.1 (l := (y2 - y1) * ivI p (x2 - x1)) (fun e => hx (zd_sub e)) (hl.l1 (-1) (by grind))]
    generalize (y2 - y1) * ivI p (x2 - x1) = l at *
    refine (ep_iff h0).mpr ⟨zd0 p (by grind), hl.l1 (-1) (by grind)⟩
theorem onE_add {p : Nat} (h : gdp p) {A B : EP} (hA : onE p A) (hB : onE p B) : onE p (eadd p A B) := by
  have h0 : 0 < p := by have := h.1.1; omega
  by_cases nA : A = none
  · subst nA
    exact hB
  by_cases nB : B = none
  · subst nB
    rw [eadd_0]
    exact hA
  obtain ⟨x1, y1, rfl, e1⟩ := hA.ep nA
  obtain ⟨x2, y2, rfl, e2⟩ := hB.ep nB
  by_cases hx : zd p (x2 - x1)
  · by_cases hy : zd p (y2 - y1)
    · rw [(ep_iff h0).mpr ⟨hx, hy⟩]
      have hl := slope h.1 (h.y e1) (3 * x1 * x1)
      rw [eadd_tw h.1 (h.y e1) hl]
      exact onE_ep h0 (isE_tw e1 hl)
    · rw [eadd_op h0 (zd_sub hx) (fun e => hy (zd_sub e))]
      trivial
  · have hl := slope h.1 hx (y2 - y1)
    rw [eadd_ch h.1 hx hl]
    exact onE_ep h0 (isE_ch h.1 e1 e2 hx hl)
theorem onE_neg {p : Nat} (h : gdp p) {A : EP} (hA : onE p A) : onE p (eneg p A) := by
  have h0 : 0 < p := by have := h.1.1; omega
  by_cases nA : A = none
  · subst nA
    trivial
  obtain ⟨x1, y1, rfl, e1⟩ := hA.ep nA
  rw [eneg_ep h0]
  exact onE_ep h0 (isE_n e1)
theorem eneg_eneg {p : Nat} (h : gdp p) {A : EP} (hA : onE p A) : eneg p (eneg p A) = A := by
  have h0 : 0 < p := by have := h.1.1; omega
  by_cases nA : A = none
  · subst nA
    rfl
  obtain ⟨x1, y1, rfl, e1⟩ := hA.ep nA
  rw [eneg_ep h0, eneg_ep h0, Int.neg_neg]
theorem eadd_neg {p : Nat} (h : gdp p) {A : EP} (hA : onE p A) : eadd p A (eneg p A) = none := by
  have h0 : 0 < p := by have := h.1.1; omega
  by_cases nA : A = none
  · subst nA
    rfl
  obtain ⟨x1, y1, rfl, e1⟩ := hA.ep nA
  rw [eneg_ep h0]
  exact eadd_op h0 (zd0 p (by omega)) (fun e => h.y e1 (e.l1 1 (by omega)))
theorem eneg_add {p : Nat} (h : gdp p) {A B : EP} (hA : onE p A) (hB : onE p B) : eneg p (eadd p A B) = eadd p (eneg p A) (eneg p B) := by
  have h0 : 0 < p := by have := h.1.1; omega
  by_cases nA : A = none
  · subst nA
    rfl
  by_cases nB : B = none
  · subst nB
    rw [eadd_0]
    show _ = eadd p (eneg p A) none
    rw [eadd_0]
  obtain ⟨x1, y1, rfl, e1⟩ := hA.ep nA
  obtain ⟨x2, y2, rfl, e2⟩ := hB.ep nB
  rw [eneg_ep h0, eneg_ep h0]
  by_cases hx : zd p (x2 - x1)
  · by_cases hy : zd p (y2 - y1)
    · have e : ep p x2 y2 = ep p x1 y1 := (ep_iff h0).mpr ⟨hx, hy⟩
      have e' : ep p x2 (-y2) = ep p x1 (-y1) := (ep_iff h0).mpr ⟨hx, hy.l1 (-1) (by omega)⟩
      rw [e, e']
      have hl := slope h.1 (h.y e1) (3 * x1 * x1)
      generalize 3 * x1 * x1 * ivI p (2 * y1) = l at *
      rw [eadd_tw h.1 (h.y e1) hl, eadd_tw h.1 (l := -l) (h.y (isE_n e1)) (hl.l1 1 (by grind))]
      unfold epl
      rw [eneg_ep h0]
      exact (ep_iff h0).mpr ⟨zd0 p (by grind), zd0 p (by grind)⟩
    · rw [eadd_op h0 (zd_sub hx) (fun e => hy (zd_sub e)), eadd_op h0 (zd_sub hx) (fun e => hy (e.l1 1 (by omega)))]
      rfl
  · have hl := slope h.1 hx (y2 - y1)
    generalize (y2 - y1) * ivI p (x2 - x1) = l at *
    rw [eadd_ch h.1 hx hl, eadd_ch h.1 (l := -l) hx (hl.l1 (-1) (by grind))]
    unfold epl
    rw [eneg_ep h0]
    exact (ep_iff h0).mpr ⟨zd0 p (by grind), zd0 p (by grind)⟩
/-- (A + B) - B = A -/
theorem eadd_sub {p : Nat} (h : gdp p) {A B : EP} (hA : onE p A) (hB : onE p B) : eadd p (eadd p A B) (eneg p B) = A := by
  have h0 : 0 < p := by have := h.1.1; omega
  by_cases nA : A = none
  · subst nA
    exact eadd_neg h hB
  by_cases nB : B = none
  · subst nB
    show eadd p (eadd p A none) none = A
    rw [eadd_0, eadd_0]
  obtain ⟨x1, y1, rfl, e1⟩ := hA.ep nA
  obtain ⟨x2, y2, rfl, e2⟩ := hB.ep nB
  rw [eneg_ep h0]
  by_cases hx : zd p (x2 - x1)
  · by_cases hy : zd p (y2 - y1)
    · have e : ep p x2 y2 = ep p x1 y1 := (ep_iff h0).mpr ⟨hx, hy⟩
      have e' : ep p x2 (-y2) = ep p x1 (-y1) := (ep_iff h0).mpr ⟨hx, hy.l1 (-1) (by omega)⟩
      rw [e, e']
      have hl := slope h.1 (h.y e1) (3 * x1 * x1)
      generalize 3 * x1 * x1 * ivI p (2 * y1) = l at *
      rw [eadd_tw h.1 (h.y e1) hl]
      unfold epl
      obtain ⟨xD, hD⟩ : ∃ xD, xD = l * l - x1 - x1 := ⟨_, rfl⟩
      rw [← hD]
      by_cases hd : zd p (x1 - xD)
      · have e3 : ep p xD (l * (x1 - xD) - y1) = ep p x1 (-y1) := (ep_iff h0).mpr ⟨zd_sub hd, hd.l1 l (by grind)⟩
        rw [e3, eadd_tw h.1 (l := -l) (h.y (isE_n e1)) (hl.l1 1 (by grind))]
        unfold epl
        exact (ep_iff h0).mpr ⟨hd.l1 (-1) (by grind), hd.l1 (-l) (by grind)⟩
      · rw [eadd_ch h.1 (l := -l) hd (zd0 p (by grind))]
        unfold epl
        exact (ep_iff h0).mpr ⟨zd0 p (by grind), zd0 p (by grind)⟩
    · have hy2 := (same_x h.1 e1 e2 hx).resolve_left hy
      rw [eadd_op h0 (zd_sub hx) (fun e => hy (zd_sub e))]
      exact (ep_iff h0).mpr ⟨hx, hy2.l1 (-1) (by omega)⟩
  · have hl := slope h.1 hx (y2 - y1)
    generalize (y2 - y1) * ivI p (x2 - x1) = l at *
    have hr := chord_rel h.1 e1 e2 hx hl
    rw [eadd_ch h.1 hx hl]
    unfold epl
    obtain ⟨xD, hD⟩ : ∃ xD, xD = l * l - x1 - x2 := ⟨_, rfl⟩
    rw [← hD]
    by_cases hd : zd p (x2 - xD)
    · have e3 : ep p xD (l * (x1 - xD) - y1) = ep p x2 (-y2) := (ep_iff h0).mpr ⟨zd_sub hd, hd.l2 hl l (-1) (by grind)⟩
      rw [e3, eadd_tw h.1 (l := -l) (h.y (isE_n e2)) (hr.l3 hl hd 1 (-l) (-(x2 - x1)) (by grind))]
      unfold epl
      exact (ep_iff h0).mpr ⟨hd.l1 (-1) (by grind), hd.l2 hl (-l) (-1) (by grind)⟩
    · rw [eadd_ch h.1 (l := -l) hd (hl.l1 (-1) (by grind))]
      unfold epl
      exact (ep_iff h0).mpr ⟨zd0 p (by grind), zd0 p (by grind)⟩

