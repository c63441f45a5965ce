/-! PRIMES -/
def prm (p : Nat) : Prop := 2 ≤ p ∧ ∀ d, d ∣ p → d = 1 ∨ d = p
theorem prm.cop {p a : Nat} (h : prm p) (ha : ¬ p ∣ a) : Nat.gcd p a = 1 := by
  rcases h.2 (Nat.gcd p a) (Nat.gcd_dvd_left p a) with e | e
  · exact e
  · exact absurd (e ▸ Nat.gcd_dvd_right p a) ha
theorem prm.mul {p a b : Nat} (h : prm p) (hab : p ∣ a * b) : p ∣ a ∨ p ∣ b := by
  by_cases ha : p ∣ a
  · exact Or.inl ha
  · exact Or.inr (Nat.Coprime.dvd_of_dvd_mul_left (h.cop ha) hab)
theorem prm_ex (n : Nat) : 2 ≤ n → ∃ p, prm p ∧ p ∣ n := by
  induction n using Nat.strongRecOn with
  | ind n ih =>
    intro h2
    by_cases hp : prm n
    · exact ⟨n, hp, Nat.dvd_refl n⟩
    · have hne : ∃ d, d ∣ n ∧ d ≠ 1 ∧ d ≠ n := Classical.byContradiction fun hne => hp ⟨h2, fun d hd => Classical.byContradiction fun hx => hne ⟨d, hd, fun e => hx (Or.inl e), fun e => hx (Or.inr e)⟩⟩
      obtain ⟨d, hd, h1, hn⟩ := hne
      have hle := Nat.le_of_dvd (by omega) hd
      have hd0 : d ≠ 0 := by
        intro e
        subst e
        have := Nat.eq_zero_of_zero_dvd hd
        omega
      obtain ⟨p, hp1, hp2⟩ := ih d (by omega) (by omega)
      exact ⟨p, hp1, Nat.dvd_trans hp2 hd⟩
def chs : Nat → Nat → Nat
  | _, 0 => 1
  | 0, _ + 1 => 0
  | n + 1, k + 1 => chs n k + chs n (k + 1)
theorem chs_0 (n : Nat) : chs n 0 = 1 := by cases n <;> rfl
theorem chs_hi : ∀ n k, n < k → chs n k = 0
  | _, 0, h => absurd h (Nat.not_lt_zero _)
  | 0, _ + 1, _ => rfl
  | n + 1, k + 1, h => by rw [chs, chs_hi n k (by omega), chs_hi n (k + 1) (by omega)]
theorem chs_nn : ∀ n, chs n n = 1
  | 0 => rfl
  | n + 1 => by rw [chs, chs_nn n, chs_hi n (n + 1) (by omega)]
theorem chs_k : ∀ n k, (k + 1) * chs (n + 1) (k + 1) = (n + 1) * chs n k
  | 0, 0 => rfl
  | 0, k + 1 => by simp [chs]
  | n + 1, 0 => by
    have := chs_k n 0
    simp only [chs, chs_0] at this ⊢
    omega
  | n + 1, k + 1 => by
    have h1 := chs_k n (k + 1)
    have h2 := chs_k n k
    rw [chs, Nat.mul_add, h1]
    rw [show (k + 1 + 1) * chs (n + 1) (k + 1) = (k + 1) * chs (n + 1) (k + 1) + chs (n + 1) (k + 1) by rw [Nat.add_mul, Nat.one_mul], h2]
    rw [show chs (n + 1) (k + 1) = chs n k + chs n (k + 1) from rfl]
    rw [show (n + 1 + 1) * (chs n k + chs n (k + 1)) = (n + 1) * chs n k + (n + 1) * chs n (k + 1) + (chs n k + chs n (k + 1)) by rw [Nat.add_mul, Nat.one_mul, Nat.mul_add]]
    omega
def bsm (n a : Nat) : Nat → Nat
  | 0 => 0
  | m + 1 => bsm n a m + chs n m * a ^ m
theorem bsm_s (n a : Nat) : ∀ m, bsm (n + 1) a (m + 1) = a * bsm n a m + bsm n a (m + 1)
  | 0 => by simp [bsm, chs_0]
  | m + 1 => by
    rw [bsm, bsm_s n a m, show bsm n a (m + 1 + 1) = bsm n a (m + 1) + chs n (m + 1) * a ^ (m + 1) from rfl, show bsm n a (m + 1) = bsm n a m + chs n m * a ^ m from rfl, chs, Nat.add_mul, Nat.mul_add, Nat.pow_succ]
    have : chs n m * (a ^ m * a) = a * (chs n m * a ^ m) := by rw [Nat.mul_comm a, Nat.mul_assoc]
    omega
theorem bsm_p (a : Nat) : ∀ n, (a + 1) ^ n = bsm n a (n + 1)
  | 0 => by simp [bsm, chs_0]
  | n + 1 => by
    rw [bsm_s, Nat.pow_succ, bsm_p a n, show bsm n a (n + 1 + 1) = bsm n a (n + 1) + chs n (n + 1) * a ^ (n + 1) from rfl, chs_hi n (n + 1) (by omega), Nat.mul_add, Nat.mul_comm a]
    simp
theorem prm_chs {p k : Nat} (h : prm p) (h0 : 0 < k) (hk : k < p) : p ∣ chs p k := by
  obtain ⟨j, rfl⟩ : ∃ j, k = j + 1 := ⟨k - 1, by omega⟩
  obtain ⟨n, hn⟩ : ∃ n, p = n + 1 := ⟨p - 1, by omega⟩
  have h1 := chs_k n j
  rw [← hn] at h1
  have h2 : p ∣ (j + 1) * chs p (j + 1) := ⟨chs n j, h1⟩
  rcases h.mul h2 with h3 | h3
  · have := Nat.le_of_dvd (by omega) h3
    omega
  · exact h3
theorem prm_bsm {p a : Nat} (h : prm p) : ∀ m, m + 1 ≤ p → bsm p a (m + 1) % p = 1
  | 0, _ => by
    have := h.1
    simp only [bsm, chs_0, Nat.pow_zero, Nat.mul_one, Nat.zero_add]
    exact Nat.mod_eq_of_lt (by omega : 1 < p)
  | m + 1, hm => by
    rw [bsm, Nat.add_mod, prm_bsm h m (by omega)]
    obtain ⟨c, hc⟩ := prm_chs h (k := m + 1) (by omega) (by omega)
    rw [hc, Nat.mul_assoc, Nat.mul_mod_right, Nat.add_zero, Nat.mod_eq_of_lt]
    have := h.1
    omega
theorem prm.frob {p : Nat} (h : prm p) (a : Nat) : (a + 1) ^ p % p = (a ^ p + 1) % p := by
  obtain ⟨n, hn⟩ : ∃ n, p = n + 1 := ⟨p - 1, by have := h.1; omega⟩
  have h1 := prm_bsm (a := a) h n (by omega)
  rw [bsm_p, bsm, chs_nn, Nat.one_mul, Nat.add_mod]
  rw [← hn] at h1
  rw [h1, Nat.add_comm, Nat.add_mod (a ^ p) 1]
  have : 1 % p = 1 := Nat.mod_eq_of_lt (by have := h.1; omega)
  rw [this]
theorem prm.flt {p : Nat} (h : prm p) : ∀ a, a ^ p % p = a % p
  | 0 => by rw [Nat.zero_pow (by have := h.1; omega)]
  | a + 1 => by rw [h.frob, Nat.add_mod, h.flt a, ← Nat.add_mod]
theorem dvd_of_mod_eq {p x y : Nat} (h : x % p = y % p) (hle : y ≤ x) : p ∣ x - y := by
  have h1 := Nat.div_add_mod x p
  have h2 := Nat.div_add_mod y p
  refine ⟨x / p - y / p, ?_⟩
  rw [Nat.mul_sub]
  omega
theorem prm.fermat {p a : Nat} (h : prm p) (ha : ¬ p ∣ a) : a ^ (p - 1) % p = 1 := by
  have h2 := h.1
  have h1 := h.flt a
  obtain ⟨n, hn⟩ : ∃ n, p = n + 1 := ⟨p - 1, by omega⟩
  have ha0 : 0 < a := Nat.pos_of_ne_zero (fun e => ha (e ▸ Nat.dvd_zero p))
  have e1 : a ^ p = a * a ^ (p - 1) := by rw [hn, Nat.add_sub_cancel, Nat.pow_succ, Nat.mul_comm]
  rw [e1] at h1
  have hpos : 0 < a ^ (p - 1) := Nat.pow_pos ha0
  have h3 : p ∣ a * a ^ (p - 1) - a := dvd_of_mod_eq h1 (Nat.le_mul_of_pos_right a hpos)
  have h4 : a * a ^ (p - 1) - a = a * (a ^ (p - 1) - 1) := by rw [Nat.mul_sub, Nat.mul_one]
  rw [h4] at h3
  rcases h.mul h3 with h5 | h5
  · exact absurd h5 ha
  · obtain ⟨c, hc⟩ := h5
    have : a ^ (p - 1) = 1 + p * c := by omega
    rw [this, Nat.add_mul_mod_self_left]
    exact Nat.mod_eq_of_lt (by omega)
/-- exponents that give 1 are closed under the common divisor -/
theorem pow_gcd {p a : Nat} : ∀ x y, a ^ x % p = 1 % p → a ^ y % p = 1 % p → a ^ (Nat.gcd x y) % p = 1 % p := by
  intro x
  induction x using Nat.strongRecOn with
  | ind x ih =>
    intro y hx hy
    by_cases h0 : x = 0
    · subst h0
      rw [Nat.gcd_zero_left]
      exact hy
    · rw [Nat.gcd_rec]
      refine ih (y % x) (Nat.mod_lt y (by omega)) x ?_ hx
      have e : a ^ y = (a ^ x) ^ (y / x) * a ^ (y % x) := by rw [← Nat.pow_mul, ← Nat.pow_add, Nat.div_add_mod]
      rw [e, Nat.mul_mod, Nat.pow_mod, hx, ← Nat.pow_mod, Nat.one_pow, ← Nat.mul_mod, Nat.one_mul] at hy
      exact hy
theorem pock1 {n a q m p : Nat} (hq : prm q) (hm : n - 1 = m * q) (h1 : a ^ (n - 1) % n = 1 % n) (h2 : Nat.gcd (a ^ m % n + (n - 1)) n = 1) (hp : prm p) (hpn : p ∣ n) (hn : 2 ≤ n) : q ∣ p - 1 := by
  refine Classical.byContradiction fun hc => ?_
  have hg := hq.cop hc
  have hmp : ∀ e, a ^ e % n = 1 % n → a ^ e % p = 1 % p := by
    intro e he
    have := congrArg (· % p) he
    simpa [Nat.mod_mod_of_dvd _ hpn] using this
  have ha : ¬ p ∣ a := by
    intro hd
    have h3 := hmp _ h1
    have h4 : a ^ (n - 1) % p = 0 := by
      obtain ⟨k, hk⟩ : ∃ k, n - 1 = k + 1 := ⟨n - 2, by omega⟩
      rw [hk]
      exact Nat.mod_eq_zero_of_dvd (Nat.dvd_trans hd ⟨a ^ k, by rw [Nat.pow_succ, Nat.mul_comm]⟩)
    rw [h4, Nat.mod_eq_of_lt hp.1] at h3
    omega
  have e1 : a ^ (m * q) % p = 1 % p := hm ▸ hmp _ h1
  have e2 : a ^ (m * (p - 1)) % p = 1 % p := by
    rw [Nat.mul_comm, Nat.pow_mul, Nat.pow_mod, hp.fermat ha, Nat.one_pow]
  have e3 := pow_gcd _ _ e1 e2
  rw [Nat.gcd_mul_left, hg, Nat.mul_one] at e3
  have h5 : p ∣ a ^ m % n + (n - 1) := by
    apply Nat.dvd_of_mod_eq_zero
    rw [Nat.add_mod, Nat.mod_mod_of_dvd _ hpn, e3, ← Nat.add_mod, show 1 + (n - 1) = n by omega]
    exact Nat.mod_eq_zero_of_dvd hpn
  have h6 := Nat.dvd_gcd h5 hpn
  rw [h2] at h6
  have := Nat.le_of_dvd (by decide) h6
  have := hp.1
  omega
theorem prm_of {n F : Nat} (hn : 2 ≤ n) (hF : n ≤ F * F) (h : ∀ p, prm p → p ∣ n → F ∣ p - 1) : prm n := by
  have hb : ∀ d, d ∣ n → 2 ≤ d → F + 1 ≤ d := by
    intro d hd h2
    obtain ⟨p, hp, hpd⟩ := prm_ex d h2
    have h3 := h p hp (Nat.dvd_trans hpd hd)
    have h4 := Nat.le_of_dvd (by have := hp.1; omega) h3
    have h5 := Nat.le_of_dvd (by omega) hpd
    have := hp.1
    omega
  refine ⟨hn, fun d hd => ?_⟩
  obtain ⟨c, hc⟩ := hd
  have hd0 : d ≠ 0 := by
    intro e
    rw [e, Nat.zero_mul] at hc
    omega
  have hc0 : c ≠ 0 := by
    intro e
    rw [e, Nat.mul_zero] at hc
    omega
  by_cases h1 : d = 1
  · exact Or.inl h1
  · by_cases h2 : c = 1
    · right
      rw [hc, h2, Nat.mul_one]
    · have h3 := hb d ⟨c, hc⟩ (by omega)
      have h4 := hb c ⟨d, by rw [hc, Nat.mul_comm]⟩ (by omega)
      have h5 := Nat.mul_le_mul h3 h4
      have h6 : F * F < (F + 1) * (F + 1) := Nat.mul_lt_mul'' (by omega) (by omega)
      omega
theorem dvd_mul_cop {a b c : Nat} (h : Nat.gcd a b = 1) (ha : a ∣ c) (hb : b ∣ c) : a * b ∣ c := Nat.Coprime.mul_dvd_of_dvd_of_dvd h ha hb
/-- powers modulo n, as they are reckoned -/
def pwm (a n : Nat) : Nat → Nat → Nat
  | 0, _ => 1 % n
  | f + 1, e => (pwm a n f (e / 2)) ^ 2 % n * (if e % 2 = 1 then a else 1) % n
theorem pwm_eq (a n : Nat) : ∀ f e, e < 2 ^ f → pwm a n f e = a ^ e % n
  | 0, e, h => by
    have : e = 0 := by simpa using h
    subst this
    rfl
  | f + 1, e, h => by
    rw [pwm, pwm_eq a n f (e / 2) (by rw [Nat.pow_succ] at h; omega)]
    have h2 : a ^ e = (a ^ (e / 2)) ^ 2 * (if e % 2 = 1 then a else 1) := by
      split
      · rename_i h1
        rw [← Nat.pow_mul, ← Nat.pow_succ]
        congr 1
        omega
      · rw [← Nat.pow_mul, Nat.mul_one]
        congr 1
        omega
    rw [h2, ← Nat.pow_mod, Nat.mul_mod, Nat.mod_mod, ← Nat.mul_mod]
def pkc (n a q m f : Nat) : Bool := decide (n - 1 = m * q) && decide (n - 1 < 2 ^ f) && decide (pwm a n f (n - 1) = 1 % n) && decide (Nat.gcd (pwm a n f m + (n - 1)) n = 1) && decide (2 ≤ n)
theorem pock2 {n a q m f : Nat} (hq : prm q) (h : pkc n a q m f = true) : ∀ p, prm p → p ∣ n → q ∣ p - 1 := by
  simp only [pkc, Bool.and_eq_true, decide_eq_true_eq] at h
  obtain ⟨⟨⟨⟨h1, h2⟩, h3⟩, h4⟩, h5⟩ := h
  have h0 : m < 2 ^ f := by
    have : m ≤ m * q := Nat.le_mul_of_pos_right m (by have := hq.1; omega)
    omega
  rw [pwm_eq a n f _ h2] at h3
  rw [pwm_eq a n f _ h0] at h4
  exact fun p hp hd => pock1 hq h1 h3 h4 hp hd h5
theorem trial {n : Nat} (r : Nat) (h2 : 2 ≤ n) (hr : n < r * r) (h : ∀ d, d < r → 2 ≤ d → n % d ≠ 0) : prm n := by
  refine ⟨h2, fun d hd => Classical.byContradiction fun hx => ?_⟩
  obtain ⟨c, hc⟩ := hd
  have hd0 : d ≠ 0 := by
    intro e
    rw [e, Nat.zero_mul] at hc
    omega
  have hc0 : c ≠ 0 := by
    intro e
    rw [e, Nat.mul_zero] at hc
    omega
  have hc1 : c ≠ 1 := by
    intro e
    rw [e, Nat.mul_one] at hc
    omega
  have h3 : r ≤ d := Nat.le_of_not_lt fun hl => h d hl (by omega) (Nat.mod_eq_zero_of_dvd ⟨c, hc⟩)
  have h4 : r ≤ c := Nat.le_of_not_lt fun hl => h c hl (by omega) (Nat.mod_eq_zero_of_dvd ⟨d, by rw [hc, Nat.mul_comm]⟩)
  have := Nat.mul_le_mul h3 h4
  omega
def tri (n : Nat) : Nat → Bool
  | 0 => true
  | k + 1 => (k < 2 || n % k != 0) && tri n k
theorem tri_ok {n : Nat} : ∀ k, tri n k = true → ∀ d, d < k → 2 ≤ d → n % d ≠ 0
  | 0, _, d, hd, _ => absurd hd (Nat.not_lt_zero d)
  | k + 1, h, d, hd, h2 => by
    simp only [tri, Bool.and_eq_true, Bool.or_eq_true, decide_eq_true_eq, bne_iff_ne] at h
    by_cases e : d = k
    · subst e
      rcases h.1 with h3 | h3
      · omega
      · exact h3
    · exact tri_ok k h.2 d (by omega) h2

theorem prm_53 : prm 53 := trial 8 (by decide) (by decide) (tri_ok 8 (by decide +kernel))
theorem prm_29 : prm 29 := trial 6 (by decide) (by decide) (tri_ok 6 (by decide +kernel))
theorem prm_7 : prm 7 := trial 3 (by decide) (by decide) (tri_ok 3 (by decide +kernel))
theorem prm_5 : prm 5 := trial 3 (by decide) (by decide) (tri_ok 3 (by decide +kernel))
theorem prm_107590001 : prm 107590001 := by
  have k53 : ∀ p, prm p → p ∣ 107590001 → 53 ∣ p - 1 := pock2 (a := 2) (m := 2030000) (f := 27) prm_53 (by decide +kernel)
  have k29 : ∀ p, prm p → p ∣ 107590001 → 29 ∣ p - 1 := pock2 (a := 2) (m := 3710000) (f := 27) prm_29 (by decide +kernel)
  have k7 : ∀ p, prm p → p ∣ 107590001 → 7 ∣ p - 1 := pock2 (a := 2) (m := 15370000) (f := 27) prm_7 (by decide +kernel)
  have k5 : ∀ p, prm p → p ∣ 107590001 → 5 ∣ p - 1 := pock2 (a := 2) (m := 21518000) (f := 27) prm_5 (by decide +kernel)
  refine prm_of (F := 53 * 29 * 7 * 5) (by decide +kernel) (by decide +kernel) (fun p hp hd => dvd_mul_cop (by decide +kernel) (dvd_mul_cop (by decide +kernel) (dvd_mul_cop (by decide +kernel) (k53 p hp hd) (k29 p hp hd)) (k7 p hp hd)) (k5 p hp hd))
theorem prm_20113 : prm 20113 := trial 142 (by decide) (by decide) (tri_ok 142 (by decide +kernel))
theorem prm_1206781 : prm 1206781 := by
  have k20113 : ∀ p, prm p → p ∣ 1206781 → 20113 ∣ p - 1 := pock2 (a := 2) (m := 60) (f := 21) prm_20113 (by decide +kernel)
  refine prm_of (F := 20113) (by decide +kernel) (by decide +kernel) (fun p hp hd => k20113 p hp hd)
theorem prm_7240687 : prm 7240687 := by
  have k1206781 : ∀ p, prm p → p ∣ 7240687 → 1206781 ∣ p - 1 := pock2 (a := 2) (m := 6) (f := 23) prm_1206781 (by decide +kernel)
  refine prm_of (F := 1206781) (by decide +kernel) (by decide +kernel) (fun p hp hd => k1206781 p hp hd)
theorem prm_96557 : prm 96557 := trial 311 (by decide) (by decide) (tri_ok 311 (by decide +kernel))
theorem prm_255515944373312847190720520512484175977 : prm 255515944373312847190720520512484175977 := by
  have k107590001 : ∀ p, prm p → p ∣ 255515944373312847190720520512484175977 → 107590001 ∣ p - 1 := pock2 (a := 2) (m := 2374904191824599455024826335976) (f := 128) prm_107590001 (by decide +kernel)
  have k7240687 : ∀ p, prm p → p ∣ 255515944373312847190720520512484175977 → 7240687 ∣ p - 1 := pock2 (a := 2) (m := 35288908963101546467996824129048) (f := 128) prm_7240687 (by decide +kernel)
  have k96557 : ∀ p, prm p → p ∣ 255515944373312847190720520512484175977 → 96557 ∣ p - 1 := pock2 (a := 2) (m := 2646270538369179315748423423599368) (f := 128) prm_96557 (by decide +kernel)
  refine prm_of (F := 107590001 * 7240687 * 96557) (by decide +kernel) (by decide +kernel) (fun p hp hd => dvd_mul_cop (by decide +kernel) (dvd_mul_cop (by decide +kernel) (k107590001 p hp hd) (k7240687 p hp hd)) (k96557 p hp hd))
theorem prm_205115282021455665897114700593932402728804164701536103180137503955397371 : prm 205115282021455665897114700593932402728804164701536103180137503955397371 := by
  have k255515944373312847190720520512484175977 : ∀ p, prm p → p ∣ 205115282021455665897114700593932402728804164701536103180137503955397371 → 255515944373312847190720520512484175977 ∣ p - 1 := pock2 (a := 2) (m := 802749442992798076634733441528810) (f := 237) prm_255515944373312847190720520512484175977 (by decide +kernel)
  refine prm_of (F := 255515944373312847190720520512484175977) (by decide +kernel) (by decide +kernel) (fun p hp hd => k255515944373312847190720520512484175977 p hp hd)
theorem prm_P : prm 115792089237316195423570985008687907853269984665640564039457584007908834671663 := by
  have k205115282021455665897114700593932402728804164701536103180137503955397371 : ∀ p, prm p → p ∣ 115792089237316195423570985008687907853269984665640564039457584007908834671663 → 205115282021455665897114700593932402728804164701536103180137503955397371 ∣ p - 1 := pock2 (a := 2) (m := 564522) (f := 256) prm_205115282021455665897114700593932402728804164701536103180137503955397371 (by decide +kernel)
  refine prm_of (F := 205115282021455665897114700593932402728804164701536103180137503955397371) (by decide +kernel) (by decide +kernel) (fun p hp hd => k205115282021455665897114700593932402728804164701536103180137503955397371 p hp hd)
theorem prm_1871 : prm 1871 := trial 44 (by decide) (by decide) (tri_ok 44 (by decide +kernel))
theorem prm_1627771 : prm 1627771 := by
  have k1871 : ∀ p, prm p → p ∣ 1627771 → 1871 ∣ p - 1 := pock2 (a := 2) (m := 870) (f := 21) prm_1871 (by decide +kernel)
  refine prm_of (F := 1871) (by decide +kernel) (by decide +kernel) (fun p hp hd => k1871 p hp hd)
theorem prm_297159362677 : prm 297159362677 := by
  have k1627771 : ∀ p, prm p → p ∣ 297159362677 → 1627771 ∣ p - 1 := pock2 (a := 2) (m := 182556) (f := 39) prm_1627771 (by decide +kernel)
  refine prm_of (F := 1627771) (by decide +kernel) (by decide +kernel) (fun p hp hd => k1627771 p hp hd)
theorem prm_28181 : prm 28181 := trial 168 (by decide) (by decide) (tri_ok 168 (by decide +kernel))
theorem prm_545358713 : prm 545358713 := by
  have k28181 : ∀ p, prm p → p ∣ 545358713 → 28181 ∣ p - 1 := pock2 (a := 2) (m := 19352) (f := 30) prm_28181 (by decide +kernel)
  refine prm_of (F := 28181) (by decide +kernel) (by decide +kernel) (fun p hp hd => k28181 p hp hd)
theorem prm_29047611873442575647497758179 : prm 29047611873442575647497758179 := by
  have k297159362677 : ∀ p, prm p → p ∣ 29047611873442575647497758179 → 297159362677 ∣ p - 1 := pock2 (a := 2) (m := 97750956294169114) (f := 95) prm_297159362677 (by decide +kernel)
  have k545358713 : ∀ p, prm p → p ∣ 29047611873442575647497758179 → 545358713 ∣ p - 1 := pock2 (a := 2) (m := 53263313083699784306) (f := 95) prm_545358713 (by decide +kernel)
  refine prm_of (F := 297159362677 * 545358713) (by decide +kernel) (by decide +kernel) (fun p hp hd => dvd_mul_cop (by decide +kernel) (k297159362677 p hp hd) (k545358713 p hp hd))
theorem prm_341948486974166000522343609283189 : prm 341948486974166000522343609283189 := by
  have k29047611873442575647497758179 : ∀ p, prm p → p ∣ 341948486974166000522343609283189 → 29047611873442575647497758179 ∣ p - 1 := pock2 (a := 2) (m := 11772) (f := 109) prm_29047611873442575647497758179 (by decide +kernel)
  refine prm_of (F := 29047611873442575647497758179) (by decide +kernel) (by decide +kernel) (fun p hp hd => k29047611873442575647497758179 p hp hd)
theorem prm_9349 : prm 9349 := trial 97 (by decide) (by decide) (tri_ok 97 (by decide +kernel))
theorem prm_44706919 : prm 44706919 := by
  have k9349 : ∀ p, prm p → p ∣ 44706919 → 9349 ∣ p - 1 := pock2 (a := 2) (m := 4782) (f := 26) prm_9349 (by decide +kernel)
  refine prm_of (F := 9349) (by decide +kernel) (by decide +kernel) (fun p hp hd => k9349 p hp hd)
theorem prm_120233 : prm 120233 := trial 347 (by decide) (by decide) (tri_ok 347 (by decide +kernel))
theorem prm_174723607534414371449 : prm 174723607534414371449 := by
  have k44706919 : ∀ p, prm p → p ∣ 174723607534414371449 → 44706919 ∣ p - 1 := pock2 (a := 2) (m := 3908200597192) (f := 68) prm_44706919 (by decide +kernel)
  have k120233 : ∀ p, prm p → p ∣ 174723607534414371449 → 120233 ∣ p - 1 := pock2 (a := 2) (m := 1453208416444856) (f := 68) prm_120233 (by decide +kernel)
  refine prm_of (F := 44706919 * 120233) (by decide +kernel) (by decide +kernel) (fun p hp hd => dvd_mul_cop (by decide +kernel) (k44706919 p hp hd) (k120233 p hp hd))
theorem prm_N : prm 115792089237316195423570985008687907852837564279074904382605163141518161494337 := by
  have k341948486974166000522343609283189 : ∀ p, prm p → p ∣ 115792089237316195423570985008687907852837564279074904382605163141518161494337 → 341948486974166000522343609283189 ∣ p - 1 := pock2 (a := 2) (m := 338624364920977752681389262317185522840540224) (f := 256) prm_341948486974166000522343609283189 (by decide +kernel)
  have k174723607534414371449 : ∀ p, prm p → p ∣ 115792089237316195423570985008687907852837564279074904382605163141518161494337 → 174723607534414371449 ∣ p - 1 := pock2 (a := 2) (m := 662715765037699607481235088557493206623080876315205958464) (f := 256) prm_174723607534414371449 (by decide +kernel)
  refine prm_of (F := 341948486974166000522343609283189 * 174723607534414371449) (by decide +kernel) (by decide +kernel) (fun p hp hd => dvd_mul_cop (by decide +kernel) (k341948486974166000522343609283189 p hp hd) (k174723607534414371449 p hp hd))
theorem PP_lit : PP = 115792089237316195423570985008687907853269984665640564039457584007908834671663 := by decide +kernel
theorem NN_lit : NN = 115792089237316195423570985008687907852837564279074904382605163141518161494337 := by decide +kernel
theorem prmP : prm PP := PP_lit ▸ prm_P
theorem prmN : prm NN := NN_lit ▸ prm_N
