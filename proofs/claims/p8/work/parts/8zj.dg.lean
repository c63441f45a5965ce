/-! THE CLASS'S digest is the digest: what lay in the words before plays no part -/
def tkQ (s : SS) (q : Nat → Nat) : Nat → SS
  | 0 => s
  | n + 1 => tkB (tkQ s q n) (q n)
theorem tkQ_n (s : SS) (q : Nat → Nat) : ∀ n, (tkQ s q n).2.2 = s.2.2 + n
  | 0 => rfl
  | n + 1 => by rw [tkQ, tkB_n, tkQ_n s q n]; omega
theorem tkQ_cg {s : SS} {q q' : Nat → Nat} : ∀ n, (∀ j, j < n → q j = q' j) → tkQ s q n = tkQ s q' n
  | 0, _ => rfl
  | n + 1, h => by rw [tkQ, tkQ, tkQ_cg n (fun j hj => h j (by omega)), h n (by omega)]
theorem tkQ_app (s : SS) (q : Nat → Nat) (n : Nat) : ∀ l : List Nat, (∀ i, i < l.length → q (n + i) = l.getD i 0) → tkA (tkQ s q n) l = tkQ s q (n + l.length)
  | [], _ => rfl
  | b :: l, h => by
    have h0 := h 0 (by simp)
    have := tkQ_app s q (n + 1) l (fun i hi => by
      have := h (i + 1) (by simp; omega)
      rw [show n + 1 + i = n + (i + 1) by omega, this]
      rfl)
    show tkA (tkB (tkQ s q n) b) l = _
    rw [show n + (b :: l).length = n + 1 + l.length by simp; omega, ← this, tkQ]
    rw [Nat.add_zero] at h0
    rw [h0]
    rfl
theorem tkA_Q (s : SS) (bs : List Nat) : tkA s bs = tkQ s (fun j => bs.getD j 0) bs.length := by
  have := tkQ_app s (fun j => bs.getD j 0) 0 bs (fun i _ => by rw [Nat.zero_add])
  rwa [Nat.zero_add] at this
def pv (q : Nat → Nat) (i : Nat) : Nat → Nat
  | 0 => 0
  | r + 1 => pv q i r * 256 + q (i + r)
theorem ls8 {x : Int32} {b : Nat} (hb : b < 256) : (ls x 8 ||| nI b).toBitVec.toNat = x.toBitVec.toNat * 256 % 2 ^ 32 + b := by
  have h1 : ls x 8 = nI (x.toBitVec.toNat * 256 % 2 ^ 32) := by
    apply Int32.toBitVec_inj.mp
    apply BitVec.eq_of_toNat_eq
    show _ = (BitVec.ofNat 32 _).toNat
    rw [BitVec.toNat_ofNat, Nat.mod_mod]
    exact pk_shl x (8 &&& 31) 8 (by decide)
  have h2 : x.toBitVec.toNat * 256 % 2 ^ 32 = x.toBitVec.toNat % 2 ^ 24 * 2 ^ 8 := by omega
  rw [h1, h2, or32 (by omega) (by omega), or_add (k := 8) (by omega)]
  show (BitVec.ofNat 32 _).toNat = _
  rw [BitVec.toNat_ofNat, Nat.mod_eq_of_lt (by omega)]
theorem pv_lt {q : Nat → Nat} (hq : ∀ j, q j < 256) (i : Nat) : ∀ r, pv q i r < 256 ^ r
  | 0 => by show 0 < 1; decide
  | r + 1 => by
    have h1 := pv_lt hq i r
    have h2 := hq (i + r)
    rw [pv, Nat.pow_succ]
    omega
theorem pv_step {x : Int32} {q : Nat → Nat} (hq : ∀ j, q j < 256) {i r : Nat} (hr : r < 4) (h : x.toBitVec.toNat % 256 ^ r = pv q i r) : (ls x 8 ||| nI (q (i + r))).toBitVec.toNat % 256 ^ (r + 1) = pv q i (r + 1) := by
  rw [ls8 (hq _), pv]
  have hb := hq (i + r)
  have hx := x.toBitVec.isLt
  generalize x.toBitVec.toNat = X at *
  generalize q (i + r) = b at *
  generalize pv q i r = p at *
  match r, hr with
  | 0, _ => simp only [Nat.pow_zero, Nat.pow_one, Nat.zero_add] at *; omega
  | 1, _ => simp only [Nat.pow_one] at *; show _ % 65536 = _; omega
  | 2, _ => replace h : X % 65536 = p := h; show _ % 16777216 = _; omega
  | 3, _ => replace h : X % 16777216 = p := h; show _ % 4294967296 = _; omega
theorem pv_w {x : Int32} {q : Nat → Nat} {i : Nat} (h : x.toBitVec.toNat % 256 ^ 4 = pv q i 4) : x = wdq q i := by
  have hx := x.toBitVec.isLt
  have e : x.toBitVec.toNat = q i * 2 ^ 24 + q (i + 1) * 2 ^ 16 + q (i + 2) * 2 ^ 8 + q (i + 3) := by
    have h2 : pv q i 4 = (((0 * 256 + q (i + 0)) * 256 + q (i + 1)) * 256 + q (i + 2)) * 256 + q (i + 3) := rfl
    rw [h2, Nat.add_zero] at h
    replace h : x.toBitVec.toNat % 4294967296 = _ := h
    rw [Nat.mod_eq_of_lt hx] at h
    rw [h]
    omega
  unfold wdq
  rw [← e]
  exact Int32.toBitVec_inj.mp (by show _ = BitVec.ofNat 32 _; simp)
theorem wdq_cg {q q' : Nat → Nat} {i : Nat} (h : ∀ j, i ≤ j → j < i + 4 → q j = q' j) : wdq q i = wdq q' i := by
  unfold wdq
  rw [h i (by omega) (by omega), h (i + 1) (by omega) (by omega), h (i + 2) (by omega) (by omega), h (i + 3) (by omega) (by omega)]
theorem stq_cg {q q' : Nat → Nat} : ∀ k, (∀ j, j < 64 * k → q j = q' j) → ∀ j, j < 8 → stq q k j = stq q' k j
  | 0, _, _, _ => rfl
  | k + 1, h, j, hj => shB_cg (stq_cg k (fun j hj => h j (by omega))) (fun i hi => wdq_cg (fun t h1 h2 => h t (by omega))) j hj
/-- the digest's object after n bytes -/
def dgI (q : Nat → Nat) (n : Nat) (s : SS) : Prop := s.2.2 = n ∧ (∀ j, j < 8 → s.1 j = stq q (n / 64) j) ∧ (∀ j, 4 * j + 4 ≤ n % 64 → s.2.1 j = wdq q (n / 64 * 64 + 4 * j)) ∧ (s.2.1 (n / 4 % 16)).toBitVec.toNat % 256 ^ (n % 4) = pv q (n - n % 4) (n % 4)
theorem dgI_0 (f g : Nat → Int32) (q : Nat → Nat) : dgI q 0 (bgf f 8, g, 0) := by
  refine ⟨rfl, fun j hj => (bgf_at f 8 j).trans (if_pos hj), fun j hj => absurd hj (by omega), ?_⟩
  show _ % 256 ^ 0 = 0
  omega
theorem dgI_s {q : Nat → Nat} (hq : ∀ j, q j < 256) {n : Nat} {s : SS} (h : dgI q n s) : dgI q (n + 1) (tkB s (q n)) := by
  obtain ⟨h1, h2, h3, h4⟩ := h
  have hw := pv_step hq (Nat.mod_lt n (by decide : 0 < 4)) h4
  rw [show n - n % 4 + n % 4 = n by omega] at hw
  have hg : ∀ j, tkG s.2.1 n (q n) j = if j = n / 4 % 16 then ls (s.2.1 (n / 4 % 16)) 8 ||| nI (q n) else s.2.1 j := fun j => rfl
  have hfull : ∀ j, 4 * j + 4 ≤ n % 64 + 1 → tkG s.2.1 n (q n) j = wdq q (n / 64 * 64 + 4 * j) := by
    intro j hj
    rw [hg]
    by_cases e : j = n / 4 % 16
    · rw [if_pos e]
      have hr : n % 4 = 3 := by omega
      rw [hr] at hw
      rw [pv_w hw]
      congr 1
      omega
    · rw [if_neg e]
      exact h3 j (by omega)
  by_cases hz : (s.2.2 + 1) % 64 = 0
  · rw [tkB_t hz]
    rw [h1] at hz ⊢
    have hk : (n + 1) / 64 = n / 64 + 1 := by omega
    refine ⟨rfl, fun j hj => ?_, fun j hj => absurd hj (by omega), ?_⟩
    · rw [hk]
      exact shB_cg h2 (fun i hi => by
        have := hfull i (by omega)
        rw [show n / 64 * 64 = 64 * (n / 64) by omega] at this
        exact this) j hj
    · have e0 : (n + 1) % 4 = 0 := by omega
      rw [e0]
      show _ % 256 ^ 0 = 0
      omega
  · rw [tkB_f hz]
    rw [h1] at hz ⊢
    have hk : (n + 1) / 64 = n / 64 := by omega
    have hm : (n + 1) % 64 = n % 64 + 1 := by omega
    refine ⟨rfl, fun j hj => by rw [hk]; exact h2 j hj, fun j hj => ?_, ?_⟩
    · rw [hk]
      exact hfull j (by omega)
    · by_cases hr : n % 4 = 3
      · have e0 : (n + 1) % 4 = 0 := by omega
        rw [e0]
        show _ % 256 ^ 0 = 0
        omega
      · have e1 : (n + 1) % 4 = n % 4 + 1 := by omega
        have e2 : (n + 1) / 4 % 16 = n / 4 % 16 := by omega
        rw [e1, e2, show n + 1 - (n % 4 + 1) = n - n % 4 by omega]
        show (tkG s.2.1 n (q n) (n / 4 % 16)).toBitVec.toNat % _ = _
        rw [hg, if_pos rfl]
        exact hw
theorem dgI_n (f g : Nat → Int32) {q : Nat → Nat} (hq : ∀ j, q j < 256) : ∀ n, dgI q n (tkQ (bgf f 8, g, 0) q n)
  | 0 => dgI_0 f g q
  | n + 1 => dgI_s hq (dgI_n f g hq n)
theorem len4 {m : Nat} (h : m < 2 ^ 32) : m / 256 ^ 3 % 256 * 2 ^ 24 + m / 256 ^ 2 % 256 * 2 ^ 16 + m / 256 ^ 1 % 256 * 2 ^ 8 + m / 256 ^ 0 % 256 = m := by
  show m / 16777216 % 256 * 16777216 + m / 65536 % 256 * 65536 + m / 256 % 256 * 256 + m / 1 % 256 = m
  omega
theorem dgst_sha (f g : Nat → Int32) {bs : List Nat} (hb : ∀ b, b ∈ bs → b < 256) (hn : bs.length < 2 ^ 28) : dgst (tkA (bgf f 8, g, 0) bs) = sha bs := by
  obtain ⟨n, hnn⟩ : ∃ n, n = bs.length := ⟨_, rfl⟩
  obtain ⟨q, hq⟩ : ∃ q : Nat → Nat, q = fun j => if j < n then bs.getD j 0 else if j = n then 128 else 0 := ⟨_, rfl⟩
  have hql : ∀ j, q j < 256 := fun j => by
    rw [hq]
    show (if j < n then bs.getD j 0 else if j = n then 128 else 0) < 256
    split
    · exact gd_lt hb j
    · split <;> decide
  have e1 : tkA (bgf f 8, g, 0) bs = tkQ (bgf f 8, g, 0) q n := by
    rw [tkA_Q, ← hnn]
    exact tkQ_cg n (fun j hj => by rw [hq]; exact (if_pos hj).symm)
  have hK : pall n = (n + 1 + padz n) / 64 * 64 + 64 ∧ (n + 1 + padz n) % 64 = 56 := by
    unfold pall padz
    omega
  have e2 : finS (tkQ (bgf f 8, g, 0) q n) = tkQ (bgf f 8, g, 0) q (n + 1 + padz n) := by
    unfold finS
    have hc : (tkQ (bgf f 8, g, 0) q n).2.2 = n := by rw [tkQ_n]; show 0 + n = n; omega
    have hqn : q n = 128 := by
      rw [hq]
      show (if n < n then _ else if n = n then _ else _) = _
      rw [if_neg (Nat.lt_irrefl n), if_pos rfl]
    rw [hc, show tkB (tkQ (bgf f 8, g, 0) q n) 128 = tkQ (bgf f 8, g, 0) q (n + 1) by rw [tkQ, hqn]]
    have := tkQ_app (bgf f 8, g, 0) q (n + 1) (List.replicate (padz n) 0) (fun i hi => by
      rw [hq]
      show (if n + 1 + i < n then _ else if n + 1 + i = n then _ else 0) = _
      rw [if_neg (by omega), if_neg (by omega), List.getD_eq_getElem?_getD]
      rw [List.length_replicate] at hi
      rw [List.getElem?_replicate, if_pos hi]
      rfl)
    rwa [List.length_replicate] at this
  have hc : (tkQ (bgf f 8, g, 0) q n).2.2 = n := by rw [tkQ_n]; show 0 + n = n; omega
  obtain ⟨d1, d2, d3, d4⟩ := dgI_n f g hql (n + 1 + padz n)
  obtain ⟨K, hKK⟩ : ∃ K, K = (n + 1 + padz n) / 64 := ⟨_, rfl⟩
  rw [← hKK] at hK d2 d3
  have hp : ∀ j, j + 4 < pall n → q j = padq bs j := fun j hj => by
    unfold padq
    rw [hq, ← hnn, if_neg (show ¬ pall n ≤ j + 4 by omega)]
  have hlast : ∀ j, j < 16 → upd (upd (tkQ (bgf f 8, g, 0) q (n + 1 + padz n)).2.1 14 0) 15 (nI (n * 8)) j = wdq (padq bs) (64 * K + 4 * j) := by
    intro j hj
    show (if j = 15 then _ else if j = 14 then _ else _) = _
    by_cases e15 : j = 15
    · rw [if_pos e15, e15]
      unfold wdq padq
      rw [← hnn, if_pos (by omega), if_pos (by omega), if_pos (by omega), if_pos (by omega)]
      rw [show pall n - 1 - (64 * K + 4 * 15) = 3 by omega, show pall n - 1 - (64 * K + 4 * 15 + 1) = 2 by omega, show pall n - 1 - (64 * K + 4 * 15 + 2) = 1 by omega, show pall n - 1 - (64 * K + 4 * 15 + 3) = 0 by omega, len4 (by omega), Nat.mul_comm]
    · rw [if_neg e15]
      by_cases e14 : j = 14
      · rw [if_pos e14, e14]
        have hz : ∀ i, 64 * K + 56 ≤ i → i < 64 * K + 60 → padq bs i = 0 := fun i h1 h2 => by
          rw [← hp i (by omega), hq]
          show (if i < n then _ else if i = n then _ else 0) = 0
          rw [if_neg (by omega), if_neg (by omega)]
        unfold wdq
        rw [hz _ (by omega) (by omega), hz _ (by omega) (by omega), hz _ (by omega) (by omega), hz _ (by omega) (by omega)]
        rfl
      · rw [if_neg e14, d3 j (by omega), show K * 64 = 64 * K by omega]
        exact wdq_cg (fun i h1 h2 => hp i (by omega))
  unfold dgst finG sha
  rw [e1, hc, e2, ← hnn, show pall n / 64 = K + 1 by omega]
  exact dgl_cg 8 (fun j hj => shB_cg (fun i hi => (d2 i hi).trans (stq_cg K (fun t ht => hp t (by omega)) i hi)) hlast j hj)

