/-! THE REFERENCE'S reduce, times, add -/
def rpd : Nat → Nat := fun j => [977, 1, 0, 0, 0].getD j 0
def rdq (q : Bool) : Nat → Nat := if q then gapd else rpd
def pq (q : Bool) : Nat := if q then NN else PP
def Rq (q : Bool) : Nat := if q then NG else 4294968273
abbrev kr (q : Bool) : Nat := if q then 3 else 2
abbrev kp (q : Bool) : Nat := if q then 1 else 0
theorem rdq_lt (q : Bool) (j : Nat) : rdq q j < 2 ^ 32 := by
  unfold rdq
  cases q
  · rcases Nat.lt_or_ge j 5 with h | h
    · match j, h with
      | 0, _ => decide
      | 1, _ => decide
      | 2, _ => decide
      | 3, _ => decide
      | 4, _ => decide
    · show rpd j < _
      unfold rpd
      rw [List.getD_eq_getElem?_getD, List.getElem?_eq_none (by simpa using h)]
      decide
  · rcases Nat.lt_or_ge j 5 with h | h
    · exact gap_lt j (by omega)
    · show gapd j < _
      unfold gapd
      rw [List.getD_eq_getElem?_getD, List.getElem?_eq_none (by simpa using h)]
      decide
theorem rdq_hi (q : Bool) {j : Nat} (h : 5 ≤ j) : rdq q j = 0 := by
  unfold rdq
  cases q
  · show rpd j = 0
    unfold rpd
    rw [List.getD_eq_getElem?_getD, List.getElem?_eq_none (by simpa using h)]
    rfl
  · show gapd j = 0
    unfold gapd
    rw [List.getD_eq_getElem?_getD, List.getElem?_eq_none (by simpa using h)]
    rfl
theorem rdq_v (q : Bool) : ∀ m, dv (rdq q) (5 + m) = Rq q
  | 0 => by cases q <;> decide
  | m + 1 => by
    show dv (rdq q) (5 + m) + rdq q (5 + m) * _ = _
    rw [rdq_v q m, rdq_hi q (by omega), Nat.zero_mul, Nat.add_zero]
theorem pq_R (q : Bool) : pq q + Rq q = 2 ^ 256 := by cases q <;> decide +kernel
theorem pq_hi (q : Bool) : 2 ^ 256 < 2 * pq q := by cases q <;> decide +kernel
theorem Rq_lt (q : Bool) : Rq q < 2 ^ 256 := by cases q <;> decide +kernel
theorem pq_lt (q : Bool) : pq q < 2 ^ 256 := by cases q <;> decide +kernel
theorem pq_0 (q : Bool) : 0 < pq q := by cases q <;> decide +kernel
theorem fold_gen {p R B V : Nat} (hB : p + R = B) : (V % B + R * (V / B)) % p = V % p := by
  have h := Nat.div_add_mod V B
  have e : V = V % B + R * (V / B) + p * (V / B) := by
    rw [← hB, Nat.add_mul] at h
    rw [hB] at h
    omega
  conv => rhs; rw [e]
  rw [Nat.add_mul_mod_self_left]
theorem fold_dec {R B V : Nat} (hR : R < B) (h : B ≤ V) : V % B + R * (V / B) < V := by
  have hB : 0 < B := by omega
  have h1 := Nat.div_add_mod V B
  have h2 : 0 < V / B := Nat.div_pos h hB
  have h3 : R * (V / B) < B * (V / B) := Nat.mul_lt_mul_of_pos_right hR h2
  omega
def shd (d : Nat → Nat) (i : Nat) : Nat → Nat := fun t => d (i + t)
theorem dv_sh (d : Nat → Nat) (i : Nat) : ∀ m, dv d (i + m) = dv d i + 2 ^ (32 * i) * dv (shd d i) m
  | 0 => by simp [dv]
  | m + 1 => by
    show dv d (i + m) + d (i + m) * 2 ^ (32 * (i + m)) = _
    rw [dv_sh d i m, show 32 * (i + m) = 32 * i + 32 * m by omega, Nat.pow_add, dv, Nat.mul_add]
    show _ + d (i + m) * (2 ^ (32 * i) * 2 ^ (32 * m)) = dv d i + (_ + 2 ^ (32 * i) * (d (i + m) * 2 ^ (32 * m)))
    rw [Nat.mul_left_comm]
    omega
/-- one row of a product is added from place i on: no carry is left at the end -/
theorem row_end {fd fd2 : Nat → Nat} {i m c fac R T N : Nat} (hm : i + m = N) (hlo : ∀ k, k < i → fd2 k = fd k) (h : dv (shd fd2 i) m + c * 2 ^ (32 * m) = dv (shd fd i) m + R * fac) (hT : dv fd N + R * fac * 2 ^ (32 * i) = T) (hlt : T < 2 ^ (32 * N)) : dv fd2 N = T := by
  subst hm
  have e2 := dv_sh fd2 i m
  have e1 := dv_sh fd i m
  rw [dv_congr i hlo] at e2
  have e3 : 2 ^ (32 * i) * (dv (shd fd2 i) m + c * 2 ^ (32 * m)) = 2 ^ (32 * i) * (dv (shd fd i) m + R * fac) := by rw [h]
  rw [Nat.mul_add, Nat.mul_add] at e3
  have e4 : 2 ^ (32 * i) * (c * 2 ^ (32 * m)) = c * 2 ^ (32 * (i + m)) := by rw [Nat.mul_add, Nat.pow_add, Nat.mul_left_comm]
  have e5 : 2 ^ (32 * i) * (R * fac) = R * fac * 2 ^ (32 * i) := Nat.mul_comm _ _
  rw [e4, e5] at e3
  have key : dv fd2 (i + m) + c * 2 ^ (32 * (i + m)) = T := by omega
  match c, key with
  | 0, key => rw [Nat.zero_mul] at key; exact key
  | c + 1, key =>
    rw [Nat.add_mul, Nat.one_mul] at key
    have := Nat.zero_le (c * 2 ^ (32 * (i + m)))
    omega
theorem dv_tail {d : Nat → Nat} {n : Nat} : ∀ m, (∀ k, n ≤ k → k < n + m → d k = 0) → dv d (n + m) = dv d n
  | 0, _ => rfl
  | m + 1, h => by
    show dv d (n + m) + d (n + m) * 2 ^ (32 * (n + m)) = dv d n
    rw [h (n + m) (Nat.le_add_right n m) (Nat.lt_succ_self _), Nat.zero_mul, Nat.add_zero]
    exact dv_tail m (fun k h1 h2 => h k h1 (Nat.lt_succ_of_lt h2))
theorem hi_0 {wd : Nat → Nat} (h : ∀ k, k < 18 → 8 ≤ k → wd k = 0) : dv wd 18 = dv wd 8 := dv_tail (n := 8) 10 (fun k h1 h2 => h k h2 h1)
theorem hi_div {wd : Nat → Nat} (h : ∀ k, k < 18 → wd k < 2 ^ 32) : dv wd 18 % 2 ^ 256 = dv wd 8 ∧ dv wd 18 / 2 ^ 256 = dv (shd wd 8) 10 := by
  have e := dv_sh wd 8 10
  have l := dv_lt 8 (fun j hj => h j (by omega))
  rw [show 32 * 8 = 256 by rfl] at e l
  rw [show 8 + 10 = 18 by rfl] at e
  generalize (2 : Nat) ^ 256 = B at *
  have hB : 0 < B := by omega
  rw [e, Nat.add_mul_mod_self_left, Nat.mod_eq_of_lt l, Nat.add_mul_div_left _ _ hB, Nat.div_eq_of_lt l, Nat.zero_add]
  exact ⟨rfl, rfl⟩
theorem hi_ge {wd : Nat → Nat} {k : Nat} (hk : k < 18) (h8 : 8 ≤ k) (h : wd k ≠ 0) : 2 ^ 256 ≤ dv wd 18 := by
  have e := dv_sh wd 8 10
  have hz : dv (shd wd 8) 10 ≠ 0 := fun q => h (by
    have := (dv_zero (d := shd wd 8) 10).mpr q (k - 8) (by omega)
    unfold shd at this
    rwa [show 8 + (k - 8) = k by omega] at this)
  rw [show 32 * 8 = 256 by rfl, show 8 + 10 = 18 by rfl] at e
  have : 2 ^ 256 * 1 ≤ 2 ^ 256 * dv (shd wd 8) 10 := Nat.mul_le_mul_left _ (by omega)
  omega
theorem mul_ad {x y z c : Nat} : lN x * lN y + lN z + lN c = lN (c + z + y * x) := by
  rw [lN_mul, lN_add, lN_add]
  congr 1
  rw [Nat.mul_comm x y]
  omega
theorem zer_ad {z c : Nat} : (0 : Int64) + lN z + lN c = lN (c + z + 0) := by
  rw [show (0 : Int64) = lN 0 from rfl, lN_add, lN_add]
  congr 1
  omega
/-- what stays: the constants' arrays -/
def mK (n : Nat → Option Nat) (g : Nat → Nat → Int64) : Prop := n 0 = some PP ∧ n 1 = some NN ∧ n 32 = none ∧ n 33 = none ∧ (∀ j, j < 5 → g 2 j = lN (rpd j)) ∧ (∀ j, j < 5 → g 3 j = lN (gapd j))
theorem mK.r {n : Nat → Option Nat} {g : Nat → Nat → Int64} (h : mK n g) (q : Bool) : ∀ j, j < 5 → g (kr q) j = lN (rdq q j) := by
  cases q
  · exact h.2.2.2.2.1
  · exact h.2.2.2.2.2
theorem mK.p {n : Nat → Option Nat} {g : Nat → Nat → Int64} (h : mK n g) (q : Bool) : n (kp q) = some (pq q) := by
  cases q
  · exact h.1
  · exact h.2.1
def RN (G : Nat → ClassId) (L : List Nat) (F : Nat → va_E) (o : Nat) (a : Nat → Nat) (v : Nat → Int32) (n : Nat → Option Nat) (g : Nat → Nat → Int64) (w : Nat → Nat → Int32) (s : Nat → Nat → Int64) : Prop := RW G L F o a v s w ∧ (∀ k x, n k = some x → mN (s k) x) ∧ ∀ k, mg k → s k = g k
def wD (s : Nat → Nat → Int64) (wd : Nat → Nat) : Prop := (∀ j, j < 18 → s 32 j = lN (wd j)) ∧ ∀ j, j < 18 → wd j < 2 ^ 32
abbrev lv8 (k : Nat) : Prop := l8 k ∧ k ≠ 0 ∧ k ≠ 1
theorem bi_0 {q : Bool} (h : bi q = 0) : q = false := by
  cases q
  · rfl
  · exact absurd h (by decide)
theorem bi_1 {q : Bool} (h : ¬ bi q = 0) : q = true := by
  cases q
  · exact absurd (by decide) h
  · rfl
theorem du_c {f : Nat → Int64} {d : Nat → Nat} {i v N : Nat} (hi : i < 2 ^ 31) (hf : ∀ j, j < N → j ≠ i → f j = lN (d j)) : ∀ j, j < N → vp_updL f (nI i).toNatClampNeg (lN v) j = lN (du d i v j) := by
  intro j hj
  by_cases e : j = i
  · rw [e, vL_s _ _ hi, du_s]
  · rw [vL_n _ _ hi e, du_n e]; exact hf j hj e

theorem nI_ge8 {i : Nat} (h : 8 ≤ i) (hi : i < 1000) : ¬ nI i < 8 := fun q => by
  have h1 := Int32.lt_iff_toInt_lt.mp q
  rw [nI_toInt (by omega), show (8 : Int32).toInt = 8 by decide] at h1
  omega
theorem fdn {f : Nat → Int64} {i : Nat} {wd : Nat → Nat} {x : Int64} (hx0 : True) (hi : i < 18) (hf : ∀ j, j < i → f j = lN (if j < 8 then wd j else 0)) (hx : x = lN (if i < 8 then wd i else 0)) : ∀ j, j < i + 1 → vp_updL f (nI i).toNatClampNeg x j = lN (if j < 8 then wd j else 0) := by
  intro j hj
  by_cases e : j = i
  · rw [e, vL_s _ _ (by omega), hx]
  · rw [vL_n _ _ (by omega) e]; exact hf j (by omega)

theorem sub_mod1 {p V B : Nat} (h : p ≤ V) (h2 : B < 2 * p) (hV : V < B) : V % p = (V + B - p) % B := by
  have e1 : V % p = V - p := by
    rw [Nat.mod_eq_sub_mod h, Nat.mod_eq_of_lt (by omega)]
  rw [e1, show V + B - p = V - p + B by omega, Nat.add_mod_right, Nat.mod_eq_of_lt (by omega)]
theorem am_sh {fd fd2 g : Nat → Nat} {i j c fac : Nat} (hinv : dv (shd fd2 i) j + c * 2 ^ (32 * j) = dv (shd fd i) j + dv g j * fac) (hhi : ∀ k, i + j ≤ k → fd2 k = fd k) : dv (shd (du fd2 (i + j) ((c + fd2 (i + j) + g j * fac) % 2 ^ 32)) i) (j + 1) + (c + fd2 (i + j) + g j * fac) / 2 ^ 32 * 2 ^ (32 * (j + 1)) = dv (shd fd i) (j + 1) + dv g (j + 1) * fac := by
  have e : shd (du fd2 (i + j) ((c + fd2 (i + j) + g j * fac) % 2 ^ 32)) i = du (shd fd2 i) j ((c + fd2 (i + j) + g j * fac) % 2 ^ 32) := by
    funext t
    unfold shd du
    by_cases q : t = j
    · rw [if_pos (by omega), if_pos q]
    · rw [if_neg (by omega), if_neg q]
  rw [e]
  have h2 : (shd fd i) j = fd2 (i + j) := (hhi (i + j) (Nat.le_refl _)).symm
  have := am_inv (d := shd fd i) (d2 := shd fd2 i) (g := g) (i := j) (c := c) (fac := fac) (s := c + fd2 (i + j) + g j * fac) hinv (by rw [h2])
  exact this

set_option maxHeartbeats 4000000 in
set_option maxRecDepth 100000 in
theorem c_m_reduce (l : Launch) (G : Nat → ClassId) (o : Nat) (a : Nat → Nat) (v : Nat → Int32) (n : Nat → Option Nat) (g : Nat → Nat → Int64) (w : Nat → Nat → Int32) (kt : Nat) (q : Bool) (wd : Nat → Nat) : jKv l yX12_reduce wsX12_reduce ({ frames := 1, cells := 0, slots := 0, locals := 27 }) G [.ref o, .ref (a kt), .int (bi q)] (fun L F => (∃ s, RN G L F o a v n g w s ∧ wD s wd) ∧ mK n g ∧ lv8 kt) (fun L F F1 => MW G L F1 o a v (uz n kt (some (dv wd 18 % pq q))) g w ∧ mO o a F F1) := by
  refine jm_kv (cc := cX12_reduce) (maxL := 11) (by decide) rfl (Nat.le_of_ble_eq_true rfl) ?_
  intro E L F hE hR hpre
  have hE : jOk E G _ cX12_reduce 11 RX12 wsX12_reduce := hE

  have f32 : jFl RX12 wsX12_reduce 32 12 2 := ⟨rfl, by decide, by decide +kernel, by decide +kernel⟩
  have f43 : jFl RX12 wsX12_reduce 43 12 3 := ⟨rfl, by decide, by decide +kernel, by decide +kernel⟩
  have f155 : jFl RX12 wsX12_reduce 155 12 33 := ⟨rfl, by decide, by decide +kernel, by decide +kernel⟩
  have f152 : jFl RX12 wsX12_reduce 152 12 32 := ⟨rfl, by decide, by decide +kernel, by decide +kernel⟩
  have f15 : jFl RX12 wsX12_reduce 15 12 0 := ⟨rfl, by decide, by decide +kernel, by decide +kernel⟩
  have f27 : jFl RX12 wsX12_reduce 27 12 1 := ⟨rfl, by decide, by decide +kernel, by decide +kernel⟩
  obtain ⟨⟨s, hR0, hW⟩, hK, hkt⟩ := hpre
  have hkr : lk (kr q) 5 := by cases q <;> decide
  have hkp : l8 (kp q) := by cases q <;> decide
  have hne : kp q ≠ kt := by
    cases q
    · exact fun e => hkt.2.1 e.symm
    · exact fun e => hkt.2.2 e.symm
  have h32 : (32 : Nat) ≠ kt := fun e => by
    have := hkt.1.2.2
    rw [← e] at this
    exact absurd this (by decide)
  have H0 := hR0.1
  have outer : ∀ (V : Nat) (F2 : Nat → va_E) (s2 : Nat → Nat → Int64) (wd2 : Nat → Nat), dv wd2 18 = V → V % pq q = dv wd 18 % pq q → RN G L F2 o a v n g w s2 → wD s2 wd2 → mO o a F F2 → J E L F2 0 0 19 [(4, .int 1), (3, .ref (a (kr q))), (0, .ref o), (1, .ref (a kt)), (2, .int (bi q))] [] := by
    have wd0 : Nat → Nat := wd
    obtain ⟨X, hXX⟩ : ∃ X, X = dv wd 18 % pq q := ⟨_, rfl⟩
    rw [← hXX] at hR ⊢
    clear hXX hW
    clear wd0
    intro V
    induction V using Nat.strongRecOn with
    | ind V ih =>
    intro F2 s2 wd hV hX hRN hW O
    obtain ⟨H, hn2, hg2⟩ := hRN
    have hn3 := fun f => (mw_raw (f := f) hn2 hg2 (k := 33) (Or.inr rfl) hK.2.2.2.1).1
    have hg3 := fun f => (mw_raw (f := f) hn2 hg2 (k := 33) (Or.inr rfl) hK.2.2.2.1).2
    have fin : ∀ (F3 : Nat → va_E) (s2 : Nat → Nat → Int64) (wd : Nat → Nat), RW G L F3 o a v s2 w → (∀ k x, n k = some x → mN (s2 k) x) → (∀ k, mg k → s2 k = g k) → wD s2 wd → V % pq q = X → dv wd 18 = dv wd 8 → mO o a F F3 → V = dv wd 18 → J E L F3 0 0 262 [(5, .int (nI 0)), (3, .ref (a (kr q))), (0, .ref o), (1, .ref (a kt)), (2, .int (bi q))] [] := by
      intro F3 s2 wd H3 hn2 hg2 hW2 hX hVl O3 hVV
      have hV8 : dv wd 8 < 2 ^ 256 := dv_lt 8 (fun j hj => hW2.2 j (by omega))
      have last : ∀ (F3 : Nat → va_E), MW G L F3 o a v (uz n kt (some (dv wd 8))) g w → mO o a F F3 → J E L F3 0 0 301 [(3, .ref (a (kr q))), (0, .ref o), (1, .ref (a kt)), (2, .int (bi q))] [.ref (a (kp q))] := by
        intro F3 M3 O3
        rw [hVV] at hX
        refine jr_astore (lv' := [(5, .ref (a (kp q))), (3, .ref (a (kr q))), (0, .ref o), (1, .ref (a kt)), (2, .int (bi q))]) hE dX12_reduce_301 (by decide) rfl ?_
        refine jr_aload_n hE dX12_reduce_303 3 rfl ?_
        refine jr_aload hE dX12_reduce_304 0 rfl ?_
        refine jr_kSi (n := 2) (As := [.ref (a kt), .ref (a (kp q))]) (rest := []) hE dX12_reduce_306 (fun l => c_m_isBelow l G o a v _ g w kt (kp q) (dv wd 8) (pq q)) gX12_reduce_X12_isBelow rfl (by decide +kernel) ⟨rfl, rfl, by decide, by decide⟩ (by decide) rfl rfl (Nat.le_of_ble_eq_true rfl) (⟨M3, hkt.1, hkp, uz_s _ _ _, (uz_n _ _ hne).trans (hK.p q)⟩) (fun r3 F1 q2 => ?_)
        obtain ⟨e9, rfl⟩ := q2
        subst e9
        refine jr_if_ne (tgt := 319) hE dX12_reduce_309 (by decide) (fun c309 => ?_) (fun c309 => ?_)
        · exact hR F3 _ _ dX12_reduce_319 ⟨by rw [← hX, hVl, Nat.mod_eq_of_lt (b2i_1 c309)]; exact M3, O3⟩
        · refine jr_aload_n hE dX12_reduce_312 3 rfl ?_
          refine jr_aload_n hE dX12_reduce_313 3 rfl ?_
          refine jr_aload hE dX12_reduce_314 0 rfl ?_
          refine jr_kSv (n := 3) (As := [.ref (a kt), .ref (a kt), .ref (a (kp q))]) (rest := []) hE dX12_reduce_316 (fun l => c_m_take l G o a v _ g w kt kt (kp q) (dv wd 8) (pq q)) gX12_reduce_X12_take rfl (by decide +kernel) ⟨rfl, rfl, by decide, by decide⟩ (by decide) rfl rfl (Nat.le_of_ble_eq_true rfl) (⟨M3, hkt.1, hkt.1, hkp, uz_s _ _ _, (uz_n _ _ hne).trans (hK.p q)⟩) (fun F4 q5 => ?_)
          obtain ⟨M4, O4⟩ := q5
          rw [uz_uz] at M4
          have hge : pq q ≤ dv wd 8 := Classical.byContradiction (fun q0 => absurd (c309) (by rw [b2i_t (by omega)]; decide))
          exact hR F4 _ _ dX12_reduce_319 ⟨by rw [← hX, hVl, sub_mod1 hge (pq_hi q) hV8]; exact M4, O3.tr O4⟩
      have loopD : ∀ (r0 i : Nat) (F3 : Nat → va_E) (f : Nat → Int64), i + r0 = 8 → RW G L F3 o a v (uz s2 kt f) w → (∀ j, j < i → f j = lN (wd j)) → mO o a F F3 → J E L F3 0 0 262 [(5, .int (nI i)), (3, .ref (a (kr q))), (0, .ref o), (1, .ref (a kt)), (2, .int (bi q))] [] := by
        intro r0
        induction r0 with
        | zero =>
          intro i F3 f hi H3 hf O3
          refine jr_iload hE dX12_reduce_262 0 rfl ?_
          refine jr_bipush (v := (8 : Int32)) hE dX12_reduce_264 (by decide) ?_
          refine jr_icmp_ge (tgt := 286) hE dX12_reduce_266 (by decide) (fun c_266 => ?_) (fun c_266 => absurd (nI_le (a := 8) (by omega) (by omega)) c_266)
          refine jr_iload_n hE dX12_reduce_286 4 rfl ?_
          refine jr_if_eq (tgt := 297) hE dX12_reduce_287 (by decide) (fun c_287 => ?_) (fun c_287 => ?_)
          · refine jr_aload_n hE dX12_reduce_297 2 rfl ?_
            refine jr_get hE dX12_reduce_298 f15 H3.ob rfl ?_
            refine jr_lv (lv' := [(3, .ref (a (kr q))), (0, .ref o), (1, .ref (a kt)), (2, .int (bi q))]) [1, 2, 3, 4] rfl ?_
            have hq := bi_0 c_287
            have hm := last F3 ⟨_, H3, mw_set hn2 hg2 hkt.1 (q := some (dv wd 8)) (fun z e => by
              cases e
              exact ⟨wd, fun j hj => hf j (by omega), fun j hj => hW2.2 j (by omega), rfl⟩)⟩ O3
            rw [show kp q = 0 by rw [hq]; rfl] at hm
            exact hm
          · refine jr_aload_n hE dX12_reduce_290 2 rfl ?_
            refine jr_get hE dX12_reduce_291 f27 H3.ob rfl ?_
            refine jr_goto (tgt := 301) hE dX12_reduce_294 (by decide) ?_
            refine jr_lv (lv' := [(3, .ref (a (kr q))), (0, .ref o), (1, .ref (a kt)), (2, .int (bi q))]) [1, 2, 3, 4] rfl ?_
            have hq := bi_1 c_287
            have hm := last F3 ⟨_, H3, mw_set hn2 hg2 hkt.1 (q := some (dv wd 8)) (fun z e => by
              cases e
              exact ⟨wd, fun j hj => hf j (by omega), fun j hj => hW2.2 j (by omega), rfl⟩)⟩ O3
            rw [show kp q = 1 by rw [hq]; rfl] at hm
            exact hm
        | succ r0 ihD =>
          intro i F3 f hi H3 hf O3
          refine jr_iload hE dX12_reduce_262 0 rfl ?_
          refine jr_bipush (v := (8 : Int32)) hE dX12_reduce_264 (by decide) ?_
          refine jr_icmp_ge (tgt := 286) hE dX12_reduce_266 (by decide) (fun c_266 => absurd c_266 (nI_ge (b := 8) (by omega) (by omega))) (fun c_266 => ?_)
          refine jr_aload_n hE dX12_reduce_269 3 rfl ?_
          refine jr_iload hE dX12_reduce_270 0 rfl ?_
          refine jr_aload_n hE dX12_reduce_272 2 rfl ?_
          refine jr_get hE dX12_reduce_273 f152 H3.ob rfl ?_
          refine jr_iload hE dX12_reduce_276 0 rfl ?_
          refine jr_lald (v := lN (wd i)) hE dX12_reduce_278 (H3.L (k := 32) (n := 18) (by decide)) (vp_in_nI (n := i) (by omega) (by omega)) (by rw [nI_clamp (by omega)]; exact (uz_n s2 f h32).symm ▸ hW2.1 i (by omega)) ?_
          refine jr_last hE dX12_reduce_279 (H3.L (k := kt) (n := 8) hkt.1) (vp_in_nI (n := i) (by omega) (by omega)) (fun F1 g2 u3 => ?_)
          have H4 := H3.setL (k := kt) (n := 8) hkt.1 g2 u3
          have O5 := O3.st (k := kt) hkt.1.1 hkt.1.k u3
          rw [uz_uz, uz_s] at H4
          refine jr_iinc (v := nI (i + 1)) (lv' := [(5, .int (nI (i + 1))), (3, .ref (a (kr q))), (0, .ref o), (1, .ref (a kt)), (2, .int (bi q))]) hE dX12_reduce_280 0 rfl (nI_1 _) (by decide) rfl ?_
          refine jr_goto (tgt := 262) hE dX12_reduce_283 (by decide) ?_
          refine jr_lv (lv' := [(5, .int (nI (i + 1))), (3, .ref (a (kr q))), (0, .ref o), (1, .ref (a kt)), (2, .int (bi q))]) [0, 1, 2, 3, 4] rfl ?_
          exact ihD (i + 1) F1 _ (by omega) H4 (fun j hj => by
            by_cases e : j = i
            · rw [e, vL_s _ _ (by omega)]
            · rw [vL_n _ _ (by omega) e]; exact hf j (by omega)) O5
      exact loopD 8 0 F3 (s2 kt) rfl (by rw [uz_id]; exact H3) (fun j hj => absurd hj (Nat.not_lt_zero j)) O3
    have vlt : ∀ i, i ≤ 10 → dv wd 8 + Rq q * dv (shd wd 8) i < 2 ^ (32 * 18) := by
      intro i hi
      have l1 := dv_lt 18 hW.2
      have e1 := dv_sh wd 8 10
      have e2 := dv_sh (shd wd 8) i (10 - i)
      rw [show i + (10 - i) = 10 by omega] at e2
      rw [show 8 + 10 = 18 by rfl] at e1
      have hR := Rq_lt q
      rw [show 32 * 8 = 256 by rfl] at e1
      have l2 : Rq q * dv (shd wd 8) i ≤ 2 ^ 256 * dv (shd wd 8) i := Nat.mul_le_mul_right _ (Nat.le_of_lt hR)
      have l3 : 2 ^ 256 * dv (shd wd 8) i ≤ 2 ^ 256 * dv (shd wd 8) 10 := Nat.mul_le_mul_left _ (by rw [e2]; exact Nat.le_add_right _ _)
      omega
    have vT : ∀ i fd, i < 10 → dv fd 18 = dv wd 8 + Rq q * dv (shd wd 8) i → dv fd 18 + Rq q * wd (8 + i) * 2 ^ (32 * i) = dv wd 8 + Rq q * dv (shd wd 8) (i + 1) := by
      intro i fd hi h
      rw [h]
      show _ = dv wd 8 + Rq q * (dv (shd wd 8) i + wd (8 + i) * 2 ^ (32 * i))
      rw [Nat.mul_add, Nat.mul_assoc, Nat.add_assoc]
    have again : ∀ (fd : Nat → Nat) (F6 : Nat → va_E) (f f3 : Nat → Int64), RW G L F6 o a v (uz (uz s2 33 f) 32 f3) w → (∀ j, j < 18 → f3 j = lN (fd j)) → (∀ j, j < 18 → fd j < 2 ^ 32) → (dv fd 18 = dv wd 8 + Rq q * dv (shd wd 8) 10 ∧ ∃ k, k < 18 ∧ 8 ≤ k ∧ wd k ≠ 0) → mO o a F F6 → J E L F6 0 0 19 [(4, .int 1), (3, .ref (a (kr q))), (0, .ref o), (1, .ref (a kt)), (2, .int (bi q))] [] := by
      intro fd F6 f f3 H6 hf3 hfl hv O6
      obtain ⟨hv, k, hk, hk8, hkz⟩ := hv
      have hge := hi_ge hk hk8 hkz
      have hdiv := hi_div hW.2
      have hv2 : dv fd 18 = V % 2 ^ 256 + Rq q * (V / 2 ^ 256) := by rw [hv, ← hV, hdiv.1, hdiv.2]
      rw [hV] at hge
      have hm := mw_raw (f := f3) (hn3 f) (hg3 f) (k := 32) (Or.inl rfl) hK.2.2.1
      exact ih (dv fd 18) (by rw [hv2]; exact fold_dec (Rq_lt q) hge) F6 _ fd rfl (by rw [hv2, fold_gen (pq_R q)]; exact hX) ⟨H6, hm.1, hm.2⟩ ⟨hf3, hfl⟩ O6
    have afterA : ∀ (F3 : Nat → va_E) (f : Nat → Int64) (m : Int32), RW G L F3 o a v (uz s2 33 f) w → (∀ j, j < 18 → f j = lN (if j < 8 then wd j else 0)) → ((m = 0 ∧ ∀ k, k < 18 → 8 ≤ k → wd k = 0) ∨ (m = 1 ∧ ∃ k, k < 18 ∧ 8 ≤ k ∧ wd k ≠ 0)) → mO o a F F3 → J E L F3 0 0 102 [(5, .int 0), (4, .int m), (3, .ref (a (kr q))), (0, .ref o), (1, .ref (a kt)), (2, .int (bi q))] [] := by
      intro F3 f m H3 hf hm O3
      rcases hm with ⟨rfl, h0⟩ | ⟨rfl, hex⟩
      · have fin := fun h => fin F3 (uz s2 33 f) wd H3 (hn3 f) (hg3 f) hW hX (hi_0 h0) O3 h
        refine jr_iload hE dX12_reduce_102 0 rfl ?_
        refine jr_bipush (v := (10 : Int32)) hE dX12_reduce_104 (by decide) ?_
        refine jr_icmp_ge (tgt := 221) hE dX12_reduce_106 (by decide) (fun c_106 => absurd c_106 (by decide)) (fun c_106 => ?_)
        refine jr_iload hE dX12_reduce_109 1 rfl ?_
        refine jr_if_eq (tgt := 221) hE dX12_reduce_111 (by decide) (fun c_111 => ?_) (fun c_111 => absurd (rfl) c_111)
        refine jr_iconst (v := (0 : Int32)) hE dX12_reduce_221 (by decide) ?_
        refine jr_istore (lv' := [(5, .int (0 : Int32)), (4, .int 0), (3, .ref (a (kr q))), (0, .ref o), (1, .ref (a kt)), (2, .int (bi q))]) hE dX12_reduce_222 (by decide) rfl ?_
        refine jr_iload hE dX12_reduce_224 0 rfl ?_
        refine jr_bipush (v := (18 : Int32)) hE dX12_reduce_226 (by decide) ?_
        refine jr_icmp_ge (tgt := 256) hE dX12_reduce_228 (by decide) (fun c_228 => absurd c_228 (by decide)) (fun c_228 => ?_)
        refine jr_iload hE dX12_reduce_231 1 rfl ?_
        refine jr_if_eq (tgt := 256) hE dX12_reduce_233 (by decide) (fun c_233 => ?_) (fun c_233 => absurd (rfl) c_233)
        refine jr_goto (tgt := 19) hE dX12_reduce_256 (by decide) ?_
        refine jr_iload hE dX12_reduce_19 1 rfl ?_
        refine jr_if_eq (tgt := 259) hE dX12_reduce_21 (by decide) (fun c_21 => ?_) (fun c_21 => absurd (rfl) c_21)
        refine jr_iconst (v := (0 : Int32)) hE dX12_reduce_259 (by decide) ?_
        refine jr_istore (lv' := [(5, .int (0 : Int32)), (4, .int 0), (3, .ref (a (kr q))), (0, .ref o), (1, .ref (a kt)), (2, .int (bi q))]) hE dX12_reduce_260 (by decide) rfl ?_
        refine jr_lv (lv' := [(5, .int (0 : Int32)), (3, .ref (a (kr q))), (0, .ref o), (1, .ref (a kt)), (2, .int (bi q))]) [0, 2, 3, 4, 5] rfl ?_
        exact fin hV.symm
      · have loopC : ∀ (fd : Nat → Nat) {F4 : Nat → va_E} {f : Nat → Int64}, RW G L F4 o a v (uz s2 33 f) w → mO o a F F4 → (∀ j, j < 18 → f j = lN (fd j)) → (∀ j, j < 18 → fd j < 2 ^ 32) → dv fd 18 = dv wd 8 + Rq q * dv (shd wd 8) 10 → ∀ (r0 i : Nat) (F6 : Nat → va_E) (f3 : Nat → Int64), i + r0 = 18 → RW G L F6 o a v (uz (uz s2 33 f) 32 f3) w → (∀ j, j < i → f3 j = lN (fd j)) → mO o a F F6 → J E L F6 0 0 224 [(5, .int (nI i)), (4, .int 1), (3, .ref (a (kr q))), (0, .ref o), (1, .ref (a kt)), (2, .int (bi q))] [] := by
          intro fd F4 f H4 O4 hf hfl hvl r0
          replace hvl := And.intro hvl hex
          induction r0 with
          | zero =>
            intro i F6 f3 hi H6 hf3 O6
            refine jr_iload hE dX12_reduce_224 0 rfl ?_
            refine jr_bipush (v := (18 : Int32)) hE dX12_reduce_226 (by decide) ?_
            refine jr_icmp_ge (tgt := 256) hE dX12_reduce_228 (by decide) (fun c_228 => ?_) (fun c_228 => absurd (nI_le (a := 18) (by omega) (by omega)) c_228)
            refine jr_goto (tgt := 19) hE dX12_reduce_256 (by decide) ?_
            refine jr_lv (lv' := [(4, .int 1), (3, .ref (a (kr q))), (0, .ref o), (1, .ref (a kt)), (2, .int (bi q))]) [1, 2, 3, 4, 5] rfl ?_
            exact again fd F6 f f3 H6 (fun j hj => hf3 j (by omega)) hfl hvl O6
          | succ r0 ihC =>
            intro i F6 f3 hi H6 hf3 O6
            refine jr_iload hE dX12_reduce_224 0 rfl ?_
            refine jr_bipush (v := (18 : Int32)) hE dX12_reduce_226 (by decide) ?_
            refine jr_icmp_ge (tgt := 256) hE dX12_reduce_228 (by decide) (fun c_228 => absurd c_228 (nI_ge (b := 18) (by omega) (by omega))) (fun c_228 => ?_)
            refine jr_iload hE dX12_reduce_231 1 rfl ?_
            refine jr_if_eq (tgt := 256) hE dX12_reduce_233 (by decide) (fun c_233 => absurd c_233 (by decide)) (fun c_233 => ?_)
            refine jr_aload_n hE dX12_reduce_236 3 rfl ?_
            refine jr_get hE dX12_reduce_237 f152 H6.ob rfl ?_
            refine jr_iload hE dX12_reduce_240 0 rfl ?_
            refine jr_aload_n hE dX12_reduce_242 3 rfl ?_
            refine jr_get hE dX12_reduce_243 f155 H6.ob rfl ?_
            refine jr_iload hE dX12_reduce_246 0 rfl ?_
            refine jr_lald (v := lN (fd i)) hE dX12_reduce_248 (H6.L (k := 33) (n := 18) (by decide)) (vp_in_nI (n := i) (by omega) (by omega)) (by rw [nI_clamp (by omega)]; exact hf i (by omega)) ?_
            refine jr_last hE dX12_reduce_249 (H6.L (k := 32) (n := 18) (by decide)) (vp_in_nI (n := i) (by omega) (by omega)) (fun F1 g2 u3 => ?_)
            have H4 := H6.setL (k := 32) (n := 18) (by decide) g2 u3
            have O5 := O6.st (k := 32) (by decide) (by decide) u3
            rw [uz_uz, uz_s] at H4
            refine jr_iinc (v := nI (i + 1)) (lv' := [(5, .int (nI (i + 1))), (4, .int 1), (3, .ref (a (kr q))), (0, .ref o), (1, .ref (a kt)), (2, .int (bi q))]) hE dX12_reduce_250 0 rfl (nI_1 _) (by decide) rfl ?_
            refine jr_goto (tgt := 224) hE dX12_reduce_253 (by decide) ?_
            refine jr_lv (lv' := [(5, .int (nI (i + 1))), (4, .int 1), (3, .ref (a (kr q))), (0, .ref o), (1, .ref (a kt)), (2, .int (bi q))]) [0, 1, 2, 3, 4, 5] rfl ?_
            exact ihC (i + 1) F1 _ (by omega) H4 (fun j hj => by
              by_cases e : j = i
              · rw [e, vL_s _ _ (by omega)]
              · rw [vL_n _ _ (by omega) e]; exact hf3 j (by omega)) O5
        have loopB : ∀ (r0 i : Nat) (F4 : Nat → va_E) (f : Nat → Int64) (fd : Nat → Nat), i + r0 = 10 → RW G L F4 o a v (uz s2 33 f) w → (∀ j, j < 18 → f j = lN (fd j)) → (∀ j, j < 18 → fd j < 2 ^ 32) → dv fd 18 = dv wd 8 + Rq q * dv (shd wd 8) i → mO o a F F4 → J E L F4 0 0 102 [(5, .int (nI i)), (4, .int 1), (3, .ref (a (kr q))), (0, .ref o), (1, .ref (a kt)), (2, .int (bi q))] [] := by
          intro r0
          induction r0 with
          | zero =>
            intro i F4 f fd hi H4 hf hfl hv O4
            refine jr_iload hE dX12_reduce_102 0 rfl ?_
            refine jr_bipush (v := (10 : Int32)) hE dX12_reduce_104 (by decide) ?_
            refine jr_icmp_ge (tgt := 221) hE dX12_reduce_106 (by decide) (fun c_106 => ?_) (fun c_106 => absurd (nI_le (a := 10) (by omega) (by omega)) c_106)
            refine jr_iconst (v := (0 : Int32)) hE dX12_reduce_221 (by decide) ?_
            refine jr_istore (lv' := [(5, .int (0 : Int32)), (4, .int 1), (3, .ref (a (kr q))), (0, .ref o), (1, .ref (a kt)), (2, .int (bi q))]) hE dX12_reduce_222 (by decide) rfl ?_
            refine jr_lv (lv' := [(5, .int (0 : Int32)), (4, .int 1), (3, .ref (a (kr q))), (0, .ref o), (1, .ref (a kt)), (2, .int (bi q))]) [0, 1, 2, 3, 4, 5] rfl ?_
            exact loopC fd H4 O4 hf hfl (by rw [hv, show i = 10 by omega]) 18 0 F4 (s2 32) rfl (by rw [show uz (uz s2 33 f) 32 (s2 32) = uz s2 33 f from uz_id _ 32]; exact H4) (fun j hj => absurd hj (Nat.not_lt_zero j)) O4
          | succ r0 ihB =>
            intro i F4 f fd hi H4 hf hfl hv O4
            have hgr : ∀ f2, (uz s2 33 f2) (kr q) = g (kr q) := fun f2 => by
              have e : kr q ≠ 33 := by cases q <;> decide
              rw [uz_n _ _ e]
              exact hg2 (kr q) (by cases q <;> decide)
            have inner : ∀ (r1 j : Nat) (F5 : Nat → va_E) (f2 : Nat → Int64) (fd2 : Nat → Nat) (c : Nat), j + r1 = 18 - i → RW G L F5 o a v (uz s2 33 f2) w → (∀ k, k < 18 → f2 k = lN (fd2 k)) → (∀ k, k < 18 → fd2 k < 2 ^ 32) → (∀ k, k < i → fd2 k = fd k) → c < 2 ^ 32 → dv (shd fd2 i) j + c * 2 ^ (32 * j) = dv (shd fd i) j + dv (rdq q) j * wd (8 + i) → (∀ k, i + j ≤ k → fd2 k = fd k) → (wd (8 + i) = 0 → ∀ k, k < 18 → fd2 k = fd k) → mO o a F F5 → J E L F5 0 0 120 [(8, .int (nI j)), (6, .long (lN c)), (5, .int (nI i)), (4, .int 1), (3, .ref (a (kr q))), (0, .ref o), (1, .ref (a kt)), (2, .int (bi q))] [] := by
              intro r1
              induction r1 with
              | zero =>
                intro j F5 f2 fd2 c hj H5 hf2 hfl2 hlo hc hinv hhi heq O5
                refine jr_iload hE dX12_reduce_120 2 rfl ?_
                refine jr_iload hE dX12_reduce_122 0 rfl ?_
                refine jr_iadd (z := nI (i + j)) hE dX12_reduce_124 (nI_add _ _) ?_
                refine jr_bipush (v := (18 : Int32)) hE dX12_reduce_125 (by decide) ?_
                refine jr_icmp_ge (tgt := 215) hE dX12_reduce_127 (by decide) (fun c_127 => ?_) (fun c_127 => absurd (nI_le (a := 18) (by omega) (by omega)) c_127)
                refine jr_iinc (v := nI (i + 1)) (lv' := [(5, .int (nI (i + 1))), (8, .int (nI j)), (6, .long (lN c)), (4, .int 1), (3, .ref (a (kr q))), (0, .ref o), (1, .ref (a kt)), (2, .int (bi q))]) hE dX12_reduce_215 2 rfl (nI_1 _) (by decide) rfl ?_
                refine jr_goto (tgt := 102) hE dX12_reduce_218 (by decide) ?_
                refine jr_lv (lv' := [(5, .int (nI (i + 1))), (4, .int 1), (3, .ref (a (kr q))), (0, .ref o), (1, .ref (a kt)), (2, .int (bi q))]) [0, 3, 4, 5, 6, 7] rfl ?_
                exact ihB (i + 1) F5 f2 fd2 (by omega) H5 hf2 hfl2 (row_end (i := i) (m := j) (by omega) hlo (by rw [show dv (rdq q) j = Rq q by rw [show j = 5 + (13 - i) by omega]; exact rdq_v q _] at hinv; exact hinv) (vT i fd (by omega) hv) (vlt (i + 1) (by omega))) O5
              | succ r1 ihI =>
                intro j F5 f2 fd2 c hj H5 hf2 hfl2 hlo hc hinv hhi heq O5
                have hgr := hgr f2
                have hbd := am_bd hc (hfl2 (i + j) (by omega)) (rdq_lt q j) (hW.2 (8 + i) (by omega))
                refine jr_iload hE dX12_reduce_120 2 rfl ?_
                refine jr_iload hE dX12_reduce_122 0 rfl ?_
                refine jr_iadd (z := nI (i + j)) hE dX12_reduce_124 (nI_add _ _) ?_
                refine jr_bipush (v := (18 : Int32)) hE dX12_reduce_125 (by decide) ?_
                refine jr_icmp_ge (tgt := 215) hE dX12_reduce_127 (by decide) (fun c_127 => absurd c_127 (nI_ge (b := 18) (by omega) (by omega))) (fun c_127 => ?_)
                refine jr_aload_n hE dX12_reduce_130 5 rfl ?_
                refine jr_get hE dX12_reduce_131 f152 H5.ob rfl ?_
                refine jr_bipush (v := (8 : Int32)) hE dX12_reduce_134 (by decide) ?_
                refine jr_iload hE dX12_reduce_136 2 rfl ?_
                refine jr_iadd (z := nI (8 + i)) hE dX12_reduce_138 (nI_add _ _) ?_
                refine jr_lald (v := lN (wd (8 + i))) hE dX12_reduce_139 (H5.L (k := 32) (n := 18) (by decide)) (vp_in_nI (n := 8 + i) (by omega) (by omega)) (by rw [nI_clamp (by omega)]; exact hW.1 (8 + i) (by omega)) ?_
                refine jr_lconst (v := (0 : Int64)) hE dX12_reduce_140 (by decide) ?_
                refine jr_lcmp hE dX12_reduce_141 ?_
                refine jr_if_eq (tgt := 215) hE dX12_reduce_142 (by decide) (fun c142 => ?_) (fun c142 => ?_)
                · refine jr_iinc (v := nI (i + 1)) (lv' := [(5, .int (nI (i + 1))), (8, .int (nI j)), (6, .long (lN c)), (4, .int 1), (3, .ref (a (kr q))), (0, .ref o), (1, .ref (a kt)), (2, .int (bi q))]) hE dX12_reduce_215 2 rfl (nI_1 _) (by decide) rfl ?_
                  refine jr_goto (tgt := 102) hE dX12_reduce_218 (by decide) ?_
                  refine jr_lv (lv' := [(5, .int (nI (i + 1))), (4, .int 1), (3, .ref (a (kr q))), (0, .ref o), (1, .ref (a kt)), (2, .int (bi q))]) [0, 3, 4, 5, 6, 7] rfl ?_
                  have hz : wd (8 + i) = 0 := (cmp0 (b := 0) (by have := hW.2 (8 + i) (by omega); omega) (by decide)).mp c142
                  exact ihB (i + 1) F5 f2 fd2 (by omega) H5 hf2 hfl2 (by
                    have e1 := vT i fd (by omega) hv
                    rw [hz, Nat.mul_zero, Nat.zero_mul, Nat.add_zero] at e1
                    rw [← e1]
                    refine dv_congr 18 (fun k hk => ?_)
                    exact heq hz k hk) O5
                · refine jr_iload hE dX12_reduce_145 0 rfl ?_
                  refine jr_iconst (v := (5 : Int32)) hE dX12_reduce_147 (by decide) ?_
                  refine jr_icmp_ge (tgt := 169) hE dX12_reduce_148 (by decide) (fun c148 => ?_) (fun c148 => ?_)
                  · refine jr_lconst (v := (0 : Int64)) hE dX12_reduce_169 (by decide) ?_
                    refine jr_aload_n hE dX12_reduce_170 5 rfl ?_
                    refine jr_get hE dX12_reduce_171 f155 H5.ob rfl ?_
                    refine jr_iload hE dX12_reduce_174 2 rfl ?_
                    refine jr_iload hE dX12_reduce_176 0 rfl ?_
                    refine jr_iadd (z := nI (i + j)) hE dX12_reduce_178 (nI_add _ _) ?_
                    refine jr_lald (v := lN (fd2 (i + j))) hE dX12_reduce_179 (H5.L (k := 33) (n := 18) (by decide)) (vp_in_nI (n := i + j) (by omega) (by omega)) (by rw [nI_clamp (by omega)]; exact hf2 (i + j) (by omega)) ?_
                    refine jr_ladd hE dX12_reduce_180 rfl ?_
                    refine jr_lload hE dX12_reduce_181 1 rfl ?_
                    refine jr_ladd (z := lN (c + fd2 (i + j) + rdq q j * wd (8 + i))) hE dX12_reduce_183 (by rw [rdq_hi q (j := j) (Classical.byContradiction (fun q0 => nI_ge (b := 5) (by omega) (by decide) c148)), Nat.zero_mul]; exact zer_ad) ?_
                    refine jr_lstore (lv' := [(9, .long (lN (c + fd2 (i + j) + rdq q j * wd (8 + i)))), (8, .int (nI j)), (6, .long (lN c)), (5, .int (nI i)), (4, .int 1), (3, .ref (a (kr q))), (0, .ref o), (1, .ref (a kt)), (2, .int (bi q))]) hE dX12_reduce_184 (by decide) rfl ?_
                    refine jr_aload_n hE dX12_reduce_186 6 rfl ?_
                    refine jr_get hE dX12_reduce_187 f155 H5.ob rfl ?_
                    refine jr_iload hE dX12_reduce_190 3 rfl ?_
                    refine jr_iload hE dX12_reduce_192 1 rfl ?_
                    refine jr_iadd (z := nI (i + j)) hE dX12_reduce_194 (nI_add _ _) ?_
                    refine jr_lload hE dX12_reduce_195 0 rfl ?_
                    refine jr_ldc2 (v := (4294967295 : Int64)) hE dX12_reduce_197 (by decide +kernel) ?_
                    refine jr_land (z := lN ((c + fd2 (i + j) + rdq q j * wd (8 + i)) % 2 ^ 32)) hE dX12_reduce_200 (m32 _ hbd) ?_
                    refine jr_last hE dX12_reduce_201 (H5.L (k := 33) (n := 18) (by decide)) (vp_in_nI (n := i + j) (by omega) (by omega)) (fun F1 g2 u3 => ?_)
                    have H4 := H5.setL (k := 33) (n := 18) (by decide) g2 u3
                    have O5 := O5.st (k := 33) (by decide) (by decide) u3
                    rw [uz_uz, uz_s] at H4
                    refine jr_lload hE dX12_reduce_202 0 rfl ?_
                    refine jr_bipush (v := (32 : Int32)) hE dX12_reduce_204 (by decide) ?_
                    refine jr_lushr (z := lN ((c + fd2 (i + j) + rdq q j * wd (8 + i)) / 2 ^ 32)) hE dX12_reduce_206 (s32 _ hbd) ?_
                    refine jr_lstore (lv' := [(6, .long (lN ((c + fd2 (i + j) + rdq q j * wd (8 + i)) / 2 ^ 32))), (9, .long (lN (c + fd2 (i + j) + rdq q j * wd (8 + i)))), (8, .int (nI j)), (5, .int (nI i)), (4, .int 1), (3, .ref (a (kr q))), (0, .ref o), (1, .ref (a kt)), (2, .int (bi q))]) hE dX12_reduce_207 (by decide) rfl ?_
                    refine jr_iinc (v := nI (j + 1)) (lv' := [(8, .int (nI (j + 1))), (6, .long (lN ((c + fd2 (i + j) + rdq q j * wd (8 + i)) / 2 ^ 32))), (9, .long (lN (c + fd2 (i + j) + rdq q j * wd (8 + i)))), (5, .int (nI i)), (4, .int 1), (3, .ref (a (kr q))), (0, .ref o), (1, .ref (a kt)), (2, .int (bi q))]) hE dX12_reduce_209 2 rfl (nI_1 _) (by decide) rfl ?_
                    refine jr_goto (tgt := 120) hE dX12_reduce_212 (by decide) ?_
                    refine jr_lv (lv' := [(8, .int (nI (j + 1))), (6, .long (lN ((c + fd2 (i + j) + rdq q j * wd (8 + i)) / 2 ^ 32))), (5, .int (nI i)), (4, .int 1), (3, .ref (a (kr q))), (0, .ref o), (1, .ref (a kt)), (2, .int (bi q))]) [0, 1, 3, 4, 5, 6, 7, 8] rfl ?_
                    exact ihI (j + 1) F1 _ (du fd2 (i + j) ((c + fd2 (i + j) + rdq q j * wd (8 + i)) % 2 ^ 32)) ((c + fd2 (i + j) + rdq q j * wd (8 + i)) / 2 ^ 32) (by omega) H4 (du_c (by omega) (fun k hk _ => hf2 k hk)) (fun k hk => by
                      by_cases e : k = i + j
                      · rw [e, du_s]; exact Nat.mod_lt _ (Nat.two_pow_pos 32)
                      · rw [du_n e]; exact hfl2 k hk) (fun k hk => by rw [du_n (by omega)]; exact hlo k (by omega)) (by omega) (am_sh hinv hhi) (fun k hk => by rw [du_n (by omega)]; exact hhi k (by omega)) (fun h0 => absurd ((cmp0 (b := 0) (by have := hW.2 (8 + i) (by omega); omega) (by decide)).mpr h0) c142) O5
                  · have hj5 : j < 5 := Classical.byContradiction (fun q0 => c148 (nI_le (a := 5) (by omega) (by omega)))
                    refine jr_aload_n hE dX12_reduce_151 5 rfl ?_
                    refine jr_get hE dX12_reduce_152 f152 H5.ob rfl ?_
                    refine jr_bipush (v := (8 : Int32)) hE dX12_reduce_155 (by decide) ?_
                    refine jr_iload hE dX12_reduce_157 2 rfl ?_
                    refine jr_iadd (z := nI (8 + i)) hE dX12_reduce_159 (nI_add _ _) ?_
                    refine jr_lald (v := lN (wd (8 + i))) hE dX12_reduce_160 (H5.L (k := 32) (n := 18) (by decide)) (vp_in_nI (n := 8 + i) (by omega) (by omega)) (by rw [nI_clamp (by omega)]; exact hW.1 (8 + i) (by omega)) ?_
                    refine jr_aload_n hE dX12_reduce_161 4 rfl ?_
                    refine jr_iload hE dX12_reduce_162 0 rfl ?_
                    refine jr_lald (v := lN (rdq q j)) hE dX12_reduce_164 (H5.L (k := (kr q)) (n := 5) hkr) (vp_in_nI (n := j) (by omega) (by omega)) (by rw [nI_clamp (by omega)]; exact (congrFun (hgr) j).trans (hK.r q j (by omega))) ?_
                    refine jr_lmul hE dX12_reduce_165 rfl ?_
                    refine jr_goto (tgt := 170) hE dX12_reduce_166 (by decide) ?_
                    refine jr_aload_n hE dX12_reduce_170 5 rfl ?_
                    refine jr_get hE dX12_reduce_171 f155 H5.ob rfl ?_
                    refine jr_iload hE dX12_reduce_174 2 rfl ?_
                    refine jr_iload hE dX12_reduce_176 0 rfl ?_
                    refine jr_iadd (z := nI (i + j)) hE dX12_reduce_178 (nI_add _ _) ?_
                    refine jr_lald (v := lN (fd2 (i + j))) hE dX12_reduce_179 (H5.L (k := 33) (n := 18) (by decide)) (vp_in_nI (n := i + j) (by omega) (by omega)) (by rw [nI_clamp (by omega)]; exact hf2 (i + j) (by omega)) ?_
                    refine jr_ladd hE dX12_reduce_180 rfl ?_
                    refine jr_lload hE dX12_reduce_181 1 rfl ?_
                    refine jr_ladd (z := lN (c + fd2 (i + j) + rdq q j * wd (8 + i))) hE dX12_reduce_183 mul_ad ?_
                    refine jr_lstore (lv' := [(9, .long (lN (c + fd2 (i + j) + rdq q j * wd (8 + i)))), (8, .int (nI j)), (6, .long (lN c)), (5, .int (nI i)), (4, .int 1), (3, .ref (a (kr q))), (0, .ref o), (1, .ref (a kt)), (2, .int (bi q))]) hE dX12_reduce_184 (by decide) rfl ?_
                    refine jr_aload_n hE dX12_reduce_186 6 rfl ?_
                    refine jr_get hE dX12_reduce_187 f155 H5.ob rfl ?_
                    refine jr_iload hE dX12_reduce_190 3 rfl ?_
                    refine jr_iload hE dX12_reduce_192 1 rfl ?_
                    refine jr_iadd (z := nI (i + j)) hE dX12_reduce_194 (nI_add _ _) ?_
                    refine jr_lload hE dX12_reduce_195 0 rfl ?_
                    refine jr_ldc2 (v := (4294967295 : Int64)) hE dX12_reduce_197 (by decide +kernel) ?_
                    refine jr_land (z := lN ((c + fd2 (i + j) + rdq q j * wd (8 + i)) % 2 ^ 32)) hE dX12_reduce_200 (m32 _ hbd) ?_
                    refine jr_last hE dX12_reduce_201 (H5.L (k := 33) (n := 18) (by decide)) (vp_in_nI (n := i + j) (by omega) (by omega)) (fun F6 g7 u8 => ?_)
                    have H9 := H5.setL (k := 33) (n := 18) (by decide) g7 u8
                    have O10 := O5.st (k := 33) (by decide) (by decide) u8
                    rw [uz_uz, uz_s] at H9
                    refine jr_lload hE dX12_reduce_202 0 rfl ?_
                    refine jr_bipush (v := (32 : Int32)) hE dX12_reduce_204 (by decide) ?_
                    refine jr_lushr (z := lN ((c + fd2 (i + j) + rdq q j * wd (8 + i)) / 2 ^ 32)) hE dX12_reduce_206 (s32 _ hbd) ?_
                    refine jr_lstore (lv' := [(6, .long (lN ((c + fd2 (i + j) + rdq q j * wd (8 + i)) / 2 ^ 32))), (9, .long (lN (c + fd2 (i + j) + rdq q j * wd (8 + i)))), (8, .int (nI j)), (5, .int (nI i)), (4, .int 1), (3, .ref (a (kr q))), (0, .ref o), (1, .ref (a kt)), (2, .int (bi q))]) hE dX12_reduce_207 (by decide) rfl ?_
                    refine jr_iinc (v := nI (j + 1)) (lv' := [(8, .int (nI (j + 1))), (6, .long (lN ((c + fd2 (i + j) + rdq q j * wd (8 + i)) / 2 ^ 32))), (9, .long (lN (c + fd2 (i + j) + rdq q j * wd (8 + i)))), (5, .int (nI i)), (4, .int 1), (3, .ref (a (kr q))), (0, .ref o), (1, .ref (a kt)), (2, .int (bi q))]) hE dX12_reduce_209 2 rfl (nI_1 _) (by decide) rfl ?_
                    refine jr_goto (tgt := 120) hE dX12_reduce_212 (by decide) ?_
                    refine jr_lv (lv' := [(8, .int (nI (j + 1))), (6, .long (lN ((c + fd2 (i + j) + rdq q j * wd (8 + i)) / 2 ^ 32))), (5, .int (nI i)), (4, .int 1), (3, .ref (a (kr q))), (0, .ref o), (1, .ref (a kt)), (2, .int (bi q))]) [0, 1, 3, 4, 5, 6, 7, 8] rfl ?_
                    exact ihI (j + 1) F6 _ (du fd2 (i + j) ((c + fd2 (i + j) + rdq q j * wd (8 + i)) % 2 ^ 32)) ((c + fd2 (i + j) + rdq q j * wd (8 + i)) / 2 ^ 32) (by omega) H9 (du_c (by omega) (fun k hk _ => hf2 k hk)) (fun k hk => by
                      by_cases e : k = i + j
                      · rw [e, du_s]; exact Nat.mod_lt _ (Nat.two_pow_pos 32)
                      · rw [du_n e]; exact hfl2 k hk) (fun k hk => by rw [du_n (by omega)]; exact hlo k (by omega)) (by omega) (am_sh hinv hhi) (fun k hk => by rw [du_n (by omega)]; exact hhi k (by omega)) (fun h0 => absurd ((cmp0 (b := 0) (by have := hW.2 (8 + i) (by omega); omega) (by decide)).mpr h0) c142) O10
            refine jr_iload hE dX12_reduce_102 0 rfl ?_
            refine jr_bipush (v := (10 : Int32)) hE dX12_reduce_104 (by decide) ?_
            refine jr_icmp_ge (tgt := 221) hE dX12_reduce_106 (by decide) (fun c_106 => absurd c_106 (nI_ge (b := 10) (by omega) (by omega))) (fun c_106 => ?_)
            refine jr_iload hE dX12_reduce_109 1 rfl ?_
            refine jr_if_eq (tgt := 221) hE dX12_reduce_111 (by decide) (fun c_111 => absurd c_111 (by decide)) (fun c_111 => ?_)
            refine jr_lconst (v := (0 : Int64)) hE dX12_reduce_114 (by decide) ?_
            refine jr_lstore (lv' := [(6, .long (0 : Int64)), (5, .int (nI i)), (4, .int 1), (3, .ref (a (kr q))), (0, .ref o), (1, .ref (a kt)), (2, .int (bi q))]) hE dX12_reduce_115 (by decide) rfl ?_
            refine jr_iconst (v := (0 : Int32)) hE dX12_reduce_117 (by decide) ?_
            refine jr_istore (lv' := [(8, .int (0 : Int32)), (6, .long (0 : Int64)), (5, .int (nI i)), (4, .int 1), (3, .ref (a (kr q))), (0, .ref o), (1, .ref (a kt)), (2, .int (bi q))]) hE dX12_reduce_118 (by decide) rfl ?_
            refine jr_lv (lv' := [(8, .int (0 : Int32)), (6, .long (0 : Int64)), (5, .int (nI i)), (4, .int 1), (3, .ref (a (kr q))), (0, .ref o), (1, .ref (a kt)), (2, .int (bi q))]) [0, 1, 2, 3, 4, 5, 6, 7] rfl ?_
            exact inner (18 - i) 0 F4 f fd 0 (by omega) H4 hf hfl (fun _ _ => rfl) (by decide) (by simp [dv]) (fun _ _ => rfl) (fun _ _ _ => rfl) O4
        exact loopB 10 0 F3 f (fun j => if j < 8 then wd j else 0) rfl H3 hf (fun j hj => by
          show (if j < 8 then wd j else 0) < 2 ^ 32
          split
          · exact hW.2 j hj
          · exact Nat.two_pow_pos 32) (by
          rw [hi_0 (wd := fun j => if j < 8 then wd j else 0) (fun k _ h8 => if_neg (by omega))]
          rw [show dv (shd wd 8) 0 = 0 from rfl, Nat.mul_zero, Nat.add_zero]
          exact dv_congr 8 (fun j hj => if_pos hj)) O3
    have loopA : ∀ (r0 i : Nat) (F3 : Nat → va_E) (f : Nat → Int64) (m : Int32), i + r0 = 18 → RW G L F3 o a v (uz s2 33 f) w → (∀ j, j < i → f j = lN (if j < 8 then wd j else 0)) → ((m = 0 ∧ ∀ k, k < i → 8 ≤ k → wd k = 0) ∨ (m = 1 ∧ ∃ k, k < i ∧ 8 ≤ k ∧ wd k ≠ 0)) → mO o a F F3 → J E L F3 0 0 30 [(5, .int (nI i)), (4, .int m), (3, .ref (a (kr q))), (0, .ref o), (1, .ref (a kt)), (2, .int (bi q))] [] := by
      intro r0
      induction r0 with
      | zero =>
        intro i F3 f m hi H3 hf hm O3
        refine jr_iload hE dX12_reduce_30 0 rfl ?_
        refine jr_bipush (v := (18 : Int32)) hE dX12_reduce_32 (by decide) ?_
        refine jr_icmp_ge (tgt := 99) hE dX12_reduce_34 (by decide) (fun c_34 => ?_) (fun c_34 => absurd (nI_le (a := 18) (by omega) (by omega)) c_34)
        refine jr_iconst (v := (0 : Int32)) hE dX12_reduce_99 (by decide) ?_
        refine jr_istore (lv' := [(5, .int (0 : Int32)), (4, .int m), (3, .ref (a (kr q))), (0, .ref o), (1, .ref (a kt)), (2, .int (bi q))]) hE dX12_reduce_100 (by decide) rfl ?_
        refine jr_lv (lv' := [(5, .int (0 : Int32)), (4, .int m), (3, .ref (a (kr q))), (0, .ref o), (1, .ref (a kt)), (2, .int (bi q))]) [0, 1, 2, 3, 4, 5] rfl ?_
        exact afterA F3 f m H3 (fun j hj => hf j (by omega)) (by
          rw [show i = 18 by omega] at hm
          exact hm) O3
      | succ r0 ihA =>
        intro i F3 f m hi H3 hf hm O3
        refine jr_iload hE dX12_reduce_30 0 rfl ?_
        refine jr_bipush (v := (18 : Int32)) hE dX12_reduce_32 (by decide) ?_
        refine jr_icmp_ge (tgt := 99) hE dX12_reduce_34 (by decide) (fun c_34 => absurd c_34 (nI_ge (b := 18) (by omega) (by omega))) (fun c_34 => ?_)
        refine jr_aload_n hE dX12_reduce_37 3 rfl ?_
        refine jr_get hE dX12_reduce_38 f155 H3.ob rfl ?_
        refine jr_iload hE dX12_reduce_41 0 rfl ?_
        refine jr_iload hE dX12_reduce_43 0 rfl ?_
        refine jr_bipush (v := (8 : Int32)) hE dX12_reduce_45 (by decide) ?_
        refine jr_icmp_ge (tgt := 60) hE dX12_reduce_47 (by decide) (fun c47 => ?_) (fun c47 => ?_)
        · have hi8 : 8 ≤ i := Classical.byContradiction (fun q0 => nI_ge (b := 8) (by omega) (by decide) c47)
          refine jr_lconst (v := (0 : Int64)) hE dX12_reduce_60 (by decide) ?_
          refine jr_last hE dX12_reduce_61 (H3.L (k := 33) (n := 18) (by decide)) (vp_in_nI (n := i) (by omega) (by omega)) (fun F1 g2 u3 => ?_)
          have H4 := H3.setL (k := 33) (n := 18) (by decide) g2 u3
          have O5 := O3.st (k := 33) (by decide) (by decide) u3
          rw [uz_uz, uz_s] at H4
          refine jr_iload hE dX12_reduce_62 1 rfl ?_
          refine jr_if_ne (tgt := 86) hE dX12_reduce_64 (by decide) (fun c64 => ?_) (fun c64 => ?_)
          · refine jr_iconst (v := (1 : Int32)) hE dX12_reduce_86 (by decide) ?_
            refine jr_goto (tgt := 91) hE dX12_reduce_87 (by decide) ?_
            refine jr_istore (lv' := [(4, .int (1 : Int32)), (5, .int (nI i)), (3, .ref (a (kr q))), (0, .ref o), (1, .ref (a kt)), (2, .int (bi q))]) hE dX12_reduce_91 (by decide) rfl ?_
            refine jr_iinc (v := nI (i + 1)) (lv' := [(5, .int (nI (i + 1))), (4, .int (1 : Int32)), (3, .ref (a (kr q))), (0, .ref o), (1, .ref (a kt)), (2, .int (bi q))]) hE dX12_reduce_93 1 rfl (nI_1 _) (by decide) rfl ?_
            refine jr_goto (tgt := 30) hE dX12_reduce_96 (by decide) ?_
            refine jr_lv (lv' := [(5, .int (nI (i + 1))), (4, .int (1 : Int32)), (3, .ref (a (kr q))), (0, .ref o), (1, .ref (a kt)), (2, .int (bi q))]) [0, 1, 2, 3, 4, 5] rfl ?_
            exact ihA (i + 1) F1 _ 1 (by omega) H4 (fdn trivial (by omega) hf (by rw [if_neg (by omega)]; rfl)) (Or.inr ⟨rfl, (hm.elim (fun q0 => absurd q0.1 c64) (fun q0 => ⟨q0.2.choose, by have := q0.2.choose_spec; omega, q0.2.choose_spec.2⟩))⟩) O5
          · refine jr_iload hE dX12_reduce_67 0 rfl ?_
            refine jr_bipush (v := (8 : Int32)) hE dX12_reduce_69 (by decide) ?_
            refine jr_icmp_lt (tgt := 90) hE dX12_reduce_71 (by decide) (fun c_71 => absurd c_71 (nI_ge8 (by omega) (by omega))) (fun c_71 => ?_)
            refine jr_aload_n hE dX12_reduce_74 3 rfl ?_
            refine jr_get hE dX12_reduce_75 f152 H4.ob rfl ?_
            refine jr_iload hE dX12_reduce_78 0 rfl ?_
            refine jr_lald (v := lN (wd i)) hE dX12_reduce_80 (H4.L (k := 32) (n := 18) (by decide)) (vp_in_nI (n := i) (by omega) (by omega)) (by rw [nI_clamp (by omega)]; exact hW.1 i (by omega)) ?_
            refine jr_lconst (v := (0 : Int64)) hE dX12_reduce_81 (by decide) ?_
            refine jr_lcmp hE dX12_reduce_82 ?_
            refine jr_if_eq (tgt := 90) hE dX12_reduce_83 (by decide) (fun c83 => ?_) (fun c83 => ?_)
            · refine jr_iconst (v := (0 : Int32)) hE dX12_reduce_90 (by decide) ?_
              refine jr_istore (lv' := [(4, .int (0 : Int32)), (5, .int (nI i)), (3, .ref (a (kr q))), (0, .ref o), (1, .ref (a kt)), (2, .int (bi q))]) hE dX12_reduce_91 (by decide) rfl ?_
              refine jr_iinc (v := nI (i + 1)) (lv' := [(5, .int (nI (i + 1))), (4, .int (0 : Int32)), (3, .ref (a (kr q))), (0, .ref o), (1, .ref (a kt)), (2, .int (bi q))]) hE dX12_reduce_93 1 rfl (nI_1 _) (by decide) rfl ?_
              refine jr_goto (tgt := 30) hE dX12_reduce_96 (by decide) ?_
              refine jr_lv (lv' := [(5, .int (nI (i + 1))), (4, .int (0 : Int32)), (3, .ref (a (kr q))), (0, .ref o), (1, .ref (a kt)), (2, .int (bi q))]) [0, 1, 2, 3, 4, 5] rfl ?_
              exact ihA (i + 1) F1 _ 0 (by omega) H4 (fdn trivial (by omega) hf (by rw [if_neg (by omega)]; rfl)) (Or.inl ⟨rfl, fun k hk h8 => by
                rcases Nat.lt_or_ge k i with q0 | q0
                · exact (hm.elim id (fun q1 => absurd (q1.1.symm.trans (c64)) (by decide))).2 k q0 h8
                · rw [show k = i by omega]; exact (cmp0 (b := 0) (by have := hW.2 i (by omega); omega) (by decide)).mp c83⟩) O5
            · refine jr_iconst (v := (1 : Int32)) hE dX12_reduce_86 (by decide) ?_
              refine jr_goto (tgt := 91) hE dX12_reduce_87 (by decide) ?_
              refine jr_istore (lv' := [(4, .int (1 : Int32)), (5, .int (nI i)), (3, .ref (a (kr q))), (0, .ref o), (1, .ref (a kt)), (2, .int (bi q))]) hE dX12_reduce_91 (by decide) rfl ?_
              refine jr_iinc (v := nI (i + 1)) (lv' := [(5, .int (nI (i + 1))), (4, .int (1 : Int32)), (3, .ref (a (kr q))), (0, .ref o), (1, .ref (a kt)), (2, .int (bi q))]) hE dX12_reduce_93 1 rfl (nI_1 _) (by decide) rfl ?_
              refine jr_goto (tgt := 30) hE dX12_reduce_96 (by decide) ?_
              refine jr_lv (lv' := [(5, .int (nI (i + 1))), (4, .int (1 : Int32)), (3, .ref (a (kr q))), (0, .ref o), (1, .ref (a kt)), (2, .int (bi q))]) [0, 1, 2, 3, 4, 5] rfl ?_
              exact ihA (i + 1) F1 _ 1 (by omega) H4 (fdn trivial (by omega) hf (by rw [if_neg (by omega)]; rfl)) (Or.inr ⟨rfl, i, by omega, by omega, fun q0 => c83 ((cmp0 (b := 0) (by have := hW.2 i (by omega); omega) (by decide)).mpr q0)⟩) O5
        · have hi8 : i < 8 := Classical.byContradiction (fun q0 => c47 (nI_le (a := 8) (by omega) (by omega)))
          refine jr_aload_n hE dX12_reduce_50 3 rfl ?_
          refine jr_get hE dX12_reduce_51 f152 H3.ob rfl ?_
          refine jr_iload hE dX12_reduce_54 0 rfl ?_
          refine jr_lald (v := lN (wd i)) hE dX12_reduce_56 (H3.L (k := 32) (n := 18) (by decide)) (vp_in_nI (n := i) (by omega) (by omega)) (by rw [nI_clamp (by omega)]; exact hW.1 i (by omega)) ?_
          refine jr_goto (tgt := 61) hE dX12_reduce_57 (by decide) ?_
          refine jr_last hE dX12_reduce_61 (H3.L (k := 33) (n := 18) (by decide)) (vp_in_nI (n := i) (by omega) (by omega)) (fun F6 g7 u8 => ?_)
          have H9 := H3.setL (k := 33) (n := 18) (by decide) g7 u8
          have O10 := O3.st (k := 33) (by decide) (by decide) u8
          rw [uz_uz, uz_s] at H9
          refine jr_iload hE dX12_reduce_62 1 rfl ?_
          refine jr_if_ne (tgt := 86) hE dX12_reduce_64 (by decide) (fun c64 => ?_) (fun c64 => ?_)
          · refine jr_iconst (v := (1 : Int32)) hE dX12_reduce_86 (by decide) ?_
            refine jr_goto (tgt := 91) hE dX12_reduce_87 (by decide) ?_
            refine jr_istore (lv' := [(4, .int (1 : Int32)), (5, .int (nI i)), (3, .ref (a (kr q))), (0, .ref o), (1, .ref (a kt)), (2, .int (bi q))]) hE dX12_reduce_91 (by decide) rfl ?_
            refine jr_iinc (v := nI (i + 1)) (lv' := [(5, .int (nI (i + 1))), (4, .int (1 : Int32)), (3, .ref (a (kr q))), (0, .ref o), (1, .ref (a kt)), (2, .int (bi q))]) hE dX12_reduce_93 1 rfl (nI_1 _) (by decide) rfl ?_
            refine jr_goto (tgt := 30) hE dX12_reduce_96 (by decide) ?_
            refine jr_lv (lv' := [(5, .int (nI (i + 1))), (4, .int (1 : Int32)), (3, .ref (a (kr q))), (0, .ref o), (1, .ref (a kt)), (2, .int (bi q))]) [0, 1, 2, 3, 4, 5] rfl ?_
            exact ihA (i + 1) F6 _ 1 (by omega) H9 (fdn trivial (by omega) hf (by rw [if_pos (by omega)])) (Or.inr ⟨rfl, (hm.elim (fun q0 => absurd q0.1 c64) (fun q0 => ⟨q0.2.choose, by have := q0.2.choose_spec; omega, q0.2.choose_spec.2⟩))⟩) O10
          · refine jr_iload hE dX12_reduce_67 0 rfl ?_
            refine jr_bipush (v := (8 : Int32)) hE dX12_reduce_69 (by decide) ?_
            refine jr_icmp_lt (tgt := 90) hE dX12_reduce_71 (by decide) (fun c_71 => ?_) (fun c_71 => absurd (nI_lt (by omega) (by decide)) c_71)
            refine jr_iconst (v := (0 : Int32)) hE dX12_reduce_90 (by decide) ?_
            refine jr_istore (lv' := [(4, .int (0 : Int32)), (5, .int (nI i)), (3, .ref (a (kr q))), (0, .ref o), (1, .ref (a kt)), (2, .int (bi q))]) hE dX12_reduce_91 (by decide) rfl ?_
            refine jr_iinc (v := nI (i + 1)) (lv' := [(5, .int (nI (i + 1))), (4, .int (0 : Int32)), (3, .ref (a (kr q))), (0, .ref o), (1, .ref (a kt)), (2, .int (bi q))]) hE dX12_reduce_93 1 rfl (nI_1 _) (by decide) rfl ?_
            refine jr_goto (tgt := 30) hE dX12_reduce_96 (by decide) ?_
            refine jr_lv (lv' := [(5, .int (nI (i + 1))), (4, .int (0 : Int32)), (3, .ref (a (kr q))), (0, .ref o), (1, .ref (a kt)), (2, .int (bi q))]) [0, 1, 2, 3, 4, 5] rfl ?_
            exact ihA (i + 1) F6 _ 0 (by omega) H9 (fdn trivial (by omega) hf (by rw [if_pos (by omega)])) (Or.inl ⟨rfl, fun k hk h8 => by
              rcases Nat.lt_or_ge k i with q0 | q0
              · exact (hm.elim id (fun q1 => absurd (q1.1.symm.trans (c64)) (by decide))).2 k q0 h8
              · omega⟩) O10
    refine jr_iload hE dX12_reduce_19 0 rfl ?_
    refine jr_if_eq (tgt := 259) hE dX12_reduce_21 (by decide) (fun c_21 => absurd c_21 (by decide)) (fun c_21 => ?_)
    refine jr_iconst (v := (0 : Int32)) hE dX12_reduce_24 (by decide) ?_
    refine jr_istore (lv' := [(4, .int (0 : Int32)), (3, .ref (a (kr q))), (0, .ref o), (1, .ref (a kt)), (2, .int (bi q))]) hE dX12_reduce_25 (by decide) rfl ?_
    refine jr_iconst (v := (0 : Int32)) hE dX12_reduce_27 (by decide) ?_
    refine jr_istore (lv' := [(5, .int (0 : Int32)), (4, .int (0 : Int32)), (3, .ref (a (kr q))), (0, .ref o), (1, .ref (a kt)), (2, .int (bi q))]) hE dX12_reduce_28 (by decide) rfl ?_
    refine jr_lv (lv' := [(5, .int (0 : Int32)), (4, .int (0 : Int32)), (3, .ref (a (kr q))), (0, .ref o), (1, .ref (a kt)), (2, .int (bi q))]) [0, 1, 2, 3, 4, 5] rfl ?_
    exact loopA 18 0 F2 (s2 33) 0 rfl (by rw [uz_id]; exact H) (fun j hj => absurd hj (Nat.not_lt_zero j)) (Or.inl ⟨rfl, fun k hk => absurd hk (Nat.not_lt_zero k)⟩) O
  have main : J E L F 0 0 15 [(0, .ref o), (1, .ref (a kt)), (2, .int (bi q))] [.ref (a (kr q))] := by
    refine jr_astore_n (lv' := [(3, .ref (a (kr q))), (0, .ref o), (1, .ref (a kt)), (2, .int (bi q))]) hE dX12_reduce_15 (by decide) rfl ?_
    refine jr_iconst (v := (1 : Int32)) hE dX12_reduce_16 (by decide) ?_
    refine jr_istore (lv' := [(4, .int (1 : Int32)), (3, .ref (a (kr q))), (0, .ref o), (1, .ref (a kt)), (2, .int (bi q))]) hE dX12_reduce_17 (by decide) rfl ?_
    refine jr_lv (lv' := [(4, .int (1 : Int32)), (3, .ref (a (kr q))), (0, .ref o), (1, .ref (a kt)), (2, .int (bi q))]) [0, 1, 2, 3, 4] rfl ?_
    exact outer (dv wd 18) F s wd rfl rfl hR0 hW (mO.rf o a F)
  refine jr_iload_n hE dX12_reduce_0 2 rfl ?_
  refine jr_if_eq (tgt := 11) hE dX12_reduce_1 (by decide) (fun c_1 => ?_) (fun c_1 => ?_)
  · refine jr_aload_n hE dX12_reduce_11 0 rfl ?_
    refine jr_get hE dX12_reduce_12 f32 H0.ob rfl ?_
    have hq := bi_0 c_1
    have hm := main
    rw [show kr q = 2 by rw [hq]; rfl] at hm
    exact hm
  · refine jr_aload_n hE dX12_reduce_4 0 rfl ?_
    refine jr_get hE dX12_reduce_5 f43 H0.ob rfl ?_
    refine jr_goto (tgt := 15) hE dX12_reduce_8 (by decide) ?_
    have hq := bi_1 c_1
    have hm := main
    rw [show kr q = 3 by rw [hq]; rfl] at hm
    exact hm

