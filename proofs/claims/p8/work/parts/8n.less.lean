/-! THE REFERENCE'S less, raise -/
def fa (a b : Nat) : Nat := (a + b) % PP
theorem fa_lt (a b : Nat) : fa a b < PP := Nat.mod_lt _ PP0
theorem MW.ob {G : Nat → ClassId} {L : List Nat} {F : Nat → va_E} {o : Nat} {a : Nat → Nat} {v : Nat → Int32} {n : Nat → Option Nat} {g : Nat → Nat → Int64} {w : Nat → Nat → Int32} (M : MW G L F o a v n g w) : jF L F o (.inr (12, mFs a v)) := by
  obtain ⟨s, H, -⟩ := M
  exact H.ob
theorem MW.lt {G : Nat → ClassId} {L : List Nat} {F : Nat → va_E} {o : Nat} {a : Nat → Nat} {v : Nat → Int32} {n : Nat → Option Nat} {g : Nat → Nat → Int64} {w : Nat → Nat → Int32} (M : MW G L F o a v n g w) {k x : Nat} (h : n k = some x) : x < 2 ^ 256 := by
  obtain ⟨s, H, hn, hg⟩ := M
  exact (hn k x h).lt
theorem mN.dig {f : Nat → Int64} {x : Nat} (h : mN f x) : ∀ i, i < 8 → f i = lN (x / 2 ^ (32 * i) % 2 ^ 32) := by
  obtain ⟨d, h1, h2, h3⟩ := h
  intro i hi
  have h9 : dv (du d 8 0) 9 = x := by
    show dv (du d 8 0) 8 + du d 8 0 8 * _ = x
    rw [du_s, Nat.zero_mul, Nat.add_zero, dv_du (Nat.le_refl _), h3]
  rw [h1 i hi, dig_eq h9 (fun j hj => by rw [du_n (by omega)]; exact h2 j hj) hi, du_n (by omega)]
theorem MW.ld {G : Nat → ClassId} {L : List Nat} {F : Nat → va_E} {o : Nat} {a : Nat → Nat} {v : Nat → Int32} {n : Nat → Option Nat} {g : Nat → Nat → Int64} {w : Nat → Nat → Int32} (M : MW G L F o a v n g w) {k x : Nat} (hk : l8 k) (h : n k = some x) : ∃ f, jF L F (a k) (.inl (G 2, 8, .inr (.inl f))) ∧ ∀ i, i < 8 → f i = lN (x / 2 ^ (32 * i) % 2 ^ 32) := by
  obtain ⟨s, H, hn, hg⟩ := M
  exact ⟨s k, H.L hk, (hn k x h).dig⟩
theorem MW.wk {G : Nat → ClassId} {L : List Nat} {F : Nat → va_E} {o : Nat} {a : Nat → Nat} {v : Nat → Int32} {n n' : Nat → Option Nat} {g : Nat → Nat → Int64} {w : Nat → Nat → Int32} (M : MW G L F o a v n g w) (h : ∀ k x, n' k = some x → n k = some x) : MW G L F o a v n' g w := by
  obtain ⟨s, H, hn, hg⟩ := M
  exact ⟨s, H, fun k x e => hn k x (h k x e), hg⟩
theorem mK.fr {n n' : Nat → Option Nat} {g : Nat → Nat → Int64} (h : mK n g) (h0 : n' 0 = n 0) (h1 : n' 1 = n 1) (h2 : n' 32 = n 32) (h3 : n' 33 = n 33) : mK n' g := ⟨h0.trans h.1, h1.trans h.2.1, h2.trans h.2.2.1, h3.trans h.2.2.2.1, h.2.2.2.2⟩
theorem less_v {x y p B : Nat} (hx : x < p) (hy : y < p) (hp : p < B) (h0 : y ≠ 0) : (x + (p + B - y) % B) % p = (x + (p - y)) % p := by
  have e : (p + B - y) % B = p - y := by
    rw [show p + B - y = p - y + B by omega, Nat.add_mod_right, Nat.mod_eq_of_lt (by omega)]
  rw [e]
theorem mem_or {k a b : Nat} (h : k ∉ [a, b]) : k ≠ a ∧ k ≠ b := by
  simp only [List.mem_cons, List.not_mem_nil, or_false, not_or] at h
  exact h

set_option maxHeartbeats 4000000 in
set_option maxRecDepth 100000 in
theorem c_m_less (l : Launch) (G : Nat → ClassId) (o : Nat) (a : Nat → Nat) (v : Nat → Int32) (n : Nat → Option Nat) (g : Nat → Nat → Int64) (w : Nat → Nat → Int32) (kt ka kb x y : Nat) (q : Bool) : jKv l yX12_less wsX12_less ({ frames := 3, cells := 0, slots := 0, locals := 86 }) G [.ref o, .ref (a kt), .ref (a ka), .ref (a kb), .int (bi q)] (fun L F => MW G L F o a v n g w ∧ mK n g ∧ lv8 kt ∧ kt ≠ 34 ∧ l8 ka ∧ l8 kb ∧ ka ≠ 34 ∧ n ka = some x ∧ n kb = some y ∧ x < pq q ∧ y < pq q) (fun L F F1 => ∃ n', MW G L F1 o a v n' g w ∧ (∀ k, k ∉ [kt, 34] → n' k = n k) ∧ n' kt = some ((x + (pq q - y)) % pq q) ∧ mO o a F F1) := by
  refine jm_kv (cc := cX12_less) (maxL := 5) (by decide) rfl (Nat.le_of_ble_eq_true rfl) ?_
  intro E L F hE hR hpre
  have hE : jOk E G _ cX12_less 5 RX12 wsX12_less := hE

  have f158 : jFl RX12 wsX12_less 158 12 34 := ⟨rfl, by decide, by decide +kernel, by decide +kernel⟩
  have f15 : jFl RX12 wsX12_less 15 12 0 := ⟨rfl, by decide, by decide +kernel, by decide +kernel⟩
  have f27 : jFl RX12 wsX12_less 27 12 1 := ⟨rfl, by decide, by decide +kernel, by decide +kernel⟩
  obtain ⟨M0, hK, hkt, hk34, hka, hkb, hne, hx, hy, hxl, hyl⟩ := hpre
  have hkp : l8 (kp q) := by cases q <;> decide
  have main : b2i (y = 0) = 0 → J E L F 0 0 33 [(0, .ref o), (1, .ref (a kt)), (2, .ref (a ka)), (3, .ref (a kb)), (4, .int (bi q))] [.ref (a (kp q)), .ref (a 34)] := by
    intro c4
    have hy0 : y ≠ 0 := fun e => by
      rw [b2i_t e] at c4
      exact absurd c4 (by decide)
    refine jr_aload_n hE dX12_less_33 3 rfl ?_
    refine jr_kSv (n := 3) (As := [.ref (a 34), .ref (a (kp q)), .ref (a kb)]) (rest := []) hE dX12_less_34 (fun l => c_m_take l G o a v n g w 34 (kp q) kb (pq q) y) gX12_less_X12_take rfl (by decide +kernel) ⟨rfl, rfl, by decide, by decide⟩ (by decide) rfl rfl (Nat.le_of_ble_eq_true rfl) (⟨M0, (by decide), hkp, hkb, hK.p q, hy⟩) (fun F1 q2 => ?_)
    obtain ⟨M1, O1⟩ := q2
    have hz := 0
    refine jr_aload_n hE dX12_less_37 0 rfl ?_
    refine jr_aload_n hE dX12_less_38 1 rfl ?_
    refine jr_aload_n hE dX12_less_39 2 rfl ?_
    refine jr_aload_n hE dX12_less_40 0 rfl ?_
    refine jr_get hE dX12_less_41 f158 M1.ob rfl ?_
    refine jr_iload hE dX12_less_44 4 rfl ?_
    refine jr_kVv (ci := 12) (n := 4) (As := [.ref (a kt), .ref (a ka), .ref (a 34), .int (bi q)]) (rest := []) hE dX12_less_46 (fun l => c_m_add l G o a v _ g w kt ka 34 x ((pq q + 2 ^ 256 - y) % 2 ^ 256) q) gX12_less_X12_add rfl M1.ob rfl (by decide +kernel) ⟨rfl, rfl, by decide, by decide⟩ (by decide) rfl rfl (Nat.le_of_ble_eq_true rfl) (⟨M1, hK.fr rfl rfl rfl rfl, ⟨hkt.1, hkt.2.1, hkt.2.2⟩, hka, (by decide), (uz_n _ _ hne).trans hx, uz_s _ _ _⟩) (fun F3 q4 => ?_)
    obtain ⟨M2, O2⟩ := q4
    exact hR F3 _ _ dX12_less_49 ⟨_, M2, fun k hk => (uz_n _ _ (mem_or hk).1).trans (uz_n _ _ (mem_or hk).2), by rw [uz_s, less_v hxl hyl (pq_lt q) hy0], O1.tr O2⟩
  refine jr_aload_n hE dX12_less_0 3 rfl ?_
  refine jr_kSi (n := 1) (As := [.ref (a kb)]) (rest := []) hE dX12_less_1 (fun l => c_m_isNull l G o a v n g w kb y) gX12_less_X12_isNull rfl (by decide +kernel) ⟨rfl, rfl, by decide, by decide⟩ (by decide) rfl rfl (Nat.le_of_ble_eq_true rfl) (⟨M0, hkb, hy⟩) (fun r3 F1 q2 => ?_)
  obtain ⟨eq2, rq2⟩ := q2
  subst eq2 rq2
  refine jr_if_eq (tgt := 13) hE dX12_less_4 (by decide) (fun c4 => ?_) (fun c4 => ?_)
  · refine jr_aload_n hE dX12_less_13 0 rfl ?_
    refine jr_get hE dX12_less_14 f158 M0.ob rfl ?_
    refine jr_iload hE dX12_less_17 4 rfl ?_
    refine jr_if_eq (tgt := 29) hE dX12_less_19 (by decide) (fun c_19 => ?_) (fun c_19 => ?_)
    · refine jr_aload_n hE dX12_less_29 0 rfl ?_
      refine jr_get hE dX12_less_30 f15 M0.ob rfl ?_
      have hq := bi_0 c_19
      have hm := main c4
      rw [show kp q = 0 by rw [hq]; rfl] at hm
      exact hm
    · refine jr_aload_n hE dX12_less_22 0 rfl ?_
      refine jr_get hE dX12_less_23 f27 M0.ob rfl ?_
      refine jr_goto (tgt := 33) hE dX12_less_26 (by decide) ?_
      have hq := bi_1 c_19
      have hm := main c4
      rw [show kp q = 1 by rw [hq]; rfl] at hm
      exact hm
  · refine jr_aload_n hE dX12_less_7 1 rfl ?_
    refine jr_aload_n hE dX12_less_8 2 rfl ?_
    refine jr_kSv (n := 2) (As := [.ref (a kt), .ref (a ka)]) (rest := []) hE dX12_less_9 (fun l => c_m_set l G o a v n g w kt ka) gX12_less_X12_set rfl (by decide +kernel) ⟨rfl, rfl, by decide, by decide⟩ (by decide) rfl rfl (Nat.le_of_ble_eq_true rfl) (⟨M0, hkt.1, hka⟩) (fun F4 q5 => ?_)
    obtain ⟨M1, O1⟩ := q5
    have hy0 : y = 0 := b2i_1 c4
    exact hR F4 _ _ dX12_less_12 ⟨_, M1, fun k hk => uz_n _ _ (mem_or hk).1, by rw [uz_s, hx, hy0, Nat.sub_zero, Nat.add_mod_right, Nat.mod_eq_of_lt hxl], O1⟩

