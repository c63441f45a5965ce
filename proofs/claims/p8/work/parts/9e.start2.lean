/-! THE LAW'S ENTRY -/
theorem bnd : ∀ L : List Nat, ∃ M, ∀ x ∈ L, x < M
  | [] => ⟨0, fun _ h => absurd h List.not_mem_nil⟩
  | y :: L => by
    obtain ⟨M, h⟩ := bnd L
    refine ⟨M + y + 1, fun x hx => ?_⟩
    rcases List.mem_cons.mp hx with rfl | hx
    · omega
    · have := h x hx; omega
/-- both objects fresh, in one pool: the two worlds of the state of no row -/
theorem law_fresh {G : Nat → ClassId} {L1 L3 : List Nat} {F0 F1 F2 F3 : Nat → va_E} {o q M : Nat} {L0 : List Nat} {A A2 : Nat → Nat} {lz : Nat → Int64} (hL0 : o ∈ L0) (g1 : gS L0 F0 o 356 A (tX11 G A lz) L1 F1) (h1 : F1 o = (.inr (11, [.ref (A 0), .ref (A 1), .ref (A 3), .ref (A 8), .ref (A 117), .ref (A 247), .int (0 : Int32), .int (0 : Int32)]))) (hk : cK 536887296 16793600 lz) (hz : cV lz % (PP : Int) = ((1 % PP : Nat) : Int)) (hq : q ∉ L1) (u : ∀ x, x ≠ q → F2 x = F1 x) (g2 : gS (L1 ++ [q]) F2 q 73 A2 (tX12 G) L3 F3) (h2 : F3 q = (.inr (12, [.ref (A2 0), .ref (A2 1), .ref (A2 2), .ref (A2 3), .ref (A2 4), .ref (A2 5), .ref (A2 6), .ref (A2 7), .ref (A2 8), .ref (A2 9), .int (0 : Int32), .ref (A2 10), .ref (A2 11), .ref (A2 12), .ref (A2 13), .ref (A2 14), .int (0 : Int32), .ref (A2 15), .ref (A2 16), .ref (A2 17), .ref (A2 18), .ref (A2 19), .ref (A2 20), .ref (A2 21), .int (0 : Int32), .ref (A2 22), .ref (A2 23), .ref (A2 24), .ref (A2 25), .int (0 : Int32), .int (0 : Int32), .int (0 : Int32), .ref (A2 26), .ref (A2 27), .ref (A2 28), .ref (A2 29), .ref (A2 30), .ref (A2 31), .ref (A2 32), .ref (A2 33), .ref (A2 34), .ref (A2 35), .ref (A2 36), .ref (A2 37), .ref (A2 38), .ref (A2 39), .ref (A2 40), .ref (A2 41), .ref (A2 42), .ref (A2 43), .ref (A2 44), .ref (A2 45), .ref (A2 46), .ref (A2 47), .ref (A2 48), .ref (A2 49), .ref (A2 50), .int (0 : Int32), .ref (A2 51), .ref (A2 52), .ref (A2 53), .ref (A2 54), .ref (A2 55), .ref (A2 56), .ref (A2 57), .ref (A2 58), .ref (A2 59), .ref (A2 60), .ref (A2 61), .ref (A2 62), .ref (A2 63), .ref (A2 64), .ref (A2 65), .ref (A2 66), .ref (A2 67), .ref (A2 68), .ref (A2 69), .ref (A2 70), .int (0 : Int32), .ref (A2 71), .ref (A2 72)]))) (hM : ∀ x ∈ L3, x < M) : two (cx A o M) q (a12 A2) ∧ cIs G L3 F3 (cx A o M) ST0 ∧ mIs G L3 F3 q (a12 A2) ST0 := by
  have ho1 : o ∈ L1 := g1.om
  have hA1 : ∀ i, i < 356 → A i ∈ L1 := fun i hi => g1.mem hi
  have h3 : ∀ x, x ∈ L1 → x ∈ L3 := fun x hx => by rw [g2.2.1]; exact List.mem_append_left _ (List.mem_append_left _ hx)
  have hq3 : q ∈ L3 := g2.om
  have hA3 : ∀ i, i < 73 → A2 i ∈ L3 := fun i hi => g2.mem hi
  have hn : ∀ x, x ∈ L1 → x ≠ q := fun x hx e => hq (by rw [← e]; exact hx)
  have hn2 : ∀ x, x ∈ L1 → ∀ i, i < 73 → x ≠ A2 i := fun x hx i hi e => g2.2.2.1 i hi (by rw [← e]; exact List.mem_append_left _ hx)
  have f3 : ∀ x c, jF L1 F1 x c → jF L3 F3 x c := fun x c h => g2.old (h.nw hq u) (hn x h.1)
  have hI := mr_I (fun i hi => g2.at i hi) (fun i j hi hj e => g2.2.2.2.1 i j hi hj e) ⟨hq3, h2⟩
  have hC := fr_I (M := M) (fun i hi => f3 _ _ (g1.at i hi)) (f3 o _ ⟨ho1, h1⟩) hk hz (cx_in (fun i j hi hj e => g1.2.2.2.1 i j hi hj e) (fun i hi => g1.one hi) (fun i hi => hM _ (h3 _ (hA1 i hi))) (hM _ (h3 _ ho1)))
  refine ⟨fun i hi => ?_, ⟨_, _, _, _, _, _, hC⟩, ⟨_, _, _, _, hI⟩⟩
  rcases cx_or A o M hi with e | ⟨j, hj, e⟩ | e
  · rw [e]
    exact ⟨hn o ho1, fun k hk hd => hn2 o ho1 _ (pl12_ok k hk hd).1⟩
  · rw [e]
    exact ⟨hn _ (hA1 j hj), fun k hk hd => hn2 _ (hA1 j hj) _ (pl12_ok k hk hd).1⟩
  · exact ⟨fun e2 => absurd (hM q hq3) (by rw [← e2]; omega), fun k hk hd e2 => absurd (hM _ (hA3 _ (pl12_ok k hk hd).1)) (by
      have e3 : cx A o M i = A2 (pl12 k) := e2
      rw [← e3]; omega)⟩
set_option maxHeartbeats 4000000 in
set_option maxRecDepth 100000 in
theorem law_start {E : jE} {G : Nat → ClassId} {b N : Nat} {xs : Nat → Int32} (hE : jOk E G room_1 cL_law 4 RL wsL_law) (hX : jScr E b N xs) (hN : N ≤ 3072) (hR : ∀ L F lv, J E L F 431 10207 1016 lv [.int 1]) : J E [] (fun _ => zC) 0 0 0 [(0, .ref b)] [] := by
  refine jr_new (ci := 11) (fs := [.null, .null, .null, .null, .null, .null, .int 0, .int 0]) hE dL_law_0 rfl (by decide +kernel) (by decide +kernel) (by decide +kernel) (by decide +kernel) dfX11 ⟨by decide, by decide⟩ (fun o1 F1 n1 h1 u1 => ?_)
  refine jr_dup hE dL_law_3 rfl ?_
  refine jr_callIv (n := 0) (As := []) (rest := [.ref o1]) hE dL_law_4 (fun l => c_i11 l G o1) ggL_law_X11_init (by decide +kernel) (by decide +kernel) (by decide +kernel) rfl rfl ⟨by decide, by decide, by decide +kernel⟩ ⟨rfl, rfl, by decide, by decide⟩ ⟨by decide, by decide⟩ rfl rfl (Nat.le_of_ble_eq_true rfl) (h1) (fun L2 F2 p2 => ?_)
  obtain ⟨A, lz, g1, e1, hk, hz⟩ := p2
  refine jr_astore_n (lv' := [(1, .ref o1), (0, .ref b)]) hE dL_law_7 (by decide) rfl ?_
  refine jr_new (ci := 12) (fs := [.null, .null, .null, .null, .null, .null, .null, .null, .null, .null, .int 0, .null, .null, .null, .null, .null, .int 0, .null, .null, .null, .null, .null, .null, .null, .int 0, .null, .null, .null, .null, .int 0, .int 0, .int 0, .null, .null, .null, .null, .null, .null, .null, .null, .null, .null, .null, .null, .null, .null, .null, .null, .null, .null, .null, .null, .null, .null, .null, .null, .null, .int 0, .null, .null, .null, .null, .null, .null, .null, .null, .null, .null, .null, .null, .null, .null, .null, .null, .null, .null, .null, .null, .int 0, .null, .null]) hE dL_law_8 rfl (by decide +kernel) (by decide +kernel) (by decide +kernel) (by decide +kernel) dfX12 ⟨by decide, by decide⟩ (fun o3 F3 n3 h3 u3 => ?_)
  refine jr_dup hE dL_law_11 rfl ?_
  refine jr_callIv (n := 0) (As := []) (rest := [.ref o3]) hE dL_law_12 (fun l => c_i12 l G o3) ggL_law_X12_init (by decide +kernel) (by decide +kernel) (by decide +kernel) rfl rfl ⟨by decide, by decide, by decide +kernel⟩ ⟨rfl, rfl, by decide, by decide⟩ ⟨by decide, by decide⟩ rfl rfl (Nat.le_of_ble_eq_true rfl) (h3) (fun L4 F4 p4 => ?_)
  obtain ⟨A2, g2, e2⟩ := p4
  obtain ⟨M, hM⟩ := bnd L4
  obtain ⟨ht, hc, hm⟩ := law_fresh h1.1 g1 e1 hk hz n3 u3 g2 e2 hM
  refine jr_astore_n (lv' := [(2, .ref o3), (1, .ref o1), (0, .ref b)]) hE dL_law_15 (by decide) rfl ?_
  refine jr_iconst (v := nI 0) hE dL_law_16 (by decide) ?_
  refine jr_istore_n (lv' := [(3, .int (nI 0)), (2, .ref o3), (1, .ref o1), (0, .ref b)]) hE dL_law_17 (by decide) rfl ?_
  have hL := law_loop hE hX hN ht (fun F lv => hR L4 F lv) (N + 1) 0 F4 ST0 ST0 (Nat.zero_le N) (by omega) hc hm
  rw [show cx A o1 M 0 = o1 from rfl] at hL
  exact hL
