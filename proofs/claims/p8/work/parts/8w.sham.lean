/-! THE REFERENCE'S digest: one block -/
theorem or32 {x y : Nat} (hx : x < 2 ^ 32) (hy : y < 2 ^ 32) : nI x ||| nI y = nI (x ||| y) := by
  apply Int32.toBitVec_inj.mp
  rw [Int32.toBitVec_or]
  show BitVec.ofNat 32 x ||| BitVec.ofNat 32 y = BitVec.ofNat 32 (x ||| y)
  apply BitVec.eq_of_toNat_eq
  rw [BitVec.toNat_or, BitVec.toNat_ofNat, BitVec.toNat_ofNat, BitVec.toNat_ofNat, Nat.mod_eq_of_lt hx, Nat.mod_eq_of_lt hy, Nat.mod_eq_of_lt (Nat.or_lt_two_pow hx hy)]
theorem or_add {x y k : Nat} (hy : y < 2 ^ k) : x * 2 ^ k ||| y = x * 2 ^ k + y := by
  rw [Nat.mul_comm]
  exact (Nat.two_pow_add_eq_or_of_lt hy x).symm
/-- the word of four bytes from a place on -/
def wdI (f : Nat → Int32) (i : Nat) : Int32 := nI (bt f i * 2 ^ 24 + bt f (i + 1) * 2 ^ 16 + bt f (i + 2) * 2 ^ 8 + bt f (i + 3))
theorem wd4 {p q r s : Nat} (hp : p < 256) (hq : q < 256) (hr : r < 256) (hs : s < 256) : ls (nI p) 24 ||| ls (nI q) 16 ||| ls (nI r) 8 ||| nI s = nI (p * 2 ^ 24 + q * 2 ^ 16 + r * 2 ^ 8 + s) := by
  unfold ls
  rw [pk_shlN _ 24 (by decide) (by omega), pk_shlN _ 16 (by decide) (by omega), pk_shlN _ 8 (by decide) (by omega)]
  rw [or32 (by omega) (by omega), or_add (k := 24) (x := p) (y := q * 2 ^ 16) (by omega)]
  rw [or32 (by omega) (by omega), show p * 2 ^ 24 + q * 2 ^ 16 = (p * 2 ^ 8 + q) * 2 ^ 16 by omega, or_add (k := 16) (by omega)]
  rw [or32 (by omega) (by omega), show (p * 2 ^ 8 + q) * 2 ^ 16 + r * 2 ^ 8 = ((p * 2 ^ 8 + q) * 2 ^ 8 + r) * 2 ^ 8 by omega, or_add (k := 8) (by omega)]
/-- a block's outcome speaks of eight words of the state and sixteen of the block -/
theorem wxt_cg {g g' : Nat → Int32} (h : ∀ j, j < 16 → g j = g' j) : ∀ n, n ≤ 48 → ∀ j, j < 16 + n → wxt g n j = wxt g' n j
  | 0, _, j, hj => h j (by omega)
  | n + 1, hn, j, hj => by
    have ih := wxt_cg h n (by omega)
    rw [wxt, wxt]
    show (if j = 16 + n then _ else _) = (if j = 16 + n then _ else _)
    by_cases e : j = 16 + n
    · rw [if_pos e, if_pos e, ih n (by omega), ih (n + 1) (by omega), ih (n + 9) (by omega), ih (n + 14) (by omega)]
    · rw [if_neg e, if_neg e]; exact ih j (by omega)
theorem rdn_cg {s s' w w' : Nat → Int32} (hs : ∀ j, j < 8 → s j = s' j) : ∀ n, (∀ j, j < n → w j = w' j) → ∀ j, j < 8 → rdn s w n j = rdn s' w' n j
  | 0, _, j, hj => hs j hj
  | n + 1, hw, j, hj => by
    have ih := rdn_cg hs n (fun i hi => hw i (by omega))
    have e1 : rd1 (rdn s w n) (jROUND.getD n 0) (w n) = rd1 (rdn s' w' n) (jROUND.getD n 0) (w' n) := by
      unfold rd1
      rw [ih 4 (by decide), ih 5 (by decide), ih 6 (by decide), ih 7 (by decide), hw n (by omega)]
    have e2 : rd2 (rdn s w n) = rd2 (rdn s' w' n) := by
      unfold rd2
      rw [ih 0 (by decide), ih 1 (by decide), ih 2 (by decide)]
    rw [rdn, rdn, e1, e2, ih 0 (by decide), ih 1 (by decide), ih 2 (by decide), ih 3 (by decide), ih 4 (by decide), ih 5 (by decide), ih 6 (by decide)]
theorem addn_at (s r : Nat → Int32) : ∀ n j, addn s r n j = if j < n then s j + r j else s j
  | 0, j => by rw [if_neg (Nat.not_lt_zero j)]; rfl
  | n + 1, j => by
    rw [addn]
    show (if j = n then _ else _) = _
    by_cases e : j = n
    · rw [if_pos e, if_pos (by omega), addn_at s r n n, if_neg (Nat.lt_irrefl n), e]
    · rw [if_neg e, addn_at s r n j]
      by_cases q : j < n
      · rw [if_pos q, if_pos (by omega)]
      · rw [if_neg q, if_neg (by omega)]
theorem shB_cg {s s' g g' : Nat → Int32} (hs : ∀ j, j < 8 → s j = s' j) (hg : ∀ j, j < 16 → g j = g' j) : ∀ j, j < 8 → shB s g j = shB s' g' j := by
  intro j hj
  unfold shB
  rw [addn_at, addn_at, if_pos hj, if_pos hj, hs j hj, rdn_cg hs 64 (fun i hi => wxt_cg hg 48 (Nat.le_refl _) i (by omega)) j hj]
def rdOK (w : Nat → Nat → Int32) : Prop := ∀ j, j < 64 → w 52 j = jROUND.getD j 0

set_option maxHeartbeats 4000000 in
set_option maxRecDepth 100000 in
theorem c_m_turn (l : Launch) (G : Nat → ClassId) (x k k' : Int32) : jKi l yX12_turn wsX12_turn ({ frames := 0, cells := 0, slots := 0, locals := 0 }) G [.int x, .int k] (fun L F => (32 : Int32) - k = k') (fun L F r F1 => F = F1 ∧ r = us x k ||| ls x k') := by
  refine jm_ki (cc := cX12_turn) (maxL := 2) (rt := .int) (by decide) rfl (Nat.le_of_ble_eq_true rfl) ?_
  intro E L F hE hR hpre
  have hE : jOk E G _ cX12_turn 2 RX12 wsX12_turn := hE

  refine jr_iload_n hE dX12_turn_0 0 rfl ?_
  refine jr_iload_n hE dX12_turn_1 1 rfl ?_
  refine jr_iushr (z := us x k) hE dX12_turn_2 rfl ?_
  refine jr_iload_n hE dX12_turn_3 0 rfl ?_
  refine jr_bipush (v := (32 : Int32)) hE dX12_turn_4 (by decide) ?_
  refine jr_iload_n hE dX12_turn_6 1 rfl ?_
  refine jr_isub (z := k') hE dX12_turn_7 hpre ?_
  refine jr_ishl (z := ls x k') hE dX12_turn_8 rfl ?_
  refine jr_ior hE dX12_turn_9 rfl ?_
  exact hR F _ _ _ dX12_turn_10 rfl ⟨rfl, rfl⟩

set_option maxHeartbeats 4000000 in
set_option maxRecDepth 100000 in
theorem c_m_block (l : Launch) (G : Nat → ClassId) (o : Nat) (a : Nat → Nat) (v : Nat → Int32) (n : Nat → Option Nat) (g : Nat → Nat → Int64) (w : Nat → Nat → Int32) (fr : Nat) : jKv l yX12_block wsX12_block ({ frames := 1, cells := 0, slots := 0, locals := 21 }) G [.ref o, .int (nI fr)] (fun L F => MW G L F o a v n g w ∧ fr + 64 ≤ 512 ∧ bB (w 55) fr 64 ∧ rdOK w) (fun L F F1 => ∃ g' f', MW G L F1 o a v n g (uz (uz w 54 g') 53 f') ∧ (∀ j, j < 8 → f' j = shB (w 53) (fun j => wdI (w 55) (fr + 4 * j)) j) ∧ mO o a F F1) := by
  refine jm_kv (cc := cX12_block) (maxL := 13) (by decide) rfl (Nat.le_of_ble_eq_true rfl) ?_
  intro E L F hE hR hpre
  have hE : jOk E G _ cX12_block 13 RX12 wsX12_block := hE

  have f284 : jFl RX12 wsX12_block 284 12 54 := ⟨rfl, by decide, by decide +kernel, by decide +kernel⟩
  have f287 : jFl RX12 wsX12_block 287 12 55 := ⟨rfl, by decide, by decide +kernel, by decide +kernel⟩
  have f281 : jFl RX12 wsX12_block 281 12 53 := ⟨rfl, by decide, by decide +kernel, by decide +kernel⟩
  have f278 : jFl RX12 wsX12_block 278 12 52 := ⟨rfl, by decide, by decide +kernel, by decide +kernel⟩
  obtain ⟨M0, hfr, hB, hrd⟩ := hpre
  have hB2 : ∀ k, k < 64 → bt (w 55) (fr + k) < 256 := hB
  have loopB : ∀ (g0 : Nat → Int32), (∀ j, j < 16 → g0 j = (fun j => wdI (w 55) (fr + 4 * j)) j) → ∀ (r0 n1 : Nat) (F3 : Nat → va_E), n1 + r0 = 48 → MW G L F3 o a v n g (uz w 54 (wxt g0 n1)) → mO o a F F3 → J E L F3 0 0 2 [(2, .int (nI (16 + n1))), (0, .ref o), (1, .int (nI fr))] [] := by
    intro g0 hg0 r0
    have loop2 : ∀ (gx : Nat → Int32) (r0 i : Nat) (F3 : Nat → va_E), i + r0 = 64 → MW G L F3 o a v n g (uz w 54 gx) → mO o a F F3 → (gx = wxt g0 48) → J E L F3 0 0 229 [(10, .int (nI i)), (2, .int (rdn (w 53) gx i 0)), (3, .int (rdn (w 53) gx i 1)), (4, .int (rdn (w 53) gx i 2)), (5, .int (rdn (w 53) gx i 3)), (6, .int (rdn (w 53) gx i 4)), (7, .int (rdn (w 53) gx i 5)), (8, .int (rdn (w 53) gx i 6)), (9, .int (rdn (w 53) gx i 7)), (0, .ref o), (1, .int (nI fr))] [] := by
      intro gx r1
      induction r1 with
      | zero =>
        intro i F3 hi H3 O3 hgx
        have hi64 : i = 64 := by omega
        subst hi64
        obtain ⟨R0, hR0⟩ : ∃ R0, R0 = rdn (w 53) gx 64 := ⟨_, rfl⟩
        rw [← hR0]
        have hw0 : uz w 54 gx = uz (uz w 54 gx) 53 (addn (w 53) R0 0) := (uz_id (uz w 54 gx) 53).symm
        rw [hw0] at H3
        refine jr_iload hE dX12_block_229 0 rfl ?_
        refine jr_bipush (v := (64 : Int32)) hE dX12_block_231 (by decide) ?_
        refine jr_icmp_ge (tgt := 369) hE dX12_block_233 (by decide) (fun c_233 => ?_) (fun c_233 => absurd (nI_le (a := 64) (by omega) (by omega)) c_233)
        refine jr_aload_n hE dX12_block_369 9 rfl ?_
        refine jr_get hE dX12_block_370 f281 H3.ob rfl ?_
        refine jr_iconst (v := (0 : Int32)) hE dX12_block_373 (by decide) ?_
        refine jr_dup2 hE dX12_block_374 rfl rfl ?_
        refine jr_iald (v := addn (w 53) R0 0 0) hE dX12_block_375 (H3.I (k := 53) (N := 8) (by decide)) (vp_in_nI (n := 0) (by decide) (by decide)) rfl ?_
        refine jr_iload_n hE dX12_block_376 1 rfl ?_
        refine jr_iadd hE dX12_block_377 rfl ?_
        refine jr_iast hE dX12_block_378 (H3.I (k := 53) (N := 8) (by decide)) (vp_in_nI (n := 0) (by decide) (by decide)) (fun F1 g2 u3 => ?_)
        have H4 := H3.setI (k := 53) (N := 8) (by decide) g2 u3
        have O5 := O3.st (k := 53) (by decide) (by decide) u3
        rw [uz_uz, uz_s] at H4
        have H4 : MW G L F1 o a v n g (uz (uz w 54 gx) 53 (addn (w 53) R0 1)) := H4
        refine jr_aload_n hE dX12_block_379 9 rfl ?_
        refine jr_get hE dX12_block_380 f281 H4.ob rfl ?_
        refine jr_iconst (v := (1 : Int32)) hE dX12_block_383 (by decide) ?_
        refine jr_dup2 hE dX12_block_384 rfl rfl ?_
        refine jr_iald (v := addn (w 53) R0 1 1) hE dX12_block_385 (H4.I (k := 53) (N := 8) (by decide)) (vp_in_nI (n := 1) (by decide) (by decide)) rfl ?_
        refine jr_iload_n hE dX12_block_386 2 rfl ?_
        refine jr_iadd hE dX12_block_387 rfl ?_
        refine jr_iast hE dX12_block_388 (H4.I (k := 53) (N := 8) (by decide)) (vp_in_nI (n := 1) (by decide) (by decide)) (fun F6 g7 u8 => ?_)
        have H9 := H4.setI (k := 53) (N := 8) (by decide) g7 u8
        have O10 := O5.st (k := 53) (by decide) (by decide) u8
        rw [uz_uz, uz_s] at H9
        have H9 : MW G L F6 o a v n g (uz (uz w 54 gx) 53 (addn (w 53) R0 2)) := H9
        refine jr_aload_n hE dX12_block_389 9 rfl ?_
        refine jr_get hE dX12_block_390 f281 H9.ob rfl ?_
        refine jr_iconst (v := (2 : Int32)) hE dX12_block_393 (by decide) ?_
        refine jr_dup2 hE dX12_block_394 rfl rfl ?_
        refine jr_iald (v := addn (w 53) R0 2 2) hE dX12_block_395 (H9.I (k := 53) (N := 8) (by decide)) (vp_in_nI (n := 2) (by decide) (by decide)) rfl ?_
        refine jr_iload hE dX12_block_396 3 rfl ?_
        refine jr_iadd hE dX12_block_398 rfl ?_
        refine jr_iast hE dX12_block_399 (H9.I (k := 53) (N := 8) (by decide)) (vp_in_nI (n := 2) (by decide) (by decide)) (fun F11 g12 u13 => ?_)
        have H14 := H9.setI (k := 53) (N := 8) (by decide) g12 u13
        have O15 := O10.st (k := 53) (by decide) (by decide) u13
        rw [uz_uz, uz_s] at H14
        have H14 : MW G L F11 o a v n g (uz (uz w 54 gx) 53 (addn (w 53) R0 3)) := H14
        refine jr_aload_n hE dX12_block_400 9 rfl ?_
        refine jr_get hE dX12_block_401 f281 H14.ob rfl ?_
        refine jr_iconst (v := (3 : Int32)) hE dX12_block_404 (by decide) ?_
        refine jr_dup2 hE dX12_block_405 rfl rfl ?_
        refine jr_iald (v := addn (w 53) R0 3 3) hE dX12_block_406 (H14.I (k := 53) (N := 8) (by decide)) (vp_in_nI (n := 3) (by decide) (by decide)) rfl ?_
        refine jr_iload hE dX12_block_407 4 rfl ?_
        refine jr_iadd hE dX12_block_409 rfl ?_
        refine jr_iast hE dX12_block_410 (H14.I (k := 53) (N := 8) (by decide)) (vp_in_nI (n := 3) (by decide) (by decide)) (fun F16 g17 u18 => ?_)
        have H19 := H14.setI (k := 53) (N := 8) (by decide) g17 u18
        have O20 := O15.st (k := 53) (by decide) (by decide) u18
        rw [uz_uz, uz_s] at H19
        have H19 : MW G L F16 o a v n g (uz (uz w 54 gx) 53 (addn (w 53) R0 4)) := H19
        refine jr_aload_n hE dX12_block_411 9 rfl ?_
        refine jr_get hE dX12_block_412 f281 H19.ob rfl ?_
        refine jr_iconst (v := (4 : Int32)) hE dX12_block_415 (by decide) ?_
        refine jr_dup2 hE dX12_block_416 rfl rfl ?_
        refine jr_iald (v := addn (w 53) R0 4 4) hE dX12_block_417 (H19.I (k := 53) (N := 8) (by decide)) (vp_in_nI (n := 4) (by decide) (by decide)) rfl ?_
        refine jr_iload hE dX12_block_418 5 rfl ?_
        refine jr_iadd hE dX12_block_420 rfl ?_
        refine jr_iast hE dX12_block_421 (H19.I (k := 53) (N := 8) (by decide)) (vp_in_nI (n := 4) (by decide) (by decide)) (fun F21 g22 u23 => ?_)
        have H24 := H19.setI (k := 53) (N := 8) (by decide) g22 u23
        have O25 := O20.st (k := 53) (by decide) (by decide) u23
        rw [uz_uz, uz_s] at H24
        have H24 : MW G L F21 o a v n g (uz (uz w 54 gx) 53 (addn (w 53) R0 5)) := H24
        refine jr_aload_n hE dX12_block_422 9 rfl ?_
        refine jr_get hE dX12_block_423 f281 H24.ob rfl ?_
        refine jr_iconst (v := (5 : Int32)) hE dX12_block_426 (by decide) ?_
        refine jr_dup2 hE dX12_block_427 rfl rfl ?_
        refine jr_iald (v := addn (w 53) R0 5 5) hE dX12_block_428 (H24.I (k := 53) (N := 8) (by decide)) (vp_in_nI (n := 5) (by decide) (by decide)) rfl ?_
        refine jr_iload hE dX12_block_429 6 rfl ?_
        refine jr_iadd hE dX12_block_431 rfl ?_
        refine jr_iast hE dX12_block_432 (H24.I (k := 53) (N := 8) (by decide)) (vp_in_nI (n := 5) (by decide) (by decide)) (fun F26 g27 u28 => ?_)
        have H29 := H24.setI (k := 53) (N := 8) (by decide) g27 u28
        have O30 := O25.st (k := 53) (by decide) (by decide) u28
        rw [uz_uz, uz_s] at H29
        have H29 : MW G L F26 o a v n g (uz (uz w 54 gx) 53 (addn (w 53) R0 6)) := H29
        refine jr_aload_n hE dX12_block_433 9 rfl ?_
        refine jr_get hE dX12_block_434 f281 H29.ob rfl ?_
        refine jr_bipush (v := (6 : Int32)) hE dX12_block_437 (by decide) ?_
        refine jr_dup2 hE dX12_block_439 rfl rfl ?_
        refine jr_iald (v := addn (w 53) R0 6 6) hE dX12_block_440 (H29.I (k := 53) (N := 8) (by decide)) (vp_in_nI (n := 6) (by decide) (by decide)) rfl ?_
        refine jr_iload hE dX12_block_441 7 rfl ?_
        refine jr_iadd hE dX12_block_443 rfl ?_
        refine jr_iast hE dX12_block_444 (H29.I (k := 53) (N := 8) (by decide)) (vp_in_nI (n := 6) (by decide) (by decide)) (fun F31 g32 u33 => ?_)
        have H34 := H29.setI (k := 53) (N := 8) (by decide) g32 u33
        have O35 := O30.st (k := 53) (by decide) (by decide) u33
        rw [uz_uz, uz_s] at H34
        have H34 : MW G L F31 o a v n g (uz (uz w 54 gx) 53 (addn (w 53) R0 7)) := H34
        refine jr_aload_n hE dX12_block_445 9 rfl ?_
        refine jr_get hE dX12_block_446 f281 H34.ob rfl ?_
        refine jr_bipush (v := (7 : Int32)) hE dX12_block_449 (by decide) ?_
        refine jr_dup2 hE dX12_block_451 rfl rfl ?_
        refine jr_iald (v := addn (w 53) R0 7 7) hE dX12_block_452 (H34.I (k := 53) (N := 8) (by decide)) (vp_in_nI (n := 7) (by decide) (by decide)) rfl ?_
        refine jr_iload hE dX12_block_453 8 rfl ?_
        refine jr_iadd hE dX12_block_455 rfl ?_
        refine jr_iast hE dX12_block_456 (H34.I (k := 53) (N := 8) (by decide)) (vp_in_nI (n := 7) (by decide) (by decide)) (fun F36 g37 u38 => ?_)
        have H39 := H34.setI (k := 53) (N := 8) (by decide) g37 u38
        have O40 := O35.st (k := 53) (by decide) (by decide) u38
        rw [uz_uz, uz_s] at H39
        have H39 : MW G L F36 o a v n g (uz (uz w 54 gx) 53 (addn (w 53) R0 8)) := H39
        exact hR F36 _ _ dX12_block_457 ⟨_, _, H39, fun j hj => by
          rw [hR0, hgx]
          exact shB_cg (s := w 53) (g := g0) (fun _ _ => rfl) hg0 j hj, O40⟩
      | succ r1 ih2 =>
        intro i F3 hi H3 O3 hgx
        refine jr_iload hE dX12_block_229 0 rfl ?_
        refine jr_bipush (v := (64 : Int32)) hE dX12_block_231 (by decide) ?_
        refine jr_icmp_ge (tgt := 369) hE dX12_block_233 (by decide) (fun c_233 => absurd c_233 (nI_ge (b := 64) (by omega) (by decide))) (fun c_233 => ?_)
        refine jr_iload hE dX12_block_236 8 rfl ?_
        refine jr_iload hE dX12_block_238 5 rfl ?_
        refine jr_bipush (v := (6 : Int32)) hE dX12_block_240 (by decide) ?_
        refine jr_kSi (n := 2) (As := [.int (rdn (w 53) gx i 4), .int (6 : Int32)]) (rest := [.int (rdn (w 53) gx i 7)]) hE dX12_block_242 (fun l => c_m_turn l G (rdn (w 53) gx i 4) (6 : Int32) (26 : Int32)) gX12_block_X12_turn rfl (by decide +kernel) ⟨rfl, rfl, by decide, by decide⟩ (by decide) rfl rfl (Nat.le_of_ble_eq_true rfl) (by decide) (fun r3 F1 q2 => ?_)
        obtain ⟨eq2, rq2⟩ := q2
        subst eq2 rq2
        refine jr_iload hE dX12_block_245 5 rfl ?_
        refine jr_bipush (v := (11 : Int32)) hE dX12_block_247 (by decide) ?_
        refine jr_kSi (n := 2) (As := [.int (rdn (w 53) gx i 4), .int (11 : Int32)]) (rest := [.int (us (rdn (w 53) gx i 4) 6 ||| ls (rdn (w 53) gx i 4) 26), .int (rdn (w 53) gx i 7)]) hE dX12_block_249 (fun l => c_m_turn l G (rdn (w 53) gx i 4) (11 : Int32) (21 : Int32)) gX12_block_X12_turn rfl (by decide +kernel) ⟨rfl, rfl, by decide, by decide⟩ (by decide) rfl rfl (Nat.le_of_ble_eq_true rfl) (by decide) (fun r6 F4 q5 => ?_)
        obtain ⟨eq5, rq5⟩ := q5
        subst eq5 rq5
        refine jr_ixor hE dX12_block_252 rfl ?_
        refine jr_iload hE dX12_block_253 5 rfl ?_
        refine jr_bipush (v := (25 : Int32)) hE dX12_block_255 (by decide) ?_
        refine jr_kSi (n := 2) (As := [.int (rdn (w 53) gx i 4), .int (25 : Int32)]) (rest := [.int ((us (rdn (w 53) gx i 4) 6 ||| ls (rdn (w 53) gx i 4) 26) ^^^ (us (rdn (w 53) gx i 4) 11 ||| ls (rdn (w 53) gx i 4) 21)), .int (rdn (w 53) gx i 7)]) hE dX12_block_257 (fun l => c_m_turn l G (rdn (w 53) gx i 4) (25 : Int32) (7 : Int32)) gX12_block_X12_turn rfl (by decide +kernel) ⟨rfl, rfl, by decide, by decide⟩ (by decide) rfl rfl (Nat.le_of_ble_eq_true rfl) (by decide) (fun r9 F7 q8 => ?_)
        obtain ⟨eq8, rq8⟩ := q8
        subst eq8 rq8
        refine jr_ixor hE dX12_block_260 rfl ?_
        refine jr_iadd hE dX12_block_261 rfl ?_
        refine jr_iload hE dX12_block_262 5 rfl ?_
        refine jr_iload hE dX12_block_264 6 rfl ?_
        refine jr_iand hE dX12_block_266 rfl ?_
        refine jr_iload hE dX12_block_267 5 rfl ?_
        refine jr_iconst (v := (-1 : Int32)) hE dX12_block_269 (by decide) ?_
        refine jr_ixor hE dX12_block_270 rfl ?_
        refine jr_iload hE dX12_block_271 7 rfl ?_
        refine jr_iand hE dX12_block_273 rfl ?_
        refine jr_ixor hE dX12_block_274 rfl ?_
        refine jr_iadd hE dX12_block_275 rfl ?_
        refine jr_aload_n hE dX12_block_276 9 rfl ?_
        refine jr_get hE dX12_block_277 f278 H3.ob rfl ?_
        refine jr_iload hE dX12_block_280 0 rfl ?_
        refine jr_iald (v := (jROUND.getD i 0)) hE dX12_block_282 (H3.I (k := 52) (N := 64) (by decide)) (vp_in_nI (by omega) (by decide)) (by rw [nI_clamp (by omega)]; exact hrd i (by omega)) ?_
        refine jr_iadd hE dX12_block_283 rfl ?_
        refine jr_aload_n hE dX12_block_284 9 rfl ?_
        refine jr_get hE dX12_block_285 f284 H3.ob rfl ?_
        refine jr_iload hE dX12_block_288 0 rfl ?_
        refine jr_iald (v := gx i) hE dX12_block_290 (H3.I (k := 54) (N := 64) (by decide)) (vp_in_nI (by omega) (by decide)) (by rw [nI_clamp (by omega)]; rfl) ?_
        refine jr_iadd hE dX12_block_291 rfl ?_
        refine jr_istore (lv' := [(11, .int (((((rdn (w 53) gx i 7) + (((us (rdn (w 53) gx i 4) 6 ||| ls (rdn (w 53) gx i 4) 26) ^^^ (us (rdn (w 53) gx i 4) 11 ||| ls (rdn (w 53) gx i 4) 21)) ^^^ (us (rdn (w 53) gx i 4) 25 ||| ls (rdn (w 53) gx i 4) 7))) + (((rdn (w 53) gx i 4) &&& (rdn (w 53) gx i 5)) ^^^ (((rdn (w 53) gx i 4) ^^^ (-1 : Int32)) &&& (rdn (w 53) gx i 6)))) + (jROUND.getD i 0)) + (gx i))), (10, .int (nI i)), (2, .int (rdn (w 53) gx i 0)), (3, .int (rdn (w 53) gx i 1)), (4, .int (rdn (w 53) gx i 2)), (5, .int (rdn (w 53) gx i 3)), (6, .int (rdn (w 53) gx i 4)), (7, .int (rdn (w 53) gx i 5)), (8, .int (rdn (w 53) gx i 6)), (9, .int (rdn (w 53) gx i 7)), (0, .ref o), (1, .int (nI fr))]) hE dX12_block_292 (by decide) rfl ?_
        refine jr_iload_n hE dX12_block_294 2 rfl ?_
        refine jr_iconst (v := (2 : Int32)) hE dX12_block_295 (by decide) ?_
        refine jr_kSi (n := 2) (As := [.int (rdn (w 53) gx i 0), .int (2 : Int32)]) (rest := []) hE dX12_block_296 (fun l => c_m_turn l G (rdn (w 53) gx i 0) (2 : Int32) (30 : Int32)) gX12_block_X12_turn rfl (by decide +kernel) ⟨rfl, rfl, by decide, by decide⟩ (by decide) rfl rfl (Nat.le_of_ble_eq_true rfl) (by decide) (fun r12 F10 q11 => ?_)
        obtain ⟨eq11, rq11⟩ := q11
        subst eq11 rq11
        refine jr_iload_n hE dX12_block_299 2 rfl ?_
        refine jr_bipush (v := (13 : Int32)) hE dX12_block_300 (by decide) ?_
        refine jr_kSi (n := 2) (As := [.int (rdn (w 53) gx i 0), .int (13 : Int32)]) (rest := [.int (us (rdn (w 53) gx i 0) 2 ||| ls (rdn (w 53) gx i 0) 30)]) hE dX12_block_302 (fun l => c_m_turn l G (rdn (w 53) gx i 0) (13 : Int32) (19 : Int32)) gX12_block_X12_turn rfl (by decide +kernel) ⟨rfl, rfl, by decide, by decide⟩ (by decide) rfl rfl (Nat.le_of_ble_eq_true rfl) (by decide) (fun r15 F13 q14 => ?_)
        obtain ⟨eq14, rq14⟩ := q14
        subst eq14 rq14
        refine jr_ixor hE dX12_block_305 rfl ?_
        refine jr_iload_n hE dX12_block_306 2 rfl ?_
        refine jr_bipush (v := (22 : Int32)) hE dX12_block_307 (by decide) ?_
        refine jr_kSi (n := 2) (As := [.int (rdn (w 53) gx i 0), .int (22 : Int32)]) (rest := [.int ((us (rdn (w 53) gx i 0) 2 ||| ls (rdn (w 53) gx i 0) 30) ^^^ (us (rdn (w 53) gx i 0) 13 ||| ls (rdn (w 53) gx i 0) 19))]) hE dX12_block_309 (fun l => c_m_turn l G (rdn (w 53) gx i 0) (22 : Int32) (10 : Int32)) gX12_block_X12_turn rfl (by decide +kernel) ⟨rfl, rfl, by decide, by decide⟩ (by decide) rfl rfl (Nat.le_of_ble_eq_true rfl) (by decide) (fun r18 F16 q17 => ?_)
        obtain ⟨eq17, rq17⟩ := q17
        subst eq17 rq17
        refine jr_ixor hE dX12_block_312 rfl ?_
        refine jr_iload_n hE dX12_block_313 2 rfl ?_
        refine jr_iload_n hE dX12_block_314 3 rfl ?_
        refine jr_iand hE dX12_block_315 rfl ?_
        refine jr_iload_n hE dX12_block_316 2 rfl ?_
        refine jr_iload hE dX12_block_317 4 rfl ?_
        refine jr_iand hE dX12_block_319 rfl ?_
        refine jr_ixor hE dX12_block_320 rfl ?_
        refine jr_iload_n hE dX12_block_321 3 rfl ?_
        refine jr_iload hE dX12_block_322 4 rfl ?_
        refine jr_iand hE dX12_block_324 rfl ?_
        refine jr_ixor hE dX12_block_325 rfl ?_
        refine jr_iadd hE dX12_block_326 rfl ?_
        refine jr_istore (lv' := [(12, .int ((((us (rdn (w 53) gx i 0) 2 ||| ls (rdn (w 53) gx i 0) 30) ^^^ (us (rdn (w 53) gx i 0) 13 ||| ls (rdn (w 53) gx i 0) 19)) ^^^ (us (rdn (w 53) gx i 0) 22 ||| ls (rdn (w 53) gx i 0) 10)) + ((((rdn (w 53) gx i 0) &&& (rdn (w 53) gx i 1)) ^^^ ((rdn (w 53) gx i 0) &&& (rdn (w 53) gx i 2))) ^^^ ((rdn (w 53) gx i 1) &&& (rdn (w 53) gx i 2))))), (11, .int (((((rdn (w 53) gx i 7) + (((us (rdn (w 53) gx i 4) 6 ||| ls (rdn (w 53) gx i 4) 26) ^^^ (us (rdn (w 53) gx i 4) 11 ||| ls (rdn (w 53) gx i 4) 21)) ^^^ (us (rdn (w 53) gx i 4) 25 ||| ls (rdn (w 53) gx i 4) 7))) + (((rdn (w 53) gx i 4) &&& (rdn (w 53) gx i 5)) ^^^ (((rdn (w 53) gx i 4) ^^^ (-1 : Int32)) &&& (rdn (w 53) gx i 6)))) + (jROUND.getD i 0)) + (gx i))), (10, .int (nI i)), (2, .int (rdn (w 53) gx i 0)), (3, .int (rdn (w 53) gx i 1)), (4, .int (rdn (w 53) gx i 2)), (5, .int (rdn (w 53) gx i 3)), (6, .int (rdn (w 53) gx i 4)), (7, .int (rdn (w 53) gx i 5)), (8, .int (rdn (w 53) gx i 6)), (9, .int (rdn (w 53) gx i 7)), (0, .ref o), (1, .int (nI fr))]) hE dX12_block_327 (by decide) rfl ?_
        refine jr_iload hE dX12_block_329 9 rfl ?_
        refine jr_istore (lv' := [(9, .int (rdn (w 53) gx i 6)), (12, .int ((((us (rdn (w 53) gx i 0) 2 ||| ls (rdn (w 53) gx i 0) 30) ^^^ (us (rdn (w 53) gx i 0) 13 ||| ls (rdn (w 53) gx i 0) 19)) ^^^ (us (rdn (w 53) gx i 0) 22 ||| ls (rdn (w 53) gx i 0) 10)) + ((((rdn (w 53) gx i 0) &&& (rdn (w 53) gx i 1)) ^^^ ((rdn (w 53) gx i 0) &&& (rdn (w 53) gx i 2))) ^^^ ((rdn (w 53) gx i 1) &&& (rdn (w 53) gx i 2))))), (11, .int (((((rdn (w 53) gx i 7) + (((us (rdn (w 53) gx i 4) 6 ||| ls (rdn (w 53) gx i 4) 26) ^^^ (us (rdn (w 53) gx i 4) 11 ||| ls (rdn (w 53) gx i 4) 21)) ^^^ (us (rdn (w 53) gx i 4) 25 ||| ls (rdn (w 53) gx i 4) 7))) + (((rdn (w 53) gx i 4) &&& (rdn (w 53) gx i 5)) ^^^ (((rdn (w 53) gx i 4) ^^^ (-1 : Int32)) &&& (rdn (w 53) gx i 6)))) + (jROUND.getD i 0)) + (gx i))), (10, .int (nI i)), (2, .int (rdn (w 53) gx i 0)), (3, .int (rdn (w 53) gx i 1)), (4, .int (rdn (w 53) gx i 2)), (5, .int (rdn (w 53) gx i 3)), (6, .int (rdn (w 53) gx i 4)), (7, .int (rdn (w 53) gx i 5)), (8, .int (rdn (w 53) gx i 6)), (0, .ref o), (1, .int (nI fr))]) hE dX12_block_331 (by decide) rfl ?_
        refine jr_iload hE dX12_block_333 9 rfl ?_
        refine jr_istore (lv' := [(8, .int (rdn (w 53) gx i 5)), (9, .int (rdn (w 53) gx i 6)), (12, .int ((((us (rdn (w 53) gx i 0) 2 ||| ls (rdn (w 53) gx i 0) 30) ^^^ (us (rdn (w 53) gx i 0) 13 ||| ls (rdn (w 53) gx i 0) 19)) ^^^ (us (rdn (w 53) gx i 0) 22 ||| ls (rdn (w 53) gx i 0) 10)) + ((((rdn (w 53) gx i 0) &&& (rdn (w 53) gx i 1)) ^^^ ((rdn (w 53) gx i 0) &&& (rdn (w 53) gx i 2))) ^^^ ((rdn (w 53) gx i 1) &&& (rdn (w 53) gx i 2))))), (11, .int (((((rdn (w 53) gx i 7) + (((us (rdn (w 53) gx i 4) 6 ||| ls (rdn (w 53) gx i 4) 26) ^^^ (us (rdn (w 53) gx i 4) 11 ||| ls (rdn (w 53) gx i 4) 21)) ^^^ (us (rdn (w 53) gx i 4) 25 ||| ls (rdn (w 53) gx i 4) 7))) + (((rdn (w 53) gx i 4) &&& (rdn (w 53) gx i 5)) ^^^ (((rdn (w 53) gx i 4) ^^^ (-1 : Int32)) &&& (rdn (w 53) gx i 6)))) + (jROUND.getD i 0)) + (gx i))), (10, .int (nI i)), (2, .int (rdn (w 53) gx i 0)), (3, .int (rdn (w 53) gx i 1)), (4, .int (rdn (w 53) gx i 2)), (5, .int (rdn (w 53) gx i 3)), (6, .int (rdn (w 53) gx i 4)), (7, .int (rdn (w 53) gx i 5)), (0, .ref o), (1, .int (nI fr))]) hE dX12_block_335 (by decide) rfl ?_
        refine jr_iload hE dX12_block_337 9 rfl ?_
        refine jr_istore (lv' := [(7, .int (rdn (w 53) gx i 4)), (8, .int (rdn (w 53) gx i 5)), (9, .int (rdn (w 53) gx i 6)), (12, .int ((((us (rdn (w 53) gx i 0) 2 ||| ls (rdn (w 53) gx i 0) 30) ^^^ (us (rdn (w 53) gx i 0) 13 ||| ls (rdn (w 53) gx i 0) 19)) ^^^ (us (rdn (w 53) gx i 0) 22 ||| ls (rdn (w 53) gx i 0) 10)) + ((((rdn (w 53) gx i 0) &&& (rdn (w 53) gx i 1)) ^^^ ((rdn (w 53) gx i 0) &&& (rdn (w 53) gx i 2))) ^^^ ((rdn (w 53) gx i 1) &&& (rdn (w 53) gx i 2))))), (11, .int (((((rdn (w 53) gx i 7) + (((us (rdn (w 53) gx i 4) 6 ||| ls (rdn (w 53) gx i 4) 26) ^^^ (us (rdn (w 53) gx i 4) 11 ||| ls (rdn (w 53) gx i 4) 21)) ^^^ (us (rdn (w 53) gx i 4) 25 ||| ls (rdn (w 53) gx i 4) 7))) + (((rdn (w 53) gx i 4) &&& (rdn (w 53) gx i 5)) ^^^ (((rdn (w 53) gx i 4) ^^^ (-1 : Int32)) &&& (rdn (w 53) gx i 6)))) + (jROUND.getD i 0)) + (gx i))), (10, .int (nI i)), (2, .int (rdn (w 53) gx i 0)), (3, .int (rdn (w 53) gx i 1)), (4, .int (rdn (w 53) gx i 2)), (5, .int (rdn (w 53) gx i 3)), (6, .int (rdn (w 53) gx i 4)), (0, .ref o), (1, .int (nI fr))]) hE dX12_block_339 (by decide) rfl ?_
        refine jr_iload hE dX12_block_341 9 rfl ?_
        refine jr_iload hE dX12_block_343 4 rfl ?_
        refine jr_iadd hE dX12_block_345 rfl ?_
        refine jr_istore (lv' := [(6, .int ((rdn (w 53) gx i 3) + (((((rdn (w 53) gx i 7) + (((us (rdn (w 53) gx i 4) 6 ||| ls (rdn (w 53) gx i 4) 26) ^^^ (us (rdn (w 53) gx i 4) 11 ||| ls (rdn (w 53) gx i 4) 21)) ^^^ (us (rdn (w 53) gx i 4) 25 ||| ls (rdn (w 53) gx i 4) 7))) + (((rdn (w 53) gx i 4) &&& (rdn (w 53) gx i 5)) ^^^ (((rdn (w 53) gx i 4) ^^^ (-1 : Int32)) &&& (rdn (w 53) gx i 6)))) + (jROUND.getD i 0)) + (gx i)))), (7, .int (rdn (w 53) gx i 4)), (8, .int (rdn (w 53) gx i 5)), (9, .int (rdn (w 53) gx i 6)), (12, .int ((((us (rdn (w 53) gx i 0) 2 ||| ls (rdn (w 53) gx i 0) 30) ^^^ (us (rdn (w 53) gx i 0) 13 ||| ls (rdn (w 53) gx i 0) 19)) ^^^ (us (rdn (w 53) gx i 0) 22 ||| ls (rdn (w 53) gx i 0) 10)) + ((((rdn (w 53) gx i 0) &&& (rdn (w 53) gx i 1)) ^^^ ((rdn (w 53) gx i 0) &&& (rdn (w 53) gx i 2))) ^^^ ((rdn (w 53) gx i 1) &&& (rdn (w 53) gx i 2))))), (11, .int (((((rdn (w 53) gx i 7) + (((us (rdn (w 53) gx i 4) 6 ||| ls (rdn (w 53) gx i 4) 26) ^^^ (us (rdn (w 53) gx i 4) 11 ||| ls (rdn (w 53) gx i 4) 21)) ^^^ (us (rdn (w 53) gx i 4) 25 ||| ls (rdn (w 53) gx i 4) 7))) + (((rdn (w 53) gx i 4) &&& (rdn (w 53) gx i 5)) ^^^ (((rdn (w 53) gx i 4) ^^^ (-1 : Int32)) &&& (rdn (w 53) gx i 6)))) + (jROUND.getD i 0)) + (gx i))), (10, .int (nI i)), (2, .int (rdn (w 53) gx i 0)), (3, .int (rdn (w 53) gx i 1)), (4, .int (rdn (w 53) gx i 2)), (5, .int (rdn (w 53) gx i 3)), (0, .ref o), (1, .int (nI fr))]) hE dX12_block_346 (by decide) rfl ?_
        refine jr_iload hE dX12_block_348 9 rfl ?_
        refine jr_istore (lv' := [(5, .int (rdn (w 53) gx i 2)), (6, .int ((rdn (w 53) gx i 3) + (((((rdn (w 53) gx i 7) + (((us (rdn (w 53) gx i 4) 6 ||| ls (rdn (w 53) gx i 4) 26) ^^^ (us (rdn (w 53) gx i 4) 11 ||| ls (rdn (w 53) gx i 4) 21)) ^^^ (us (rdn (w 53) gx i 4) 25 ||| ls (rdn (w 53) gx i 4) 7))) + (((rdn (w 53) gx i 4) &&& (rdn (w 53) gx i 5)) ^^^ (((rdn (w 53) gx i 4) ^^^ (-1 : Int32)) &&& (rdn (w 53) gx i 6)))) + (jROUND.getD i 0)) + (gx i)))), (7, .int (rdn (w 53) gx i 4)), (8, .int (rdn (w 53) gx i 5)), (9, .int (rdn (w 53) gx i 6)), (12, .int ((((us (rdn (w 53) gx i 0) 2 ||| ls (rdn (w 53) gx i 0) 30) ^^^ (us (rdn (w 53) gx i 0) 13 ||| ls (rdn (w 53) gx i 0) 19)) ^^^ (us (rdn (w 53) gx i 0) 22 ||| ls (rdn (w 53) gx i 0) 10)) + ((((rdn (w 53) gx i 0) &&& (rdn (w 53) gx i 1)) ^^^ ((rdn (w 53) gx i 0) &&& (rdn (w 53) gx i 2))) ^^^ ((rdn (w 53) gx i 1) &&& (rdn (w 53) gx i 2))))), (11, .int (((((rdn (w 53) gx i 7) + (((us (rdn (w 53) gx i 4) 6 ||| ls (rdn (w 53) gx i 4) 26) ^^^ (us (rdn (w 53) gx i 4) 11 ||| ls (rdn (w 53) gx i 4) 21)) ^^^ (us (rdn (w 53) gx i 4) 25 ||| ls (rdn (w 53) gx i 4) 7))) + (((rdn (w 53) gx i 4) &&& (rdn (w 53) gx i 5)) ^^^ (((rdn (w 53) gx i 4) ^^^ (-1 : Int32)) &&& (rdn (w 53) gx i 6)))) + (jROUND.getD i 0)) + (gx i))), (10, .int (nI i)), (2, .int (rdn (w 53) gx i 0)), (3, .int (rdn (w 53) gx i 1)), (4, .int (rdn (w 53) gx i 2)), (0, .ref o), (1, .int (nI fr))]) hE dX12_block_350 (by decide) rfl ?_
        refine jr_iload_n hE dX12_block_352 9 rfl ?_
        refine jr_istore (lv' := [(4, .int (rdn (w 53) gx i 1)), (5, .int (rdn (w 53) gx i 2)), (6, .int ((rdn (w 53) gx i 3) + (((((rdn (w 53) gx i 7) + (((us (rdn (w 53) gx i 4) 6 ||| ls (rdn (w 53) gx i 4) 26) ^^^ (us (rdn (w 53) gx i 4) 11 ||| ls (rdn (w 53) gx i 4) 21)) ^^^ (us (rdn (w 53) gx i 4) 25 ||| ls (rdn (w 53) gx i 4) 7))) + (((rdn (w 53) gx i 4) &&& (rdn (w 53) gx i 5)) ^^^ (((rdn (w 53) gx i 4) ^^^ (-1 : Int32)) &&& (rdn (w 53) gx i 6)))) + (jROUND.getD i 0)) + (gx i)))), (7, .int (rdn (w 53) gx i 4)), (8, .int (rdn (w 53) gx i 5)), (9, .int (rdn (w 53) gx i 6)), (12, .int ((((us (rdn (w 53) gx i 0) 2 ||| ls (rdn (w 53) gx i 0) 30) ^^^ (us (rdn (w 53) gx i 0) 13 ||| ls (rdn (w 53) gx i 0) 19)) ^^^ (us (rdn (w 53) gx i 0) 22 ||| ls (rdn (w 53) gx i 0) 10)) + ((((rdn (w 53) gx i 0) &&& (rdn (w 53) gx i 1)) ^^^ ((rdn (w 53) gx i 0) &&& (rdn (w 53) gx i 2))) ^^^ ((rdn (w 53) gx i 1) &&& (rdn (w 53) gx i 2))))), (11, .int (((((rdn (w 53) gx i 7) + (((us (rdn (w 53) gx i 4) 6 ||| ls (rdn (w 53) gx i 4) 26) ^^^ (us (rdn (w 53) gx i 4) 11 ||| ls (rdn (w 53) gx i 4) 21)) ^^^ (us (rdn (w 53) gx i 4) 25 ||| ls (rdn (w 53) gx i 4) 7))) + (((rdn (w 53) gx i 4) &&& (rdn (w 53) gx i 5)) ^^^ (((rdn (w 53) gx i 4) ^^^ (-1 : Int32)) &&& (rdn (w 53) gx i 6)))) + (jROUND.getD i 0)) + (gx i))), (10, .int (nI i)), (2, .int (rdn (w 53) gx i 0)), (3, .int (rdn (w 53) gx i 1)), (0, .ref o), (1, .int (nI fr))]) hE dX12_block_353 (by decide) rfl ?_
        refine jr_iload_n hE dX12_block_355 9 rfl ?_
        refine jr_istore_n (lv' := [(3, .int (rdn (w 53) gx i 0)), (4, .int (rdn (w 53) gx i 1)), (5, .int (rdn (w 53) gx i 2)), (6, .int ((rdn (w 53) gx i 3) + (((((rdn (w 53) gx i 7) + (((us (rdn (w 53) gx i 4) 6 ||| ls (rdn (w 53) gx i 4) 26) ^^^ (us (rdn (w 53) gx i 4) 11 ||| ls (rdn (w 53) gx i 4) 21)) ^^^ (us (rdn (w 53) gx i 4) 25 ||| ls (rdn (w 53) gx i 4) 7))) + (((rdn (w 53) gx i 4) &&& (rdn (w 53) gx i 5)) ^^^ (((rdn (w 53) gx i 4) ^^^ (-1 : Int32)) &&& (rdn (w 53) gx i 6)))) + (jROUND.getD i 0)) + (gx i)))), (7, .int (rdn (w 53) gx i 4)), (8, .int (rdn (w 53) gx i 5)), (9, .int (rdn (w 53) gx i 6)), (12, .int ((((us (rdn (w 53) gx i 0) 2 ||| ls (rdn (w 53) gx i 0) 30) ^^^ (us (rdn (w 53) gx i 0) 13 ||| ls (rdn (w 53) gx i 0) 19)) ^^^ (us (rdn (w 53) gx i 0) 22 ||| ls (rdn (w 53) gx i 0) 10)) + ((((rdn (w 53) gx i 0) &&& (rdn (w 53) gx i 1)) ^^^ ((rdn (w 53) gx i 0) &&& (rdn (w 53) gx i 2))) ^^^ ((rdn (w 53) gx i 1) &&& (rdn (w 53) gx i 2))))), (11, .int (((((rdn (w 53) gx i 7) + (((us (rdn (w 53) gx i 4) 6 ||| ls (rdn (w 53) gx i 4) 26) ^^^ (us (rdn (w 53) gx i 4) 11 ||| ls (rdn (w 53) gx i 4) 21)) ^^^ (us (rdn (w 53) gx i 4) 25 ||| ls (rdn (w 53) gx i 4) 7))) + (((rdn (w 53) gx i 4) &&& (rdn (w 53) gx i 5)) ^^^ (((rdn (w 53) gx i 4) ^^^ (-1 : Int32)) &&& (rdn (w 53) gx i 6)))) + (jROUND.getD i 0)) + (gx i))), (10, .int (nI i)), (2, .int (rdn (w 53) gx i 0)), (0, .ref o), (1, .int (nI fr))]) hE dX12_block_356 (by decide) rfl ?_
        refine jr_iload hE dX12_block_357 8 rfl ?_
        refine jr_iload hE dX12_block_359 7 rfl ?_
        refine jr_iadd hE dX12_block_361 rfl ?_
        refine jr_istore_n (lv' := [(2, .int ((((((rdn (w 53) gx i 7) + (((us (rdn (w 53) gx i 4) 6 ||| ls (rdn (w 53) gx i 4) 26) ^^^ (us (rdn (w 53) gx i 4) 11 ||| ls (rdn (w 53) gx i 4) 21)) ^^^ (us (rdn (w 53) gx i 4) 25 ||| ls (rdn (w 53) gx i 4) 7))) + (((rdn (w 53) gx i 4) &&& (rdn (w 53) gx i 5)) ^^^ (((rdn (w 53) gx i 4) ^^^ (-1 : Int32)) &&& (rdn (w 53) gx i 6)))) + (jROUND.getD i 0)) + (gx i)) + ((((us (rdn (w 53) gx i 0) 2 ||| ls (rdn (w 53) gx i 0) 30) ^^^ (us (rdn (w 53) gx i 0) 13 ||| ls (rdn (w 53) gx i 0) 19)) ^^^ (us (rdn (w 53) gx i 0) 22 ||| ls (rdn (w 53) gx i 0) 10)) + ((((rdn (w 53) gx i 0) &&& (rdn (w 53) gx i 1)) ^^^ ((rdn (w 53) gx i 0) &&& (rdn (w 53) gx i 2))) ^^^ ((rdn (w 53) gx i 1) &&& (rdn (w 53) gx i 2)))))), (3, .int (rdn (w 53) gx i 0)), (4, .int (rdn (w 53) gx i 1)), (5, .int (rdn (w 53) gx i 2)), (6, .int ((rdn (w 53) gx i 3) + (((((rdn (w 53) gx i 7) + (((us (rdn (w 53) gx i 4) 6 ||| ls (rdn (w 53) gx i 4) 26) ^^^ (us (rdn (w 53) gx i 4) 11 ||| ls (rdn (w 53) gx i 4) 21)) ^^^ (us (rdn (w 53) gx i 4) 25 ||| ls (rdn (w 53) gx i 4) 7))) + (((rdn (w 53) gx i 4) &&& (rdn (w 53) gx i 5)) ^^^ (((rdn (w 53) gx i 4) ^^^ (-1 : Int32)) &&& (rdn (w 53) gx i 6)))) + (jROUND.getD i 0)) + (gx i)))), (7, .int (rdn (w 53) gx i 4)), (8, .int (rdn (w 53) gx i 5)), (9, .int (rdn (w 53) gx i 6)), (12, .int ((((us (rdn (w 53) gx i 0) 2 ||| ls (rdn (w 53) gx i 0) 30) ^^^ (us (rdn (w 53) gx i 0) 13 ||| ls (rdn (w 53) gx i 0) 19)) ^^^ (us (rdn (w 53) gx i 0) 22 ||| ls (rdn (w 53) gx i 0) 10)) + ((((rdn (w 53) gx i 0) &&& (rdn (w 53) gx i 1)) ^^^ ((rdn (w 53) gx i 0) &&& (rdn (w 53) gx i 2))) ^^^ ((rdn (w 53) gx i 1) &&& (rdn (w 53) gx i 2))))), (11, .int (((((rdn (w 53) gx i 7) + (((us (rdn (w 53) gx i 4) 6 ||| ls (rdn (w 53) gx i 4) 26) ^^^ (us (rdn (w 53) gx i 4) 11 ||| ls (rdn (w 53) gx i 4) 21)) ^^^ (us (rdn (w 53) gx i 4) 25 ||| ls (rdn (w 53) gx i 4) 7))) + (((rdn (w 53) gx i 4) &&& (rdn (w 53) gx i 5)) ^^^ (((rdn (w 53) gx i 4) ^^^ (-1 : Int32)) &&& (rdn (w 53) gx i 6)))) + (jROUND.getD i 0)) + (gx i))), (10, .int (nI i)), (0, .ref o), (1, .int (nI fr))]) hE dX12_block_362 (by decide) rfl ?_
        refine jr_iinc (v := nI (i + 1)) (lv' := [(10, .int (nI (i + 1))), (2, .int ((((((rdn (w 53) gx i 7) + (((us (rdn (w 53) gx i 4) 6 ||| ls (rdn (w 53) gx i 4) 26) ^^^ (us (rdn (w 53) gx i 4) 11 ||| ls (rdn (w 53) gx i 4) 21)) ^^^ (us (rdn (w 53) gx i 4) 25 ||| ls (rdn (w 53) gx i 4) 7))) + (((rdn (w 53) gx i 4) &&& (rdn (w 53) gx i 5)) ^^^ (((rdn (w 53) gx i 4) ^^^ (-1 : Int32)) &&& (rdn (w 53) gx i 6)))) + (jROUND.getD i 0)) + (gx i)) + ((((us (rdn (w 53) gx i 0) 2 ||| ls (rdn (w 53) gx i 0) 30) ^^^ (us (rdn (w 53) gx i 0) 13 ||| ls (rdn (w 53) gx i 0) 19)) ^^^ (us (rdn (w 53) gx i 0) 22 ||| ls (rdn (w 53) gx i 0) 10)) + ((((rdn (w 53) gx i 0) &&& (rdn (w 53) gx i 1)) ^^^ ((rdn (w 53) gx i 0) &&& (rdn (w 53) gx i 2))) ^^^ ((rdn (w 53) gx i 1) &&& (rdn (w 53) gx i 2)))))), (3, .int (rdn (w 53) gx i 0)), (4, .int (rdn (w 53) gx i 1)), (5, .int (rdn (w 53) gx i 2)), (6, .int ((rdn (w 53) gx i 3) + (((((rdn (w 53) gx i 7) + (((us (rdn (w 53) gx i 4) 6 ||| ls (rdn (w 53) gx i 4) 26) ^^^ (us (rdn (w 53) gx i 4) 11 ||| ls (rdn (w 53) gx i 4) 21)) ^^^ (us (rdn (w 53) gx i 4) 25 ||| ls (rdn (w 53) gx i 4) 7))) + (((rdn (w 53) gx i 4) &&& (rdn (w 53) gx i 5)) ^^^ (((rdn (w 53) gx i 4) ^^^ (-1 : Int32)) &&& (rdn (w 53) gx i 6)))) + (jROUND.getD i 0)) + (gx i)))), (7, .int (rdn (w 53) gx i 4)), (8, .int (rdn (w 53) gx i 5)), (9, .int (rdn (w 53) gx i 6)), (12, .int ((((us (rdn (w 53) gx i 0) 2 ||| ls (rdn (w 53) gx i 0) 30) ^^^ (us (rdn (w 53) gx i 0) 13 ||| ls (rdn (w 53) gx i 0) 19)) ^^^ (us (rdn (w 53) gx i 0) 22 ||| ls (rdn (w 53) gx i 0) 10)) + ((((rdn (w 53) gx i 0) &&& (rdn (w 53) gx i 1)) ^^^ ((rdn (w 53) gx i 0) &&& (rdn (w 53) gx i 2))) ^^^ ((rdn (w 53) gx i 1) &&& (rdn (w 53) gx i 2))))), (11, .int (((((rdn (w 53) gx i 7) + (((us (rdn (w 53) gx i 4) 6 ||| ls (rdn (w 53) gx i 4) 26) ^^^ (us (rdn (w 53) gx i 4) 11 ||| ls (rdn (w 53) gx i 4) 21)) ^^^ (us (rdn (w 53) gx i 4) 25 ||| ls (rdn (w 53) gx i 4) 7))) + (((rdn (w 53) gx i 4) &&& (rdn (w 53) gx i 5)) ^^^ (((rdn (w 53) gx i 4) ^^^ (-1 : Int32)) &&& (rdn (w 53) gx i 6)))) + (jROUND.getD i 0)) + (gx i))), (0, .ref o), (1, .int (nI fr))]) hE dX12_block_363 10 rfl (nI_1 _) (by decide) rfl ?_
        refine jr_goto (tgt := 229) hE dX12_block_366 (by decide) ?_
        refine jr_lv (lv' := [(10, .int (nI (i + 1))), (2, .int ((((((rdn (w 53) gx i 7) + (((us (rdn (w 53) gx i 4) 6 ||| ls (rdn (w 53) gx i 4) 26) ^^^ (us (rdn (w 53) gx i 4) 11 ||| ls (rdn (w 53) gx i 4) 21)) ^^^ (us (rdn (w 53) gx i 4) 25 ||| ls (rdn (w 53) gx i 4) 7))) + (((rdn (w 53) gx i 4) &&& (rdn (w 53) gx i 5)) ^^^ (((rdn (w 53) gx i 4) ^^^ (-1 : Int32)) &&& (rdn (w 53) gx i 6)))) + (jROUND.getD i 0)) + (gx i)) + ((((us (rdn (w 53) gx i 0) 2 ||| ls (rdn (w 53) gx i 0) 30) ^^^ (us (rdn (w 53) gx i 0) 13 ||| ls (rdn (w 53) gx i 0) 19)) ^^^ (us (rdn (w 53) gx i 0) 22 ||| ls (rdn (w 53) gx i 0) 10)) + ((((rdn (w 53) gx i 0) &&& (rdn (w 53) gx i 1)) ^^^ ((rdn (w 53) gx i 0) &&& (rdn (w 53) gx i 2))) ^^^ ((rdn (w 53) gx i 1) &&& (rdn (w 53) gx i 2)))))), (3, .int (rdn (w 53) gx i 0)), (4, .int (rdn (w 53) gx i 1)), (5, .int (rdn (w 53) gx i 2)), (6, .int ((rdn (w 53) gx i 3) + (((((rdn (w 53) gx i 7) + (((us (rdn (w 53) gx i 4) 6 ||| ls (rdn (w 53) gx i 4) 26) ^^^ (us (rdn (w 53) gx i 4) 11 ||| ls (rdn (w 53) gx i 4) 21)) ^^^ (us (rdn (w 53) gx i 4) 25 ||| ls (rdn (w 53) gx i 4) 7))) + (((rdn (w 53) gx i 4) &&& (rdn (w 53) gx i 5)) ^^^ (((rdn (w 53) gx i 4) ^^^ (-1 : Int32)) &&& (rdn (w 53) gx i 6)))) + (jROUND.getD i 0)) + (gx i)))), (7, .int (rdn (w 53) gx i 4)), (8, .int (rdn (w 53) gx i 5)), (9, .int (rdn (w 53) gx i 6)), (0, .ref o), (1, .int (nI fr))]) [0, 1, 2, 3, 4, 5, 6, 7, 8, 11, 12] rfl ?_
        exact ih2 (i + 1) F3 (by omega) H3 O3 hgx
    induction r0 with
    | zero =>
      intro n1 F3 hn1 H3 O3
      refine jr_iload_n hE dX12_block_2 0 rfl ?_
      refine jr_bipush (v := (64 : Int32)) hE dX12_block_3 (by decide) ?_
      refine jr_icmp_ge (tgt := 162) hE dX12_block_5 (by decide) (fun c_5 => ?_) (fun c_5 => absurd (nI_le (a := 64) (by omega) (by omega)) c_5)
      refine jr_aload_n hE dX12_block_162 1 rfl ?_
      refine jr_get hE dX12_block_163 f281 H3.ob rfl ?_
      refine jr_iconst (v := (0 : Int32)) hE dX12_block_166 (by decide) ?_
      refine jr_iald (v := w 53 0) hE dX12_block_167 (H3.I (k := 53) (N := 8) (by decide)) (vp_in_nI (n := 0) (by decide) (by decide)) rfl ?_
      refine jr_istore_n (lv' := [(2, .int (w 53 0)), (0, .ref o), (1, .int (nI fr))]) hE dX12_block_168 (by decide) rfl ?_
      refine jr_aload_n hE dX12_block_169 1 rfl ?_
      refine jr_get hE dX12_block_170 f281 H3.ob rfl ?_
      refine jr_iconst (v := (1 : Int32)) hE dX12_block_173 (by decide) ?_
      refine jr_iald (v := w 53 1) hE dX12_block_174 (H3.I (k := 53) (N := 8) (by decide)) (vp_in_nI (n := 1) (by decide) (by decide)) rfl ?_
      refine jr_istore_n (lv' := [(3, .int (w 53 1)), (2, .int (w 53 0)), (0, .ref o), (1, .int (nI fr))]) hE dX12_block_175 (by decide) rfl ?_
      refine jr_aload_n hE dX12_block_176 2 rfl ?_
      refine jr_get hE dX12_block_177 f281 H3.ob rfl ?_
      refine jr_iconst (v := (2 : Int32)) hE dX12_block_180 (by decide) ?_
      refine jr_iald (v := w 53 2) hE dX12_block_181 (H3.I (k := 53) (N := 8) (by decide)) (vp_in_nI (n := 2) (by decide) (by decide)) rfl ?_
      refine jr_istore (lv' := [(4, .int (w 53 2)), (3, .int (w 53 1)), (2, .int (w 53 0)), (0, .ref o), (1, .int (nI fr))]) hE dX12_block_182 (by decide) rfl ?_
      refine jr_aload_n hE dX12_block_184 3 rfl ?_
      refine jr_get hE dX12_block_185 f281 H3.ob rfl ?_
      refine jr_iconst (v := (3 : Int32)) hE dX12_block_188 (by decide) ?_
      refine jr_iald (v := w 53 3) hE dX12_block_189 (H3.I (k := 53) (N := 8) (by decide)) (vp_in_nI (n := 3) (by decide) (by decide)) rfl ?_
      refine jr_istore (lv' := [(5, .int (w 53 3)), (4, .int (w 53 2)), (3, .int (w 53 1)), (2, .int (w 53 0)), (0, .ref o), (1, .int (nI fr))]) hE dX12_block_190 (by decide) rfl ?_
      refine jr_aload_n hE dX12_block_192 4 rfl ?_
      refine jr_get hE dX12_block_193 f281 H3.ob rfl ?_
      refine jr_iconst (v := (4 : Int32)) hE dX12_block_196 (by decide) ?_
      refine jr_iald (v := w 53 4) hE dX12_block_197 (H3.I (k := 53) (N := 8) (by decide)) (vp_in_nI (n := 4) (by decide) (by decide)) rfl ?_
      refine jr_istore (lv' := [(6, .int (w 53 4)), (5, .int (w 53 3)), (4, .int (w 53 2)), (3, .int (w 53 1)), (2, .int (w 53 0)), (0, .ref o), (1, .int (nI fr))]) hE dX12_block_198 (by decide) rfl ?_
      refine jr_aload_n hE dX12_block_200 5 rfl ?_
      refine jr_get hE dX12_block_201 f281 H3.ob rfl ?_
      refine jr_iconst (v := (5 : Int32)) hE dX12_block_204 (by decide) ?_
      refine jr_iald (v := w 53 5) hE dX12_block_205 (H3.I (k := 53) (N := 8) (by decide)) (vp_in_nI (n := 5) (by decide) (by decide)) rfl ?_
      refine jr_istore (lv' := [(7, .int (w 53 5)), (6, .int (w 53 4)), (5, .int (w 53 3)), (4, .int (w 53 2)), (3, .int (w 53 1)), (2, .int (w 53 0)), (0, .ref o), (1, .int (nI fr))]) hE dX12_block_206 (by decide) rfl ?_
      refine jr_aload_n hE dX12_block_208 6 rfl ?_
      refine jr_get hE dX12_block_209 f281 H3.ob rfl ?_
      refine jr_bipush (v := (6 : Int32)) hE dX12_block_212 (by decide) ?_
      refine jr_iald (v := w 53 6) hE dX12_block_214 (H3.I (k := 53) (N := 8) (by decide)) (vp_in_nI (n := 6) (by decide) (by decide)) rfl ?_
      refine jr_istore (lv' := [(8, .int (w 53 6)), (7, .int (w 53 5)), (6, .int (w 53 4)), (5, .int (w 53 3)), (4, .int (w 53 2)), (3, .int (w 53 1)), (2, .int (w 53 0)), (0, .ref o), (1, .int (nI fr))]) hE dX12_block_215 (by decide) rfl ?_
      refine jr_aload_n hE dX12_block_217 7 rfl ?_
      refine jr_get hE dX12_block_218 f281 H3.ob rfl ?_
      refine jr_bipush (v := (7 : Int32)) hE dX12_block_221 (by decide) ?_
      refine jr_iald (v := w 53 7) hE dX12_block_223 (H3.I (k := 53) (N := 8) (by decide)) (vp_in_nI (n := 7) (by decide) (by decide)) rfl ?_
      refine jr_istore (lv' := [(9, .int (w 53 7)), (8, .int (w 53 6)), (7, .int (w 53 5)), (6, .int (w 53 4)), (5, .int (w 53 3)), (4, .int (w 53 2)), (3, .int (w 53 1)), (2, .int (w 53 0)), (0, .ref o), (1, .int (nI fr))]) hE dX12_block_224 (by decide) rfl ?_
      refine jr_iconst (v := (0 : Int32)) hE dX12_block_226 (by decide) ?_
      refine jr_istore (lv' := [(10, .int (0 : Int32)), (9, .int (w 53 7)), (8, .int (w 53 6)), (7, .int (w 53 5)), (6, .int (w 53 4)), (5, .int (w 53 3)), (4, .int (w 53 2)), (3, .int (w 53 1)), (2, .int (w 53 0)), (0, .ref o), (1, .int (nI fr))]) hE dX12_block_227 (by decide) rfl ?_
      have hn48 : n1 = 48 := by omega
      subst hn48
      refine jr_lv (lv' := [(10, .int (0 : Int32)), (2, .int (w 53 0)), (3, .int (w 53 1)), (4, .int (w 53 2)), (5, .int (w 53 3)), (6, .int (w 53 4)), (7, .int (w 53 5)), (8, .int (w 53 6)), (9, .int (w 53 7)), (0, .ref o), (1, .int (nI fr))]) [0, 8, 7, 6, 5, 4, 3, 2, 1, 9, 10] rfl ?_
      exact loop2 (wxt g0 48) 64 0 F3 rfl H3 O3 rfl
    | succ r0 ihB =>
      intro n1 F3 hn1 H3 O3
      refine jr_iload_n hE dX12_block_2 0 rfl ?_
      refine jr_bipush (v := (64 : Int32)) hE dX12_block_3 (by decide) ?_
      refine jr_icmp_ge (tgt := 162) hE dX12_block_5 (by decide) (fun c_5 => absurd c_5 (nI_ge (b := 64) (by omega) (by decide))) (fun c_5 => ?_)
      refine jr_iload_n hE dX12_block_8 0 rfl ?_
      refine jr_bipush (v := (16 : Int32)) hE dX12_block_9 (by decide) ?_
      refine jr_icmp_ge (tgt := 71) hE dX12_block_11 (by decide) (fun c_11 => ?_) (fun c_11 => absurd (nI_le (a := 16) (by omega) (by omega)) c_11)
      refine jr_aload_n hE dX12_block_71 1 rfl ?_
      refine jr_get hE dX12_block_72 f284 H3.ob rfl ?_
      refine jr_iload_n hE dX12_block_75 0 rfl ?_
      refine jr_bipush (v := (15 : Int32)) hE dX12_block_76 (by decide) ?_
      refine jr_isub (z := nI (n1 + 1)) hE dX12_block_78 ((pk_sub (a := 16 + n1) (b := 15) (by omega)).trans (by congr 1; omega)) ?_
      refine jr_iald (v := wxt g0 n1 (n1 + 1)) hE dX12_block_79 (H3.I (k := 54) (N := 64) (by decide)) (vp_in_nI (by omega) (by decide)) (by rw [nI_clamp (by omega)]; rfl) ?_
      refine jr_istore_n (lv' := [(3, .int (wxt g0 n1 (n1 + 1))), (2, .int (nI (16 + n1))), (0, .ref o), (1, .int (nI fr))]) hE dX12_block_80 (by decide) rfl ?_
      refine jr_aload_n hE dX12_block_81 2 rfl ?_
      refine jr_get hE dX12_block_82 f284 H3.ob rfl ?_
      refine jr_iload_n hE dX12_block_85 1 rfl ?_
      refine jr_iconst (v := (2 : Int32)) hE dX12_block_86 (by decide) ?_
      refine jr_isub (z := nI (n1 + 14)) hE dX12_block_87 ((pk_sub (a := 16 + n1) (b := 2) (by omega)).trans (by congr 1; omega)) ?_
      refine jr_iald (v := wxt g0 n1 (n1 + 14)) hE dX12_block_88 (H3.I (k := 54) (N := 64) (by decide)) (vp_in_nI (by omega) (by decide)) (by rw [nI_clamp (by omega)]; rfl) ?_
      refine jr_istore (lv' := [(4, .int (wxt g0 n1 (n1 + 14))), (3, .int (wxt g0 n1 (n1 + 1))), (2, .int (nI (16 + n1))), (0, .ref o), (1, .int (nI fr))]) hE dX12_block_89 (by decide) rfl ?_
      refine jr_aload_n hE dX12_block_91 3 rfl ?_
      refine jr_get hE dX12_block_92 f284 H3.ob rfl ?_
      refine jr_iload_n hE dX12_block_95 2 rfl ?_
      refine jr_aload_n hE dX12_block_96 3 rfl ?_
      refine jr_get hE dX12_block_97 f284 H3.ob rfl ?_
      refine jr_iload_n hE dX12_block_100 2 rfl ?_
      refine jr_bipush (v := (16 : Int32)) hE dX12_block_101 (by decide) ?_
      refine jr_isub (z := nI (n1)) hE dX12_block_103 ((pk_sub (a := 16 + n1) (b := 16) (by omega)).trans (by congr 1; omega)) ?_
      refine jr_iald (v := wxt g0 n1 (n1)) hE dX12_block_104 (H3.I (k := 54) (N := 64) (by decide)) (vp_in_nI (by omega) (by decide)) (by rw [nI_clamp (by omega)]; rfl) ?_
      refine jr_iload_n hE dX12_block_105 1 rfl ?_
      refine jr_bipush (v := (7 : Int32)) hE dX12_block_106 (by decide) ?_
      refine jr_kSi (n := 2) (As := [.int (wxt g0 n1 (n1 + 1)), .int (7 : Int32)]) (rest := [.int (wxt g0 n1 (n1)), .int (nI (16 + n1)), .ref (a 54)]) hE dX12_block_108 (fun l => c_m_turn l G (wxt g0 n1 (n1 + 1)) (7 : Int32) (25 : Int32)) gX12_block_X12_turn rfl (by decide +kernel) ⟨rfl, rfl, by decide, by decide⟩ (by decide) rfl rfl (Nat.le_of_ble_eq_true rfl) (by decide) (fun r3 F1 q2 => ?_)
      obtain ⟨eq2, rq2⟩ := q2
      subst eq2 rq2
      refine jr_iload_n hE dX12_block_111 1 rfl ?_
      refine jr_bipush (v := (18 : Int32)) hE dX12_block_112 (by decide) ?_
      refine jr_kSi (n := 2) (As := [.int (wxt g0 n1 (n1 + 1)), .int (18 : Int32)]) (rest := [.int (us (wxt g0 n1 (n1 + 1)) 7 ||| ls (wxt g0 n1 (n1 + 1)) 25), .int (wxt g0 n1 (n1)), .int (nI (16 + n1)), .ref (a 54)]) hE dX12_block_114 (fun l => c_m_turn l G (wxt g0 n1 (n1 + 1)) (18 : Int32) (14 : Int32)) gX12_block_X12_turn rfl (by decide +kernel) ⟨rfl, rfl, by decide, by decide⟩ (by decide) rfl rfl (Nat.le_of_ble_eq_true rfl) (by decide) (fun r6 F4 q5 => ?_)
      obtain ⟨eq5, rq5⟩ := q5
      subst eq5 rq5
      refine jr_ixor hE dX12_block_117 rfl ?_
      refine jr_iload_n hE dX12_block_118 1 rfl ?_
      refine jr_iconst (v := (3 : Int32)) hE dX12_block_119 (by decide) ?_
      refine jr_iushr (z := us (wxt g0 n1 (n1 + 1)) (3 : Int32)) hE dX12_block_120 rfl ?_
      refine jr_ixor hE dX12_block_121 rfl ?_
      refine jr_iadd hE dX12_block_122 rfl ?_
      refine jr_aload_n hE dX12_block_123 3 rfl ?_
      refine jr_get hE dX12_block_124 f284 H3.ob rfl ?_
      refine jr_iload_n hE dX12_block_127 2 rfl ?_
      refine jr_bipush (v := (7 : Int32)) hE dX12_block_128 (by decide) ?_
      refine jr_isub (z := nI (n1 + 9)) hE dX12_block_130 ((pk_sub (a := 16 + n1) (b := 7) (by omega)).trans (by congr 1; omega)) ?_
      refine jr_iald (v := wxt g0 n1 (n1 + 9)) hE dX12_block_131 (H3.I (k := 54) (N := 64) (by decide)) (vp_in_nI (by omega) (by decide)) (by rw [nI_clamp (by omega)]; rfl) ?_
      refine jr_iadd hE dX12_block_132 rfl ?_
      refine jr_iload hE dX12_block_133 0 rfl ?_
      refine jr_bipush (v := (17 : Int32)) hE dX12_block_135 (by decide) ?_
      refine jr_kSi (n := 2) (As := [.int (wxt g0 n1 (n1 + 14)), .int (17 : Int32)]) (rest := [.int (((wxt g0 n1 (n1)) + (((us (wxt g0 n1 (n1 + 1)) 7 ||| ls (wxt g0 n1 (n1 + 1)) 25) ^^^ (us (wxt g0 n1 (n1 + 1)) 18 ||| ls (wxt g0 n1 (n1 + 1)) 14)) ^^^ (us (wxt g0 n1 (n1 + 1)) (3 : Int32)))) + (wxt g0 n1 (n1 + 9))), .int (nI (16 + n1)), .ref (a 54)]) hE dX12_block_137 (fun l => c_m_turn l G (wxt g0 n1 (n1 + 14)) (17 : Int32) (15 : Int32)) gX12_block_X12_turn rfl (by decide +kernel) ⟨rfl, rfl, by decide, by decide⟩ (by decide) rfl rfl (Nat.le_of_ble_eq_true rfl) (by decide) (fun r9 F7 q8 => ?_)
      obtain ⟨eq8, rq8⟩ := q8
      subst eq8 rq8
      refine jr_iload hE dX12_block_140 0 rfl ?_
      refine jr_bipush (v := (19 : Int32)) hE dX12_block_142 (by decide) ?_
      refine jr_kSi (n := 2) (As := [.int (wxt g0 n1 (n1 + 14)), .int (19 : Int32)]) (rest := [.int (us (wxt g0 n1 (n1 + 14)) 17 ||| ls (wxt g0 n1 (n1 + 14)) 15), .int (((wxt g0 n1 (n1)) + (((us (wxt g0 n1 (n1 + 1)) 7 ||| ls (wxt g0 n1 (n1 + 1)) 25) ^^^ (us (wxt g0 n1 (n1 + 1)) 18 ||| ls (wxt g0 n1 (n1 + 1)) 14)) ^^^ (us (wxt g0 n1 (n1 + 1)) (3 : Int32)))) + (wxt g0 n1 (n1 + 9))), .int (nI (16 + n1)), .ref (a 54)]) hE dX12_block_144 (fun l => c_m_turn l G (wxt g0 n1 (n1 + 14)) (19 : Int32) (13 : Int32)) gX12_block_X12_turn rfl (by decide +kernel) ⟨rfl, rfl, by decide, by decide⟩ (by decide) rfl rfl (Nat.le_of_ble_eq_true rfl) (by decide) (fun r12 F10 q11 => ?_)
      obtain ⟨eq11, rq11⟩ := q11
      subst eq11 rq11
      refine jr_ixor hE dX12_block_147 rfl ?_
      refine jr_iload hE dX12_block_148 0 rfl ?_
      refine jr_bipush (v := (10 : Int32)) hE dX12_block_150 (by decide) ?_
      refine jr_iushr (z := us (wxt g0 n1 (n1 + 14)) (10 : Int32)) hE dX12_block_152 rfl ?_
      refine jr_ixor hE dX12_block_153 rfl ?_
      refine jr_iadd hE dX12_block_154 rfl ?_
      refine jr_iast hE dX12_block_155 (H3.I (k := 54) (N := 64) (by decide)) (vp_in_nI (by omega) (by decide)) (fun F13 g14 u15 => ?_)
      have H16 := H3.setI (k := 54) (N := 64) (by decide) g14 u15
      have O17 := O3.st (k := 54) (by decide) (by decide) u15
      rw [uz_uz, uz_s, nI_clamp (by omega)] at H16
      refine jr_iinc (v := nI (16 + (n1 + 1))) (lv' := [(2, .int (nI (16 + (n1 + 1)))), (4, .int (wxt g0 n1 (n1 + 14))), (3, .int (wxt g0 n1 (n1 + 1))), (0, .ref o), (1, .int (nI fr))]) hE dX12_block_156 2 rfl (nI_1 _) (by decide) rfl ?_
      refine jr_goto (tgt := 2) hE dX12_block_159 (by decide) ?_
      refine jr_lv (lv' := [(2, .int (nI (16 + (n1 + 1)))), (0, .ref o), (1, .int (nI fr))]) [0, 3, 4] rfl ?_
      exact ihB (n1 + 1) F13 (by omega) H16 O17
  have loopA : ∀ (r0 i : Nat) (F2 : Nat → va_E) (gw : Nat → Int32), i + r0 = 16 → MW G L F2 o a v n g (uz w 54 gw) → (∀ j, j < i → gw j = (fun j => wdI (w 55) (fr + 4 * j)) j) → mO o a F F2 → J E L F2 0 0 2 [(2, .int (nI i)), (0, .ref o), (1, .int (nI fr))] [] := by
    intro r0
    induction r0 with
    | zero =>
      intro i F2 gw hi H hgw O
      have h16 : i = 16 := by omega
      subst h16
      exact loopB gw hgw 48 0 F2 rfl H O
    | succ r0 ih =>
      intro i F2 gw hi H hgw O
      refine jr_iload_n hE dX12_block_2 0 rfl ?_
      refine jr_bipush (v := (64 : Int32)) hE dX12_block_3 (by decide) ?_
      refine jr_icmp_ge (tgt := 162) hE dX12_block_5 (by decide) (fun c_5 => absurd c_5 (nI_ge (b := 64) (by omega) (by decide))) (fun c_5 => ?_)
      refine jr_iload_n hE dX12_block_8 0 rfl ?_
      refine jr_bipush (v := (16 : Int32)) hE dX12_block_9 (by decide) ?_
      refine jr_icmp_ge (tgt := 71) hE dX12_block_11 (by decide) (fun c_11 => absurd c_11 (nI_ge (b := 16) (by omega) (by decide))) (fun c_11 => ?_)
      refine jr_iload_n hE dX12_block_14 2 rfl ?_
      refine jr_iconst (v := (4 : Int32)) hE dX12_block_15 (by decide) ?_
      refine jr_iload_n hE dX12_block_16 0 rfl ?_
      refine jr_imul (z := nI (4 * i)) hE dX12_block_17 (pk_mul 4 i) ?_
      refine jr_iadd (z := nI (fr + 4 * i)) hE dX12_block_18 (nI_add _ _) ?_
      refine jr_istore_n (lv' := [(3, .int (nI (fr + 4 * i))), (2, .int (nI i)), (0, .ref o), (1, .int (nI fr))]) hE dX12_block_19 (by decide) rfl ?_
      refine jr_aload_n hE dX12_block_20 2 rfl ?_
      refine jr_get hE dX12_block_21 f284 H.ob rfl ?_
      refine jr_iload_n hE dX12_block_24 1 rfl ?_
      refine jr_aload_n hE dX12_block_25 2 rfl ?_
      refine jr_get hE dX12_block_26 f287 H.ob rfl ?_
      refine jr_iload_n hE dX12_block_29 0 rfl ?_
      refine jr_iald (v := nI (bt (w 55) (fr + 4 * i))) hE dX12_block_30 (H.I (k := 55) (N := 512) (by decide)) (vp_in_nI (by omega) (by decide)) (by rw [nI_clamp (by omega)]; exact bt_nI _ _) ?_
      refine jr_bipush (v := (24 : Int32)) hE dX12_block_31 (by decide) ?_
      refine jr_ishl (z := ls (nI (bt (w 55) (fr + 4 * i))) (24 : Int32)) hE dX12_block_33 rfl ?_
      refine jr_aload_n hE dX12_block_34 2 rfl ?_
      refine jr_get hE dX12_block_35 f287 H.ob rfl ?_
      refine jr_iload_n hE dX12_block_38 0 rfl ?_
      refine jr_iconst (v := (1 : Int32)) hE dX12_block_39 (by decide) ?_
      refine jr_iadd (z := nI (fr + 4 * i + 1)) hE dX12_block_40 (nI_add _ 1) ?_
      refine jr_iald (v := nI (bt (w 55) (fr + 4 * i + 1))) hE dX12_block_41 (H.I (k := 55) (N := 512) (by decide)) (vp_in_nI (by omega) (by decide)) (by rw [nI_clamp (by omega)]; exact bt_nI _ _) ?_
      refine jr_bipush (v := (16 : Int32)) hE dX12_block_42 (by decide) ?_
      refine jr_ishl (z := ls (nI (bt (w 55) (fr + 4 * i + 1))) (16 : Int32)) hE dX12_block_44 rfl ?_
      refine jr_ior hE dX12_block_45 rfl ?_
      refine jr_aload_n hE dX12_block_46 2 rfl ?_
      refine jr_get hE dX12_block_47 f287 H.ob rfl ?_
      refine jr_iload_n hE dX12_block_50 0 rfl ?_
      refine jr_iconst (v := (2 : Int32)) hE dX12_block_51 (by decide) ?_
      refine jr_iadd (z := nI (fr + 4 * i + 2)) hE dX12_block_52 (nI_add _ 2) ?_
      refine jr_iald (v := nI (bt (w 55) (fr + 4 * i + 2))) hE dX12_block_53 (H.I (k := 55) (N := 512) (by decide)) (vp_in_nI (by omega) (by decide)) (by rw [nI_clamp (by omega)]; exact bt_nI _ _) ?_
      refine jr_bipush (v := (8 : Int32)) hE dX12_block_54 (by decide) ?_
      refine jr_ishl (z := ls (nI (bt (w 55) (fr + 4 * i + 2))) (8 : Int32)) hE dX12_block_56 rfl ?_
      refine jr_ior hE dX12_block_57 rfl ?_
      refine jr_aload_n hE dX12_block_58 2 rfl ?_
      refine jr_get hE dX12_block_59 f287 H.ob rfl ?_
      refine jr_iload_n hE dX12_block_62 0 rfl ?_
      refine jr_iconst (v := (3 : Int32)) hE dX12_block_63 (by decide) ?_
      refine jr_iadd (z := nI (fr + 4 * i + 3)) hE dX12_block_64 (nI_add _ 3) ?_
      refine jr_iald (v := nI (bt (w 55) (fr + 4 * i + 3))) hE dX12_block_65 (H.I (k := 55) (N := 512) (by decide)) (vp_in_nI (by omega) (by decide)) (by rw [nI_clamp (by omega)]; exact bt_nI _ _) ?_
      refine jr_ior (z := wdI (w 55) (fr + 4 * i)) hE dX12_block_66 (wd4 (hB2 (4 * i) (by omega)) (hB2 (4 * i + 1) (by omega)) (hB2 (4 * i + 2) (by omega)) (hB2 (4 * i + 3) (by omega))) ?_
      refine jr_iast hE dX12_block_67 (H.I (k := 54) (N := 64) (by decide)) (vp_in_nI (by omega) (by decide)) (fun F1 g2 u3 => ?_)
      have H4 := H.setI (k := 54) (N := 64) (by decide) g2 u3
      have O5 := O.st (k := 54) (by decide) (by decide) u3
      rw [uz_uz, uz_s] at H4
      refine jr_goto (tgt := 156) hE dX12_block_68 (by decide) ?_
      refine jr_iinc (v := nI (i + 1)) (lv' := [(2, .int (nI (i + 1))), (3, .int (nI (fr + 4 * i))), (0, .ref o), (1, .int (nI fr))]) hE dX12_block_156 1 rfl (nI_1 _) (by decide) rfl ?_
      refine jr_goto (tgt := 2) hE dX12_block_159 (by decide) ?_
      refine jr_lv (lv' := [(2, .int (nI (i + 1))), (0, .ref o), (1, .int (nI fr))]) [0, 2, 3] rfl ?_
      exact ih (i + 1) F1 _ (by omega) H4 (fun j hj => by
        rw [nI_clamp (by omega)]
        show (if j = i then _ else gw j) = _
        by_cases e : j = i
        · rw [if_pos e, e]
        · rw [if_neg e]; exact hgw j (by omega)) O5
  refine jr_iconst (v := (0 : Int32)) hE dX12_block_0 (by decide) ?_
  refine jr_istore_n (lv' := [(2, .int (0 : Int32)), (0, .ref o), (1, .int (nI fr))]) hE dX12_block_1 (by decide) rfl ?_
  refine jr_lv (lv' := [(2, .int (0 : Int32)), (0, .ref o), (1, .int (nI fr))]) [0, 1, 2] rfl ?_
  exact loopA 16 0 F (w 54) rfl (by rw [uz_id]; exact M0) (fun j hj => absurd hj (Nat.not_lt_zero j)) (mO.rf o a F)

