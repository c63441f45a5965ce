/-! SHA-256: one block -/
def us (x k : Int32) : Int32 := (x.toUInt32 >>> (k.toUInt32 &&& Int32.toUInt32 31)).toInt32
def ls (x k : Int32) : Int32 := x <<< (k &&& 31)
def sgl (x : Int32) : Int32 := (us x 7 ||| ls x 25) ^^^ (us x 18 ||| ls x 14) ^^^ us x 3
def sgh (y : Int32) : Int32 := (us y 17 ||| ls y 15) ^^^ (us y 19 ||| ls y 13) ^^^ us y 10
/-- the words of a block, and n more -/
def wxt (g : Nat → Int32) : Nat → Nat → Int32
  | 0 => g
  | n + 1 => upd (wxt g n) (16 + n) (wxt g n n + sgl (wxt g n (n + 1)) + wxt g n (n + 9) + sgh (wxt g n (n + 14)))
def te (e : Int32) : Int32 := (us e 6 ||| ls e 26) ^^^ (us e 11 ||| ls e 21) ^^^ (us e 25 ||| ls e 7)
def ta (a : Int32) : Int32 := (us a 2 ||| ls a 30) ^^^ (us a 13 ||| ls a 19) ^^^ (us a 22 ||| ls a 10)
def rd1 (s : Nat → Int32) (k w : Int32) : Int32 := s 7 + te (s 4) + ((s 4 &&& s 5) ^^^ ((s 4 ^^^ (-1)) &&& s 6)) + k + w
def rd2 (s : Nat → Int32) : Int32 := ta (s 0) + ((s 0 &&& s 1) ^^^ (s 0 &&& s 2) ^^^ (s 1 &&& s 2))
def rdn (s w : Nat → Int32) : Nat → Nat → Int32
  | 0 => s
  | n + 1 => fun j => [rd1 (rdn s w n) (jROUND.getD n 0) (w n) + rd2 (rdn s w n), rdn s w n 0, rdn s w n 1, rdn s w n 2, rdn s w n 3 + rd1 (rdn s w n) (jROUND.getD n 0) (w n), rdn s w n 4, rdn s w n 5, rdn s w n 6].getD j 0
def addn (s r : Nat → Int32) : Nat → Nat → Int32
  | 0 => s
  | n + 1 => upd (addn s r n) n (addn s r n n + r n)
/-- the state after a block of words g -/
def shB (s g : Nat → Int32) : Nat → Int32 := addn s (rdn s (wxt g 48) 64) 8
/-- the digest's object with its arrays: state f, words g, n bytes taken -/
def jSh (G : Nat → ClassId) (L : List Nat) (F : Nat → va_E) (sh st wd td : Nat) (f g : Nat → Int32) (n : Nat) : Prop := jF L F sh (.inr (9, [.ref st, .ref wd, .ref td, .long (lN n)])) ∧ jF L F st (.inl (G 1, 8, .inl f)) ∧ jF L F wd (.inl (G 1, 64, .inl g))
theorem jSh.fr {G : Nat → ClassId} {L : List Nat} {F F' : Nat → va_E} {sh st wd td n : Nat} {f g : Nat → Int32} (h : jSh G L F sh st wd td f g n) (e1 : F' sh = F sh) (e2 : F' st = F st) (e3 : F' wd = F wd) : jSh G L F' sh st wd td f g n := ⟨h.1.fr e1, h.2.1.fr e2, h.2.2.fr e3⟩

set_option maxHeartbeats 4000000 in
set_option maxRecDepth 100000 in
theorem c_X9_stir (l : Launch) (G : Nat → ClassId) (sh st wd td tk : Nat) (f g : Nat → Int32) : jKv l yX9_stir wsX9_stir ({ frames := 0, cells := 0, slots := 0, locals := 0 }) G [.ref sh] (fun L F => jSh G L F sh st wd td f g tk ∧ [sh, st, wd].Nodup) (fun L F F1 => jSh G L F1 sh st wd td (shB f g) (wxt g 48) tk ∧ ∀ z, z ∉ [st, wd] → F1 z = F z) := by
  refine jm_kv (cc := cX9_stir) (maxL := 14) (by decide) rfl (Nat.le_of_ble_eq_true rfl) ?_
  intro E L F hE hR hpre
  have hE : jOk E G _ cX9_stir 14 RX9 wsX9_stir := hE

  have f13 : jFl RX9 wsX9_stir 13 9 1 := ⟨rfl, by decide, by decide +kernel, by decide +kernel⟩
  have f7 : jFl RX9 wsX9_stir 7 9 0 := ⟨rfl, by decide, by decide +kernel, by decide +kernel⟩
  obtain ⟨⟨h0, h1, h2⟩, hnd⟩ := hpre
  obtain ⟨gx, hgx⟩ : ∃ gx, gx = wxt g 48 := ⟨_, rfl⟩
  have loop2 : ∀ (r0 i : Nat) (F2 : Nat → va_E), i + r0 = 64 → jF L F2 sh (.inr (9, [.ref st, .ref wd, .ref td, .long (lN tk)])) → jF L F2 st (.inl (G 1, 8, .inl f)) → jF L F2 wd (.inl (G 1, 64, .inl gx)) → (∀ z, z ∉ [st, wd] → F2 z = F z) → J E L F2 0 0 182 [(9, .int (nI i)), (1, .int (rdn f gx i 0)), (2, .int (rdn f gx i 1)), (3, .int (rdn f gx i 2)), (4, .int (rdn f gx i 3)), (5, .int (rdn f gx i 4)), (6, .int (rdn f gx i 5)), (7, .int (rdn f gx i 6)), (8, .int (rdn f gx i 7)), (0, .ref sh)] [] := by
    intro r0
    induction r0 with
    | zero =>
      intro i F2 hir h0 h1 h2 hfr
      have hi : i = 64 := by omega
      subst hi
      obtain ⟨R0, hR0⟩ : ∃ R0, R0 = rdn f gx 64 := ⟨_, rfl⟩
      rw [← hR0]
      refine jr_iload hE dX9_stir_182 0 rfl ?_
      refine jr_bipush (v := (64 : Int32)) hE dX9_stir_184 (by decide) ?_
      refine jr_icmp_ge (tgt := 346) hE dX9_stir_186 (by decide) (fun c_186 => ?_) (fun c_186 => absurd (nI_le (a := 64) (by omega) (by omega)) c_186)
      refine jr_aload_n hE dX9_stir_346 9 rfl ?_
      refine jr_get hE dX9_stir_347 f7 h0 rfl ?_
      refine jr_iconst (v := (0 : Int32)) hE dX9_stir_350 (by decide) ?_
      refine jr_dup2 hE dX9_stir_351 rfl rfl ?_
      refine jr_iald (v := addn f R0 0 0) hE dX9_stir_352 h1 (vp_in_nI (n := 0) (by decide) (by decide)) rfl ?_
      refine jr_iload_n hE dX9_stir_353 1 rfl ?_
      refine jr_iadd hE dX9_stir_354 rfl ?_
      refine jr_iast hE dX9_stir_355 h1 (vp_in_nI (n := 0) (by decide) (by decide)) (fun F1 g2 u3 => ?_)
      have g4 : jF L F1 st (.inl (G 1, 8, .inl (addn f R0 1))) := by exact g2
      have g5 := h0.upk u3 h1 (Nat.ne_of_beq_eq_false rfl)
      have g6 := h2.up u3 (jn2 hnd 2 1 rfl rfl (by decide))
      refine jr_aload_n hE dX9_stir_356 9 rfl ?_
      refine jr_get hE dX9_stir_357 f7 g5 rfl ?_
      refine jr_iconst (v := (1 : Int32)) hE dX9_stir_360 (by decide) ?_
      refine jr_dup2 hE dX9_stir_361 rfl rfl ?_
      refine jr_iald (v := addn f R0 1 1) hE dX9_stir_362 g4 (vp_in_nI (n := 1) (by decide) (by decide)) rfl ?_
      refine jr_iload_n hE dX9_stir_363 2 rfl ?_
      refine jr_iadd hE dX9_stir_364 rfl ?_
      refine jr_iast hE dX9_stir_365 g4 (vp_in_nI (n := 1) (by decide) (by decide)) (fun F7 g8 u9 => ?_)
      have g10 : jF L F7 st (.inl (G 1, 8, .inl (addn f R0 2))) := by exact g8
      have g11 := g5.upk u9 g4 (Nat.ne_of_beq_eq_false rfl)
      have g12 := g6.up u9 (jn2 hnd 2 1 rfl rfl (by decide))
      refine jr_aload_n hE dX9_stir_366 9 rfl ?_
      refine jr_get hE dX9_stir_367 f7 g11 rfl ?_
      refine jr_iconst (v := (2 : Int32)) hE dX9_stir_370 (by decide) ?_
      refine jr_dup2 hE dX9_stir_371 rfl rfl ?_
      refine jr_iald (v := addn f R0 2 2) hE dX9_stir_372 g10 (vp_in_nI (n := 2) (by decide) (by decide)) rfl ?_
      refine jr_iload_n hE dX9_stir_373 3 rfl ?_
      refine jr_iadd hE dX9_stir_374 rfl ?_
      refine jr_iast hE dX9_stir_375 g10 (vp_in_nI (n := 2) (by decide) (by decide)) (fun F13 g14 u15 => ?_)
      have g16 : jF L F13 st (.inl (G 1, 8, .inl (addn f R0 3))) := by exact g14
      have g17 := g11.upk u15 g10 (Nat.ne_of_beq_eq_false rfl)
      have g18 := g12.up u15 (jn2 hnd 2 1 rfl rfl (by decide))
      refine jr_aload_n hE dX9_stir_376 9 rfl ?_
      refine jr_get hE dX9_stir_377 f7 g17 rfl ?_
      refine jr_iconst (v := (3 : Int32)) hE dX9_stir_380 (by decide) ?_
      refine jr_dup2 hE dX9_stir_381 rfl rfl ?_
      refine jr_iald (v := addn f R0 3 3) hE dX9_stir_382 g16 (vp_in_nI (n := 3) (by decide) (by decide)) rfl ?_
      refine jr_iload hE dX9_stir_383 4 rfl ?_
      refine jr_iadd hE dX9_stir_385 rfl ?_
      refine jr_iast hE dX9_stir_386 g16 (vp_in_nI (n := 3) (by decide) (by decide)) (fun F19 g20 u21 => ?_)
      have g22 : jF L F19 st (.inl (G 1, 8, .inl (addn f R0 4))) := by exact g20
      have g23 := g17.upk u21 g16 (Nat.ne_of_beq_eq_false rfl)
      have g24 := g18.up u21 (jn2 hnd 2 1 rfl rfl (by decide))
      refine jr_aload_n hE dX9_stir_387 9 rfl ?_
      refine jr_get hE dX9_stir_388 f7 g23 rfl ?_
      refine jr_iconst (v := (4 : Int32)) hE dX9_stir_391 (by decide) ?_
      refine jr_dup2 hE dX9_stir_392 rfl rfl ?_
      refine jr_iald (v := addn f R0 4 4) hE dX9_stir_393 g22 (vp_in_nI (n := 4) (by decide) (by decide)) rfl ?_
      refine jr_iload hE dX9_stir_394 5 rfl ?_
      refine jr_iadd hE dX9_stir_396 rfl ?_
      refine jr_iast hE dX9_stir_397 g22 (vp_in_nI (n := 4) (by decide) (by decide)) (fun F25 g26 u27 => ?_)
      have g28 : jF L F25 st (.inl (G 1, 8, .inl (addn f R0 5))) := by exact g26
      have g29 := g23.upk u27 g22 (Nat.ne_of_beq_eq_false rfl)
      have g30 := g24.up u27 (jn2 hnd 2 1 rfl rfl (by decide))
      refine jr_aload_n hE dX9_stir_398 9 rfl ?_
      refine jr_get hE dX9_stir_399 f7 g29 rfl ?_
      refine jr_iconst (v := (5 : Int32)) hE dX9_stir_402 (by decide) ?_
      refine jr_dup2 hE dX9_stir_403 rfl rfl ?_
      refine jr_iald (v := addn f R0 5 5) hE dX9_stir_404 g28 (vp_in_nI (n := 5) (by decide) (by decide)) rfl ?_
      refine jr_iload hE dX9_stir_405 6 rfl ?_
      refine jr_iadd hE dX9_stir_407 rfl ?_
      refine jr_iast hE dX9_stir_408 g28 (vp_in_nI (n := 5) (by decide) (by decide)) (fun F31 g32 u33 => ?_)
      have g34 : jF L F31 st (.inl (G 1, 8, .inl (addn f R0 6))) := by exact g32
      have g35 := g29.upk u33 g28 (Nat.ne_of_beq_eq_false rfl)
      have g36 := g30.up u33 (jn2 hnd 2 1 rfl rfl (by decide))
      refine jr_aload_n hE dX9_stir_409 9 rfl ?_
      refine jr_get hE dX9_stir_410 f7 g35 rfl ?_
      refine jr_bipush (v := (6 : Int32)) hE dX9_stir_413 (by decide) ?_
      refine jr_dup2 hE dX9_stir_415 rfl rfl ?_
      refine jr_iald (v := addn f R0 6 6) hE dX9_stir_416 g34 (vp_in_nI (n := 6) (by decide) (by decide)) rfl ?_
      refine jr_iload hE dX9_stir_417 7 rfl ?_
      refine jr_iadd hE dX9_stir_419 rfl ?_
      refine jr_iast hE dX9_stir_420 g34 (vp_in_nI (n := 6) (by decide) (by decide)) (fun F37 g38 u39 => ?_)
      have g40 : jF L F37 st (.inl (G 1, 8, .inl (addn f R0 7))) := by exact g38
      have g41 := g35.upk u39 g34 (Nat.ne_of_beq_eq_false rfl)
      have g42 := g36.up u39 (jn2 hnd 2 1 rfl rfl (by decide))
      refine jr_aload_n hE dX9_stir_421 9 rfl ?_
      refine jr_get hE dX9_stir_422 f7 g41 rfl ?_
      refine jr_bipush (v := (7 : Int32)) hE dX9_stir_425 (by decide) ?_
      refine jr_dup2 hE dX9_stir_427 rfl rfl ?_
      refine jr_iald (v := addn f R0 7 7) hE dX9_stir_428 g40 (vp_in_nI (n := 7) (by decide) (by decide)) rfl ?_
      refine jr_iload hE dX9_stir_429 8 rfl ?_
      refine jr_iadd hE dX9_stir_431 rfl ?_
      refine jr_iast hE dX9_stir_432 g40 (vp_in_nI (n := 7) (by decide) (by decide)) (fun F43 g44 u45 => ?_)
      have g46 : jF L F43 st (.inl (G 1, 8, .inl (addn f R0 8))) := by exact g44
      have g47 := g41.upk u45 g40 (Nat.ne_of_beq_eq_false rfl)
      have g48 := g42.up u45 (jn2 hnd 2 1 rfl rfl (by decide))
      subst hR0
      subst hgx
      exact hR F43 _ _ dX9_stir_433 ⟨⟨g47, g46, g48⟩, fun z hz => (u45 z (jne hz 0 rfl)).trans ((u39 z (jne hz 0 rfl)).trans ((u33 z (jne hz 0 rfl)).trans ((u27 z (jne hz 0 rfl)).trans ((u21 z (jne hz 0 rfl)).trans ((u15 z (jne hz 0 rfl)).trans ((u9 z (jne hz 0 rfl)).trans ((u3 z (jne hz 0 rfl)).trans (hfr z hz))))))))⟩
    | succ r0 ih =>
      intro i F2 hir h0 h1 h2 hfr
      refine jr_iload hE dX9_stir_182 0 rfl ?_
      refine jr_bipush (v := (64 : Int32)) hE dX9_stir_184 (by decide) ?_
      refine jr_icmp_ge (tgt := 346) hE dX9_stir_186 (by decide) (fun c_186 => absurd c_186 (nI_ge (b := 64) (by omega) (by decide))) (fun c_186 => ?_)
      refine jr_iload hE dX9_stir_189 5 rfl ?_
      refine jr_bipush (v := (6 : Int32)) hE dX9_stir_191 (by decide) ?_
      refine jr_iushr (z := us (rdn f gx i 4) (6 : Int32)) hE dX9_stir_193 rfl ?_
      refine jr_iload hE dX9_stir_194 5 rfl ?_
      refine jr_bipush (v := (26 : Int32)) hE dX9_stir_196 (by decide) ?_
      refine jr_ishl (z := ls (rdn f gx i 4) (26 : Int32)) hE dX9_stir_198 rfl ?_
      refine jr_ior hE dX9_stir_199 rfl ?_
      refine jr_iload hE dX9_stir_200 5 rfl ?_
      refine jr_bipush (v := (11 : Int32)) hE dX9_stir_202 (by decide) ?_
      refine jr_iushr (z := us (rdn f gx i 4) (11 : Int32)) hE dX9_stir_204 rfl ?_
      refine jr_iload hE dX9_stir_205 5 rfl ?_
      refine jr_bipush (v := (21 : Int32)) hE dX9_stir_207 (by decide) ?_
      refine jr_ishl (z := ls (rdn f gx i 4) (21 : Int32)) hE dX9_stir_209 rfl ?_
      refine jr_ior hE dX9_stir_210 rfl ?_
      refine jr_ixor hE dX9_stir_211 rfl ?_
      refine jr_iload hE dX9_stir_212 5 rfl ?_
      refine jr_bipush (v := (25 : Int32)) hE dX9_stir_214 (by decide) ?_
      refine jr_iushr (z := us (rdn f gx i 4) (25 : Int32)) hE dX9_stir_216 rfl ?_
      refine jr_iload hE dX9_stir_217 5 rfl ?_
      refine jr_bipush (v := (7 : Int32)) hE dX9_stir_219 (by decide) ?_
      refine jr_ishl (z := ls (rdn f gx i 4) (7 : Int32)) hE dX9_stir_221 rfl ?_
      refine jr_ior hE dX9_stir_222 rfl ?_
      refine jr_ixor hE dX9_stir_223 rfl ?_
      refine jr_istore (lv' := [(10, .int ((((us (rdn f gx i 4) (6 : Int32)) ||| (ls (rdn f gx i 4) (26 : Int32))) ^^^ ((us (rdn f gx i 4) (11 : Int32)) ||| (ls (rdn f gx i 4) (21 : Int32)))) ^^^ ((us (rdn f gx i 4) (25 : Int32)) ||| (ls (rdn f gx i 4) (7 : Int32))))), (9, .int (nI i)), (1, .int (rdn f gx i 0)), (2, .int (rdn f gx i 1)), (3, .int (rdn f gx i 2)), (4, .int (rdn f gx i 3)), (5, .int (rdn f gx i 4)), (6, .int (rdn f gx i 5)), (7, .int (rdn f gx i 6)), (8, .int (rdn f gx i 7)), (0, .ref sh)]) hE dX9_stir_224 (by decide) rfl ?_
      refine jr_iload hE dX9_stir_226 9 rfl ?_
      refine jr_iload hE dX9_stir_228 0 rfl ?_
      refine jr_iadd hE dX9_stir_230 rfl ?_
      refine jr_iload hE dX9_stir_231 6 rfl ?_
      refine jr_iload hE dX9_stir_233 7 rfl ?_
      refine jr_iand hE dX9_stir_235 rfl ?_
      refine jr_iload hE dX9_stir_236 6 rfl ?_
      refine jr_iconst (v := (-1 : Int32)) hE dX9_stir_238 (by decide) ?_
      refine jr_ixor hE dX9_stir_239 rfl ?_
      refine jr_iload hE dX9_stir_240 8 rfl ?_
      refine jr_iand hE dX9_stir_242 rfl ?_
      refine jr_ixor hE dX9_stir_243 rfl ?_
      refine jr_iadd hE dX9_stir_244 rfl ?_
      refine jr_gsROUND hE dX9_stir_245 (by decide +kernel) ?_
      refine jr_iload hE dX9_stir_248 1 rfl ?_
      refine jr_ldROUND (v := (jROUND.getD i 0)) hE dX9_stir_250 (vp_in_nI (by omega) (by decide)) (by rw [nI_clamp (by omega)]) ?_
      refine jr_iadd hE dX9_stir_251 rfl ?_
      refine jr_aload_n hE dX9_stir_252 10 rfl ?_
      refine jr_get hE dX9_stir_253 f13 h0 rfl ?_
      refine jr_iload hE dX9_stir_256 1 rfl ?_
      refine jr_iald (v := gx i) hE dX9_stir_258 h2 (vp_in_nI (by omega) (by decide)) (by rw [nI_clamp (by omega)]) ?_
      refine jr_iadd hE dX9_stir_259 rfl ?_
      refine jr_istore (lv' := [(11, .int (((((rdn f gx i 7) + ((((us (rdn f gx i 4) (6 : Int32)) ||| (ls (rdn f gx i 4) (26 : Int32))) ^^^ ((us (rdn f gx i 4) (11 : Int32)) ||| (ls (rdn f gx i 4) (21 : Int32)))) ^^^ ((us (rdn f gx i 4) (25 : Int32)) ||| (ls (rdn f gx i 4) (7 : Int32))))) + (((rdn f gx i 4) &&& (rdn f gx i 5)) ^^^ (((rdn f gx i 4) ^^^ (-1 : Int32)) &&& (rdn f gx i 6)))) + (jROUND.getD i 0)) + (gx i))), (10, .int ((((us (rdn f gx i 4) (6 : Int32)) ||| (ls (rdn f gx i 4) (26 : Int32))) ^^^ ((us (rdn f gx i 4) (11 : Int32)) ||| (ls (rdn f gx i 4) (21 : Int32)))) ^^^ ((us (rdn f gx i 4) (25 : Int32)) ||| (ls (rdn f gx i 4) (7 : Int32))))), (9, .int (nI i)), (1, .int (rdn f gx i 0)), (2, .int (rdn f gx i 1)), (3, .int (rdn f gx i 2)), (4, .int (rdn f gx i 3)), (5, .int (rdn f gx i 4)), (6, .int (rdn f gx i 5)), (7, .int (rdn f gx i 6)), (8, .int (rdn f gx i 7)), (0, .ref sh)]) hE dX9_stir_260 (by decide) rfl ?_
      refine jr_iload_n hE dX9_stir_262 3 rfl ?_
      refine jr_iconst (v := (2 : Int32)) hE dX9_stir_263 (by decide) ?_
      refine jr_iushr (z := us (rdn f gx i 0) (2 : Int32)) hE dX9_stir_264 rfl ?_
      refine jr_iload_n hE dX9_stir_265 3 rfl ?_
      refine jr_bipush (v := (30 : Int32)) hE dX9_stir_266 (by decide) ?_
      refine jr_ishl (z := ls (rdn f gx i 0) (30 : Int32)) hE dX9_stir_268 rfl ?_
      refine jr_ior hE dX9_stir_269 rfl ?_
      refine jr_iload_n hE dX9_stir_270 3 rfl ?_
      refine jr_bipush (v := (13 : Int32)) hE dX9_stir_271 (by decide) ?_
      refine jr_iushr (z := us (rdn f gx i 0) (13 : Int32)) hE dX9_stir_273 rfl ?_
      refine jr_iload_n hE dX9_stir_274 3 rfl ?_
      refine jr_bipush (v := (19 : Int32)) hE dX9_stir_275 (by decide) ?_
      refine jr_ishl (z := ls (rdn f gx i 0) (19 : Int32)) hE dX9_stir_277 rfl ?_
      refine jr_ior hE dX9_stir_278 rfl ?_
      refine jr_ixor hE dX9_stir_279 rfl ?_
      refine jr_iload_n hE dX9_stir_280 3 rfl ?_
      refine jr_bipush (v := (22 : Int32)) hE dX9_stir_281 (by decide) ?_
      refine jr_iushr (z := us (rdn f gx i 0) (22 : Int32)) hE dX9_stir_283 rfl ?_
      refine jr_iload_n hE dX9_stir_284 3 rfl ?_
      refine jr_bipush (v := (10 : Int32)) hE dX9_stir_285 (by decide) ?_
      refine jr_ishl (z := ls (rdn f gx i 0) (10 : Int32)) hE dX9_stir_287 rfl ?_
      refine jr_ior hE dX9_stir_288 rfl ?_
      refine jr_ixor hE dX9_stir_289 rfl ?_
      refine jr_istore (lv' := [(12, .int ((((us (rdn f gx i 0) (2 : Int32)) ||| (ls (rdn f gx i 0) (30 : Int32))) ^^^ ((us (rdn f gx i 0) (13 : Int32)) ||| (ls (rdn f gx i 0) (19 : Int32)))) ^^^ ((us (rdn f gx i 0) (22 : Int32)) ||| (ls (rdn f gx i 0) (10 : Int32))))), (11, .int (((((rdn f gx i 7) + ((((us (rdn f gx i 4) (6 : Int32)) ||| (ls (rdn f gx i 4) (26 : Int32))) ^^^ ((us (rdn f gx i 4) (11 : Int32)) ||| (ls (rdn f gx i 4) (21 : Int32)))) ^^^ ((us (rdn f gx i 4) (25 : Int32)) ||| (ls (rdn f gx i 4) (7 : Int32))))) + (((rdn f gx i 4) &&& (rdn f gx i 5)) ^^^ (((rdn f gx i 4) ^^^ (-1 : Int32)) &&& (rdn f gx i 6)))) + (jROUND.getD i 0)) + (gx i))), (10, .int ((((us (rdn f gx i 4) (6 : Int32)) ||| (ls (rdn f gx i 4) (26 : Int32))) ^^^ ((us (rdn f gx i 4) (11 : Int32)) ||| (ls (rdn f gx i 4) (21 : Int32)))) ^^^ ((us (rdn f gx i 4) (25 : Int32)) ||| (ls (rdn f gx i 4) (7 : Int32))))), (9, .int (nI i)), (1, .int (rdn f gx i 0)), (2, .int (rdn f gx i 1)), (3, .int (rdn f gx i 2)), (4, .int (rdn f gx i 3)), (5, .int (rdn f gx i 4)), (6, .int (rdn f gx i 5)), (7, .int (rdn f gx i 6)), (8, .int (rdn f gx i 7)), (0, .ref sh)]) hE dX9_stir_290 (by decide) rfl ?_
      refine jr_iload hE dX9_stir_292 0 rfl ?_
      refine jr_iload_n hE dX9_stir_294 4 rfl ?_
      refine jr_iload_n hE dX9_stir_295 5 rfl ?_
      refine jr_iand hE dX9_stir_296 rfl ?_
      refine jr_iload_n hE dX9_stir_297 4 rfl ?_
      refine jr_iload_n hE dX9_stir_298 6 rfl ?_
      refine jr_iand hE dX9_stir_299 rfl ?_
      refine jr_ixor hE dX9_stir_300 rfl ?_
      refine jr_iload_n hE dX9_stir_301 5 rfl ?_
      refine jr_iload_n hE dX9_stir_302 6 rfl ?_
      refine jr_iand hE dX9_stir_303 rfl ?_
      refine jr_ixor hE dX9_stir_304 rfl ?_
      refine jr_iadd hE dX9_stir_305 rfl ?_
      refine jr_istore (lv' := [(13, .int (((((us (rdn f gx i 0) (2 : Int32)) ||| (ls (rdn f gx i 0) (30 : Int32))) ^^^ ((us (rdn f gx i 0) (13 : Int32)) ||| (ls (rdn f gx i 0) (19 : Int32)))) ^^^ ((us (rdn f gx i 0) (22 : Int32)) ||| (ls (rdn f gx i 0) (10 : Int32)))) + ((((rdn f gx i 0) &&& (rdn f gx i 1)) ^^^ ((rdn f gx i 0) &&& (rdn f gx i 2))) ^^^ ((rdn f gx i 1) &&& (rdn f gx i 2))))), (12, .int ((((us (rdn f gx i 0) (2 : Int32)) ||| (ls (rdn f gx i 0) (30 : Int32))) ^^^ ((us (rdn f gx i 0) (13 : Int32)) ||| (ls (rdn f gx i 0) (19 : Int32)))) ^^^ ((us (rdn f gx i 0) (22 : Int32)) ||| (ls (rdn f gx i 0) (10 : Int32))))), (11, .int (((((rdn f gx i 7) + ((((us (rdn f gx i 4) (6 : Int32)) ||| (ls (rdn f gx i 4) (26 : Int32))) ^^^ ((us (rdn f gx i 4) (11 : Int32)) ||| (ls (rdn f gx i 4) (21 : Int32)))) ^^^ ((us (rdn f gx i 4) (25 : Int32)) ||| (ls (rdn f gx i 4) (7 : Int32))))) + (((rdn f gx i 4) &&& (rdn f gx i 5)) ^^^ (((rdn f gx i 4) ^^^ (-1 : Int32)) &&& (rdn f gx i 6)))) + (jROUND.getD i 0)) + (gx i))), (10, .int ((((us (rdn f gx i 4) (6 : Int32)) ||| (ls (rdn f gx i 4) (26 : Int32))) ^^^ ((us (rdn f gx i 4) (11 : Int32)) ||| (ls (rdn f gx i 4) (21 : Int32)))) ^^^ ((us (rdn f gx i 4) (25 : Int32)) ||| (ls (rdn f gx i 4) (7 : Int32))))), (9, .int (nI i)), (1, .int (rdn f gx i 0)), (2, .int (rdn f gx i 1)), (3, .int (rdn f gx i 2)), (4, .int (rdn f gx i 3)), (5, .int (rdn f gx i 4)), (6, .int (rdn f gx i 5)), (7, .int (rdn f gx i 6)), (8, .int (rdn f gx i 7)), (0, .ref sh)]) hE dX9_stir_306 (by decide) rfl ?_
      refine jr_iload hE dX9_stir_308 11 rfl ?_
      refine jr_istore (lv' := [(8, .int (rdn f gx i 6)), (13, .int (((((us (rdn f gx i 0) (2 : Int32)) ||| (ls (rdn f gx i 0) (30 : Int32))) ^^^ ((us (rdn f gx i 0) (13 : Int32)) ||| (ls (rdn f gx i 0) (19 : Int32)))) ^^^ ((us (rdn f gx i 0) (22 : Int32)) ||| (ls (rdn f gx i 0) (10 : Int32)))) + ((((rdn f gx i 0) &&& (rdn f gx i 1)) ^^^ ((rdn f gx i 0) &&& (rdn f gx i 2))) ^^^ ((rdn f gx i 1) &&& (rdn f gx i 2))))), (12, .int ((((us (rdn f gx i 0) (2 : Int32)) ||| (ls (rdn f gx i 0) (30 : Int32))) ^^^ ((us (rdn f gx i 0) (13 : Int32)) ||| (ls (rdn f gx i 0) (19 : Int32)))) ^^^ ((us (rdn f gx i 0) (22 : Int32)) ||| (ls (rdn f gx i 0) (10 : Int32))))), (11, .int (((((rdn f gx i 7) + ((((us (rdn f gx i 4) (6 : Int32)) ||| (ls (rdn f gx i 4) (26 : Int32))) ^^^ ((us (rdn f gx i 4) (11 : Int32)) ||| (ls (rdn f gx i 4) (21 : Int32)))) ^^^ ((us (rdn f gx i 4) (25 : Int32)) ||| (ls (rdn f gx i 4) (7 : Int32))))) + (((rdn f gx i 4) &&& (rdn f gx i 5)) ^^^ (((rdn f gx i 4) ^^^ (-1 : Int32)) &&& (rdn f gx i 6)))) + (jROUND.getD i 0)) + (gx i))), (10, .int ((((us (rdn f gx i 4) (6 : Int32)) ||| (ls (rdn f gx i 4) (26 : Int32))) ^^^ ((us (rdn f gx i 4) (11 : Int32)) ||| (ls (rdn f gx i 4) (21 : Int32)))) ^^^ ((us (rdn f gx i 4) (25 : Int32)) ||| (ls (rdn f gx i 4) (7 : Int32))))), (9, .int (nI i)), (1, .int (rdn f gx i 0)), (2, .int (rdn f gx i 1)), (3, .int (rdn f gx i 2)), (4, .int (rdn f gx i 3)), (5, .int (rdn f gx i 4)), (6, .int (rdn f gx i 5)), (7, .int (rdn f gx i 6)), (0, .ref sh)]) hE dX9_stir_310 (by decide) rfl ?_
      refine jr_iload hE dX9_stir_312 11 rfl ?_
      refine jr_istore (lv' := [(7, .int (rdn f gx i 5)), (8, .int (rdn f gx i 6)), (13, .int (((((us (rdn f gx i 0) (2 : Int32)) ||| (ls (rdn f gx i 0) (30 : Int32))) ^^^ ((us (rdn f gx i 0) (13 : Int32)) ||| (ls (rdn f gx i 0) (19 : Int32)))) ^^^ ((us (rdn f gx i 0) (22 : Int32)) ||| (ls (rdn f gx i 0) (10 : Int32)))) + ((((rdn f gx i 0) &&& (rdn f gx i 1)) ^^^ ((rdn f gx i 0) &&& (rdn f gx i 2))) ^^^ ((rdn f gx i 1) &&& (rdn f gx i 2))))), (12, .int ((((us (rdn f gx i 0) (2 : Int32)) ||| (ls (rdn f gx i 0) (30 : Int32))) ^^^ ((us (rdn f gx i 0) (13 : Int32)) ||| (ls (rdn f gx i 0) (19 : Int32)))) ^^^ ((us (rdn f gx i 0) (22 : Int32)) ||| (ls (rdn f gx i 0) (10 : Int32))))), (11, .int (((((rdn f gx i 7) + ((((us (rdn f gx i 4) (6 : Int32)) ||| (ls (rdn f gx i 4) (26 : Int32))) ^^^ ((us (rdn f gx i 4) (11 : Int32)) ||| (ls (rdn f gx i 4) (21 : Int32)))) ^^^ ((us (rdn f gx i 4) (25 : Int32)) ||| (ls (rdn f gx i 4) (7 : Int32))))) + (((rdn f gx i 4) &&& (rdn f gx i 5)) ^^^ (((rdn f gx i 4) ^^^ (-1 : Int32)) &&& (rdn f gx i 6)))) + (jROUND.getD i 0)) + (gx i))), (10, .int ((((us (rdn f gx i 4) (6 : Int32)) ||| (ls (rdn f gx i 4) (26 : Int32))) ^^^ ((us (rdn f gx i 4) (11 : Int32)) ||| (ls (rdn f gx i 4) (21 : Int32)))) ^^^ ((us (rdn f gx i 4) (25 : Int32)) ||| (ls (rdn f gx i 4) (7 : Int32))))), (9, .int (nI i)), (1, .int (rdn f gx i 0)), (2, .int (rdn f gx i 1)), (3, .int (rdn f gx i 2)), (4, .int (rdn f gx i 3)), (5, .int (rdn f gx i 4)), (6, .int (rdn f gx i 5)), (0, .ref sh)]) hE dX9_stir_314 (by decide) rfl ?_
      refine jr_iload hE dX9_stir_316 11 rfl ?_
      refine jr_istore (lv' := [(6, .int (rdn f gx i 4)), (7, .int (rdn f gx i 5)), (8, .int (rdn f gx i 6)), (13, .int (((((us (rdn f gx i 0) (2 : Int32)) ||| (ls (rdn f gx i 0) (30 : Int32))) ^^^ ((us (rdn f gx i 0) (13 : Int32)) ||| (ls (rdn f gx i 0) (19 : Int32)))) ^^^ ((us (rdn f gx i 0) (22 : Int32)) ||| (ls (rdn f gx i 0) (10 : Int32)))) + ((((rdn f gx i 0) &&& (rdn f gx i 1)) ^^^ ((rdn f gx i 0) &&& (rdn f gx i 2))) ^^^ ((rdn f gx i 1) &&& (rdn f gx i 2))))), (12, .int ((((us (rdn f gx i 0) (2 : Int32)) ||| (ls (rdn f gx i 0) (30 : Int32))) ^^^ ((us (rdn f gx i 0) (13 : Int32)) ||| (ls (rdn f gx i 0) (19 : Int32)))) ^^^ ((us (rdn f gx i 0) (22 : Int32)) ||| (ls (rdn f gx i 0) (10 : Int32))))), (11, .int (((((rdn f gx i 7) + ((((us (rdn f gx i 4) (6 : Int32)) ||| (ls (rdn f gx i 4) (26 : Int32))) ^^^ ((us (rdn f gx i 4) (11 : Int32)) ||| (ls (rdn f gx i 4) (21 : Int32)))) ^^^ ((us (rdn f gx i 4) (25 : Int32)) ||| (ls (rdn f gx i 4) (7 : Int32))))) + (((rdn f gx i 4) &&& (rdn f gx i 5)) ^^^ (((rdn f gx i 4) ^^^ (-1 : Int32)) &&& (rdn f gx i 6)))) + (jROUND.getD i 0)) + (gx i))), (10, .int ((((us (rdn f gx i 4) (6 : Int32)) ||| (ls (rdn f gx i 4) (26 : Int32))) ^^^ ((us (rdn f gx i 4) (11 : Int32)) ||| (ls (rdn f gx i 4) (21 : Int32)))) ^^^ ((us (rdn f gx i 4) (25 : Int32)) ||| (ls (rdn f gx i 4) (7 : Int32))))), (9, .int (nI i)), (1, .int (rdn f gx i 0)), (2, .int (rdn f gx i 1)), (3, .int (rdn f gx i 2)), (4, .int (rdn f gx i 3)), (5, .int (rdn f gx i 4)), (0, .ref sh)]) hE dX9_stir_318 (by decide) rfl ?_
      refine jr_iload hE dX9_stir_320 11 rfl ?_
      refine jr_iload hE dX9_stir_322 5 rfl ?_
      refine jr_iadd hE dX9_stir_324 rfl ?_
      refine jr_istore (lv' := [(5, .int ((rdn f gx i 3) + (((((rdn f gx i 7) + ((((us (rdn f gx i 4) (6 : Int32)) ||| (ls (rdn f gx i 4) (26 : Int32))) ^^^ ((us (rdn f gx i 4) (11 : Int32)) ||| (ls (rdn f gx i 4) (21 : Int32)))) ^^^ ((us (rdn f gx i 4) (25 : Int32)) ||| (ls (rdn f gx i 4) (7 : Int32))))) + (((rdn f gx i 4) &&& (rdn f gx i 5)) ^^^ (((rdn f gx i 4) ^^^ (-1 : Int32)) &&& (rdn f gx i 6)))) + (jROUND.getD i 0)) + (gx i)))), (6, .int (rdn f gx i 4)), (7, .int (rdn f gx i 5)), (8, .int (rdn f gx i 6)), (13, .int (((((us (rdn f gx i 0) (2 : Int32)) ||| (ls (rdn f gx i 0) (30 : Int32))) ^^^ ((us (rdn f gx i 0) (13 : Int32)) ||| (ls (rdn f gx i 0) (19 : Int32)))) ^^^ ((us (rdn f gx i 0) (22 : Int32)) ||| (ls (rdn f gx i 0) (10 : Int32)))) + ((((rdn f gx i 0) &&& (rdn f gx i 1)) ^^^ ((rdn f gx i 0) &&& (rdn f gx i 2))) ^^^ ((rdn f gx i 1) &&& (rdn f gx i 2))))), (12, .int ((((us (rdn f gx i 0) (2 : Int32)) ||| (ls (rdn f gx i 0) (30 : Int32))) ^^^ ((us (rdn f gx i 0) (13 : Int32)) ||| (ls (rdn f gx i 0) (19 : Int32)))) ^^^ ((us (rdn f gx i 0) (22 : Int32)) ||| (ls (rdn f gx i 0) (10 : Int32))))), (11, .int (((((rdn f gx i 7) + ((((us (rdn f gx i 4) (6 : Int32)) ||| (ls (rdn f gx i 4) (26 : Int32))) ^^^ ((us (rdn f gx i 4) (11 : Int32)) ||| (ls (rdn f gx i 4) (21 : Int32)))) ^^^ ((us (rdn f gx i 4) (25 : Int32)) ||| (ls (rdn f gx i 4) (7 : Int32))))) + (((rdn f gx i 4) &&& (rdn f gx i 5)) ^^^ (((rdn f gx i 4) ^^^ (-1 : Int32)) &&& (rdn f gx i 6)))) + (jROUND.getD i 0)) + (gx i))), (10, .int ((((us (rdn f gx i 4) (6 : Int32)) ||| (ls (rdn f gx i 4) (26 : Int32))) ^^^ ((us (rdn f gx i 4) (11 : Int32)) ||| (ls (rdn f gx i 4) (21 : Int32)))) ^^^ ((us (rdn f gx i 4) (25 : Int32)) ||| (ls (rdn f gx i 4) (7 : Int32))))), (9, .int (nI i)), (1, .int (rdn f gx i 0)), (2, .int (rdn f gx i 1)), (3, .int (rdn f gx i 2)), (4, .int (rdn f gx i 3)), (0, .ref sh)]) hE dX9_stir_325 (by decide) rfl ?_
      refine jr_iload_n hE dX9_stir_327 11 rfl ?_
      refine jr_istore (lv' := [(4, .int (rdn f gx i 2)), (5, .int ((rdn f gx i 3) + (((((rdn f gx i 7) + ((((us (rdn f gx i 4) (6 : Int32)) ||| (ls (rdn f gx i 4) (26 : Int32))) ^^^ ((us (rdn f gx i 4) (11 : Int32)) ||| (ls (rdn f gx i 4) (21 : Int32)))) ^^^ ((us (rdn f gx i 4) (25 : Int32)) ||| (ls (rdn f gx i 4) (7 : Int32))))) + (((rdn f gx i 4) &&& (rdn f gx i 5)) ^^^ (((rdn f gx i 4) ^^^ (-1 : Int32)) &&& (rdn f gx i 6)))) + (jROUND.getD i 0)) + (gx i)))), (6, .int (rdn f gx i 4)), (7, .int (rdn f gx i 5)), (8, .int (rdn f gx i 6)), (13, .int (((((us (rdn f gx i 0) (2 : Int32)) ||| (ls (rdn f gx i 0) (30 : Int32))) ^^^ ((us (rdn f gx i 0) (13 : Int32)) ||| (ls (rdn f gx i 0) (19 : Int32)))) ^^^ ((us (rdn f gx i 0) (22 : Int32)) ||| (ls (rdn f gx i 0) (10 : Int32)))) + ((((rdn f gx i 0) &&& (rdn f gx i 1)) ^^^ ((rdn f gx i 0) &&& (rdn f gx i 2))) ^^^ ((rdn f gx i 1) &&& (rdn f gx i 2))))), (12, .int ((((us (rdn f gx i 0) (2 : Int32)) ||| (ls (rdn f gx i 0) (30 : Int32))) ^^^ ((us (rdn f gx i 0) (13 : Int32)) ||| (ls (rdn f gx i 0) (19 : Int32)))) ^^^ ((us (rdn f gx i 0) (22 : Int32)) ||| (ls (rdn f gx i 0) (10 : Int32))))), (11, .int (((((rdn f gx i 7) + ((((us (rdn f gx i 4) (6 : Int32)) ||| (ls (rdn f gx i 4) (26 : Int32))) ^^^ ((us (rdn f gx i 4) (11 : Int32)) ||| (ls (rdn f gx i 4) (21 : Int32)))) ^^^ ((us (rdn f gx i 4) (25 : Int32)) ||| (ls (rdn f gx i 4) (7 : Int32))))) + (((rdn f gx i 4) &&& (rdn f gx i 5)) ^^^ (((rdn f gx i 4) ^^^ (-1 : Int32)) &&& (rdn f gx i 6)))) + (jROUND.getD i 0)) + (gx i))), (10, .int ((((us (rdn f gx i 4) (6 : Int32)) ||| (ls (rdn f gx i 4) (26 : Int32))) ^^^ ((us (rdn f gx i 4) (11 : Int32)) ||| (ls (rdn f gx i 4) (21 : Int32)))) ^^^ ((us (rdn f gx i 4) (25 : Int32)) ||| (ls (rdn f gx i 4) (7 : Int32))))), (9, .int (nI i)), (1, .int (rdn f gx i 0)), (2, .int (rdn f gx i 1)), (3, .int (rdn f gx i 2)), (0, .ref sh)]) hE dX9_stir_328 (by decide) rfl ?_
      refine jr_iload_n hE dX9_stir_330 11 rfl ?_
      refine jr_istore_n (lv' := [(3, .int (rdn f gx i 1)), (4, .int (rdn f gx i 2)), (5, .int ((rdn f gx i 3) + (((((rdn f gx i 7) + ((((us (rdn f gx i 4) (6 : Int32)) ||| (ls (rdn f gx i 4) (26 : Int32))) ^^^ ((us (rdn f gx i 4) (11 : Int32)) ||| (ls (rdn f gx i 4) (21 : Int32)))) ^^^ ((us (rdn f gx i 4) (25 : Int32)) ||| (ls (rdn f gx i 4) (7 : Int32))))) + (((rdn f gx i 4) &&& (rdn f gx i 5)) ^^^ (((rdn f gx i 4) ^^^ (-1 : Int32)) &&& (rdn f gx i 6)))) + (jROUND.getD i 0)) + (gx i)))), (6, .int (rdn f gx i 4)), (7, .int (rdn f gx i 5)), (8, .int (rdn f gx i 6)), (13, .int (((((us (rdn f gx i 0) (2 : Int32)) ||| (ls (rdn f gx i 0) (30 : Int32))) ^^^ ((us (rdn f gx i 0) (13 : Int32)) ||| (ls (rdn f gx i 0) (19 : Int32)))) ^^^ ((us (rdn f gx i 0) (22 : Int32)) ||| (ls (rdn f gx i 0) (10 : Int32)))) + ((((rdn f gx i 0) &&& (rdn f gx i 1)) ^^^ ((rdn f gx i 0) &&& (rdn f gx i 2))) ^^^ ((rdn f gx i 1) &&& (rdn f gx i 2))))), (12, .int ((((us (rdn f gx i 0) (2 : Int32)) ||| (ls (rdn f gx i 0) (30 : Int32))) ^^^ ((us (rdn f gx i 0) (13 : Int32)) ||| (ls (rdn f gx i 0) (19 : Int32)))) ^^^ ((us (rdn f gx i 0) (22 : Int32)) ||| (ls (rdn f gx i 0) (10 : Int32))))), (11, .int (((((rdn f gx i 7) + ((((us (rdn f gx i 4) (6 : Int32)) ||| (ls (rdn f gx i 4) (26 : Int32))) ^^^ ((us (rdn f gx i 4) (11 : Int32)) ||| (ls (rdn f gx i 4) (21 : Int32)))) ^^^ ((us (rdn f gx i 4) (25 : Int32)) ||| (ls (rdn f gx i 4) (7 : Int32))))) + (((rdn f gx i 4) &&& (rdn f gx i 5)) ^^^ (((rdn f gx i 4) ^^^ (-1 : Int32)) &&& (rdn f gx i 6)))) + (jROUND.getD i 0)) + (gx i))), (10, .int ((((us (rdn f gx i 4) (6 : Int32)) ||| (ls (rdn f gx i 4) (26 : Int32))) ^^^ ((us (rdn f gx i 4) (11 : Int32)) ||| (ls (rdn f gx i 4) (21 : Int32)))) ^^^ ((us (rdn f gx i 4) (25 : Int32)) ||| (ls (rdn f gx i 4) (7 : Int32))))), (9, .int (nI i)), (1, .int (rdn f gx i 0)), (2, .int (rdn f gx i 1)), (0, .ref sh)]) hE dX9_stir_331 (by decide) rfl ?_
      refine jr_iload_n hE dX9_stir_332 11 rfl ?_
      refine jr_istore_n (lv' := [(2, .int (rdn f gx i 0)), (3, .int (rdn f gx i 1)), (4, .int (rdn f gx i 2)), (5, .int ((rdn f gx i 3) + (((((rdn f gx i 7) + ((((us (rdn f gx i 4) (6 : Int32)) ||| (ls (rdn f gx i 4) (26 : Int32))) ^^^ ((us (rdn f gx i 4) (11 : Int32)) ||| (ls (rdn f gx i 4) (21 : Int32)))) ^^^ ((us (rdn f gx i 4) (25 : Int32)) ||| (ls (rdn f gx i 4) (7 : Int32))))) + (((rdn f gx i 4) &&& (rdn f gx i 5)) ^^^ (((rdn f gx i 4) ^^^ (-1 : Int32)) &&& (rdn f gx i 6)))) + (jROUND.getD i 0)) + (gx i)))), (6, .int (rdn f gx i 4)), (7, .int (rdn f gx i 5)), (8, .int (rdn f gx i 6)), (13, .int (((((us (rdn f gx i 0) (2 : Int32)) ||| (ls (rdn f gx i 0) (30 : Int32))) ^^^ ((us (rdn f gx i 0) (13 : Int32)) ||| (ls (rdn f gx i 0) (19 : Int32)))) ^^^ ((us (rdn f gx i 0) (22 : Int32)) ||| (ls (rdn f gx i 0) (10 : Int32)))) + ((((rdn f gx i 0) &&& (rdn f gx i 1)) ^^^ ((rdn f gx i 0) &&& (rdn f gx i 2))) ^^^ ((rdn f gx i 1) &&& (rdn f gx i 2))))), (12, .int ((((us (rdn f gx i 0) (2 : Int32)) ||| (ls (rdn f gx i 0) (30 : Int32))) ^^^ ((us (rdn f gx i 0) (13 : Int32)) ||| (ls (rdn f gx i 0) (19 : Int32)))) ^^^ ((us (rdn f gx i 0) (22 : Int32)) ||| (ls (rdn f gx i 0) (10 : Int32))))), (11, .int (((((rdn f gx i 7) + ((((us (rdn f gx i 4) (6 : Int32)) ||| (ls (rdn f gx i 4) (26 : Int32))) ^^^ ((us (rdn f gx i 4) (11 : Int32)) ||| (ls (rdn f gx i 4) (21 : Int32)))) ^^^ ((us (rdn f gx i 4) (25 : Int32)) ||| (ls (rdn f gx i 4) (7 : Int32))))) + (((rdn f gx i 4) &&& (rdn f gx i 5)) ^^^ (((rdn f gx i 4) ^^^ (-1 : Int32)) &&& (rdn f gx i 6)))) + (jROUND.getD i 0)) + (gx i))), (10, .int ((((us (rdn f gx i 4) (6 : Int32)) ||| (ls (rdn f gx i 4) (26 : Int32))) ^^^ ((us (rdn f gx i 4) (11 : Int32)) ||| (ls (rdn f gx i 4) (21 : Int32)))) ^^^ ((us (rdn f gx i 4) (25 : Int32)) ||| (ls (rdn f gx i 4) (7 : Int32))))), (9, .int (nI i)), (1, .int (rdn f gx i 0)), (0, .ref sh)]) hE dX9_stir_333 (by decide) rfl ?_
      refine jr_iload hE dX9_stir_334 9 rfl ?_
      refine jr_iload hE dX9_stir_336 7 rfl ?_
      refine jr_iadd hE dX9_stir_338 rfl ?_
      refine jr_istore_n (lv' := [(1, .int ((((((rdn f gx i 7) + ((((us (rdn f gx i 4) (6 : Int32)) ||| (ls (rdn f gx i 4) (26 : Int32))) ^^^ ((us (rdn f gx i 4) (11 : Int32)) ||| (ls (rdn f gx i 4) (21 : Int32)))) ^^^ ((us (rdn f gx i 4) (25 : Int32)) ||| (ls (rdn f gx i 4) (7 : Int32))))) + (((rdn f gx i 4) &&& (rdn f gx i 5)) ^^^ (((rdn f gx i 4) ^^^ (-1 : Int32)) &&& (rdn f gx i 6)))) + (jROUND.getD i 0)) + (gx i)) + (((((us (rdn f gx i 0) (2 : Int32)) ||| (ls (rdn f gx i 0) (30 : Int32))) ^^^ ((us (rdn f gx i 0) (13 : Int32)) ||| (ls (rdn f gx i 0) (19 : Int32)))) ^^^ ((us (rdn f gx i 0) (22 : Int32)) ||| (ls (rdn f gx i 0) (10 : Int32)))) + ((((rdn f gx i 0) &&& (rdn f gx i 1)) ^^^ ((rdn f gx i 0) &&& (rdn f gx i 2))) ^^^ ((rdn f gx i 1) &&& (rdn f gx i 2)))))), (2, .int (rdn f gx i 0)), (3, .int (rdn f gx i 1)), (4, .int (rdn f gx i 2)), (5, .int ((rdn f gx i 3) + (((((rdn f gx i 7) + ((((us (rdn f gx i 4) (6 : Int32)) ||| (ls (rdn f gx i 4) (26 : Int32))) ^^^ ((us (rdn f gx i 4) (11 : Int32)) ||| (ls (rdn f gx i 4) (21 : Int32)))) ^^^ ((us (rdn f gx i 4) (25 : Int32)) ||| (ls (rdn f gx i 4) (7 : Int32))))) + (((rdn f gx i 4) &&& (rdn f gx i 5)) ^^^ (((rdn f gx i 4) ^^^ (-1 : Int32)) &&& (rdn f gx i 6)))) + (jROUND.getD i 0)) + (gx i)))), (6, .int (rdn f gx i 4)), (7, .int (rdn f gx i 5)), (8, .int (rdn f gx i 6)), (13, .int (((((us (rdn f gx i 0) (2 : Int32)) ||| (ls (rdn f gx i 0) (30 : Int32))) ^^^ ((us (rdn f gx i 0) (13 : Int32)) ||| (ls (rdn f gx i 0) (19 : Int32)))) ^^^ ((us (rdn f gx i 0) (22 : Int32)) ||| (ls (rdn f gx i 0) (10 : Int32)))) + ((((rdn f gx i 0) &&& (rdn f gx i 1)) ^^^ ((rdn f gx i 0) &&& (rdn f gx i 2))) ^^^ ((rdn f gx i 1) &&& (rdn f gx i 2))))), (12, .int ((((us (rdn f gx i 0) (2 : Int32)) ||| (ls (rdn f gx i 0) (30 : Int32))) ^^^ ((us (rdn f gx i 0) (13 : Int32)) ||| (ls (rdn f gx i 0) (19 : Int32)))) ^^^ ((us (rdn f gx i 0) (22 : Int32)) ||| (ls (rdn f gx i 0) (10 : Int32))))), (11, .int (((((rdn f gx i 7) + ((((us (rdn f gx i 4) (6 : Int32)) ||| (ls (rdn f gx i 4) (26 : Int32))) ^^^ ((us (rdn f gx i 4) (11 : Int32)) ||| (ls (rdn f gx i 4) (21 : Int32)))) ^^^ ((us (rdn f gx i 4) (25 : Int32)) ||| (ls (rdn f gx i 4) (7 : Int32))))) + (((rdn f gx i 4) &&& (rdn f gx i 5)) ^^^ (((rdn f gx i 4) ^^^ (-1 : Int32)) &&& (rdn f gx i 6)))) + (jROUND.getD i 0)) + (gx i))), (10, .int ((((us (rdn f gx i 4) (6 : Int32)) ||| (ls (rdn f gx i 4) (26 : Int32))) ^^^ ((us (rdn f gx i 4) (11 : Int32)) ||| (ls (rdn f gx i 4) (21 : Int32)))) ^^^ ((us (rdn f gx i 4) (25 : Int32)) ||| (ls (rdn f gx i 4) (7 : Int32))))), (9, .int (nI i)), (0, .ref sh)]) hE dX9_stir_339 (by decide) rfl ?_
      refine jr_iinc (v := nI (i + 1)) (lv' := [(9, .int (nI (i + 1))), (1, .int ((((((rdn f gx i 7) + ((((us (rdn f gx i 4) (6 : Int32)) ||| (ls (rdn f gx i 4) (26 : Int32))) ^^^ ((us (rdn f gx i 4) (11 : Int32)) ||| (ls (rdn f gx i 4) (21 : Int32)))) ^^^ ((us (rdn f gx i 4) (25 : Int32)) ||| (ls (rdn f gx i 4) (7 : Int32))))) + (((rdn f gx i 4) &&& (rdn f gx i 5)) ^^^ (((rdn f gx i 4) ^^^ (-1 : Int32)) &&& (rdn f gx i 6)))) + (jROUND.getD i 0)) + (gx i)) + (((((us (rdn f gx i 0) (2 : Int32)) ||| (ls (rdn f gx i 0) (30 : Int32))) ^^^ ((us (rdn f gx i 0) (13 : Int32)) ||| (ls (rdn f gx i 0) (19 : Int32)))) ^^^ ((us (rdn f gx i 0) (22 : Int32)) ||| (ls (rdn f gx i 0) (10 : Int32)))) + ((((rdn f gx i 0) &&& (rdn f gx i 1)) ^^^ ((rdn f gx i 0) &&& (rdn f gx i 2))) ^^^ ((rdn f gx i 1) &&& (rdn f gx i 2)))))), (2, .int (rdn f gx i 0)), (3, .int (rdn f gx i 1)), (4, .int (rdn f gx i 2)), (5, .int ((rdn f gx i 3) + (((((rdn f gx i 7) + ((((us (rdn f gx i 4) (6 : Int32)) ||| (ls (rdn f gx i 4) (26 : Int32))) ^^^ ((us (rdn f gx i 4) (11 : Int32)) ||| (ls (rdn f gx i 4) (21 : Int32)))) ^^^ ((us (rdn f gx i 4) (25 : Int32)) ||| (ls (rdn f gx i 4) (7 : Int32))))) + (((rdn f gx i 4) &&& (rdn f gx i 5)) ^^^ (((rdn f gx i 4) ^^^ (-1 : Int32)) &&& (rdn f gx i 6)))) + (jROUND.getD i 0)) + (gx i)))), (6, .int (rdn f gx i 4)), (7, .int (rdn f gx i 5)), (8, .int (rdn f gx i 6)), (13, .int (((((us (rdn f gx i 0) (2 : Int32)) ||| (ls (rdn f gx i 0) (30 : Int32))) ^^^ ((us (rdn f gx i 0) (13 : Int32)) ||| (ls (rdn f gx i 0) (19 : Int32)))) ^^^ ((us (rdn f gx i 0) (22 : Int32)) ||| (ls (rdn f gx i 0) (10 : Int32)))) + ((((rdn f gx i 0) &&& (rdn f gx i 1)) ^^^ ((rdn f gx i 0) &&& (rdn f gx i 2))) ^^^ ((rdn f gx i 1) &&& (rdn f gx i 2))))), (12, .int ((((us (rdn f gx i 0) (2 : Int32)) ||| (ls (rdn f gx i 0) (30 : Int32))) ^^^ ((us (rdn f gx i 0) (13 : Int32)) ||| (ls (rdn f gx i 0) (19 : Int32)))) ^^^ ((us (rdn f gx i 0) (22 : Int32)) ||| (ls (rdn f gx i 0) (10 : Int32))))), (11, .int (((((rdn f gx i 7) + ((((us (rdn f gx i 4) (6 : Int32)) ||| (ls (rdn f gx i 4) (26 : Int32))) ^^^ ((us (rdn f gx i 4) (11 : Int32)) ||| (ls (rdn f gx i 4) (21 : Int32)))) ^^^ ((us (rdn f gx i 4) (25 : Int32)) ||| (ls (rdn f gx i 4) (7 : Int32))))) + (((rdn f gx i 4) &&& (rdn f gx i 5)) ^^^ (((rdn f gx i 4) ^^^ (-1 : Int32)) &&& (rdn f gx i 6)))) + (jROUND.getD i 0)) + (gx i))), (10, .int ((((us (rdn f gx i 4) (6 : Int32)) ||| (ls (rdn f gx i 4) (26 : Int32))) ^^^ ((us (rdn f gx i 4) (11 : Int32)) ||| (ls (rdn f gx i 4) (21 : Int32)))) ^^^ ((us (rdn f gx i 4) (25 : Int32)) ||| (ls (rdn f gx i 4) (7 : Int32))))), (0, .ref sh)]) hE dX9_stir_340 12 rfl (nI_1 _) (by decide) rfl ?_
      refine jr_goto (tgt := 182) hE dX9_stir_343 (by decide) ?_
      refine jr_lv (lv' := [(9, .int (nI (i + 1))), (1, .int ((((((rdn f gx i 7) + ((((us (rdn f gx i 4) (6 : Int32)) ||| (ls (rdn f gx i 4) (26 : Int32))) ^^^ ((us (rdn f gx i 4) (11 : Int32)) ||| (ls (rdn f gx i 4) (21 : Int32)))) ^^^ ((us (rdn f gx i 4) (25 : Int32)) ||| (ls (rdn f gx i 4) (7 : Int32))))) + (((rdn f gx i 4) &&& (rdn f gx i 5)) ^^^ (((rdn f gx i 4) ^^^ (-1 : Int32)) &&& (rdn f gx i 6)))) + (jROUND.getD i 0)) + (gx i)) + (((((us (rdn f gx i 0) (2 : Int32)) ||| (ls (rdn f gx i 0) (30 : Int32))) ^^^ ((us (rdn f gx i 0) (13 : Int32)) ||| (ls (rdn f gx i 0) (19 : Int32)))) ^^^ ((us (rdn f gx i 0) (22 : Int32)) ||| (ls (rdn f gx i 0) (10 : Int32)))) + ((((rdn f gx i 0) &&& (rdn f gx i 1)) ^^^ ((rdn f gx i 0) &&& (rdn f gx i 2))) ^^^ ((rdn f gx i 1) &&& (rdn f gx i 2)))))), (2, .int (rdn f gx i 0)), (3, .int (rdn f gx i 1)), (4, .int (rdn f gx i 2)), (5, .int ((rdn f gx i 3) + (((((rdn f gx i 7) + ((((us (rdn f gx i 4) (6 : Int32)) ||| (ls (rdn f gx i 4) (26 : Int32))) ^^^ ((us (rdn f gx i 4) (11 : Int32)) ||| (ls (rdn f gx i 4) (21 : Int32)))) ^^^ ((us (rdn f gx i 4) (25 : Int32)) ||| (ls (rdn f gx i 4) (7 : Int32))))) + (((rdn f gx i 4) &&& (rdn f gx i 5)) ^^^ (((rdn f gx i 4) ^^^ (-1 : Int32)) &&& (rdn f gx i 6)))) + (jROUND.getD i 0)) + (gx i)))), (6, .int (rdn f gx i 4)), (7, .int (rdn f gx i 5)), (8, .int (rdn f gx i 6)), (0, .ref sh)]) [0, 1, 2, 3, 4, 5, 6, 7, 8, 13] rfl ?_
      exact ih (i + 1) F2 (by omega) h0 h1 h2 hfr
  have loop1 : ∀ (r0 n : Nat) (F2 : Nat → va_E), n + r0 = 48 → jF L F2 sh (.inr (9, [.ref st, .ref wd, .ref td, .long (lN tk)])) → jF L F2 st (.inl (G 1, 8, .inl f)) → jF L F2 wd (.inl (G 1, 64, .inl (wxt g n))) → (∀ z, z ∉ [st, wd] → F2 z = F z) → J E L F2 0 0 3 [(1, .int (nI (16 + n))), (0, .ref sh)] [] := by
    intro r0
    induction r0 with
    | zero =>
      intro n F2 hir h0 h1 h2 hfr
      refine jr_iload_n hE dX9_stir_3 0 rfl ?_
      refine jr_bipush (v := (64 : Int32)) hE dX9_stir_4 (by decide) ?_
      refine jr_icmp_ge (tgt := 116) hE dX9_stir_6 (by decide) (fun c_6 => ?_) (fun c_6 => absurd (nI_le (a := 64) (by omega) (by omega)) c_6)
      refine jr_aload_n hE dX9_stir_116 1 rfl ?_
      refine jr_get hE dX9_stir_117 f7 h0 rfl ?_
      refine jr_iconst (v := (0 : Int32)) hE dX9_stir_120 (by decide) ?_
      refine jr_iald (v := f 0) hE dX9_stir_121 h1 (vp_in_nI (n := 0) (by decide) (by decide)) rfl ?_
      refine jr_istore_n (lv' := [(1, .int (f 0)), (0, .ref sh)]) hE dX9_stir_122 (by decide) rfl ?_
      refine jr_aload_n hE dX9_stir_123 1 rfl ?_
      refine jr_get hE dX9_stir_124 f7 h0 rfl ?_
      refine jr_iconst (v := (1 : Int32)) hE dX9_stir_127 (by decide) ?_
      refine jr_iald (v := f 1) hE dX9_stir_128 h1 (vp_in_nI (n := 1) (by decide) (by decide)) rfl ?_
      refine jr_istore_n (lv' := [(2, .int (f 1)), (1, .int (f 0)), (0, .ref sh)]) hE dX9_stir_129 (by decide) rfl ?_
      refine jr_aload_n hE dX9_stir_130 2 rfl ?_
      refine jr_get hE dX9_stir_131 f7 h0 rfl ?_
      refine jr_iconst (v := (2 : Int32)) hE dX9_stir_134 (by decide) ?_
      refine jr_iald (v := f 2) hE dX9_stir_135 h1 (vp_in_nI (n := 2) (by decide) (by decide)) rfl ?_
      refine jr_istore_n (lv' := [(3, .int (f 2)), (2, .int (f 1)), (1, .int (f 0)), (0, .ref sh)]) hE dX9_stir_136 (by decide) rfl ?_
      refine jr_aload_n hE dX9_stir_137 3 rfl ?_
      refine jr_get hE dX9_stir_138 f7 h0 rfl ?_
      refine jr_iconst (v := (3 : Int32)) hE dX9_stir_141 (by decide) ?_
      refine jr_iald (v := f 3) hE dX9_stir_142 h1 (vp_in_nI (n := 3) (by decide) (by decide)) rfl ?_
      refine jr_istore (lv' := [(4, .int (f 3)), (3, .int (f 2)), (2, .int (f 1)), (1, .int (f 0)), (0, .ref sh)]) hE dX9_stir_143 (by decide) rfl ?_
      refine jr_aload_n hE dX9_stir_145 4 rfl ?_
      refine jr_get hE dX9_stir_146 f7 h0 rfl ?_
      refine jr_iconst (v := (4 : Int32)) hE dX9_stir_149 (by decide) ?_
      refine jr_iald (v := f 4) hE dX9_stir_150 h1 (vp_in_nI (n := 4) (by decide) (by decide)) rfl ?_
      refine jr_istore (lv' := [(5, .int (f 4)), (4, .int (f 3)), (3, .int (f 2)), (2, .int (f 1)), (1, .int (f 0)), (0, .ref sh)]) hE dX9_stir_151 (by decide) rfl ?_
      refine jr_aload_n hE dX9_stir_153 5 rfl ?_
      refine jr_get hE dX9_stir_154 f7 h0 rfl ?_
      refine jr_iconst (v := (5 : Int32)) hE dX9_stir_157 (by decide) ?_
      refine jr_iald (v := f 5) hE dX9_stir_158 h1 (vp_in_nI (n := 5) (by decide) (by decide)) rfl ?_
      refine jr_istore (lv' := [(6, .int (f 5)), (5, .int (f 4)), (4, .int (f 3)), (3, .int (f 2)), (2, .int (f 1)), (1, .int (f 0)), (0, .ref sh)]) hE dX9_stir_159 (by decide) rfl ?_
      refine jr_aload_n hE dX9_stir_161 6 rfl ?_
      refine jr_get hE dX9_stir_162 f7 h0 rfl ?_
      refine jr_bipush (v := (6 : Int32)) hE dX9_stir_165 (by decide) ?_
      refine jr_iald (v := f 6) hE dX9_stir_167 h1 (vp_in_nI (n := 6) (by decide) (by decide)) rfl ?_
      refine jr_istore (lv' := [(7, .int (f 6)), (6, .int (f 5)), (5, .int (f 4)), (4, .int (f 3)), (3, .int (f 2)), (2, .int (f 1)), (1, .int (f 0)), (0, .ref sh)]) hE dX9_stir_168 (by decide) rfl ?_
      refine jr_aload_n hE dX9_stir_170 7 rfl ?_
      refine jr_get hE dX9_stir_171 f7 h0 rfl ?_
      refine jr_bipush (v := (7 : Int32)) hE dX9_stir_174 (by decide) ?_
      refine jr_iald (v := f 7) hE dX9_stir_176 h1 (vp_in_nI (n := 7) (by decide) (by decide)) rfl ?_
      refine jr_istore (lv' := [(8, .int (f 7)), (7, .int (f 6)), (6, .int (f 5)), (5, .int (f 4)), (4, .int (f 3)), (3, .int (f 2)), (2, .int (f 1)), (1, .int (f 0)), (0, .ref sh)]) hE dX9_stir_177 (by decide) rfl ?_
      refine jr_iconst (v := (0 : Int32)) hE dX9_stir_179 (by decide) ?_
      refine jr_istore (lv' := [(9, .int (0 : Int32)), (8, .int (f 7)), (7, .int (f 6)), (6, .int (f 5)), (5, .int (f 4)), (4, .int (f 3)), (3, .int (f 2)), (2, .int (f 1)), (1, .int (f 0)), (0, .ref sh)]) hE dX9_stir_180 (by decide) rfl ?_
      have hn : n = 48 := by omega
      subst hn
      refine jr_lv (lv' := [(9, .int (0 : Int32)), (1, .int (f 0)), (2, .int (f 1)), (3, .int (f 2)), (4, .int (f 3)), (5, .int (f 4)), (6, .int (f 5)), (7, .int (f 6)), (8, .int (f 7)), (0, .ref sh)]) [0, 8, 7, 6, 5, 4, 3, 2, 1, 9] rfl ?_
      rw [← hgx] at h2
      exact loop2 64 0 F2 rfl h0 h1 h2 hfr
    | succ r0 ih =>
      intro n F2 hir h0 h1 h2 hfr
      refine jr_iload_n hE dX9_stir_3 0 rfl ?_
      refine jr_bipush (v := (64 : Int32)) hE dX9_stir_4 (by decide) ?_
      refine jr_icmp_ge (tgt := 116) hE dX9_stir_6 (by decide) (fun c_6 => absurd c_6 (nI_ge (b := 64) (by omega) (by decide))) (fun c_6 => ?_)
      refine jr_aload_n hE dX9_stir_9 1 rfl ?_
      refine jr_get hE dX9_stir_10 f13 h0 rfl ?_
      refine jr_iload_n hE dX9_stir_13 0 rfl ?_
      refine jr_bipush (v := (15 : Int32)) hE dX9_stir_14 (by decide) ?_
      refine jr_isub (z := nI (n + 1)) hE dX9_stir_16 ((pk_sub (a := 16 + n) (b := 15) (by omega)).trans (by congr 1; omega)) ?_
      refine jr_iald (v := wxt g n (n + 1)) hE dX9_stir_17 h2 (vp_in_nI (by omega) (by decide)) (by rw [nI_clamp (by omega)]) ?_
      refine jr_istore_n (lv' := [(2, .int (wxt g n (n + 1))), (1, .int (nI (16 + n))), (0, .ref sh)]) hE dX9_stir_18 (by decide) rfl ?_
      refine jr_aload_n hE dX9_stir_19 2 rfl ?_
      refine jr_get hE dX9_stir_20 f13 h0 rfl ?_
      refine jr_iload_n hE dX9_stir_23 1 rfl ?_
      refine jr_iconst (v := (2 : Int32)) hE dX9_stir_24 (by decide) ?_
      refine jr_isub (z := nI (n + 14)) hE dX9_stir_25 ((pk_sub (a := 16 + n) (b := 2) (by omega)).trans (by congr 1; omega)) ?_
      refine jr_iald (v := wxt g n (n + 14)) hE dX9_stir_26 h2 (vp_in_nI (by omega) (by decide)) (by rw [nI_clamp (by omega)]) ?_
      refine jr_istore_n (lv' := [(3, .int (wxt g n (n + 14))), (2, .int (wxt g n (n + 1))), (1, .int (nI (16 + n))), (0, .ref sh)]) hE dX9_stir_27 (by decide) rfl ?_
      refine jr_iload_n hE dX9_stir_28 1 rfl ?_
      refine jr_bipush (v := (7 : Int32)) hE dX9_stir_29 (by decide) ?_
      refine jr_iushr (z := us (wxt g n (n + 1)) (7 : Int32)) hE dX9_stir_31 rfl ?_
      refine jr_iload_n hE dX9_stir_32 1 rfl ?_
      refine jr_bipush (v := (25 : Int32)) hE dX9_stir_33 (by decide) ?_
      refine jr_ishl (z := ls (wxt g n (n + 1)) (25 : Int32)) hE dX9_stir_35 rfl ?_
      refine jr_ior hE dX9_stir_36 rfl ?_
      refine jr_iload_n hE dX9_stir_37 1 rfl ?_
      refine jr_bipush (v := (18 : Int32)) hE dX9_stir_38 (by decide) ?_
      refine jr_iushr (z := us (wxt g n (n + 1)) (18 : Int32)) hE dX9_stir_40 rfl ?_
      refine jr_iload_n hE dX9_stir_41 1 rfl ?_
      refine jr_bipush (v := (14 : Int32)) hE dX9_stir_42 (by decide) ?_
      refine jr_ishl (z := ls (wxt g n (n + 1)) (14 : Int32)) hE dX9_stir_44 rfl ?_
      refine jr_ior hE dX9_stir_45 rfl ?_
      refine jr_ixor hE dX9_stir_46 rfl ?_
      refine jr_iload_n hE dX9_stir_47 1 rfl ?_
      refine jr_iconst (v := (3 : Int32)) hE dX9_stir_48 (by decide) ?_
      refine jr_iushr (z := us (wxt g n (n + 1)) (3 : Int32)) hE dX9_stir_49 rfl ?_
      refine jr_ixor hE dX9_stir_50 rfl ?_
      refine jr_istore (lv' := [(4, .int ((((us (wxt g n (n + 1)) (7 : Int32)) ||| (ls (wxt g n (n + 1)) (25 : Int32))) ^^^ ((us (wxt g n (n + 1)) (18 : Int32)) ||| (ls (wxt g n (n + 1)) (14 : Int32)))) ^^^ (us (wxt g n (n + 1)) (3 : Int32)))), (3, .int (wxt g n (n + 14))), (2, .int (wxt g n (n + 1))), (1, .int (nI (16 + n))), (0, .ref sh)]) hE dX9_stir_51 (by decide) rfl ?_
      refine jr_iload_n hE dX9_stir_53 1 rfl ?_
      refine jr_bipush (v := (17 : Int32)) hE dX9_stir_54 (by decide) ?_
      refine jr_iushr (z := us (wxt g n (n + 14)) (17 : Int32)) hE dX9_stir_56 rfl ?_
      refine jr_iload_n hE dX9_stir_57 1 rfl ?_
      refine jr_bipush (v := (15 : Int32)) hE dX9_stir_58 (by decide) ?_
      refine jr_ishl (z := ls (wxt g n (n + 14)) (15 : Int32)) hE dX9_stir_60 rfl ?_
      refine jr_ior hE dX9_stir_61 rfl ?_
      refine jr_iload_n hE dX9_stir_62 1 rfl ?_
      refine jr_bipush (v := (19 : Int32)) hE dX9_stir_63 (by decide) ?_
      refine jr_iushr (z := us (wxt g n (n + 14)) (19 : Int32)) hE dX9_stir_65 rfl ?_
      refine jr_iload_n hE dX9_stir_66 1 rfl ?_
      refine jr_bipush (v := (13 : Int32)) hE dX9_stir_67 (by decide) ?_
      refine jr_ishl (z := ls (wxt g n (n + 14)) (13 : Int32)) hE dX9_stir_69 rfl ?_
      refine jr_ior hE dX9_stir_70 rfl ?_
      refine jr_ixor hE dX9_stir_71 rfl ?_
      refine jr_iload_n hE dX9_stir_72 1 rfl ?_
      refine jr_bipush (v := (10 : Int32)) hE dX9_stir_73 (by decide) ?_
      refine jr_iushr (z := us (wxt g n (n + 14)) (10 : Int32)) hE dX9_stir_75 rfl ?_
      refine jr_ixor hE dX9_stir_76 rfl ?_
      refine jr_istore (lv' := [(5, .int ((((us (wxt g n (n + 14)) (17 : Int32)) ||| (ls (wxt g n (n + 14)) (15 : Int32))) ^^^ ((us (wxt g n (n + 14)) (19 : Int32)) ||| (ls (wxt g n (n + 14)) (13 : Int32)))) ^^^ (us (wxt g n (n + 14)) (10 : Int32)))), (4, .int ((((us (wxt g n (n + 1)) (7 : Int32)) ||| (ls (wxt g n (n + 1)) (25 : Int32))) ^^^ ((us (wxt g n (n + 1)) (18 : Int32)) ||| (ls (wxt g n (n + 1)) (14 : Int32)))) ^^^ (us (wxt g n (n + 1)) (3 : Int32)))), (3, .int (wxt g n (n + 14))), (2, .int (wxt g n (n + 1))), (1, .int (nI (16 + n))), (0, .ref sh)]) hE dX9_stir_77 (by decide) rfl ?_
      refine jr_aload_n hE dX9_stir_79 5 rfl ?_
      refine jr_get hE dX9_stir_80 f13 h0 rfl ?_
      refine jr_iload_n hE dX9_stir_83 4 rfl ?_
      refine jr_aload_n hE dX9_stir_84 5 rfl ?_
      refine jr_get hE dX9_stir_85 f13 h0 rfl ?_
      refine jr_iload_n hE dX9_stir_88 4 rfl ?_
      refine jr_bipush (v := (16 : Int32)) hE dX9_stir_89 (by decide) ?_
      refine jr_isub (z := nI (n)) hE dX9_stir_91 ((pk_sub (a := 16 + n) (b := 16) (by omega)).trans (by congr 1; omega)) ?_
      refine jr_iald (v := wxt g n n) hE dX9_stir_92 h2 (vp_in_nI (by omega) (by decide)) (by rw [nI_clamp (by omega)]) ?_
      refine jr_iload hE dX9_stir_93 1 rfl ?_
      refine jr_iadd hE dX9_stir_95 rfl ?_
      refine jr_aload_n hE dX9_stir_96 5 rfl ?_
      refine jr_get hE dX9_stir_97 f13 h0 rfl ?_
      refine jr_iload_n hE dX9_stir_100 4 rfl ?_
      refine jr_bipush (v := (7 : Int32)) hE dX9_stir_101 (by decide) ?_
      refine jr_isub (z := nI (n + 9)) hE dX9_stir_103 ((pk_sub (a := 16 + n) (b := 7) (by omega)).trans (by congr 1; omega)) ?_
      refine jr_iald (v := wxt g n (n + 9)) hE dX9_stir_104 h2 (vp_in_nI (by omega) (by decide)) (by rw [nI_clamp (by omega)]) ?_
      refine jr_iadd hE dX9_stir_105 rfl ?_
      refine jr_iload hE dX9_stir_106 0 rfl ?_
      refine jr_iadd hE dX9_stir_108 rfl ?_
      refine jr_iast hE dX9_stir_109 h2 (vp_in_nI (by omega) (by decide)) (fun F1 g2 u3 => ?_)
      have g4 : jF L F1 wd (.inl (G 1, 64, .inl (wxt g (n + 1)))) := by rw [nI_clamp (by omega)] at g2; exact g2
      have g5 := h0.upk u3 h2 (Nat.ne_of_beq_eq_false rfl)
      have g6 := h1.up u3 (jn2 hnd 1 2 rfl rfl (by decide))
      refine jr_iinc (v := nI (16 + (n + 1))) (lv' := [(1, .int (nI (16 + (n + 1)))), (5, .int ((((us (wxt g n (n + 14)) (17 : Int32)) ||| (ls (wxt g n (n + 14)) (15 : Int32))) ^^^ ((us (wxt g n (n + 14)) (19 : Int32)) ||| (ls (wxt g n (n + 14)) (13 : Int32)))) ^^^ (us (wxt g n (n + 14)) (10 : Int32)))), (4, .int ((((us (wxt g n (n + 1)) (7 : Int32)) ||| (ls (wxt g n (n + 1)) (25 : Int32))) ^^^ ((us (wxt g n (n + 1)) (18 : Int32)) ||| (ls (wxt g n (n + 1)) (14 : Int32)))) ^^^ (us (wxt g n (n + 1)) (3 : Int32)))), (3, .int (wxt g n (n + 14))), (2, .int (wxt g n (n + 1))), (0, .ref sh)]) hE dX9_stir_110 4 rfl (nI_1 _) (by decide) rfl ?_
      refine jr_goto (tgt := 3) hE dX9_stir_113 (by decide) ?_
      refine jr_lv (lv' := [(1, .int (nI (16 + (n + 1)))), (0, .ref sh)]) [0, 5] rfl ?_
      exact ih (n + 1) F1 (by omega) g5 g6 g4 (fun z hz => (u3 z (jne hz 1 rfl)).trans (hfr z hz))
  refine jr_bipush (v := (16 : Int32)) hE dX9_stir_0 (by decide) ?_
  refine jr_istore_n (lv' := [(1, .int (16 : Int32)), (0, .ref sh)]) hE dX9_stir_2 (by decide) rfl ?_
  exact loop1 48 0 F rfl h0 h1 h2 (fun _ _ => rfl)

