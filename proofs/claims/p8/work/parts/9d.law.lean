/-! THE LAW: both worlds in one pool, one case of the script after another -/
theorem mI.kp {G : Nat → ClassId} {L : List Nat} {F F1 : Nat → va_E} {o : Nat} {a : Nat → Nat} {v : Nat → Int32} {n : Nat → Option Nat} {g : Nat → Nat → Int64} {w : Nat → Nat → Int32} {s : ST} (h : mI G L F o a v n g w s) (e0 : F1 o = F o) (e : ∀ k, k < 81 → mkd k ≠ 0 → F1 (a k) = F (a k)) : mI G L F1 o a v n g w s := by
  obtain ⟨⟨z, ⟨r1, r2, r3, r4, r5⟩, h2, h3⟩, h4⟩ := h
  exact ⟨⟨z, ⟨r1.fr e0, fun k hk hd => (r2 k hk hd).fr (e k hk (by rw [hd]; decide)), fun k hk hd => (r3 k hk hd).fr (e k hk (by rw [hd]; decide)), fun k hk hd => (r4 k hk hd).fr (e k hk (by rw [hd]; decide)), r5⟩, h2, h3⟩, h4⟩
theorem cI.kp {G : Nat → ClassId} {L : List Nat} {F F1 : Nat → va_E} {c : Nat → Nat} {B : Nat → List Nat} {S : Nat → Nat} {P : Nat → JP} {q : SS} {X : Nat} {v : Nat → Int32} {s : ST} (h : cI G L F c B S P q X v s) (e : ∀ i, i < 370 → F1 (c i) = F (c i)) : cI G L F1 c B S P q X v s := by
  obtain ⟨⟨w1, w2, w3, w4, w5, w6, w7, w8⟩, h2⟩ := h
  exact ⟨⟨w1, w2.fr (fun j hj _ => e j (by omega)), w3.fr (fun j hj => e j (by omega)), w4.fr (e 3 (by omega)) (e 4 (by omega)) (e 5 (by omega)), w5.fr (e 24 (by omega)), w6.fr (fun j _ hj => e j (by omega)), w7.fr (fun j _ hj => e j (by omega)), w8.fr (fun j _ hj => e j (by omega))⟩, h2⟩
def cIs (G : Nat → ClassId) (L : List Nat) (F : Nat → va_E) (c : Nat → Nat) (s : ST) : Prop := ∃ B S P q X v, cI G L F c B S P q X v s
def mIs (G : Nat → ClassId) (L : List Nat) (F : Nat → va_E) (o : Nat) (a : Nat → Nat) (s : ST) : Prop := ∃ v n g w, mI G L F o a v n g w s
/-- the two worlds share no cell -/
def two (c : Nat → Nat) (o : Nat) (a : Nat → Nat) : Prop := ∀ i, i < 370 → c i ≠ o ∧ ∀ k, k < 81 → mkd k ≠ 0 → c i ≠ a k
theorem mIs.kp {G : Nat → ClassId} {L : List Nat} {F F1 : Nat → va_E} {c : Nat → Nat} {o : Nat} {a : Nat → Nat} {s : ST} (h : mIs G L F o a s) (ht : two c o a) (hO : cO c F F1) : mIs G L F1 o a s := by
  obtain ⟨v, n, g, w, h⟩ := h
  exact ⟨v, n, g, w, h.kp (hO o (fun i hi e => (ht i hi).1 e.symm)) (fun k hk hd => hO (a k) (fun i hi e => (ht i hi).2 k hk hd e.symm))⟩
theorem cIs.kp {G : Nat → ClassId} {L : List Nat} {F F1 : Nat → va_E} {c : Nat → Nat} {o : Nat} {a : Nat → Nat} {s : ST} (h : cIs G L F c s) (ht : two c o a) (hO : mO o a F F1) : cIs G L F1 c s := by
  obtain ⟨B, S, P, q, X, v, h⟩ := h
  exact ⟨B, S, P, q, X, v, h.kp (fun i hi => hO (c i) (ht i hi).1 (fun k hk hd => (ht i hi).2 k hk hd))⟩
def jScr (E : jE) (b N : Nat) (xs : Nat → Int32) : Prop :=
  match E with
  | (p, l, e, R, s, m, args, below, meth, c, Q, D, A, nL) => va_X b N xs s s.heap ∧ b < s.heap.size ∧ ¬ A b
theorem jr_sld {E : jE} {G : Nat → ClassId} {rm : Room} {cc : ByteArray} {nL cs ss pc : Nat} {own : String} {Ts : List Cond} {L : List Nat} {F : Nat → va_E} {lv : List (Nat × Value)} {rest : List Value} {b N : Nat} {xs : Nat → Int32} {i v : Int32} (hE : jOk E G rm cc nL own Ts) (hX : jScr E b N xs) (hdg : decode cc pc = .ok (.iaload, 1)) (hin : vp_in i N) (hv : xs i.toNatClampNeg = v) (k : J E L F cs ss (pc + 1) lv (.int v :: rest)) : J E L F cs ss pc lv (.int i :: .ref b :: rest) := by
  obtain ⟨p, l, e, R, s, m, args, below, meth, c, Q, D, A, nL0⟩ := E
  obtain ⟨rfl, rfl, hx, hb, hml, hown, hts, hK, hT, hA, hlk⟩ := hE
  obtain ⟨x1, x2, x3⟩ := hX
  subst hv
  exact fun H locs ls hP hD hS hl => va_sld hx hb x1 x2 x3 hS hin hdg (k H locs ls hP hD hS hl)
theorem jr_slen {E : jE} {G : Nat → ClassId} {rm : Room} {cc : ByteArray} {nL cs ss pc : Nat} {own : String} {Ts : List Cond} {L : List Nat} {F : Nat → va_E} {lv : List (Nat × Value)} {rest : List Value} {b N : Nat} {xs : Nat → Int32} (hE : jOk E G rm cc nL own Ts) (hX : jScr E b N xs) (hdg : decode cc pc = .ok (.arraylength, 1)) (k : J E L F cs ss (pc + 1) lv (.int (nI N) :: rest)) : J E L F cs ss pc lv (.ref b :: rest) := by
  obtain ⟨p, l, e, R, s, m, args, below, meth, c, Q, D, A, nL0⟩ := E
  obtain ⟨rfl, rfl, hx, hb, hml, hown, hts, hK, hT, hA, hlk⟩ := hE
  obtain ⟨x1, x2, x3⟩ := hX
  exact fun H locs ls hP hD hS hl => va_slen hx hb x1 x2 x3 hS hdg (k H locs ls hP hD hS hl)
theorem stHash_1 (s t : ST) (r x q : Int32) : (stHash s r x q).1 = (stHash t r x q).1 := by
  unfold stHash
  by_cases h : rowP r ∧ (-1 ≤ x.toInt ∧ x.toInt ≤ 7) ∧ rowP q
  · first | (simp only [if_pos h]) | (rw [if_pos h, if_pos h]) | simp [h]
  · first | (simp only [if_neg h]) | (rw [if_neg h, if_neg h]) | simp [h]
set_option maxHeartbeats 4000000 in
set_option maxRecDepth 100000 in
theorem lc_put {E : jE} {G : Nat → ClassId} {L : List Nat} {F : Nat → va_E} {c : Nat → Nat} {o : Nat} {a : Nat → Nat} {s t : ST} {b N i : Nat} {xs : Nat → Int32} (hE : jOk E G room_1 cL_law 4 RL wsL_law) (hX : jScr E b N xs) (hi : i + 6 ≤ N) (hN : N ≤ 3072) (ht : two c o a) (hc : cIs G L F c s) (hm : mIs G L F o a t) (kk : ∀ F1 s1 t1, cIs G L F1 c s1 → mIs G L F1 o a t1 → J E L F1 431 10207 1009 [(3, .int (nI i)), (2, .ref o), (1, .ref (c 0)), (0, .ref b)] []) : J E L F 431 10207 140 [(3, .int (nI i)), (2, .ref o), (1, .ref (c 0)), (0, .ref b)] [] := by
  refine jr_aload_n hE dL_law_140 2 rfl ?_
  refine jr_aload_n hE dL_law_141 3 rfl ?_
  refine jr_iload_n hE dL_law_142 0 rfl ?_
  refine jr_iconst (v := (1 : Int32)) hE dL_law_143 (by decide) ?_
  refine jr_iadd (z := nI (i + 1)) hE dL_law_144 (show nI i + (1 : Int32) = nI (i + 1) from nI_add i 1) ?_
  refine jr_sld (v := xs (i + 1)) hE hX dL_law_145 (nI_in (by omega) (by omega)) (by rw [nI_clamp (by omega)]) ?_
  refine jr_aload_n hE dL_law_146 3 rfl ?_
  refine jr_iload_n hE dL_law_147 0 rfl ?_
  refine jr_iconst (v := (2 : Int32)) hE dL_law_148 (by decide) ?_
  refine jr_iadd (z := nI (i + 2)) hE dL_law_149 (show nI i + (2 : Int32) = nI (i + 2) from nI_add i 2) ?_
  refine jr_sld (v := xs (i + 2)) hE hX dL_law_150 (nI_in (by omega) (by omega)) (by rw [nI_clamp (by omega)]) ?_
  refine jr_aload_n hE dL_law_151 3 rfl ?_
  refine jr_iload_n hE dL_law_152 0 rfl ?_
  refine jr_iconst (v := (3 : Int32)) hE dL_law_153 (by decide) ?_
  refine jr_iadd (z := nI (i + 3)) hE dL_law_154 (show nI i + (3 : Int32) = nI (i + 3) from nI_add i 3) ?_
  refine jr_sld (v := xs (i + 3)) hE hX dL_law_155 (nI_in (by omega) (by omega)) (by rw [nI_clamp (by omega)]) ?_
  refine jr_i2l hE dL_law_156 rfl ?_
  refine jr_bipush (v := (32 : Int32)) hE dL_law_157 (by decide) ?_
  refine jr_lshl hE dL_law_159 rfl ?_
  refine jr_aload_n hE dL_law_160 3 rfl ?_
  refine jr_iload_n hE dL_law_161 0 rfl ?_
  refine jr_iconst (v := (4 : Int32)) hE dL_law_162 (by decide) ?_
  refine jr_iadd (z := nI (i + 4)) hE dL_law_163 (show nI i + (4 : Int32) = nI (i + 4) from nI_add i 4) ?_
  refine jr_sld (v := xs (i + 4)) hE hX dL_law_164 (nI_in (by omega) (by omega)) (by rw [nI_clamp (by omega)]) ?_
  refine jr_i2l hE dL_law_165 rfl ?_
  refine jr_ldc2 (v := (4294967295 : Int64)) hE dL_law_166 (by decide +kernel) ?_
  refine jr_land hE dL_law_169 rfl ?_
  refine jr_lor hE dL_law_170 rfl ?_
  obtain ⟨B0, S0, P0, q0, X0, v0, hc0⟩ := hc
  refine jr_kVi (ci := 11) (n := 3) (As := [.int (xs (i + 1)), .int (xs (i + 2)), .long ((((xs (i + 3)).toInt64) <<< ((32 : Int32).toInt64 &&& 63)) ||| (((xs (i + 4)).toInt64) &&& (4294967295 : Int64)))]) (rest := []) hE dL_law_171 (fun l => c_c_put l G c B0 S0 P0 q0 X0 v0 s (xs (i + 1)) (xs (i + 2)) ((((xs (i + 3)).toInt64) <<< ((32 : Int32).toInt64 &&& 63)) ||| (((xs (i + 4)).toInt64) &&& (4294967295 : Int64)))) gL_law_X11_put rfl hc0.1.2.1.1 rfl ⟨rfl, by decide, by decide, by decide +kernel⟩ ⟨rfl, rfl, by decide, by decide⟩ ⟨by decide, by decide⟩ rfl rfl (Nat.le_of_ble_eq_true rfl) hc0 (fun r1 F1 p1 => ?_)
  obtain ⟨B1, S1, P1, q1, X1, v1, hc1, a1, O1⟩ := p1
  have hm := hm.kp ht O1
  have hc : cIs G L F1 c _ := ⟨_, _, _, _, _, _, hc1⟩
  refine jr_pop hE dL_law_174 rfl ?_
  refine jr_aload_n hE dL_law_175 1 rfl ?_
  refine jr_aload_n hE dL_law_176 3 rfl ?_
  refine jr_iload_n hE dL_law_177 0 rfl ?_
  refine jr_iconst (v := (1 : Int32)) hE dL_law_178 (by decide) ?_
  refine jr_iadd (z := nI (i + 1)) hE dL_law_179 (show nI i + (1 : Int32) = nI (i + 1) from nI_add i 1) ?_
  refine jr_sld (v := xs (i + 1)) hE hX dL_law_180 (nI_in (by omega) (by omega)) (by rw [nI_clamp (by omega)]) ?_
  refine jr_aload_n hE dL_law_181 3 rfl ?_
  refine jr_iload_n hE dL_law_182 0 rfl ?_
  refine jr_iconst (v := (2 : Int32)) hE dL_law_183 (by decide) ?_
  refine jr_iadd (z := nI (i + 2)) hE dL_law_184 (show nI i + (2 : Int32) = nI (i + 2) from nI_add i 2) ?_
  refine jr_sld (v := xs (i + 2)) hE hX dL_law_185 (nI_in (by omega) (by omega)) (by rw [nI_clamp (by omega)]) ?_
  refine jr_aload_n hE dL_law_186 3 rfl ?_
  refine jr_iload_n hE dL_law_187 0 rfl ?_
  refine jr_iconst (v := (3 : Int32)) hE dL_law_188 (by decide) ?_
  refine jr_iadd (z := nI (i + 3)) hE dL_law_189 (show nI i + (3 : Int32) = nI (i + 3) from nI_add i 3) ?_
  refine jr_sld (v := xs (i + 3)) hE hX dL_law_190 (nI_in (by omega) (by omega)) (by rw [nI_clamp (by omega)]) ?_
  refine jr_i2l hE dL_law_191 rfl ?_
  refine jr_bipush (v := (32 : Int32)) hE dL_law_192 (by decide) ?_
  refine jr_lshl hE dL_law_194 rfl ?_
  refine jr_aload_n hE dL_law_195 3 rfl ?_
  refine jr_iload_n hE dL_law_196 0 rfl ?_
  refine jr_iconst (v := (4 : Int32)) hE dL_law_197 (by decide) ?_
  refine jr_iadd (z := nI (i + 4)) hE dL_law_198 (show nI i + (4 : Int32) = nI (i + 4) from nI_add i 4) ?_
  refine jr_sld (v := xs (i + 4)) hE hX dL_law_199 (nI_in (by omega) (by omega)) (by rw [nI_clamp (by omega)]) ?_
  refine jr_i2l hE dL_law_200 rfl ?_
  refine jr_ldc2 (v := (4294967295 : Int64)) hE dL_law_201 (by decide +kernel) ?_
  refine jr_land hE dL_law_204 rfl ?_
  refine jr_lor hE dL_law_205 rfl ?_
  obtain ⟨v2, n2, g2, w2, hm0⟩ := hm
  refine jr_kVi (ci := 12) (n := 3) (As := [.int (xs (i + 1)), .int (xs (i + 2)), .long ((((xs (i + 3)).toInt64) <<< ((32 : Int32).toInt64 &&& 63)) ||| (((xs (i + 4)).toInt64) &&& (4294967295 : Int64)))]) (rest := []) hE dL_law_206 (fun l => c_m_put l G o a v2 n2 g2 w2 t (xs (i + 1)) (xs (i + 2)) ((((xs (i + 3)).toInt64) <<< ((32 : Int32).toInt64 &&& 63)) ||| (((xs (i + 4)).toInt64) &&& (4294967295 : Int64)))) gL_law_X12_put rfl hm0.1.choose_spec.1.1 rfl ⟨rfl, by decide, by decide, by decide +kernel⟩ ⟨rfl, rfl, by decide, by decide⟩ ⟨by decide, by decide⟩ rfl rfl (Nat.le_of_ble_eq_true rfl) hm0 (fun r2 F2 p2 => ?_)
  obtain ⟨v3, n3, g3, w3, hm1, a2, O2⟩ := p2
  have hc := hc.kp ht O2
  have hm : mIs G L F2 o a _ := ⟨_, _, _, _, hm1⟩
  refine jr_pop hE dL_law_209 rfl ?_
  refine jr_goto (tgt := 1009) hE dL_law_210 (by decide) ?_
  exact kk F2 _ _ hc hm
set_option maxHeartbeats 4000000 in
set_option maxRecDepth 100000 in
theorem lc_clear {E : jE} {G : Nat → ClassId} {L : List Nat} {F : Nat → va_E} {c : Nat → Nat} {o : Nat} {a : Nat → Nat} {s t : ST} {b N i : Nat} {xs : Nat → Int32} (hE : jOk E G room_1 cL_law 4 RL wsL_law) (hX : jScr E b N xs) (hi : i + 6 ≤ N) (hN : N ≤ 3072) (ht : two c o a) (hc : cIs G L F c s) (hm : mIs G L F o a t) (kk : ∀ F1 s1 t1, cIs G L F1 c s1 → mIs G L F1 o a t1 → J E L F1 431 10207 1009 [(3, .int (nI i)), (2, .ref o), (1, .ref (c 0)), (0, .ref b)] []) : J E L F 431 10207 213 [(3, .int (nI i)), (2, .ref o), (1, .ref (c 0)), (0, .ref b)] [] := by
  refine jr_aload_n hE dL_law_213 2 rfl ?_
  refine jr_aload_n hE dL_law_214 3 rfl ?_
  refine jr_iload_n hE dL_law_215 0 rfl ?_
  refine jr_iconst (v := (1 : Int32)) hE dL_law_216 (by decide) ?_
  refine jr_iadd (z := nI (i + 1)) hE dL_law_217 (show nI i + (1 : Int32) = nI (i + 1) from nI_add i 1) ?_
  refine jr_sld (v := xs (i + 1)) hE hX dL_law_218 (nI_in (by omega) (by omega)) (by rw [nI_clamp (by omega)]) ?_
  obtain ⟨B0, S0, P0, q0, X0, v0, hc0⟩ := hc
  refine jr_kVi (ci := 11) (n := 1) (As := [.int (xs (i + 1))]) (rest := []) hE dL_law_219 (fun l => c_c_clear l G c B0 S0 P0 q0 X0 v0 s (xs (i + 1))) gL_law_X11_clear rfl hc0.1.2.1.1 rfl ⟨rfl, by decide, by decide, by decide +kernel⟩ ⟨rfl, rfl, by decide, by decide⟩ ⟨by decide, by decide⟩ rfl rfl (Nat.le_of_ble_eq_true rfl) hc0 (fun r1 F1 p1 => ?_)
  obtain ⟨B1, S1, P1, q1, X1, v1, hc1, a1, O1⟩ := p1
  have hm := hm.kp ht O1
  have hc : cIs G L F1 c _ := ⟨_, _, _, _, _, _, hc1⟩
  refine jr_pop hE dL_law_222 rfl ?_
  refine jr_aload_n hE dL_law_223 1 rfl ?_
  refine jr_aload_n hE dL_law_224 3 rfl ?_
  refine jr_iload_n hE dL_law_225 0 rfl ?_
  refine jr_iconst (v := (1 : Int32)) hE dL_law_226 (by decide) ?_
  refine jr_iadd (z := nI (i + 1)) hE dL_law_227 (show nI i + (1 : Int32) = nI (i + 1) from nI_add i 1) ?_
  refine jr_sld (v := xs (i + 1)) hE hX dL_law_228 (nI_in (by omega) (by omega)) (by rw [nI_clamp (by omega)]) ?_
  obtain ⟨v2, n2, g2, w2, hm0⟩ := hm
  refine jr_kVi (ci := 12) (n := 1) (As := [.int (xs (i + 1))]) (rest := []) hE dL_law_229 (fun l => c_m_clear l G o a v2 n2 g2 w2 t (xs (i + 1))) gL_law_X12_clear rfl hm0.1.choose_spec.1.1 rfl ⟨rfl, by decide, by decide, by decide +kernel⟩ ⟨rfl, rfl, by decide, by decide⟩ ⟨by decide, by decide⟩ rfl rfl (Nat.le_of_ble_eq_true rfl) hm0 (fun r2 F2 p2 => ?_)
  obtain ⟨v3, n3, g3, w3, hm1, a2, O2⟩ := p2
  have hc := hc.kp ht O2
  have hm : mIs G L F2 o a _ := ⟨_, _, _, _, hm1⟩
  refine jr_pop hE dL_law_232 rfl ?_
  refine jr_goto (tgt := 1009) hE dL_law_233 (by decide) ?_
  exact kk F2 _ _ hc hm
set_option maxHeartbeats 4000000 in
set_option maxRecDepth 100000 in
theorem lc_at {E : jE} {G : Nat → ClassId} {L : List Nat} {F : Nat → va_E} {c : Nat → Nat} {o : Nat} {a : Nat → Nat} {s t : ST} {b N i : Nat} {xs : Nat → Int32} (hE : jOk E G room_1 cL_law 4 RL wsL_law) (hX : jScr E b N xs) (hi : i + 6 ≤ N) (hN : N ≤ 3072) (ht : two c o a) (hc : cIs G L F c s) (hm : mIs G L F o a t) (kk : ∀ F1 s1 t1, cIs G L F1 c s1 → mIs G L F1 o a t1 → J E L F1 431 10207 1009 [(3, .int (nI i)), (2, .ref o), (1, .ref (c 0)), (0, .ref b)] []) : J E L F 431 10207 236 [(3, .int (nI i)), (2, .ref o), (1, .ref (c 0)), (0, .ref b)] [] := by
  refine jr_aload_n hE dL_law_236 2 rfl ?_
  refine jr_aload_n hE dL_law_237 3 rfl ?_
  refine jr_iload_n hE dL_law_238 0 rfl ?_
  refine jr_iconst (v := (1 : Int32)) hE dL_law_239 (by decide) ?_
  refine jr_iadd (z := nI (i + 1)) hE dL_law_240 (show nI i + (1 : Int32) = nI (i + 1) from nI_add i 1) ?_
  refine jr_sld (v := xs (i + 1)) hE hX dL_law_241 (nI_in (by omega) (by omega)) (by rw [nI_clamp (by omega)]) ?_
  refine jr_aload_n hE dL_law_242 3 rfl ?_
  refine jr_iload_n hE dL_law_243 0 rfl ?_
  refine jr_iconst (v := (2 : Int32)) hE dL_law_244 (by decide) ?_
  refine jr_iadd (z := nI (i + 2)) hE dL_law_245 (show nI i + (2 : Int32) = nI (i + 2) from nI_add i 2) ?_
  refine jr_sld (v := xs (i + 2)) hE hX dL_law_246 (nI_in (by omega) (by omega)) (by rw [nI_clamp (by omega)]) ?_
  obtain ⟨B0, S0, P0, q0, X0, v0, hc0⟩ := hc
  refine jr_kVi (ci := 11) (n := 2) (As := [.int (xs (i + 1)), .int (xs (i + 2))]) (rest := []) hE dL_law_247 (fun l => c_c_at l G c B0 S0 P0 q0 X0 v0 s (xs (i + 1)) (xs (i + 2))) gL_law_X11_at rfl hc0.1.2.1.1 rfl ⟨rfl, by decide, by decide, by decide +kernel⟩ ⟨rfl, rfl, by decide, by decide⟩ ⟨by decide, by decide⟩ rfl rfl (Nat.le_of_ble_eq_true rfl) hc0 (fun r1 F1 p1 => ?_)
  obtain ⟨eF, a1⟩ := p1
  subst eF
  have hc : cIs G L F c s := ⟨_, _, _, _, _, _, hc0⟩
  refine jr_pop hE dL_law_250 rfl ?_
  refine jr_aload_n hE dL_law_251 1 rfl ?_
  refine jr_aload_n hE dL_law_252 3 rfl ?_
  refine jr_iload_n hE dL_law_253 0 rfl ?_
  refine jr_iconst (v := (1 : Int32)) hE dL_law_254 (by decide) ?_
  refine jr_iadd (z := nI (i + 1)) hE dL_law_255 (show nI i + (1 : Int32) = nI (i + 1) from nI_add i 1) ?_
  refine jr_sld (v := xs (i + 1)) hE hX dL_law_256 (nI_in (by omega) (by omega)) (by rw [nI_clamp (by omega)]) ?_
  refine jr_aload_n hE dL_law_257 3 rfl ?_
  refine jr_iload_n hE dL_law_258 0 rfl ?_
  refine jr_iconst (v := (2 : Int32)) hE dL_law_259 (by decide) ?_
  refine jr_iadd (z := nI (i + 2)) hE dL_law_260 (show nI i + (2 : Int32) = nI (i + 2) from nI_add i 2) ?_
  refine jr_sld (v := xs (i + 2)) hE hX dL_law_261 (nI_in (by omega) (by omega)) (by rw [nI_clamp (by omega)]) ?_
  obtain ⟨v2, n2, g2, w2, hm0⟩ := hm
  refine jr_kVi (ci := 12) (n := 2) (As := [.int (xs (i + 1)), .int (xs (i + 2))]) (rest := []) hE dL_law_262 (fun l => c_m_at l G o a v2 n2 g2 w2 t (xs (i + 1)) (xs (i + 2))) gL_law_X12_at rfl hm0.1.choose_spec.1.1 rfl ⟨rfl, by decide, by decide, by decide +kernel⟩ ⟨rfl, rfl, by decide, by decide⟩ ⟨by decide, by decide⟩ rfl rfl (Nat.le_of_ble_eq_true rfl) hm0 (fun r2 F2 p2 => ?_)
  obtain ⟨eF, a2⟩ := p2
  subst eF
  have hm : mIs G L F o a t := ⟨_, _, _, _, hm0⟩
  refine jr_pop hE dL_law_265 rfl ?_
  refine jr_goto (tgt := 1009) hE dL_law_266 (by decide) ?_
  exact kk F _ _ hc hm
set_option maxHeartbeats 4000000 in
set_option maxRecDepth 100000 in
theorem lc_bend {E : jE} {G : Nat → ClassId} {L : List Nat} {F : Nat → va_E} {c : Nat → Nat} {o : Nat} {a : Nat → Nat} {s t : ST} {b N i : Nat} {xs : Nat → Int32} (hE : jOk E G room_1 cL_law 4 RL wsL_law) (hX : jScr E b N xs) (hi : i + 6 ≤ N) (hN : N ≤ 3072) (ht : two c o a) (hc : cIs G L F c s) (hm : mIs G L F o a t) (kk : ∀ F1 s1 t1, cIs G L F1 c s1 → mIs G L F1 o a t1 → J E L F1 431 10207 1009 [(3, .int (nI i)), (2, .ref o), (1, .ref (c 0)), (0, .ref b)] []) : J E L F 431 10207 269 [(3, .int (nI i)), (2, .ref o), (1, .ref (c 0)), (0, .ref b)] [] := by
  refine jr_aload_n hE dL_law_269 2 rfl ?_
  refine jr_aload_n hE dL_law_270 3 rfl ?_
  refine jr_iload_n hE dL_law_271 0 rfl ?_
  refine jr_iconst (v := (1 : Int32)) hE dL_law_272 (by decide) ?_
  refine jr_iadd (z := nI (i + 1)) hE dL_law_273 (show nI i + (1 : Int32) = nI (i + 1) from nI_add i 1) ?_
  refine jr_sld (v := xs (i + 1)) hE hX dL_law_274 (nI_in (by omega) (by omega)) (by rw [nI_clamp (by omega)]) ?_
  refine jr_aload_n hE dL_law_275 3 rfl ?_
  refine jr_iload_n hE dL_law_276 0 rfl ?_
  refine jr_iconst (v := (2 : Int32)) hE dL_law_277 (by decide) ?_
  refine jr_iadd (z := nI (i + 2)) hE dL_law_278 (show nI i + (2 : Int32) = nI (i + 2) from nI_add i 2) ?_
  refine jr_sld (v := xs (i + 2)) hE hX dL_law_279 (nI_in (by omega) (by omega)) (by rw [nI_clamp (by omega)]) ?_
  refine jr_aload_n hE dL_law_280 3 rfl ?_
  refine jr_iload_n hE dL_law_281 0 rfl ?_
  refine jr_iconst (v := (3 : Int32)) hE dL_law_282 (by decide) ?_
  refine jr_iadd (z := nI (i + 3)) hE dL_law_283 (show nI i + (3 : Int32) = nI (i + 3) from nI_add i 3) ?_
  refine jr_sld (v := xs (i + 3)) hE hX dL_law_284 (nI_in (by omega) (by omega)) (by rw [nI_clamp (by omega)]) ?_
  obtain ⟨B0, S0, P0, q0, X0, v0, hc0⟩ := hc
  refine jr_kVi (ci := 11) (n := 3) (As := [.int (xs (i + 1)), .int (xs (i + 2)), .int (xs (i + 3))]) (rest := []) hE dL_law_285 (fun l => c_c_bend l G c B0 S0 P0 q0 X0 v0 s (xs (i + 1)) (xs (i + 2)) (xs (i + 3))) gL_law_X11_bend rfl hc0.1.2.1.1 rfl ⟨rfl, by decide, by decide, by decide +kernel⟩ ⟨rfl, rfl, by decide, by decide⟩ ⟨by decide, by decide⟩ rfl rfl (Nat.le_of_ble_eq_true rfl) hc0 (fun r1 F1 p1 => ?_)
  obtain ⟨B1, S1, P1, q1, X1, v1, hc1, a1, O1⟩ := p1
  have hm := hm.kp ht O1
  have hc : cIs G L F1 c _ := ⟨_, _, _, _, _, _, hc1⟩
  refine jr_pop hE dL_law_288 rfl ?_
  refine jr_aload_n hE dL_law_289 1 rfl ?_
  refine jr_aload_n hE dL_law_290 3 rfl ?_
  refine jr_iload_n hE dL_law_291 0 rfl ?_
  refine jr_iconst (v := (1 : Int32)) hE dL_law_292 (by decide) ?_
  refine jr_iadd (z := nI (i + 1)) hE dL_law_293 (show nI i + (1 : Int32) = nI (i + 1) from nI_add i 1) ?_
  refine jr_sld (v := xs (i + 1)) hE hX dL_law_294 (nI_in (by omega) (by omega)) (by rw [nI_clamp (by omega)]) ?_
  refine jr_aload_n hE dL_law_295 3 rfl ?_
  refine jr_iload_n hE dL_law_296 0 rfl ?_
  refine jr_iconst (v := (2 : Int32)) hE dL_law_297 (by decide) ?_
  refine jr_iadd (z := nI (i + 2)) hE dL_law_298 (show nI i + (2 : Int32) = nI (i + 2) from nI_add i 2) ?_
  refine jr_sld (v := xs (i + 2)) hE hX dL_law_299 (nI_in (by omega) (by omega)) (by rw [nI_clamp (by omega)]) ?_
  refine jr_aload_n hE dL_law_300 3 rfl ?_
  refine jr_iload_n hE dL_law_301 0 rfl ?_
  refine jr_iconst (v := (3 : Int32)) hE dL_law_302 (by decide) ?_
  refine jr_iadd (z := nI (i + 3)) hE dL_law_303 (show nI i + (3 : Int32) = nI (i + 3) from nI_add i 3) ?_
  refine jr_sld (v := xs (i + 3)) hE hX dL_law_304 (nI_in (by omega) (by omega)) (by rw [nI_clamp (by omega)]) ?_
  obtain ⟨v2, n2, g2, w2, hm0⟩ := hm
  refine jr_kVi (ci := 12) (n := 3) (As := [.int (xs (i + 1)), .int (xs (i + 2)), .int (xs (i + 3))]) (rest := []) hE dL_law_305 (fun l => c_m_bend l G o a v2 n2 g2 w2 t (xs (i + 1)) (xs (i + 2)) (xs (i + 3))) gL_law_X12_bend rfl hm0.1.choose_spec.1.1 rfl ⟨rfl, by decide, by decide, by decide +kernel⟩ ⟨rfl, rfl, by decide, by decide⟩ ⟨by decide, by decide⟩ rfl rfl (Nat.le_of_ble_eq_true rfl) hm0 (fun r2 F2 p2 => ?_)
  obtain ⟨v3, n3, g3, w3, hm1, a2, O2⟩ := p2
  have hc := hc.kp ht O2
  have hm : mIs G L F2 o a _ := ⟨_, _, _, _, hm1⟩
  refine jr_pop hE dL_law_308 rfl ?_
  refine jr_goto (tgt := 1009) hE dL_law_309 (by decide) ?_
  exact kk F2 _ _ hc hm
set_option maxHeartbeats 4000000 in
set_option maxRecDepth 100000 in
theorem lc_copy {E : jE} {G : Nat → ClassId} {L : List Nat} {F : Nat → va_E} {c : Nat → Nat} {o : Nat} {a : Nat → Nat} {s t : ST} {b N i : Nat} {xs : Nat → Int32} (hE : jOk E G room_1 cL_law 4 RL wsL_law) (hX : jScr E b N xs) (hi : i + 6 ≤ N) (hN : N ≤ 3072) (ht : two c o a) (hc : cIs G L F c s) (hm : mIs G L F o a t) (kk : ∀ F1 s1 t1, cIs G L F1 c s1 → mIs G L F1 o a t1 → J E L F1 431 10207 1009 [(3, .int (nI i)), (2, .ref o), (1, .ref (c 0)), (0, .ref b)] []) : J E L F 431 10207 312 [(3, .int (nI i)), (2, .ref o), (1, .ref (c 0)), (0, .ref b)] [] := by
  refine jr_aload_n hE dL_law_312 2 rfl ?_
  refine jr_aload_n hE dL_law_313 3 rfl ?_
  refine jr_iload_n hE dL_law_314 0 rfl ?_
  refine jr_iconst (v := (1 : Int32)) hE dL_law_315 (by decide) ?_
  refine jr_iadd (z := nI (i + 1)) hE dL_law_316 (show nI i + (1 : Int32) = nI (i + 1) from nI_add i 1) ?_
  refine jr_sld (v := xs (i + 1)) hE hX dL_law_317 (nI_in (by omega) (by omega)) (by rw [nI_clamp (by omega)]) ?_
  refine jr_aload_n hE dL_law_318 3 rfl ?_
  refine jr_iload_n hE dL_law_319 0 rfl ?_
  refine jr_iconst (v := (2 : Int32)) hE dL_law_320 (by decide) ?_
  refine jr_iadd (z := nI (i + 2)) hE dL_law_321 (show nI i + (2 : Int32) = nI (i + 2) from nI_add i 2) ?_
  refine jr_sld (v := xs (i + 2)) hE hX dL_law_322 (nI_in (by omega) (by omega)) (by rw [nI_clamp (by omega)]) ?_
  refine jr_aload_n hE dL_law_323 3 rfl ?_
  refine jr_iload_n hE dL_law_324 0 rfl ?_
  refine jr_iconst (v := (3 : Int32)) hE dL_law_325 (by decide) ?_
  refine jr_iadd (z := nI (i + 3)) hE dL_law_326 (show nI i + (3 : Int32) = nI (i + 3) from nI_add i 3) ?_
  refine jr_sld (v := xs (i + 3)) hE hX dL_law_327 (nI_in (by omega) (by omega)) (by rw [nI_clamp (by omega)]) ?_
  obtain ⟨B0, S0, P0, q0, X0, v0, hc0⟩ := hc
  refine jr_kVi (ci := 11) (n := 3) (As := [.int (xs (i + 1)), .int (xs (i + 2)), .int (xs (i + 3))]) (rest := []) hE dL_law_328 (fun l => c_c_copy l G c B0 S0 P0 q0 X0 v0 s (xs (i + 1)) (xs (i + 2)) (xs (i + 3))) gL_law_X11_copy rfl hc0.1.2.1.1 rfl ⟨rfl, by decide, by decide, by decide +kernel⟩ ⟨rfl, rfl, by decide, by decide⟩ ⟨by decide, by decide⟩ rfl rfl (Nat.le_of_ble_eq_true rfl) hc0 (fun r1 F1 p1 => ?_)
  obtain ⟨B1, S1, P1, q1, X1, v1, hc1, a1, O1⟩ := p1
  have hm := hm.kp ht O1
  have hc : cIs G L F1 c _ := ⟨_, _, _, _, _, _, hc1⟩
  refine jr_pop hE dL_law_331 rfl ?_
  refine jr_aload_n hE dL_law_332 1 rfl ?_
  refine jr_aload_n hE dL_law_333 3 rfl ?_
  refine jr_iload_n hE dL_law_334 0 rfl ?_
  refine jr_iconst (v := (1 : Int32)) hE dL_law_335 (by decide) ?_
  refine jr_iadd (z := nI (i + 1)) hE dL_law_336 (show nI i + (1 : Int32) = nI (i + 1) from nI_add i 1) ?_
  refine jr_sld (v := xs (i + 1)) hE hX dL_law_337 (nI_in (by omega) (by omega)) (by rw [nI_clamp (by omega)]) ?_
  refine jr_aload_n hE dL_law_338 3 rfl ?_
  refine jr_iload_n hE dL_law_339 0 rfl ?_
  refine jr_iconst (v := (2 : Int32)) hE dL_law_340 (by decide) ?_
  refine jr_iadd (z := nI (i + 2)) hE dL_law_341 (show nI i + (2 : Int32) = nI (i + 2) from nI_add i 2) ?_
  refine jr_sld (v := xs (i + 2)) hE hX dL_law_342 (nI_in (by omega) (by omega)) (by rw [nI_clamp (by omega)]) ?_
  refine jr_aload_n hE dL_law_343 3 rfl ?_
  refine jr_iload_n hE dL_law_344 0 rfl ?_
  refine jr_iconst (v := (3 : Int32)) hE dL_law_345 (by decide) ?_
  refine jr_iadd (z := nI (i + 3)) hE dL_law_346 (show nI i + (3 : Int32) = nI (i + 3) from nI_add i 3) ?_
  refine jr_sld (v := xs (i + 3)) hE hX dL_law_347 (nI_in (by omega) (by omega)) (by rw [nI_clamp (by omega)]) ?_
  obtain ⟨v2, n2, g2, w2, hm0⟩ := hm
  refine jr_kVi (ci := 12) (n := 3) (As := [.int (xs (i + 1)), .int (xs (i + 2)), .int (xs (i + 3))]) (rest := []) hE dL_law_348 (fun l => c_m_copy l G o a v2 n2 g2 w2 t (xs (i + 1)) (xs (i + 2)) (xs (i + 3))) gL_law_X12_copy rfl hm0.1.choose_spec.1.1 rfl ⟨rfl, by decide, by decide, by decide +kernel⟩ ⟨rfl, rfl, by decide, by decide⟩ ⟨by decide, by decide⟩ rfl rfl (Nat.le_of_ble_eq_true rfl) hm0 (fun r2 F2 p2 => ?_)
  obtain ⟨v3, n3, g3, w3, hm1, a2, O2⟩ := p2
  have hc := hc.kp ht O2
  have hm : mIs G L F2 o a _ := ⟨_, _, _, _, hm1⟩
  refine jr_pop hE dL_law_351 rfl ?_
  refine jr_goto (tgt := 1009) hE dL_law_352 (by decide) ?_
  exact kk F2 _ _ hc hm
set_option maxHeartbeats 4000000 in
set_option maxRecDepth 100000 in
theorem lc_same {E : jE} {G : Nat → ClassId} {L : List Nat} {F : Nat → va_E} {c : Nat → Nat} {o : Nat} {a : Nat → Nat} {s t : ST} {b N i : Nat} {xs : Nat → Int32} (hE : jOk E G room_1 cL_law 4 RL wsL_law) (hX : jScr E b N xs) (hi : i + 6 ≤ N) (hN : N ≤ 3072) (ht : two c o a) (hc : cIs G L F c s) (hm : mIs G L F o a t) (kk : ∀ F1 s1 t1, cIs G L F1 c s1 → mIs G L F1 o a t1 → J E L F1 431 10207 1009 [(3, .int (nI i)), (2, .ref o), (1, .ref (c 0)), (0, .ref b)] []) : J E L F 431 10207 355 [(3, .int (nI i)), (2, .ref o), (1, .ref (c 0)), (0, .ref b)] [] := by
  refine jr_aload_n hE dL_law_355 2 rfl ?_
  refine jr_aload_n hE dL_law_356 3 rfl ?_
  refine jr_iload_n hE dL_law_357 0 rfl ?_
  refine jr_iconst (v := (1 : Int32)) hE dL_law_358 (by decide) ?_
  refine jr_iadd (z := nI (i + 1)) hE dL_law_359 (show nI i + (1 : Int32) = nI (i + 1) from nI_add i 1) ?_
  refine jr_sld (v := xs (i + 1)) hE hX dL_law_360 (nI_in (by omega) (by omega)) (by rw [nI_clamp (by omega)]) ?_
  refine jr_aload_n hE dL_law_361 3 rfl ?_
  refine jr_iload_n hE dL_law_362 0 rfl ?_
  refine jr_iconst (v := (2 : Int32)) hE dL_law_363 (by decide) ?_
  refine jr_iadd (z := nI (i + 2)) hE dL_law_364 (show nI i + (2 : Int32) = nI (i + 2) from nI_add i 2) ?_
  refine jr_sld (v := xs (i + 2)) hE hX dL_law_365 (nI_in (by omega) (by omega)) (by rw [nI_clamp (by omega)]) ?_
  obtain ⟨B0, S0, P0, q0, X0, v0, hc0⟩ := hc
  refine jr_kVi (ci := 11) (n := 2) (As := [.int (xs (i + 1)), .int (xs (i + 2))]) (rest := []) hE dL_law_366 (fun l => c_c_same l G c B0 S0 P0 q0 X0 v0 s (xs (i + 1)) (xs (i + 2))) gL_law_X11_same rfl hc0.1.2.1.1 rfl ⟨rfl, by decide, by decide, by decide +kernel⟩ ⟨rfl, rfl, by decide, by decide⟩ ⟨by decide, by decide⟩ rfl rfl (Nat.le_of_ble_eq_true rfl) hc0 (fun r1 F1 p1 => ?_)
  obtain ⟨eF, a1⟩ := p1
  subst eF
  have hc : cIs G L F c s := ⟨_, _, _, _, _, _, hc0⟩
  refine jr_pop hE dL_law_369 rfl ?_
  refine jr_aload_n hE dL_law_370 1 rfl ?_
  refine jr_aload_n hE dL_law_371 3 rfl ?_
  refine jr_iload_n hE dL_law_372 0 rfl ?_
  refine jr_iconst (v := (1 : Int32)) hE dL_law_373 (by decide) ?_
  refine jr_iadd (z := nI (i + 1)) hE dL_law_374 (show nI i + (1 : Int32) = nI (i + 1) from nI_add i 1) ?_
  refine jr_sld (v := xs (i + 1)) hE hX dL_law_375 (nI_in (by omega) (by omega)) (by rw [nI_clamp (by omega)]) ?_
  refine jr_aload_n hE dL_law_376 3 rfl ?_
  refine jr_iload_n hE dL_law_377 0 rfl ?_
  refine jr_iconst (v := (2 : Int32)) hE dL_law_378 (by decide) ?_
  refine jr_iadd (z := nI (i + 2)) hE dL_law_379 (show nI i + (2 : Int32) = nI (i + 2) from nI_add i 2) ?_
  refine jr_sld (v := xs (i + 2)) hE hX dL_law_380 (nI_in (by omega) (by omega)) (by rw [nI_clamp (by omega)]) ?_
  obtain ⟨v2, n2, g2, w2, hm0⟩ := hm
  refine jr_kVi (ci := 12) (n := 2) (As := [.int (xs (i + 1)), .int (xs (i + 2))]) (rest := []) hE dL_law_381 (fun l => c_m_same l G o a v2 n2 g2 w2 t (xs (i + 1)) (xs (i + 2))) gL_law_X12_same rfl hm0.1.choose_spec.1.1 rfl ⟨rfl, by decide, by decide, by decide +kernel⟩ ⟨rfl, rfl, by decide, by decide⟩ ⟨by decide, by decide⟩ rfl rfl (Nat.le_of_ble_eq_true rfl) hm0 (fun r2 F2 p2 => ?_)
  obtain ⟨eF, a2⟩ := p2
  subst eF
  have hm : mIs G L F o a t := ⟨_, _, _, _, hm0⟩
  refine jr_pop hE dL_law_384 rfl ?_
  refine jr_goto (tgt := 1009) hE dL_law_385 (by decide) ?_
  exact kk F _ _ hc hm
set_option maxHeartbeats 4000000 in
set_option maxRecDepth 100000 in
theorem lc_hash {E : jE} {G : Nat → ClassId} {L : List Nat} {F : Nat → va_E} {c : Nat → Nat} {o : Nat} {a : Nat → Nat} {s t : ST} {b N i : Nat} {xs : Nat → Int32} (hE : jOk E G room_1 cL_law 4 RL wsL_law) (hX : jScr E b N xs) (hi : i + 6 ≤ N) (hN : N ≤ 3072) (ht : two c o a) (hc : cIs G L F c s) (hm : mIs G L F o a t) (kk : ∀ F1 s1 t1, cIs G L F1 c s1 → mIs G L F1 o a t1 → J E L F1 431 10207 1009 [(3, .int (nI i)), (2, .ref o), (1, .ref (c 0)), (0, .ref b)] []) : J E L F 431 10207 388 [(3, .int (nI i)), (2, .ref o), (1, .ref (c 0)), (0, .ref b)] [] := by
  refine jr_aload_n hE dL_law_388 2 rfl ?_
  refine jr_aload_n hE dL_law_389 3 rfl ?_
  refine jr_iload_n hE dL_law_390 0 rfl ?_
  refine jr_iconst (v := (1 : Int32)) hE dL_law_391 (by decide) ?_
  refine jr_iadd (z := nI (i + 1)) hE dL_law_392 (show nI i + (1 : Int32) = nI (i + 1) from nI_add i 1) ?_
  refine jr_sld (v := xs (i + 1)) hE hX dL_law_393 (nI_in (by omega) (by omega)) (by rw [nI_clamp (by omega)]) ?_
  refine jr_aload_n hE dL_law_394 3 rfl ?_
  refine jr_iload_n hE dL_law_395 0 rfl ?_
  refine jr_iconst (v := (2 : Int32)) hE dL_law_396 (by decide) ?_
  refine jr_iadd (z := nI (i + 2)) hE dL_law_397 (show nI i + (2 : Int32) = nI (i + 2) from nI_add i 2) ?_
  refine jr_sld (v := xs (i + 2)) hE hX dL_law_398 (nI_in (by omega) (by omega)) (by rw [nI_clamp (by omega)]) ?_
  refine jr_aload_n hE dL_law_399 3 rfl ?_
  refine jr_iload_n hE dL_law_400 0 rfl ?_
  refine jr_iconst (v := (3 : Int32)) hE dL_law_401 (by decide) ?_
  refine jr_iadd (z := nI (i + 3)) hE dL_law_402 (show nI i + (3 : Int32) = nI (i + 3) from nI_add i 3) ?_
  refine jr_sld (v := xs (i + 3)) hE hX dL_law_403 (nI_in (by omega) (by omega)) (by rw [nI_clamp (by omega)]) ?_
  obtain ⟨B0, S0, P0, q0, X0, v0, hc0⟩ := hc
  refine jr_kVi (ci := 11) (n := 3) (As := [.int (xs (i + 1)), .int (xs (i + 2)), .int (xs (i + 3))]) (rest := []) hE dL_law_404 (fun l => c_c_hash l G c B0 S0 P0 q0 X0 v0 s (xs (i + 1)) (xs (i + 2)) (xs (i + 3))) gL_law_X11_hash rfl hc0.1.2.1.1 rfl ⟨rfl, by decide, by decide, by decide +kernel⟩ ⟨rfl, rfl, by decide, by decide⟩ ⟨by decide, by decide⟩ rfl rfl (Nat.le_of_ble_eq_true rfl) hc0 (fun r1 F1 p1 => ?_)
  obtain ⟨B1, S1, P1, q1, X1, v1, hc1, a1, O1⟩ := p1
  have hm := hm.kp ht O1
  have hc : cIs G L F1 c _ := ⟨_, _, _, _, _, _, hc1⟩
  refine jr_aload_n hE dL_law_407 1 rfl ?_
  refine jr_aload_n hE dL_law_408 3 rfl ?_
  refine jr_iload_n hE dL_law_409 0 rfl ?_
  refine jr_iconst (v := (1 : Int32)) hE dL_law_410 (by decide) ?_
  refine jr_iadd (z := nI (i + 1)) hE dL_law_411 (show nI i + (1 : Int32) = nI (i + 1) from nI_add i 1) ?_
  refine jr_sld (v := xs (i + 1)) hE hX dL_law_412 (nI_in (by omega) (by omega)) (by rw [nI_clamp (by omega)]) ?_
  refine jr_aload_n hE dL_law_413 3 rfl ?_
  refine jr_iload_n hE dL_law_414 0 rfl ?_
  refine jr_iconst (v := (2 : Int32)) hE dL_law_415 (by decide) ?_
  refine jr_iadd (z := nI (i + 2)) hE dL_law_416 (show nI i + (2 : Int32) = nI (i + 2) from nI_add i 2) ?_
  refine jr_sld (v := xs (i + 2)) hE hX dL_law_417 (nI_in (by omega) (by omega)) (by rw [nI_clamp (by omega)]) ?_
  refine jr_aload_n hE dL_law_418 3 rfl ?_
  refine jr_iload_n hE dL_law_419 0 rfl ?_
  refine jr_iconst (v := (3 : Int32)) hE dL_law_420 (by decide) ?_
  refine jr_iadd (z := nI (i + 3)) hE dL_law_421 (show nI i + (3 : Int32) = nI (i + 3) from nI_add i 3) ?_
  refine jr_sld (v := xs (i + 3)) hE hX dL_law_422 (nI_in (by omega) (by omega)) (by rw [nI_clamp (by omega)]) ?_
  obtain ⟨v2, n2, g2, w2, hm0⟩ := hm
  refine jr_kVi (ci := 12) (n := 3) (As := [.int (xs (i + 1)), .int (xs (i + 2)), .int (xs (i + 3))]) (rest := [.int r1]) hE dL_law_423 (fun l => c_m_hash l G o a v2 n2 g2 w2 t (xs (i + 1)) (xs (i + 2)) (xs (i + 3))) gL_law_X12_hash rfl hm0.1.choose_spec.1.1 rfl ⟨rfl, by decide, by decide, by decide +kernel⟩ ⟨rfl, rfl, by decide, by decide⟩ ⟨by decide, by decide⟩ rfl rfl (Nat.le_of_ble_eq_true rfl) hm0 (fun r2 F2 p2 => ?_)
  obtain ⟨v3, n3, g3, w3, hm1, a2, O2⟩ := p2
  have hc := hc.kp ht O2
  have hm : mIs G L F2 o a _ := ⟨_, _, _, _, hm1⟩
  exact jr_icmp_eq (tgt := 1009) hE dL_law_426 (by decide) (fun _ => kk F2 _ _ hc hm) (fun h => absurd (a1.trans ((stHash_1 s t (xs (i + 1)) (xs (i + 2)) (xs (i + 3))).trans a2.symm)) h)
set_option maxHeartbeats 4000000 in
set_option maxRecDepth 100000 in
theorem lc_key {E : jE} {G : Nat → ClassId} {L : List Nat} {F : Nat → va_E} {c : Nat → Nat} {o : Nat} {a : Nat → Nat} {s t : ST} {b N i : Nat} {xs : Nat → Int32} (hE : jOk E G room_1 cL_law 4 RL wsL_law) (hX : jScr E b N xs) (hi : i + 6 ≤ N) (hN : N ≤ 3072) (ht : two c o a) (hc : cIs G L F c s) (hm : mIs G L F o a t) (kk : ∀ F1 s1 t1, cIs G L F1 c s1 → mIs G L F1 o a t1 → J E L F1 431 10207 1009 [(3, .int (nI i)), (2, .ref o), (1, .ref (c 0)), (0, .ref b)] []) : J E L F 431 10207 431 [(3, .int (nI i)), (2, .ref o), (1, .ref (c 0)), (0, .ref b)] [] := by
  refine jr_aload_n hE dL_law_431 2 rfl ?_
  refine jr_aload_n hE dL_law_432 3 rfl ?_
  refine jr_iload_n hE dL_law_433 0 rfl ?_
  refine jr_iconst (v := (1 : Int32)) hE dL_law_434 (by decide) ?_
  refine jr_iadd (z := nI (i + 1)) hE dL_law_435 (show nI i + (1 : Int32) = nI (i + 1) from nI_add i 1) ?_
  refine jr_sld (v := xs (i + 1)) hE hX dL_law_436 (nI_in (by omega) (by omega)) (by rw [nI_clamp (by omega)]) ?_
  refine jr_aload_n hE dL_law_437 3 rfl ?_
  refine jr_iload_n hE dL_law_438 0 rfl ?_
  refine jr_iconst (v := (2 : Int32)) hE dL_law_439 (by decide) ?_
  refine jr_iadd (z := nI (i + 2)) hE dL_law_440 (show nI i + (2 : Int32) = nI (i + 2) from nI_add i 2) ?_
  refine jr_sld (v := xs (i + 2)) hE hX dL_law_441 (nI_in (by omega) (by omega)) (by rw [nI_clamp (by omega)]) ?_
  refine jr_aload_n hE dL_law_442 3 rfl ?_
  refine jr_iload_n hE dL_law_443 0 rfl ?_
  refine jr_iconst (v := (3 : Int32)) hE dL_law_444 (by decide) ?_
  refine jr_iadd (z := nI (i + 3)) hE dL_law_445 (show nI i + (3 : Int32) = nI (i + 3) from nI_add i 3) ?_
  refine jr_sld (v := xs (i + 3)) hE hX dL_law_446 (nI_in (by omega) (by omega)) (by rw [nI_clamp (by omega)]) ?_
  obtain ⟨B0, S0, P0, q0, X0, v0, hc0⟩ := hc
  refine jr_kVi (ci := 11) (n := 3) (As := [.int (xs (i + 1)), .int (xs (i + 2)), .int (xs (i + 3))]) (rest := []) hE dL_law_447 (fun l => c_c_key l G c B0 S0 P0 q0 X0 v0 s (xs (i + 1)) (xs (i + 2)) (xs (i + 3))) gL_law_X11_key rfl hc0.1.2.1.1 rfl ⟨rfl, by decide, by decide, by decide +kernel⟩ ⟨rfl, rfl, by decide, by decide⟩ ⟨by decide, by decide⟩ rfl rfl (Nat.le_of_ble_eq_true rfl) hc0 (fun r1 F1 p1 => ?_)
  obtain ⟨B1, S1, P1, q1, X1, v1, hc1, a1, O1⟩ := p1
  have hm := hm.kp ht O1
  have hc : cIs G L F1 c _ := ⟨_, _, _, _, _, _, hc1⟩
  refine jr_pop hE dL_law_450 rfl ?_
  refine jr_aload_n hE dL_law_451 1 rfl ?_
  refine jr_aload_n hE dL_law_452 3 rfl ?_
  refine jr_iload_n hE dL_law_453 0 rfl ?_
  refine jr_iconst (v := (1 : Int32)) hE dL_law_454 (by decide) ?_
  refine jr_iadd (z := nI (i + 1)) hE dL_law_455 (show nI i + (1 : Int32) = nI (i + 1) from nI_add i 1) ?_
  refine jr_sld (v := xs (i + 1)) hE hX dL_law_456 (nI_in (by omega) (by omega)) (by rw [nI_clamp (by omega)]) ?_
  refine jr_aload_n hE dL_law_457 3 rfl ?_
  refine jr_iload_n hE dL_law_458 0 rfl ?_
  refine jr_iconst (v := (2 : Int32)) hE dL_law_459 (by decide) ?_
  refine jr_iadd (z := nI (i + 2)) hE dL_law_460 (show nI i + (2 : Int32) = nI (i + 2) from nI_add i 2) ?_
  refine jr_sld (v := xs (i + 2)) hE hX dL_law_461 (nI_in (by omega) (by omega)) (by rw [nI_clamp (by omega)]) ?_
  refine jr_aload_n hE dL_law_462 3 rfl ?_
  refine jr_iload_n hE dL_law_463 0 rfl ?_
  refine jr_iconst (v := (3 : Int32)) hE dL_law_464 (by decide) ?_
  refine jr_iadd (z := nI (i + 3)) hE dL_law_465 (show nI i + (3 : Int32) = nI (i + 3) from nI_add i 3) ?_
  refine jr_sld (v := xs (i + 3)) hE hX dL_law_466 (nI_in (by omega) (by omega)) (by rw [nI_clamp (by omega)]) ?_
  obtain ⟨v2, n2, g2, w2, hm0⟩ := hm
  refine jr_kVi (ci := 12) (n := 3) (As := [.int (xs (i + 1)), .int (xs (i + 2)), .int (xs (i + 3))]) (rest := []) hE dL_law_467 (fun l => c_m_key l G o a v2 n2 g2 w2 t (xs (i + 1)) (xs (i + 2)) (xs (i + 3))) gL_law_X12_key rfl hm0.1.choose_spec.1.1 rfl ⟨rfl, by decide, by decide, by decide +kernel⟩ ⟨rfl, rfl, by decide, by decide⟩ ⟨by decide, by decide⟩ rfl rfl (Nat.le_of_ble_eq_true rfl) hm0 (fun r2 F2 p2 => ?_)
  obtain ⟨v3, n3, g3, w3, hm1, a2, O2⟩ := p2
  have hc := hc.kp ht O2
  have hm : mIs G L F2 o a _ := ⟨_, _, _, _, hm1⟩
  refine jr_pop hE dL_law_470 rfl ?_
  refine jr_goto (tgt := 1009) hE dL_law_471 (by decide) ?_
  exact kk F2 _ _ hc hm
set_option maxHeartbeats 4000000 in
set_option maxRecDepth 100000 in
theorem lc_sign {E : jE} {G : Nat → ClassId} {L : List Nat} {F : Nat → va_E} {c : Nat → Nat} {o : Nat} {a : Nat → Nat} {s t : ST} {b N i : Nat} {xs : Nat → Int32} (hE : jOk E G room_1 cL_law 4 RL wsL_law) (hX : jScr E b N xs) (hi : i + 6 ≤ N) (hN : N ≤ 3072) (ht : two c o a) (hc : cIs G L F c s) (hm : mIs G L F o a t) (kk : ∀ F1 s1 t1, cIs G L F1 c s1 → mIs G L F1 o a t1 → J E L F1 431 10207 1009 [(3, .int (nI i)), (2, .ref o), (1, .ref (c 0)), (0, .ref b)] []) : J E L F 431 10207 474 [(3, .int (nI i)), (2, .ref o), (1, .ref (c 0)), (0, .ref b)] [] := by
  refine jr_aload_n hE dL_law_474 2 rfl ?_
  refine jr_aload_n hE dL_law_475 3 rfl ?_
  refine jr_iload_n hE dL_law_476 0 rfl ?_
  refine jr_iconst (v := (1 : Int32)) hE dL_law_477 (by decide) ?_
  refine jr_iadd (z := nI (i + 1)) hE dL_law_478 (show nI i + (1 : Int32) = nI (i + 1) from nI_add i 1) ?_
  refine jr_sld (v := xs (i + 1)) hE hX dL_law_479 (nI_in (by omega) (by omega)) (by rw [nI_clamp (by omega)]) ?_
  refine jr_aload_n hE dL_law_480 3 rfl ?_
  refine jr_iload_n hE dL_law_481 0 rfl ?_
  refine jr_iconst (v := (2 : Int32)) hE dL_law_482 (by decide) ?_
  refine jr_iadd (z := nI (i + 2)) hE dL_law_483 (show nI i + (2 : Int32) = nI (i + 2) from nI_add i 2) ?_
  refine jr_sld (v := xs (i + 2)) hE hX dL_law_484 (nI_in (by omega) (by omega)) (by rw [nI_clamp (by omega)]) ?_
  refine jr_aload_n hE dL_law_485 3 rfl ?_
  refine jr_iload_n hE dL_law_486 0 rfl ?_
  refine jr_iconst (v := (3 : Int32)) hE dL_law_487 (by decide) ?_
  refine jr_iadd (z := nI (i + 3)) hE dL_law_488 (show nI i + (3 : Int32) = nI (i + 3) from nI_add i 3) ?_
  refine jr_sld (v := xs (i + 3)) hE hX dL_law_489 (nI_in (by omega) (by omega)) (by rw [nI_clamp (by omega)]) ?_
  refine jr_aload_n hE dL_law_490 3 rfl ?_
  refine jr_iload_n hE dL_law_491 0 rfl ?_
  refine jr_iconst (v := (4 : Int32)) hE dL_law_492 (by decide) ?_
  refine jr_iadd (z := nI (i + 4)) hE dL_law_493 (show nI i + (4 : Int32) = nI (i + 4) from nI_add i 4) ?_
  refine jr_sld (v := xs (i + 4)) hE hX dL_law_494 (nI_in (by omega) (by omega)) (by rw [nI_clamp (by omega)]) ?_
  obtain ⟨B0, S0, P0, q0, X0, v0, hc0⟩ := hc
  refine jr_kVi (ci := 11) (n := 4) (As := [.int (xs (i + 1)), .int (xs (i + 2)), .int (xs (i + 3)), .int (xs (i + 4))]) (rest := []) hE dL_law_495 (fun l => c_c_sign l G c B0 S0 P0 q0 X0 v0 s (xs (i + 1)) (xs (i + 2)) (xs (i + 3)) (xs (i + 4))) gL_law_X11_sign rfl hc0.1.2.1.1 rfl ⟨rfl, by decide, by decide, by decide +kernel⟩ ⟨rfl, rfl, by decide, by decide⟩ ⟨by decide, by decide⟩ rfl rfl (Nat.le_of_ble_eq_true rfl) hc0 (fun r1 F1 p1 => ?_)
  obtain ⟨B1, S1, P1, q1, X1, v1, hc1, a1, O1⟩ := p1
  have hm := hm.kp ht O1
  have hc : cIs G L F1 c _ := ⟨_, _, _, _, _, _, hc1⟩
  refine jr_pop hE dL_law_498 rfl ?_
  refine jr_aload_n hE dL_law_499 1 rfl ?_
  refine jr_aload_n hE dL_law_500 3 rfl ?_
  refine jr_iload_n hE dL_law_501 0 rfl ?_
  refine jr_iconst (v := (1 : Int32)) hE dL_law_502 (by decide) ?_
  refine jr_iadd (z := nI (i + 1)) hE dL_law_503 (show nI i + (1 : Int32) = nI (i + 1) from nI_add i 1) ?_
  refine jr_sld (v := xs (i + 1)) hE hX dL_law_504 (nI_in (by omega) (by omega)) (by rw [nI_clamp (by omega)]) ?_
  refine jr_aload_n hE dL_law_505 3 rfl ?_
  refine jr_iload_n hE dL_law_506 0 rfl ?_
  refine jr_iconst (v := (2 : Int32)) hE dL_law_507 (by decide) ?_
  refine jr_iadd (z := nI (i + 2)) hE dL_law_508 (show nI i + (2 : Int32) = nI (i + 2) from nI_add i 2) ?_
  refine jr_sld (v := xs (i + 2)) hE hX dL_law_509 (nI_in (by omega) (by omega)) (by rw [nI_clamp (by omega)]) ?_
  refine jr_aload_n hE dL_law_510 3 rfl ?_
  refine jr_iload_n hE dL_law_511 0 rfl ?_
  refine jr_iconst (v := (3 : Int32)) hE dL_law_512 (by decide) ?_
  refine jr_iadd (z := nI (i + 3)) hE dL_law_513 (show nI i + (3 : Int32) = nI (i + 3) from nI_add i 3) ?_
  refine jr_sld (v := xs (i + 3)) hE hX dL_law_514 (nI_in (by omega) (by omega)) (by rw [nI_clamp (by omega)]) ?_
  refine jr_aload_n hE dL_law_515 3 rfl ?_
  refine jr_iload_n hE dL_law_516 0 rfl ?_
  refine jr_iconst (v := (4 : Int32)) hE dL_law_517 (by decide) ?_
  refine jr_iadd (z := nI (i + 4)) hE dL_law_518 (show nI i + (4 : Int32) = nI (i + 4) from nI_add i 4) ?_
  refine jr_sld (v := xs (i + 4)) hE hX dL_law_519 (nI_in (by omega) (by omega)) (by rw [nI_clamp (by omega)]) ?_
  obtain ⟨v2, n2, g2, w2, hm0⟩ := hm
  refine jr_kVi (ci := 12) (n := 4) (As := [.int (xs (i + 1)), .int (xs (i + 2)), .int (xs (i + 3)), .int (xs (i + 4))]) (rest := []) hE dL_law_520 (fun l => c_m_sign l G o a v2 n2 g2 w2 t (xs (i + 1)) (xs (i + 2)) (xs (i + 3)) (xs (i + 4))) gL_law_X12_sign rfl hm0.1.choose_spec.1.1 rfl ⟨rfl, by decide, by decide, by decide +kernel⟩ ⟨rfl, rfl, by decide, by decide⟩ ⟨by decide, by decide⟩ rfl rfl (Nat.le_of_ble_eq_true rfl) hm0 (fun r2 F2 p2 => ?_)
  obtain ⟨v3, n3, g3, w3, hm1, a2, O2⟩ := p2
  have hc := hc.kp ht O2
  have hm : mIs G L F2 o a _ := ⟨_, _, _, _, hm1⟩
  refine jr_pop hE dL_law_523 rfl ?_
  refine jr_goto (tgt := 1009) hE dL_law_524 (by decide) ?_
  exact kk F2 _ _ hc hm
set_option maxHeartbeats 4000000 in
set_option maxRecDepth 100000 in
theorem lc_holds {E : jE} {G : Nat → ClassId} {L : List Nat} {F : Nat → va_E} {c : Nat → Nat} {o : Nat} {a : Nat → Nat} {s t : ST} {b N i : Nat} {xs : Nat → Int32} (hE : jOk E G room_1 cL_law 4 RL wsL_law) (hX : jScr E b N xs) (hi : i + 6 ≤ N) (hN : N ≤ 3072) (ht : two c o a) (hc : cIs G L F c s) (hm : mIs G L F o a t) (kk : ∀ F1 s1 t1, cIs G L F1 c s1 → mIs G L F1 o a t1 → J E L F1 431 10207 1009 [(3, .int (nI i)), (2, .ref o), (1, .ref (c 0)), (0, .ref b)] []) : J E L F 431 10207 527 [(3, .int (nI i)), (2, .ref o), (1, .ref (c 0)), (0, .ref b)] [] := by
  refine jr_aload_n hE dL_law_527 2 rfl ?_
  refine jr_aload_n hE dL_law_528 3 rfl ?_
  refine jr_iload_n hE dL_law_529 0 rfl ?_
  refine jr_iconst (v := (1 : Int32)) hE dL_law_530 (by decide) ?_
  refine jr_iadd (z := nI (i + 1)) hE dL_law_531 (show nI i + (1 : Int32) = nI (i + 1) from nI_add i 1) ?_
  refine jr_sld (v := xs (i + 1)) hE hX dL_law_532 (nI_in (by omega) (by omega)) (by rw [nI_clamp (by omega)]) ?_
  refine jr_aload_n hE dL_law_533 3 rfl ?_
  refine jr_iload_n hE dL_law_534 0 rfl ?_
  refine jr_iconst (v := (2 : Int32)) hE dL_law_535 (by decide) ?_
  refine jr_iadd (z := nI (i + 2)) hE dL_law_536 (show nI i + (2 : Int32) = nI (i + 2) from nI_add i 2) ?_
  refine jr_sld (v := xs (i + 2)) hE hX dL_law_537 (nI_in (by omega) (by omega)) (by rw [nI_clamp (by omega)]) ?_
  refine jr_aload_n hE dL_law_538 3 rfl ?_
  refine jr_iload_n hE dL_law_539 0 rfl ?_
  refine jr_iconst (v := (3 : Int32)) hE dL_law_540 (by decide) ?_
  refine jr_iadd (z := nI (i + 3)) hE dL_law_541 (show nI i + (3 : Int32) = nI (i + 3) from nI_add i 3) ?_
  refine jr_sld (v := xs (i + 3)) hE hX dL_law_542 (nI_in (by omega) (by omega)) (by rw [nI_clamp (by omega)]) ?_
  obtain ⟨B0, S0, P0, q0, X0, v0, hc0⟩ := hc
  refine jr_kVi (ci := 11) (n := 3) (As := [.int (xs (i + 1)), .int (xs (i + 2)), .int (xs (i + 3))]) (rest := []) hE dL_law_543 (fun l => c_c_holds l G c B0 S0 P0 q0 X0 v0 s (xs (i + 1)) (xs (i + 2)) (xs (i + 3))) gL_law_X11_holds rfl hc0.1.2.1.1 rfl ⟨rfl, by decide, by decide, by decide +kernel⟩ ⟨rfl, rfl, by decide, by decide⟩ ⟨by decide, by decide⟩ rfl rfl (Nat.le_of_ble_eq_true rfl) hc0 (fun r1 F1 p1 => ?_)
  obtain ⟨B1, S1, P1, q1, X1, v1, hc1, a1, O1⟩ := p1
  have hm := hm.kp ht O1
  have hc : cIs G L F1 c _ := ⟨_, _, _, _, _, _, hc1⟩
  refine jr_pop hE dL_law_546 rfl ?_
  refine jr_aload_n hE dL_law_547 1 rfl ?_
  refine jr_aload_n hE dL_law_548 3 rfl ?_
  refine jr_iload_n hE dL_law_549 0 rfl ?_
  refine jr_iconst (v := (1 : Int32)) hE dL_law_550 (by decide) ?_
  refine jr_iadd (z := nI (i + 1)) hE dL_law_551 (show nI i + (1 : Int32) = nI (i + 1) from nI_add i 1) ?_
  refine jr_sld (v := xs (i + 1)) hE hX dL_law_552 (nI_in (by omega) (by omega)) (by rw [nI_clamp (by omega)]) ?_
  refine jr_aload_n hE dL_law_553 3 rfl ?_
  refine jr_iload_n hE dL_law_554 0 rfl ?_
  refine jr_iconst (v := (2 : Int32)) hE dL_law_555 (by decide) ?_
  refine jr_iadd (z := nI (i + 2)) hE dL_law_556 (show nI i + (2 : Int32) = nI (i + 2) from nI_add i 2) ?_
  refine jr_sld (v := xs (i + 2)) hE hX dL_law_557 (nI_in (by omega) (by omega)) (by rw [nI_clamp (by omega)]) ?_
  refine jr_aload_n hE dL_law_558 3 rfl ?_
  refine jr_iload_n hE dL_law_559 0 rfl ?_
  refine jr_iconst (v := (3 : Int32)) hE dL_law_560 (by decide) ?_
  refine jr_iadd (z := nI (i + 3)) hE dL_law_561 (show nI i + (3 : Int32) = nI (i + 3) from nI_add i 3) ?_
  refine jr_sld (v := xs (i + 3)) hE hX dL_law_562 (nI_in (by omega) (by omega)) (by rw [nI_clamp (by omega)]) ?_
  obtain ⟨v2, n2, g2, w2, hm0⟩ := hm
  refine jr_kVi (ci := 12) (n := 3) (As := [.int (xs (i + 1)), .int (xs (i + 2)), .int (xs (i + 3))]) (rest := []) hE dL_law_563 (fun l => c_m_holds l G o a v2 n2 g2 w2 t (xs (i + 1)) (xs (i + 2)) (xs (i + 3))) gL_law_X12_holds rfl hm0.1.choose_spec.1.1 rfl ⟨rfl, by decide, by decide, by decide +kernel⟩ ⟨rfl, rfl, by decide, by decide⟩ ⟨by decide, by decide⟩ rfl rfl (Nat.le_of_ble_eq_true rfl) hm0 (fun r2 F2 p2 => ?_)
  obtain ⟨v3, n3, g3, w3, hm1, a2, O2⟩ := p2
  have hc := hc.kp ht O2
  have hm : mIs G L F2 o a _ := ⟨_, _, _, _, hm1⟩
  refine jr_pop hE dL_law_566 rfl ?_
  refine jr_goto (tgt := 1009) hE dL_law_567 (by decide) ?_
  exact kk F2 _ _ hc hm
set_option maxHeartbeats 4000000 in
set_option maxRecDepth 100000 in
theorem lc_entry {E : jE} {G : Nat → ClassId} {L : List Nat} {F : Nat → va_E} {c : Nat → Nat} {o : Nat} {a : Nat → Nat} {s t : ST} {b N i : Nat} {xs : Nat → Int32} (hE : jOk E G room_1 cL_law 4 RL wsL_law) (hX : jScr E b N xs) (hi : i + 6 ≤ N) (hN : N ≤ 3072) (ht : two c o a) (hc : cIs G L F c s) (hm : mIs G L F o a t) (kk : ∀ F1 s1 t1, cIs G L F1 c s1 → mIs G L F1 o a t1 → J E L F1 431 10207 1009 [(3, .int (nI i)), (2, .ref o), (1, .ref (c 0)), (0, .ref b)] []) : J E L F 431 10207 570 [(3, .int (nI i)), (2, .ref o), (1, .ref (c 0)), (0, .ref b)] [] := by
  refine jr_aload_n hE dL_law_570 2 rfl ?_
  refine jr_aload_n hE dL_law_571 3 rfl ?_
  refine jr_iload_n hE dL_law_572 0 rfl ?_
  refine jr_iconst (v := (1 : Int32)) hE dL_law_573 (by decide) ?_
  refine jr_iadd (z := nI (i + 1)) hE dL_law_574 (show nI i + (1 : Int32) = nI (i + 1) from nI_add i 1) ?_
  refine jr_sld (v := xs (i + 1)) hE hX dL_law_575 (nI_in (by omega) (by omega)) (by rw [nI_clamp (by omega)]) ?_
  refine jr_aload_n hE dL_law_576 3 rfl ?_
  refine jr_iload_n hE dL_law_577 0 rfl ?_
  refine jr_iconst (v := (2 : Int32)) hE dL_law_578 (by decide) ?_
  refine jr_iadd (z := nI (i + 2)) hE dL_law_579 (show nI i + (2 : Int32) = nI (i + 2) from nI_add i 2) ?_
  refine jr_sld (v := xs (i + 2)) hE hX dL_law_580 (nI_in (by omega) (by omega)) (by rw [nI_clamp (by omega)]) ?_
  refine jr_aload_n hE dL_law_581 3 rfl ?_
  refine jr_iload_n hE dL_law_582 0 rfl ?_
  refine jr_iconst (v := (3 : Int32)) hE dL_law_583 (by decide) ?_
  refine jr_iadd (z := nI (i + 3)) hE dL_law_584 (show nI i + (3 : Int32) = nI (i + 3) from nI_add i 3) ?_
  refine jr_sld (v := xs (i + 3)) hE hX dL_law_585 (nI_in (by omega) (by omega)) (by rw [nI_clamp (by omega)]) ?_
  refine jr_aload_n hE dL_law_586 3 rfl ?_
  refine jr_iload_n hE dL_law_587 0 rfl ?_
  refine jr_iconst (v := (4 : Int32)) hE dL_law_588 (by decide) ?_
  refine jr_iadd (z := nI (i + 4)) hE dL_law_589 (show nI i + (4 : Int32) = nI (i + 4) from nI_add i 4) ?_
  refine jr_sld (v := xs (i + 4)) hE hX dL_law_590 (nI_in (by omega) (by omega)) (by rw [nI_clamp (by omega)]) ?_
  refine jr_i2l hE dL_law_591 rfl ?_
  refine jr_bipush (v := (32 : Int32)) hE dL_law_592 (by decide) ?_
  refine jr_lshl hE dL_law_594 rfl ?_
  refine jr_aload_n hE dL_law_595 3 rfl ?_
  refine jr_iload_n hE dL_law_596 0 rfl ?_
  refine jr_iconst (v := (5 : Int32)) hE dL_law_597 (by decide) ?_
  refine jr_iadd (z := nI (i + 5)) hE dL_law_598 (show nI i + (5 : Int32) = nI (i + 5) from nI_add i 5) ?_
  refine jr_sld (v := xs (i + 5)) hE hX dL_law_599 (nI_in (by omega) (by omega)) (by rw [nI_clamp (by omega)]) ?_
  refine jr_i2l hE dL_law_600 rfl ?_
  refine jr_ldc2 (v := (4294967295 : Int64)) hE dL_law_601 (by decide +kernel) ?_
  refine jr_land hE dL_law_604 rfl ?_
  refine jr_lor hE dL_law_605 rfl ?_
  obtain ⟨B0, S0, P0, q0, X0, v0, hc0⟩ := hc
  refine jr_kVi (ci := 11) (n := 4) (As := [.int (xs (i + 1)), .int (xs (i + 2)), .int (xs (i + 3)), .long ((((xs (i + 4)).toInt64) <<< ((32 : Int32).toInt64 &&& 63)) ||| (((xs (i + 5)).toInt64) &&& (4294967295 : Int64)))]) (rest := []) hE dL_law_606 (fun l => c_c_entry l G c B0 S0 P0 q0 X0 v0 s (xs (i + 1)) (xs (i + 2)) (xs (i + 3)) ((((xs (i + 4)).toInt64) <<< ((32 : Int32).toInt64 &&& 63)) ||| (((xs (i + 5)).toInt64) &&& (4294967295 : Int64)))) gL_law_X11_entry rfl hc0.1.2.1.1 rfl ⟨rfl, by decide, by decide, by decide +kernel⟩ ⟨rfl, rfl, by decide, by decide⟩ ⟨by decide, by decide⟩ rfl rfl (Nat.le_of_ble_eq_true rfl) hc0 (fun r1 F1 p1 => ?_)
  obtain ⟨B1, S1, P1, q1, X1, v1, hc1, a1, O1⟩ := p1
  have hm := hm.kp ht O1
  have hc : cIs G L F1 c _ := ⟨_, _, _, _, _, _, hc1⟩
  refine jr_pop hE dL_law_609 rfl ?_
  refine jr_aload_n hE dL_law_610 1 rfl ?_
  refine jr_aload_n hE dL_law_611 3 rfl ?_
  refine jr_iload_n hE dL_law_612 0 rfl ?_
  refine jr_iconst (v := (1 : Int32)) hE dL_law_613 (by decide) ?_
  refine jr_iadd (z := nI (i + 1)) hE dL_law_614 (show nI i + (1 : Int32) = nI (i + 1) from nI_add i 1) ?_
  refine jr_sld (v := xs (i + 1)) hE hX dL_law_615 (nI_in (by omega) (by omega)) (by rw [nI_clamp (by omega)]) ?_
  refine jr_aload_n hE dL_law_616 3 rfl ?_
  refine jr_iload_n hE dL_law_617 0 rfl ?_
  refine jr_iconst (v := (2 : Int32)) hE dL_law_618 (by decide) ?_
  refine jr_iadd (z := nI (i + 2)) hE dL_law_619 (show nI i + (2 : Int32) = nI (i + 2) from nI_add i 2) ?_
  refine jr_sld (v := xs (i + 2)) hE hX dL_law_620 (nI_in (by omega) (by omega)) (by rw [nI_clamp (by omega)]) ?_
  refine jr_aload_n hE dL_law_621 3 rfl ?_
  refine jr_iload_n hE dL_law_622 0 rfl ?_
  refine jr_iconst (v := (3 : Int32)) hE dL_law_623 (by decide) ?_
  refine jr_iadd (z := nI (i + 3)) hE dL_law_624 (show nI i + (3 : Int32) = nI (i + 3) from nI_add i 3) ?_
  refine jr_sld (v := xs (i + 3)) hE hX dL_law_625 (nI_in (by omega) (by omega)) (by rw [nI_clamp (by omega)]) ?_
  refine jr_aload_n hE dL_law_626 3 rfl ?_
  refine jr_iload_n hE dL_law_627 0 rfl ?_
  refine jr_iconst (v := (4 : Int32)) hE dL_law_628 (by decide) ?_
  refine jr_iadd (z := nI (i + 4)) hE dL_law_629 (show nI i + (4 : Int32) = nI (i + 4) from nI_add i 4) ?_
  refine jr_sld (v := xs (i + 4)) hE hX dL_law_630 (nI_in (by omega) (by omega)) (by rw [nI_clamp (by omega)]) ?_
  refine jr_i2l hE dL_law_631 rfl ?_
  refine jr_bipush (v := (32 : Int32)) hE dL_law_632 (by decide) ?_
  refine jr_lshl hE dL_law_634 rfl ?_
  refine jr_aload_n hE dL_law_635 3 rfl ?_
  refine jr_iload_n hE dL_law_636 0 rfl ?_
  refine jr_iconst (v := (5 : Int32)) hE dL_law_637 (by decide) ?_
  refine jr_iadd (z := nI (i + 5)) hE dL_law_638 (show nI i + (5 : Int32) = nI (i + 5) from nI_add i 5) ?_
  refine jr_sld (v := xs (i + 5)) hE hX dL_law_639 (nI_in (by omega) (by omega)) (by rw [nI_clamp (by omega)]) ?_
  refine jr_i2l hE dL_law_640 rfl ?_
  refine jr_ldc2 (v := (4294967295 : Int64)) hE dL_law_641 (by decide +kernel) ?_
  refine jr_land hE dL_law_644 rfl ?_
  refine jr_lor hE dL_law_645 rfl ?_
  obtain ⟨v2, n2, g2, w2, hm0⟩ := hm
  refine jr_kVi (ci := 12) (n := 4) (As := [.int (xs (i + 1)), .int (xs (i + 2)), .int (xs (i + 3)), .long ((((xs (i + 4)).toInt64) <<< ((32 : Int32).toInt64 &&& 63)) ||| (((xs (i + 5)).toInt64) &&& (4294967295 : Int64)))]) (rest := []) hE dL_law_646 (fun l => c_m_entry l G o a v2 n2 g2 w2 t (xs (i + 1)) (xs (i + 2)) (xs (i + 3)) ((((xs (i + 4)).toInt64) <<< ((32 : Int32).toInt64 &&& 63)) ||| (((xs (i + 5)).toInt64) &&& (4294967295 : Int64)))) gL_law_X12_entry rfl hm0.1.choose_spec.1.1 rfl ⟨rfl, by decide, by decide, by decide +kernel⟩ ⟨rfl, rfl, by decide, by decide⟩ ⟨by decide, by decide⟩ rfl rfl (Nat.le_of_ble_eq_true rfl) hm0 (fun r2 F2 p2 => ?_)
  obtain ⟨v3, n3, g3, w3, hm1, a2, O2⟩ := p2
  have hc := hc.kp ht O2
  have hm : mIs G L F2 o a _ := ⟨_, _, _, _, hm1⟩
  refine jr_pop hE dL_law_649 rfl ?_
  refine jr_goto (tgt := 1009) hE dL_law_650 (by decide) ?_
  exact kk F2 _ _ hc hm
set_option maxHeartbeats 4000000 in
set_option maxRecDepth 100000 in
theorem lc_manyHold {E : jE} {G : Nat → ClassId} {L : List Nat} {F : Nat → va_E} {c : Nat → Nat} {o : Nat} {a : Nat → Nat} {s t : ST} {b N i : Nat} {xs : Nat → Int32} (hE : jOk E G room_1 cL_law 4 RL wsL_law) (hX : jScr E b N xs) (hi : i + 6 ≤ N) (hN : N ≤ 3072) (ht : two c o a) (hc : cIs G L F c s) (hm : mIs G L F o a t) (kk : ∀ F1 s1 t1, cIs G L F1 c s1 → mIs G L F1 o a t1 → J E L F1 431 10207 1009 [(3, .int (nI i)), (2, .ref o), (1, .ref (c 0)), (0, .ref b)] []) : J E L F 431 10207 653 [(3, .int (nI i)), (2, .ref o), (1, .ref (c 0)), (0, .ref b)] [] := by
  refine jr_aload_n hE dL_law_653 2 rfl ?_
  obtain ⟨B0, S0, P0, q0, X0, v0, hc0⟩ := hc
  refine jr_kVi (ci := 11) (n := 0) (As := []) (rest := []) hE dL_law_654 (fun l => c_c_manyHold l G c B0 S0 P0 q0 X0 v0 s ) gL_law_X11_manyHold rfl hc0.1.2.1.1 rfl ⟨rfl, by decide, by decide, by decide +kernel⟩ ⟨rfl, rfl, by decide, by decide⟩ ⟨by decide, by decide⟩ rfl rfl (Nat.le_of_ble_eq_true rfl) hc0 (fun r1 F1 p1 => ?_)
  obtain ⟨B1, S1, P1, q1, X1, v1, hc1, a1, O1⟩ := p1
  have hm := hm.kp ht O1
  have hc : cIs G L F1 c _ := ⟨_, _, _, _, _, _, hc1⟩
  refine jr_pop hE dL_law_657 rfl ?_
  refine jr_aload_n hE dL_law_658 1 rfl ?_
  obtain ⟨v2, n2, g2, w2, hm0⟩ := hm
  refine jr_kVi (ci := 12) (n := 0) (As := []) (rest := []) hE dL_law_659 (fun l => c_m_manyHold l G o a v2 n2 g2 w2 t ) gL_law_X12_manyHold rfl hm0.1.choose_spec.1.1 rfl ⟨rfl, by decide, by decide, by decide +kernel⟩ ⟨rfl, rfl, by decide, by decide⟩ ⟨by decide, by decide⟩ rfl rfl (Nat.le_of_ble_eq_true rfl) hm0 (fun r2 F2 p2 => ?_)
  obtain ⟨v3, n3, g3, w3, hm1, a2, O2⟩ := p2
  have hc := hc.kp ht O2
  have hm : mIs G L F2 o a _ := ⟨_, _, _, _, hm1⟩
  refine jr_pop hE dL_law_662 rfl ?_
  refine jr_goto (tgt := 1009) hE dL_law_663 (by decide) ?_
  exact kk F2 _ _ hc hm
set_option maxHeartbeats 4000000 in
set_option maxRecDepth 100000 in
theorem lc_signer {E : jE} {G : Nat → ClassId} {L : List Nat} {F : Nat → va_E} {c : Nat → Nat} {o : Nat} {a : Nat → Nat} {s t : ST} {b N i : Nat} {xs : Nat → Int32} (hE : jOk E G room_1 cL_law 4 RL wsL_law) (hX : jScr E b N xs) (hi : i + 6 ≤ N) (hN : N ≤ 3072) (ht : two c o a) (hc : cIs G L F c s) (hm : mIs G L F o a t) (kk : ∀ F1 s1 t1, cIs G L F1 c s1 → mIs G L F1 o a t1 → J E L F1 431 10207 1009 [(3, .int (nI i)), (2, .ref o), (1, .ref (c 0)), (0, .ref b)] []) : J E L F 431 10207 666 [(3, .int (nI i)), (2, .ref o), (1, .ref (c 0)), (0, .ref b)] [] := by
  refine jr_aload_n hE dL_law_666 2 rfl ?_
  refine jr_aload_n hE dL_law_667 3 rfl ?_
  refine jr_iload_n hE dL_law_668 0 rfl ?_
  refine jr_iconst (v := (1 : Int32)) hE dL_law_669 (by decide) ?_
  refine jr_iadd (z := nI (i + 1)) hE dL_law_670 (show nI i + (1 : Int32) = nI (i + 1) from nI_add i 1) ?_
  refine jr_sld (v := xs (i + 1)) hE hX dL_law_671 (nI_in (by omega) (by omega)) (by rw [nI_clamp (by omega)]) ?_
  obtain ⟨B0, S0, P0, q0, X0, v0, hc0⟩ := hc
  refine jr_kVi (ci := 11) (n := 1) (As := [.int (xs (i + 1))]) (rest := []) hE dL_law_672 (fun l => c_c_signer l G c B0 S0 P0 q0 X0 v0 s (xs (i + 1))) gL_law_X11_signer rfl hc0.1.2.1.1 rfl ⟨rfl, by decide, by decide, by decide +kernel⟩ ⟨rfl, rfl, by decide, by decide⟩ ⟨by decide, by decide⟩ rfl rfl (Nat.le_of_ble_eq_true rfl) hc0 (fun r1 F1 p1 => ?_)
  obtain ⟨B1, S1, P1, q1, X1, v1, hc1, a1, O1⟩ := p1
  have hm := hm.kp ht O1
  have hc : cIs G L F1 c _ := ⟨_, _, _, _, _, _, hc1⟩
  refine jr_pop hE dL_law_675 rfl ?_
  refine jr_aload_n hE dL_law_676 1 rfl ?_
  refine jr_aload_n hE dL_law_677 3 rfl ?_
  refine jr_iload_n hE dL_law_678 0 rfl ?_
  refine jr_iconst (v := (1 : Int32)) hE dL_law_679 (by decide) ?_
  refine jr_iadd (z := nI (i + 1)) hE dL_law_680 (show nI i + (1 : Int32) = nI (i + 1) from nI_add i 1) ?_
  refine jr_sld (v := xs (i + 1)) hE hX dL_law_681 (nI_in (by omega) (by omega)) (by rw [nI_clamp (by omega)]) ?_
  obtain ⟨v2, n2, g2, w2, hm0⟩ := hm
  refine jr_kVi (ci := 12) (n := 1) (As := [.int (xs (i + 1))]) (rest := []) hE dL_law_682 (fun l => c_m_signer l G o a v2 n2 g2 w2 t (xs (i + 1))) gL_law_X12_signer rfl hm0.1.choose_spec.1.1 rfl ⟨rfl, by decide, by decide, by decide +kernel⟩ ⟨rfl, rfl, by decide, by decide⟩ ⟨by decide, by decide⟩ rfl rfl (Nat.le_of_ble_eq_true rfl) hm0 (fun r2 F2 p2 => ?_)
  obtain ⟨v3, n3, g3, w3, hm1, a2, O2⟩ := p2
  have hc := hc.kp ht O2
  have hm : mIs G L F2 o a _ := ⟨_, _, _, _, hm1⟩
  refine jr_pop hE dL_law_685 rfl ?_
  refine jr_goto (tgt := 1009) hE dL_law_686 (by decide) ?_
  exact kk F2 _ _ hc hm
set_option maxHeartbeats 4000000 in
set_option maxRecDepth 100000 in
theorem lc_noSigners {E : jE} {G : Nat → ClassId} {L : List Nat} {F : Nat → va_E} {c : Nat → Nat} {o : Nat} {a : Nat → Nat} {s t : ST} {b N i : Nat} {xs : Nat → Int32} (hE : jOk E G room_1 cL_law 4 RL wsL_law) (hX : jScr E b N xs) (hi : i + 6 ≤ N) (hN : N ≤ 3072) (ht : two c o a) (hc : cIs G L F c s) (hm : mIs G L F o a t) (kk : ∀ F1 s1 t1, cIs G L F1 c s1 → mIs G L F1 o a t1 → J E L F1 431 10207 1009 [(3, .int (nI i)), (2, .ref o), (1, .ref (c 0)), (0, .ref b)] []) : J E L F 431 10207 689 [(3, .int (nI i)), (2, .ref o), (1, .ref (c 0)), (0, .ref b)] [] := by
  refine jr_aload_n hE dL_law_689 2 rfl ?_
  obtain ⟨B0, S0, P0, q0, X0, v0, hc0⟩ := hc
  refine jr_kVi (ci := 11) (n := 0) (As := []) (rest := []) hE dL_law_690 (fun l => c_c_noSigners l G c B0 S0 P0 q0 X0 v0 s ) gL_law_X11_noSigners rfl hc0.1.2.1.1 rfl ⟨rfl, by decide, by decide, by decide +kernel⟩ ⟨rfl, rfl, by decide, by decide⟩ ⟨by decide, by decide⟩ rfl rfl (Nat.le_of_ble_eq_true rfl) hc0 (fun r1 F1 p1 => ?_)
  obtain ⟨B1, S1, P1, q1, X1, v1, hc1, a1, O1⟩ := p1
  have hm := hm.kp ht O1
  have hc : cIs G L F1 c _ := ⟨_, _, _, _, _, _, hc1⟩
  refine jr_pop hE dL_law_693 rfl ?_
  refine jr_aload_n hE dL_law_694 1 rfl ?_
  obtain ⟨v2, n2, g2, w2, hm0⟩ := hm
  refine jr_kVi (ci := 12) (n := 0) (As := []) (rest := []) hE dL_law_695 (fun l => c_m_noSigners l G o a v2 n2 g2 w2 t ) gL_law_X12_noSigners rfl hm0.1.choose_spec.1.1 rfl ⟨rfl, by decide, by decide, by decide +kernel⟩ ⟨rfl, rfl, by decide, by decide⟩ ⟨by decide, by decide⟩ rfl rfl (Nat.le_of_ble_eq_true rfl) hm0 (fun r2 F2 p2 => ?_)
  obtain ⟨v3, n3, g3, w3, hm1, a2, O2⟩ := p2
  have hc := hc.kp ht O2
  have hm : mIs G L F2 o a _ := ⟨_, _, _, _, hm1⟩
  refine jr_pop hE dL_law_698 rfl ?_
  refine jr_goto (tgt := 1009) hE dL_law_699 (by decide) ?_
  exact kk F2 _ _ hc hm
set_option maxHeartbeats 4000000 in
set_option maxRecDepth 100000 in
theorem lc_jointKey {E : jE} {G : Nat → ClassId} {L : List Nat} {F : Nat → va_E} {c : Nat → Nat} {o : Nat} {a : Nat → Nat} {s t : ST} {b N i : Nat} {xs : Nat → Int32} (hE : jOk E G room_1 cL_law 4 RL wsL_law) (hX : jScr E b N xs) (hi : i + 6 ≤ N) (hN : N ≤ 3072) (ht : two c o a) (hc : cIs G L F c s) (hm : mIs G L F o a t) (kk : ∀ F1 s1 t1, cIs G L F1 c s1 → mIs G L F1 o a t1 → J E L F1 431 10207 1009 [(3, .int (nI i)), (2, .ref o), (1, .ref (c 0)), (0, .ref b)] []) : J E L F 431 10207 702 [(3, .int (nI i)), (2, .ref o), (1, .ref (c 0)), (0, .ref b)] [] := by
  refine jr_aload_n hE dL_law_702 2 rfl ?_
  refine jr_aload_n hE dL_law_703 3 rfl ?_
  refine jr_iload_n hE dL_law_704 0 rfl ?_
  refine jr_iconst (v := (1 : Int32)) hE dL_law_705 (by decide) ?_
  refine jr_iadd (z := nI (i + 1)) hE dL_law_706 (show nI i + (1 : Int32) = nI (i + 1) from nI_add i 1) ?_
  refine jr_sld (v := xs (i + 1)) hE hX dL_law_707 (nI_in (by omega) (by omega)) (by rw [nI_clamp (by omega)]) ?_
  obtain ⟨B0, S0, P0, q0, X0, v0, hc0⟩ := hc
  refine jr_kVi (ci := 11) (n := 1) (As := [.int (xs (i + 1))]) (rest := []) hE dL_law_708 (fun l => c_c_jointKey l G c B0 S0 P0 q0 X0 v0 s (xs (i + 1))) gL_law_X11_jointKey rfl hc0.1.2.1.1 rfl ⟨rfl, by decide, by decide, by decide +kernel⟩ ⟨rfl, rfl, by decide, by decide⟩ ⟨by decide, by decide⟩ rfl rfl (Nat.le_of_ble_eq_true rfl) hc0 (fun r1 F1 p1 => ?_)
  obtain ⟨B1, S1, P1, q1, X1, v1, hc1, a1, O1⟩ := p1
  have hm := hm.kp ht O1
  have hc : cIs G L F1 c _ := ⟨_, _, _, _, _, _, hc1⟩
  refine jr_pop hE dL_law_711 rfl ?_
  refine jr_aload_n hE dL_law_712 1 rfl ?_
  refine jr_aload_n hE dL_law_713 3 rfl ?_
  refine jr_iload_n hE dL_law_714 0 rfl ?_
  refine jr_iconst (v := (1 : Int32)) hE dL_law_715 (by decide) ?_
  refine jr_iadd (z := nI (i + 1)) hE dL_law_716 (show nI i + (1 : Int32) = nI (i + 1) from nI_add i 1) ?_
  refine jr_sld (v := xs (i + 1)) hE hX dL_law_717 (nI_in (by omega) (by omega)) (by rw [nI_clamp (by omega)]) ?_
  obtain ⟨v2, n2, g2, w2, hm0⟩ := hm
  refine jr_kVi (ci := 12) (n := 1) (As := [.int (xs (i + 1))]) (rest := []) hE dL_law_718 (fun l => c_m_jointKey l G o a v2 n2 g2 w2 t (xs (i + 1))) gL_law_X12_jointKey rfl hm0.1.choose_spec.1.1 rfl ⟨rfl, by decide, by decide, by decide +kernel⟩ ⟨rfl, rfl, by decide, by decide⟩ ⟨by decide, by decide⟩ rfl rfl (Nat.le_of_ble_eq_true rfl) hm0 (fun r2 F2 p2 => ?_)
  obtain ⟨v3, n3, g3, w3, hm1, a2, O2⟩ := p2
  have hc := hc.kp ht O2
  have hm : mIs G L F2 o a _ := ⟨_, _, _, _, hm1⟩
  refine jr_pop hE dL_law_721 rfl ?_
  refine jr_goto (tgt := 1009) hE dL_law_722 (by decide) ?_
  exact kk F2 _ _ hc hm
set_option maxHeartbeats 4000000 in
set_option maxRecDepth 100000 in
theorem lc_nonce {E : jE} {G : Nat → ClassId} {L : List Nat} {F : Nat → va_E} {c : Nat → Nat} {o : Nat} {a : Nat → Nat} {s t : ST} {b N i : Nat} {xs : Nat → Int32} (hE : jOk E G room_1 cL_law 4 RL wsL_law) (hX : jScr E b N xs) (hi : i + 6 ≤ N) (hN : N ≤ 3072) (ht : two c o a) (hc : cIs G L F c s) (hm : mIs G L F o a t) (kk : ∀ F1 s1 t1, cIs G L F1 c s1 → mIs G L F1 o a t1 → J E L F1 431 10207 1009 [(3, .int (nI i)), (2, .ref o), (1, .ref (c 0)), (0, .ref b)] []) : J E L F 431 10207 725 [(3, .int (nI i)), (2, .ref o), (1, .ref (c 0)), (0, .ref b)] [] := by
  refine jr_aload_n hE dL_law_725 2 rfl ?_
  refine jr_aload_n hE dL_law_726 3 rfl ?_
  refine jr_iload_n hE dL_law_727 0 rfl ?_
  refine jr_iconst (v := (1 : Int32)) hE dL_law_728 (by decide) ?_
  refine jr_iadd (z := nI (i + 1)) hE dL_law_729 (show nI i + (1 : Int32) = nI (i + 1) from nI_add i 1) ?_
  refine jr_sld (v := xs (i + 1)) hE hX dL_law_730 (nI_in (by omega) (by omega)) (by rw [nI_clamp (by omega)]) ?_
  refine jr_aload_n hE dL_law_731 3 rfl ?_
  refine jr_iload_n hE dL_law_732 0 rfl ?_
  refine jr_iconst (v := (2 : Int32)) hE dL_law_733 (by decide) ?_
  refine jr_iadd (z := nI (i + 2)) hE dL_law_734 (show nI i + (2 : Int32) = nI (i + 2) from nI_add i 2) ?_
  refine jr_sld (v := xs (i + 2)) hE hX dL_law_735 (nI_in (by omega) (by omega)) (by rw [nI_clamp (by omega)]) ?_
  refine jr_aload_n hE dL_law_736 3 rfl ?_
  refine jr_iload_n hE dL_law_737 0 rfl ?_
  refine jr_iconst (v := (3 : Int32)) hE dL_law_738 (by decide) ?_
  refine jr_iadd (z := nI (i + 3)) hE dL_law_739 (show nI i + (3 : Int32) = nI (i + 3) from nI_add i 3) ?_
  refine jr_sld (v := xs (i + 3)) hE hX dL_law_740 (nI_in (by omega) (by omega)) (by rw [nI_clamp (by omega)]) ?_
  refine jr_aload_n hE dL_law_741 3 rfl ?_
  refine jr_iload_n hE dL_law_742 0 rfl ?_
  refine jr_iconst (v := (4 : Int32)) hE dL_law_743 (by decide) ?_
  refine jr_iadd (z := nI (i + 4)) hE dL_law_744 (show nI i + (4 : Int32) = nI (i + 4) from nI_add i 4) ?_
  refine jr_sld (v := xs (i + 4)) hE hX dL_law_745 (nI_in (by omega) (by omega)) (by rw [nI_clamp (by omega)]) ?_
  refine jr_aload_n hE dL_law_746 3 rfl ?_
  refine jr_iload_n hE dL_law_747 0 rfl ?_
  refine jr_iconst (v := (5 : Int32)) hE dL_law_748 (by decide) ?_
  refine jr_iadd (z := nI (i + 5)) hE dL_law_749 (show nI i + (5 : Int32) = nI (i + 5) from nI_add i 5) ?_
  refine jr_sld (v := xs (i + 5)) hE hX dL_law_750 (nI_in (by omega) (by omega)) (by rw [nI_clamp (by omega)]) ?_
  obtain ⟨B0, S0, P0, q0, X0, v0, hc0⟩ := hc
  refine jr_kVi (ci := 11) (n := 5) (As := [.int (xs (i + 1)), .int (xs (i + 2)), .int (xs (i + 3)), .int (xs (i + 4)), .int (xs (i + 5))]) (rest := []) hE dL_law_751 (fun l => c_c_nonce l G c B0 S0 P0 q0 X0 v0 s (xs (i + 1)) (xs (i + 2)) (xs (i + 3)) (xs (i + 4)) (xs (i + 5))) gL_law_X11_nonce rfl hc0.1.2.1.1 rfl ⟨rfl, by decide, by decide, by decide +kernel⟩ ⟨rfl, rfl, by decide, by decide⟩ ⟨by decide, by decide⟩ rfl rfl (Nat.le_of_ble_eq_true rfl) hc0 (fun r1 F1 p1 => ?_)
  obtain ⟨B1, S1, P1, q1, X1, v1, hc1, a1, O1⟩ := p1
  have hm := hm.kp ht O1
  have hc : cIs G L F1 c _ := ⟨_, _, _, _, _, _, hc1⟩
  refine jr_pop hE dL_law_754 rfl ?_
  refine jr_aload_n hE dL_law_755 1 rfl ?_
  refine jr_aload_n hE dL_law_756 3 rfl ?_
  refine jr_iload_n hE dL_law_757 0 rfl ?_
  refine jr_iconst (v := (1 : Int32)) hE dL_law_758 (by decide) ?_
  refine jr_iadd (z := nI (i + 1)) hE dL_law_759 (show nI i + (1 : Int32) = nI (i + 1) from nI_add i 1) ?_
  refine jr_sld (v := xs (i + 1)) hE hX dL_law_760 (nI_in (by omega) (by omega)) (by rw [nI_clamp (by omega)]) ?_
  refine jr_aload_n hE dL_law_761 3 rfl ?_
  refine jr_iload_n hE dL_law_762 0 rfl ?_
  refine jr_iconst (v := (2 : Int32)) hE dL_law_763 (by decide) ?_
  refine jr_iadd (z := nI (i + 2)) hE dL_law_764 (show nI i + (2 : Int32) = nI (i + 2) from nI_add i 2) ?_
  refine jr_sld (v := xs (i + 2)) hE hX dL_law_765 (nI_in (by omega) (by omega)) (by rw [nI_clamp (by omega)]) ?_
  refine jr_aload_n hE dL_law_766 3 rfl ?_
  refine jr_iload_n hE dL_law_767 0 rfl ?_
  refine jr_iconst (v := (3 : Int32)) hE dL_law_768 (by decide) ?_
  refine jr_iadd (z := nI (i + 3)) hE dL_law_769 (show nI i + (3 : Int32) = nI (i + 3) from nI_add i 3) ?_
  refine jr_sld (v := xs (i + 3)) hE hX dL_law_770 (nI_in (by omega) (by omega)) (by rw [nI_clamp (by omega)]) ?_
  refine jr_aload_n hE dL_law_771 3 rfl ?_
  refine jr_iload_n hE dL_law_772 0 rfl ?_
  refine jr_iconst (v := (4 : Int32)) hE dL_law_773 (by decide) ?_
  refine jr_iadd (z := nI (i + 4)) hE dL_law_774 (show nI i + (4 : Int32) = nI (i + 4) from nI_add i 4) ?_
  refine jr_sld (v := xs (i + 4)) hE hX dL_law_775 (nI_in (by omega) (by omega)) (by rw [nI_clamp (by omega)]) ?_
  refine jr_aload_n hE dL_law_776 3 rfl ?_
  refine jr_iload_n hE dL_law_777 0 rfl ?_
  refine jr_iconst (v := (5 : Int32)) hE dL_law_778 (by decide) ?_
  refine jr_iadd (z := nI (i + 5)) hE dL_law_779 (show nI i + (5 : Int32) = nI (i + 5) from nI_add i 5) ?_
  refine jr_sld (v := xs (i + 5)) hE hX dL_law_780 (nI_in (by omega) (by omega)) (by rw [nI_clamp (by omega)]) ?_
  obtain ⟨v2, n2, g2, w2, hm0⟩ := hm
  refine jr_kVi (ci := 12) (n := 5) (As := [.int (xs (i + 1)), .int (xs (i + 2)), .int (xs (i + 3)), .int (xs (i + 4)), .int (xs (i + 5))]) (rest := []) hE dL_law_781 (fun l => c_m_nonce l G o a v2 n2 g2 w2 t (xs (i + 1)) (xs (i + 2)) (xs (i + 3)) (xs (i + 4)) (xs (i + 5))) gL_law_X12_nonce rfl hm0.1.choose_spec.1.1 rfl ⟨rfl, by decide, by decide, by decide +kernel⟩ ⟨rfl, rfl, by decide, by decide⟩ ⟨by decide, by decide⟩ rfl rfl (Nat.le_of_ble_eq_true rfl) hm0 (fun r2 F2 p2 => ?_)
  obtain ⟨v3, n3, g3, w3, hm1, a2, O2⟩ := p2
  have hc := hc.kp ht O2
  have hm : mIs G L F2 o a _ := ⟨_, _, _, _, hm1⟩
  refine jr_pop hE dL_law_784 rfl ?_
  refine jr_goto (tgt := 1009) hE dL_law_785 (by decide) ?_
  exact kk F2 _ _ hc hm
set_option maxHeartbeats 4000000 in
set_option maxRecDepth 100000 in
theorem lc_told {E : jE} {G : Nat → ClassId} {L : List Nat} {F : Nat → va_E} {c : Nat → Nat} {o : Nat} {a : Nat → Nat} {s t : ST} {b N i : Nat} {xs : Nat → Int32} (hE : jOk E G room_1 cL_law 4 RL wsL_law) (hX : jScr E b N xs) (hi : i + 6 ≤ N) (hN : N ≤ 3072) (ht : two c o a) (hc : cIs G L F c s) (hm : mIs G L F o a t) (kk : ∀ F1 s1 t1, cIs G L F1 c s1 → mIs G L F1 o a t1 → J E L F1 431 10207 1009 [(3, .int (nI i)), (2, .ref o), (1, .ref (c 0)), (0, .ref b)] []) : J E L F 431 10207 788 [(3, .int (nI i)), (2, .ref o), (1, .ref (c 0)), (0, .ref b)] [] := by
  refine jr_aload_n hE dL_law_788 2 rfl ?_
  refine jr_aload_n hE dL_law_789 3 rfl ?_
  refine jr_iload_n hE dL_law_790 0 rfl ?_
  refine jr_iconst (v := (1 : Int32)) hE dL_law_791 (by decide) ?_
  refine jr_iadd (z := nI (i + 1)) hE dL_law_792 (show nI i + (1 : Int32) = nI (i + 1) from nI_add i 1) ?_
  refine jr_sld (v := xs (i + 1)) hE hX dL_law_793 (nI_in (by omega) (by omega)) (by rw [nI_clamp (by omega)]) ?_
  refine jr_aload_n hE dL_law_794 3 rfl ?_
  refine jr_iload_n hE dL_law_795 0 rfl ?_
  refine jr_iconst (v := (2 : Int32)) hE dL_law_796 (by decide) ?_
  refine jr_iadd (z := nI (i + 2)) hE dL_law_797 (show nI i + (2 : Int32) = nI (i + 2) from nI_add i 2) ?_
  refine jr_sld (v := xs (i + 2)) hE hX dL_law_798 (nI_in (by omega) (by omega)) (by rw [nI_clamp (by omega)]) ?_
  obtain ⟨B0, S0, P0, q0, X0, v0, hc0⟩ := hc
  refine jr_kVi (ci := 11) (n := 2) (As := [.int (xs (i + 1)), .int (xs (i + 2))]) (rest := []) hE dL_law_799 (fun l => c_c_told l G c B0 S0 P0 q0 X0 v0 s (xs (i + 1)) (xs (i + 2))) gL_law_X11_told rfl hc0.1.2.1.1 rfl ⟨rfl, by decide, by decide, by decide +kernel⟩ ⟨rfl, rfl, by decide, by decide⟩ ⟨by decide, by decide⟩ rfl rfl (Nat.le_of_ble_eq_true rfl) hc0 (fun r1 F1 p1 => ?_)
  obtain ⟨B1, S1, P1, q1, X1, v1, hc1, a1, O1⟩ := p1
  have hm := hm.kp ht O1
  have hc : cIs G L F1 c _ := ⟨_, _, _, _, _, _, hc1⟩
  refine jr_pop hE dL_law_802 rfl ?_
  refine jr_aload_n hE dL_law_803 1 rfl ?_
  refine jr_aload_n hE dL_law_804 3 rfl ?_
  refine jr_iload_n hE dL_law_805 0 rfl ?_
  refine jr_iconst (v := (1 : Int32)) hE dL_law_806 (by decide) ?_
  refine jr_iadd (z := nI (i + 1)) hE dL_law_807 (show nI i + (1 : Int32) = nI (i + 1) from nI_add i 1) ?_
  refine jr_sld (v := xs (i + 1)) hE hX dL_law_808 (nI_in (by omega) (by omega)) (by rw [nI_clamp (by omega)]) ?_
  refine jr_aload_n hE dL_law_809 3 rfl ?_
  refine jr_iload_n hE dL_law_810 0 rfl ?_
  refine jr_iconst (v := (2 : Int32)) hE dL_law_811 (by decide) ?_
  refine jr_iadd (z := nI (i + 2)) hE dL_law_812 (show nI i + (2 : Int32) = nI (i + 2) from nI_add i 2) ?_
  refine jr_sld (v := xs (i + 2)) hE hX dL_law_813 (nI_in (by omega) (by omega)) (by rw [nI_clamp (by omega)]) ?_
  obtain ⟨v2, n2, g2, w2, hm0⟩ := hm
  refine jr_kVi (ci := 12) (n := 2) (As := [.int (xs (i + 1)), .int (xs (i + 2))]) (rest := []) hE dL_law_814 (fun l => c_m_told l G o a v2 n2 g2 w2 t (xs (i + 1)) (xs (i + 2))) gL_law_X12_told rfl hm0.1.choose_spec.1.1 rfl ⟨rfl, by decide, by decide, by decide +kernel⟩ ⟨rfl, rfl, by decide, by decide⟩ ⟨by decide, by decide⟩ rfl rfl (Nat.le_of_ble_eq_true rfl) hm0 (fun r2 F2 p2 => ?_)
  obtain ⟨v3, n3, g3, w3, hm1, a2, O2⟩ := p2
  have hc := hc.kp ht O2
  have hm : mIs G L F2 o a _ := ⟨_, _, _, _, hm1⟩
  refine jr_pop hE dL_law_817 rfl ?_
  refine jr_goto (tgt := 1009) hE dL_law_818 (by decide) ?_
  exact kk F2 _ _ hc hm
set_option maxHeartbeats 4000000 in
set_option maxRecDepth 100000 in
theorem lc_session {E : jE} {G : Nat → ClassId} {L : List Nat} {F : Nat → va_E} {c : Nat → Nat} {o : Nat} {a : Nat → Nat} {s t : ST} {b N i : Nat} {xs : Nat → Int32} (hE : jOk E G room_1 cL_law 4 RL wsL_law) (hX : jScr E b N xs) (hi : i + 6 ≤ N) (hN : N ≤ 3072) (ht : two c o a) (hc : cIs G L F c s) (hm : mIs G L F o a t) (kk : ∀ F1 s1 t1, cIs G L F1 c s1 → mIs G L F1 o a t1 → J E L F1 431 10207 1009 [(3, .int (nI i)), (2, .ref o), (1, .ref (c 0)), (0, .ref b)] []) : J E L F 431 10207 821 [(3, .int (nI i)), (2, .ref o), (1, .ref (c 0)), (0, .ref b)] [] := by
  refine jr_aload_n hE dL_law_821 2 rfl ?_
  refine jr_aload_n hE dL_law_822 3 rfl ?_
  refine jr_iload_n hE dL_law_823 0 rfl ?_
  refine jr_iconst (v := (1 : Int32)) hE dL_law_824 (by decide) ?_
  refine jr_iadd (z := nI (i + 1)) hE dL_law_825 (show nI i + (1 : Int32) = nI (i + 1) from nI_add i 1) ?_
  refine jr_sld (v := xs (i + 1)) hE hX dL_law_826 (nI_in (by omega) (by omega)) (by rw [nI_clamp (by omega)]) ?_
  obtain ⟨B0, S0, P0, q0, X0, v0, hc0⟩ := hc
  refine jr_kVi (ci := 11) (n := 1) (As := [.int (xs (i + 1))]) (rest := []) hE dL_law_827 (fun l => c_c_session l G c B0 S0 P0 q0 X0 v0 s (xs (i + 1))) gL_law_X11_session rfl hc0.1.2.1.1 rfl ⟨rfl, by decide, by decide, by decide +kernel⟩ ⟨rfl, rfl, by decide, by decide⟩ ⟨by decide, by decide⟩ rfl rfl (Nat.le_of_ble_eq_true rfl) hc0 (fun r1 F1 p1 => ?_)
  obtain ⟨B1, S1, P1, q1, X1, v1, hc1, a1, O1⟩ := p1
  have hm := hm.kp ht O1
  have hc : cIs G L F1 c _ := ⟨_, _, _, _, _, _, hc1⟩
  refine jr_pop hE dL_law_830 rfl ?_
  refine jr_aload_n hE dL_law_831 1 rfl ?_
  refine jr_aload_n hE dL_law_832 3 rfl ?_
  refine jr_iload_n hE dL_law_833 0 rfl ?_
  refine jr_iconst (v := (1 : Int32)) hE dL_law_834 (by decide) ?_
  refine jr_iadd (z := nI (i + 1)) hE dL_law_835 (show nI i + (1 : Int32) = nI (i + 1) from nI_add i 1) ?_
  refine jr_sld (v := xs (i + 1)) hE hX dL_law_836 (nI_in (by omega) (by omega)) (by rw [nI_clamp (by omega)]) ?_
  obtain ⟨v2, n2, g2, w2, hm0⟩ := hm
  refine jr_kVi (ci := 12) (n := 1) (As := [.int (xs (i + 1))]) (rest := []) hE dL_law_837 (fun l => c_m_session l G o a v2 n2 g2 w2 t (xs (i + 1))) gL_law_X12_session rfl hm0.1.choose_spec.1.1 rfl ⟨rfl, by decide, by decide, by decide +kernel⟩ ⟨rfl, rfl, by decide, by decide⟩ ⟨by decide, by decide⟩ rfl rfl (Nat.le_of_ble_eq_true rfl) hm0 (fun r2 F2 p2 => ?_)
  obtain ⟨v3, n3, g3, w3, hm1, a2, O2⟩ := p2
  have hc := hc.kp ht O2
  have hm : mIs G L F2 o a _ := ⟨_, _, _, _, hm1⟩
  refine jr_pop hE dL_law_840 rfl ?_
  refine jr_goto (tgt := 1009) hE dL_law_841 (by decide) ?_
  exact kk F2 _ _ hc hm
set_option maxHeartbeats 4000000 in
set_option maxRecDepth 100000 in
theorem lc_about {E : jE} {G : Nat → ClassId} {L : List Nat} {F : Nat → va_E} {c : Nat → Nat} {o : Nat} {a : Nat → Nat} {s t : ST} {b N i : Nat} {xs : Nat → Int32} (hE : jOk E G room_1 cL_law 4 RL wsL_law) (hX : jScr E b N xs) (hi : i + 6 ≤ N) (hN : N ≤ 3072) (ht : two c o a) (hc : cIs G L F c s) (hm : mIs G L F o a t) (kk : ∀ F1 s1 t1, cIs G L F1 c s1 → mIs G L F1 o a t1 → J E L F1 431 10207 1009 [(3, .int (nI i)), (2, .ref o), (1, .ref (c 0)), (0, .ref b)] []) : J E L F 431 10207 844 [(3, .int (nI i)), (2, .ref o), (1, .ref (c 0)), (0, .ref b)] [] := by
  refine jr_aload_n hE dL_law_844 2 rfl ?_
  refine jr_aload_n hE dL_law_845 3 rfl ?_
  refine jr_iload_n hE dL_law_846 0 rfl ?_
  refine jr_iconst (v := (1 : Int32)) hE dL_law_847 (by decide) ?_
  refine jr_iadd (z := nI (i + 1)) hE dL_law_848 (show nI i + (1 : Int32) = nI (i + 1) from nI_add i 1) ?_
  refine jr_sld (v := xs (i + 1)) hE hX dL_law_849 (nI_in (by omega) (by omega)) (by rw [nI_clamp (by omega)]) ?_
  refine jr_aload_n hE dL_law_850 3 rfl ?_
  refine jr_iload_n hE dL_law_851 0 rfl ?_
  refine jr_iconst (v := (2 : Int32)) hE dL_law_852 (by decide) ?_
  refine jr_iadd (z := nI (i + 2)) hE dL_law_853 (show nI i + (2 : Int32) = nI (i + 2) from nI_add i 2) ?_
  refine jr_sld (v := xs (i + 2)) hE hX dL_law_854 (nI_in (by omega) (by omega)) (by rw [nI_clamp (by omega)]) ?_
  obtain ⟨B0, S0, P0, q0, X0, v0, hc0⟩ := hc
  refine jr_kVi (ci := 11) (n := 2) (As := [.int (xs (i + 1)), .int (xs (i + 2))]) (rest := []) hE dL_law_855 (fun l => c_c_about l G c B0 S0 P0 q0 X0 v0 s (xs (i + 1)) (xs (i + 2))) gL_law_X11_about rfl hc0.1.2.1.1 rfl ⟨rfl, by decide, by decide, by decide +kernel⟩ ⟨rfl, rfl, by decide, by decide⟩ ⟨by decide, by decide⟩ rfl rfl (Nat.le_of_ble_eq_true rfl) hc0 (fun r1 F1 p1 => ?_)
  obtain ⟨B1, S1, P1, q1, X1, v1, hc1, a1, O1⟩ := p1
  have hm := hm.kp ht O1
  have hc : cIs G L F1 c _ := ⟨_, _, _, _, _, _, hc1⟩
  refine jr_pop hE dL_law_858 rfl ?_
  refine jr_aload_n hE dL_law_859 1 rfl ?_
  refine jr_aload_n hE dL_law_860 3 rfl ?_
  refine jr_iload_n hE dL_law_861 0 rfl ?_
  refine jr_iconst (v := (1 : Int32)) hE dL_law_862 (by decide) ?_
  refine jr_iadd (z := nI (i + 1)) hE dL_law_863 (show nI i + (1 : Int32) = nI (i + 1) from nI_add i 1) ?_
  refine jr_sld (v := xs (i + 1)) hE hX dL_law_864 (nI_in (by omega) (by omega)) (by rw [nI_clamp (by omega)]) ?_
  refine jr_aload_n hE dL_law_865 3 rfl ?_
  refine jr_iload_n hE dL_law_866 0 rfl ?_
  refine jr_iconst (v := (2 : Int32)) hE dL_law_867 (by decide) ?_
  refine jr_iadd (z := nI (i + 2)) hE dL_law_868 (show nI i + (2 : Int32) = nI (i + 2) from nI_add i 2) ?_
  refine jr_sld (v := xs (i + 2)) hE hX dL_law_869 (nI_in (by omega) (by omega)) (by rw [nI_clamp (by omega)]) ?_
  obtain ⟨v2, n2, g2, w2, hm0⟩ := hm
  refine jr_kVi (ci := 12) (n := 2) (As := [.int (xs (i + 1)), .int (xs (i + 2))]) (rest := []) hE dL_law_870 (fun l => c_m_about l G o a v2 n2 g2 w2 t (xs (i + 1)) (xs (i + 2))) gL_law_X12_about rfl hm0.1.choose_spec.1.1 rfl ⟨rfl, by decide, by decide, by decide +kernel⟩ ⟨rfl, rfl, by decide, by decide⟩ ⟨by decide, by decide⟩ rfl rfl (Nat.le_of_ble_eq_true rfl) hm0 (fun r2 F2 p2 => ?_)
  obtain ⟨v3, n3, g3, w3, hm1, a2, O2⟩ := p2
  have hc := hc.kp ht O2
  have hm : mIs G L F2 o a _ := ⟨_, _, _, _, hm1⟩
  refine jr_pop hE dL_law_873 rfl ?_
  refine jr_goto (tgt := 1009) hE dL_law_874 (by decide) ?_
  exact kk F2 _ _ hc hm
set_option maxHeartbeats 4000000 in
set_option maxRecDepth 100000 in
theorem lc_part {E : jE} {G : Nat → ClassId} {L : List Nat} {F : Nat → va_E} {c : Nat → Nat} {o : Nat} {a : Nat → Nat} {s t : ST} {b N i : Nat} {xs : Nat → Int32} (hE : jOk E G room_1 cL_law 4 RL wsL_law) (hX : jScr E b N xs) (hi : i + 6 ≤ N) (hN : N ≤ 3072) (ht : two c o a) (hc : cIs G L F c s) (hm : mIs G L F o a t) (kk : ∀ F1 s1 t1, cIs G L F1 c s1 → mIs G L F1 o a t1 → J E L F1 431 10207 1009 [(3, .int (nI i)), (2, .ref o), (1, .ref (c 0)), (0, .ref b)] []) : J E L F 431 10207 877 [(3, .int (nI i)), (2, .ref o), (1, .ref (c 0)), (0, .ref b)] [] := by
  refine jr_aload_n hE dL_law_877 2 rfl ?_
  refine jr_aload_n hE dL_law_878 3 rfl ?_
  refine jr_iload_n hE dL_law_879 0 rfl ?_
  refine jr_iconst (v := (1 : Int32)) hE dL_law_880 (by decide) ?_
  refine jr_iadd (z := nI (i + 1)) hE dL_law_881 (show nI i + (1 : Int32) = nI (i + 1) from nI_add i 1) ?_
  refine jr_sld (v := xs (i + 1)) hE hX dL_law_882 (nI_in (by omega) (by omega)) (by rw [nI_clamp (by omega)]) ?_
  refine jr_aload_n hE dL_law_883 3 rfl ?_
  refine jr_iload_n hE dL_law_884 0 rfl ?_
  refine jr_iconst (v := (2 : Int32)) hE dL_law_885 (by decide) ?_
  refine jr_iadd (z := nI (i + 2)) hE dL_law_886 (show nI i + (2 : Int32) = nI (i + 2) from nI_add i 2) ?_
  refine jr_sld (v := xs (i + 2)) hE hX dL_law_887 (nI_in (by omega) (by omega)) (by rw [nI_clamp (by omega)]) ?_
  refine jr_aload_n hE dL_law_888 3 rfl ?_
  refine jr_iload_n hE dL_law_889 0 rfl ?_
  refine jr_iconst (v := (3 : Int32)) hE dL_law_890 (by decide) ?_
  refine jr_iadd (z := nI (i + 3)) hE dL_law_891 (show nI i + (3 : Int32) = nI (i + 3) from nI_add i 3) ?_
  refine jr_sld (v := xs (i + 3)) hE hX dL_law_892 (nI_in (by omega) (by omega)) (by rw [nI_clamp (by omega)]) ?_
  obtain ⟨B0, S0, P0, q0, X0, v0, hc0⟩ := hc
  refine jr_kVi (ci := 11) (n := 3) (As := [.int (xs (i + 1)), .int (xs (i + 2)), .int (xs (i + 3))]) (rest := []) hE dL_law_893 (fun l => c_c_part l G c B0 S0 P0 q0 X0 v0 s (xs (i + 1)) (xs (i + 2)) (xs (i + 3))) gL_law_X11_part rfl hc0.1.2.1.1 rfl ⟨rfl, by decide, by decide, by decide +kernel⟩ ⟨rfl, rfl, by decide, by decide⟩ ⟨by decide, by decide⟩ rfl rfl (Nat.le_of_ble_eq_true rfl) hc0 (fun r1 F1 p1 => ?_)
  obtain ⟨B1, S1, P1, q1, X1, v1, hc1, a1, O1⟩ := p1
  have hm := hm.kp ht O1
  have hc : cIs G L F1 c _ := ⟨_, _, _, _, _, _, hc1⟩
  refine jr_pop hE dL_law_896 rfl ?_
  refine jr_aload_n hE dL_law_897 1 rfl ?_
  refine jr_aload_n hE dL_law_898 3 rfl ?_
  refine jr_iload_n hE dL_law_899 0 rfl ?_
  refine jr_iconst (v := (1 : Int32)) hE dL_law_900 (by decide) ?_
  refine jr_iadd (z := nI (i + 1)) hE dL_law_901 (show nI i + (1 : Int32) = nI (i + 1) from nI_add i 1) ?_
  refine jr_sld (v := xs (i + 1)) hE hX dL_law_902 (nI_in (by omega) (by omega)) (by rw [nI_clamp (by omega)]) ?_
  refine jr_aload_n hE dL_law_903 3 rfl ?_
  refine jr_iload_n hE dL_law_904 0 rfl ?_
  refine jr_iconst (v := (2 : Int32)) hE dL_law_905 (by decide) ?_
  refine jr_iadd (z := nI (i + 2)) hE dL_law_906 (show nI i + (2 : Int32) = nI (i + 2) from nI_add i 2) ?_
  refine jr_sld (v := xs (i + 2)) hE hX dL_law_907 (nI_in (by omega) (by omega)) (by rw [nI_clamp (by omega)]) ?_
  refine jr_aload_n hE dL_law_908 3 rfl ?_
  refine jr_iload_n hE dL_law_909 0 rfl ?_
  refine jr_iconst (v := (3 : Int32)) hE dL_law_910 (by decide) ?_
  refine jr_iadd (z := nI (i + 3)) hE dL_law_911 (show nI i + (3 : Int32) = nI (i + 3) from nI_add i 3) ?_
  refine jr_sld (v := xs (i + 3)) hE hX dL_law_912 (nI_in (by omega) (by omega)) (by rw [nI_clamp (by omega)]) ?_
  obtain ⟨v2, n2, g2, w2, hm0⟩ := hm
  refine jr_kVi (ci := 12) (n := 3) (As := [.int (xs (i + 1)), .int (xs (i + 2)), .int (xs (i + 3))]) (rest := []) hE dL_law_913 (fun l => c_m_part l G o a v2 n2 g2 w2 t (xs (i + 1)) (xs (i + 2)) (xs (i + 3))) gL_law_X12_part rfl hm0.1.choose_spec.1.1 rfl ⟨rfl, by decide, by decide, by decide +kernel⟩ ⟨rfl, rfl, by decide, by decide⟩ ⟨by decide, by decide⟩ rfl rfl (Nat.le_of_ble_eq_true rfl) hm0 (fun r2 F2 p2 => ?_)
  obtain ⟨v3, n3, g3, w3, hm1, a2, O2⟩ := p2
  have hc := hc.kp ht O2
  have hm : mIs G L F2 o a _ := ⟨_, _, _, _, hm1⟩
  refine jr_pop hE dL_law_916 rfl ?_
  refine jr_goto (tgt := 1009) hE dL_law_917 (by decide) ?_
  exact kk F2 _ _ hc hm
set_option maxHeartbeats 4000000 in
set_option maxRecDepth 100000 in
theorem lc_partHolds {E : jE} {G : Nat → ClassId} {L : List Nat} {F : Nat → va_E} {c : Nat → Nat} {o : Nat} {a : Nat → Nat} {s t : ST} {b N i : Nat} {xs : Nat → Int32} (hE : jOk E G room_1 cL_law 4 RL wsL_law) (hX : jScr E b N xs) (hi : i + 6 ≤ N) (hN : N ≤ 3072) (ht : two c o a) (hc : cIs G L F c s) (hm : mIs G L F o a t) (kk : ∀ F1 s1 t1, cIs G L F1 c s1 → mIs G L F1 o a t1 → J E L F1 431 10207 1009 [(3, .int (nI i)), (2, .ref o), (1, .ref (c 0)), (0, .ref b)] []) : J E L F 431 10207 920 [(3, .int (nI i)), (2, .ref o), (1, .ref (c 0)), (0, .ref b)] [] := by
  refine jr_aload_n hE dL_law_920 2 rfl ?_
  refine jr_aload_n hE dL_law_921 3 rfl ?_
  refine jr_iload_n hE dL_law_922 0 rfl ?_
  refine jr_iconst (v := (1 : Int32)) hE dL_law_923 (by decide) ?_
  refine jr_iadd (z := nI (i + 1)) hE dL_law_924 (show nI i + (1 : Int32) = nI (i + 1) from nI_add i 1) ?_
  refine jr_sld (v := xs (i + 1)) hE hX dL_law_925 (nI_in (by omega) (by omega)) (by rw [nI_clamp (by omega)]) ?_
  refine jr_aload_n hE dL_law_926 3 rfl ?_
  refine jr_iload_n hE dL_law_927 0 rfl ?_
  refine jr_iconst (v := (2 : Int32)) hE dL_law_928 (by decide) ?_
  refine jr_iadd (z := nI (i + 2)) hE dL_law_929 (show nI i + (2 : Int32) = nI (i + 2) from nI_add i 2) ?_
  refine jr_sld (v := xs (i + 2)) hE hX dL_law_930 (nI_in (by omega) (by omega)) (by rw [nI_clamp (by omega)]) ?_
  obtain ⟨B0, S0, P0, q0, X0, v0, hc0⟩ := hc
  refine jr_kVi (ci := 11) (n := 2) (As := [.int (xs (i + 1)), .int (xs (i + 2))]) (rest := []) hE dL_law_931 (fun l => c_c_partHolds l G c B0 S0 P0 q0 X0 v0 s (xs (i + 1)) (xs (i + 2))) gL_law_X11_partHolds rfl hc0.1.2.1.1 rfl ⟨rfl, by decide, by decide, by decide +kernel⟩ ⟨rfl, rfl, by decide, by decide⟩ ⟨by decide, by decide⟩ rfl rfl (Nat.le_of_ble_eq_true rfl) hc0 (fun r1 F1 p1 => ?_)
  obtain ⟨B1, S1, P1, q1, X1, v1, hc1, a1, O1⟩ := p1
  have hm := hm.kp ht O1
  have hc : cIs G L F1 c _ := ⟨_, _, _, _, _, _, hc1⟩
  refine jr_pop hE dL_law_934 rfl ?_
  refine jr_aload_n hE dL_law_935 1 rfl ?_
  refine jr_aload_n hE dL_law_936 3 rfl ?_
  refine jr_iload_n hE dL_law_937 0 rfl ?_
  refine jr_iconst (v := (1 : Int32)) hE dL_law_938 (by decide) ?_
  refine jr_iadd (z := nI (i + 1)) hE dL_law_939 (show nI i + (1 : Int32) = nI (i + 1) from nI_add i 1) ?_
  refine jr_sld (v := xs (i + 1)) hE hX dL_law_940 (nI_in (by omega) (by omega)) (by rw [nI_clamp (by omega)]) ?_
  refine jr_aload_n hE dL_law_941 3 rfl ?_
  refine jr_iload_n hE dL_law_942 0 rfl ?_
  refine jr_iconst (v := (2 : Int32)) hE dL_law_943 (by decide) ?_
  refine jr_iadd (z := nI (i + 2)) hE dL_law_944 (show nI i + (2 : Int32) = nI (i + 2) from nI_add i 2) ?_
  refine jr_sld (v := xs (i + 2)) hE hX dL_law_945 (nI_in (by omega) (by omega)) (by rw [nI_clamp (by omega)]) ?_
  obtain ⟨v2, n2, g2, w2, hm0⟩ := hm
  refine jr_kVi (ci := 12) (n := 2) (As := [.int (xs (i + 1)), .int (xs (i + 2))]) (rest := []) hE dL_law_946 (fun l => c_m_partHolds l G o a v2 n2 g2 w2 t (xs (i + 1)) (xs (i + 2))) gL_law_X12_partHolds rfl hm0.1.choose_spec.1.1 rfl ⟨rfl, by decide, by decide, by decide +kernel⟩ ⟨rfl, rfl, by decide, by decide⟩ ⟨by decide, by decide⟩ rfl rfl (Nat.le_of_ble_eq_true rfl) hm0 (fun r2 F2 p2 => ?_)
  obtain ⟨v3, n3, g3, w3, hm1, a2, O2⟩ := p2
  have hc := hc.kp ht O2
  have hm : mIs G L F2 o a _ := ⟨_, _, _, _, hm1⟩
  refine jr_pop hE dL_law_949 rfl ?_
  refine jr_goto (tgt := 1009) hE dL_law_950 (by decide) ?_
  exact kk F2 _ _ hc hm
set_option maxHeartbeats 4000000 in
set_option maxRecDepth 100000 in
theorem lc_together {E : jE} {G : Nat → ClassId} {L : List Nat} {F : Nat → va_E} {c : Nat → Nat} {o : Nat} {a : Nat → Nat} {s t : ST} {b N i : Nat} {xs : Nat → Int32} (hE : jOk E G room_1 cL_law 4 RL wsL_law) (hX : jScr E b N xs) (hi : i + 6 ≤ N) (hN : N ≤ 3072) (ht : two c o a) (hc : cIs G L F c s) (hm : mIs G L F o a t) (kk : ∀ F1 s1 t1, cIs G L F1 c s1 → mIs G L F1 o a t1 → J E L F1 431 10207 1009 [(3, .int (nI i)), (2, .ref o), (1, .ref (c 0)), (0, .ref b)] []) : J E L F 431 10207 953 [(3, .int (nI i)), (2, .ref o), (1, .ref (c 0)), (0, .ref b)] [] := by
  refine jr_aload_n hE dL_law_953 2 rfl ?_
  refine jr_aload_n hE dL_law_954 3 rfl ?_
  refine jr_iload_n hE dL_law_955 0 rfl ?_
  refine jr_iconst (v := (1 : Int32)) hE dL_law_956 (by decide) ?_
  refine jr_iadd (z := nI (i + 1)) hE dL_law_957 (show nI i + (1 : Int32) = nI (i + 1) from nI_add i 1) ?_
  refine jr_sld (v := xs (i + 1)) hE hX dL_law_958 (nI_in (by omega) (by omega)) (by rw [nI_clamp (by omega)]) ?_
  refine jr_aload_n hE dL_law_959 3 rfl ?_
  refine jr_iload_n hE dL_law_960 0 rfl ?_
  refine jr_iconst (v := (2 : Int32)) hE dL_law_961 (by decide) ?_
  refine jr_iadd (z := nI (i + 2)) hE dL_law_962 (show nI i + (2 : Int32) = nI (i + 2) from nI_add i 2) ?_
  refine jr_sld (v := xs (i + 2)) hE hX dL_law_963 (nI_in (by omega) (by omega)) (by rw [nI_clamp (by omega)]) ?_
  obtain ⟨B0, S0, P0, q0, X0, v0, hc0⟩ := hc
  refine jr_kVi (ci := 11) (n := 2) (As := [.int (xs (i + 1)), .int (xs (i + 2))]) (rest := []) hE dL_law_964 (fun l => c_c_together l G c B0 S0 P0 q0 X0 v0 s (xs (i + 1)) (xs (i + 2))) gL_law_X11_together rfl hc0.1.2.1.1 rfl ⟨rfl, by decide, by decide, by decide +kernel⟩ ⟨rfl, rfl, by decide, by decide⟩ ⟨by decide, by decide⟩ rfl rfl (Nat.le_of_ble_eq_true rfl) hc0 (fun r1 F1 p1 => ?_)
  obtain ⟨B1, S1, P1, q1, X1, v1, hc1, a1, O1⟩ := p1
  have hm := hm.kp ht O1
  have hc : cIs G L F1 c _ := ⟨_, _, _, _, _, _, hc1⟩
  refine jr_pop hE dL_law_967 rfl ?_
  refine jr_aload_n hE dL_law_968 1 rfl ?_
  refine jr_aload_n hE dL_law_969 3 rfl ?_
  refine jr_iload_n hE dL_law_970 0 rfl ?_
  refine jr_iconst (v := (1 : Int32)) hE dL_law_971 (by decide) ?_
  refine jr_iadd (z := nI (i + 1)) hE dL_law_972 (show nI i + (1 : Int32) = nI (i + 1) from nI_add i 1) ?_
  refine jr_sld (v := xs (i + 1)) hE hX dL_law_973 (nI_in (by omega) (by omega)) (by rw [nI_clamp (by omega)]) ?_
  refine jr_aload_n hE dL_law_974 3 rfl ?_
  refine jr_iload_n hE dL_law_975 0 rfl ?_
  refine jr_iconst (v := (2 : Int32)) hE dL_law_976 (by decide) ?_
  refine jr_iadd (z := nI (i + 2)) hE dL_law_977 (show nI i + (2 : Int32) = nI (i + 2) from nI_add i 2) ?_
  refine jr_sld (v := xs (i + 2)) hE hX dL_law_978 (nI_in (by omega) (by omega)) (by rw [nI_clamp (by omega)]) ?_
  obtain ⟨v2, n2, g2, w2, hm0⟩ := hm
  refine jr_kVi (ci := 12) (n := 2) (As := [.int (xs (i + 1)), .int (xs (i + 2))]) (rest := []) hE dL_law_979 (fun l => c_m_together l G o a v2 n2 g2 w2 t (xs (i + 1)) (xs (i + 2))) gL_law_X12_together rfl hm0.1.choose_spec.1.1 rfl ⟨rfl, by decide, by decide, by decide +kernel⟩ ⟨rfl, rfl, by decide, by decide⟩ ⟨by decide, by decide⟩ rfl rfl (Nat.le_of_ble_eq_true rfl) hm0 (fun r2 F2 p2 => ?_)
  obtain ⟨v3, n3, g3, w3, hm1, a2, O2⟩ := p2
  have hc := hc.kp ht O2
  have hm : mIs G L F2 o a _ := ⟨_, _, _, _, hm1⟩
  refine jr_pop hE dL_law_982 rfl ?_
  refine jr_goto (tgt := 1009) hE dL_law_983 (by decide) ?_
  exact kk F2 _ _ hc hm
set_option maxHeartbeats 4000000 in
set_option maxRecDepth 100000 in
theorem lc_count {E : jE} {G : Nat → ClassId} {L : List Nat} {F : Nat → va_E} {c : Nat → Nat} {o : Nat} {a : Nat → Nat} {s t : ST} {b N i : Nat} {xs : Nat → Int32} (hE : jOk E G room_1 cL_law 4 RL wsL_law) (hX : jScr E b N xs) (hi : i + 6 ≤ N) (hN : N ≤ 3072) (ht : two c o a) (hc : cIs G L F c s) (hm : mIs G L F o a t) (kk : ∀ F1 s1 t1, cIs G L F1 c s1 → mIs G L F1 o a t1 → J E L F1 431 10207 1009 [(3, .int (nI i)), (2, .ref o), (1, .ref (c 0)), (0, .ref b)] []) : J E L F 431 10207 986 [(3, .int (nI i)), (2, .ref o), (1, .ref (c 0)), (0, .ref b)] [] := by
  refine jr_aload_n hE dL_law_986 2 rfl ?_
  refine jr_aload_n hE dL_law_987 3 rfl ?_
  refine jr_iload_n hE dL_law_988 0 rfl ?_
  refine jr_iconst (v := (1 : Int32)) hE dL_law_989 (by decide) ?_
  refine jr_iadd (z := nI (i + 1)) hE dL_law_990 (show nI i + (1 : Int32) = nI (i + 1) from nI_add i 1) ?_
  refine jr_sld (v := xs (i + 1)) hE hX dL_law_991 (nI_in (by omega) (by omega)) (by rw [nI_clamp (by omega)]) ?_
  obtain ⟨B0, S0, P0, q0, X0, v0, hc0⟩ := hc
  refine jr_kVi (ci := 11) (n := 1) (As := [.int (xs (i + 1))]) (rest := []) hE dL_law_992 (fun l => c_c_count l G c B0 S0 P0 q0 X0 v0 s (xs (i + 1))) gL_law_X11_count rfl hc0.1.2.1.1 rfl ⟨rfl, by decide, by decide, by decide +kernel⟩ ⟨rfl, rfl, by decide, by decide⟩ ⟨by decide, by decide⟩ rfl rfl (Nat.le_of_ble_eq_true rfl) hc0 (fun r1 F1 p1 => ?_)
  obtain ⟨eF, a1⟩ := p1
  subst eF
  have hc : cIs G L F c s := ⟨_, _, _, _, _, _, hc0⟩
  refine jr_pop hE dL_law_995 rfl ?_
  refine jr_aload_n hE dL_law_996 1 rfl ?_
  refine jr_aload_n hE dL_law_997 3 rfl ?_
  refine jr_iload_n hE dL_law_998 0 rfl ?_
  refine jr_iconst (v := (1 : Int32)) hE dL_law_999 (by decide) ?_
  refine jr_iadd (z := nI (i + 1)) hE dL_law_1000 (show nI i + (1 : Int32) = nI (i + 1) from nI_add i 1) ?_
  refine jr_sld (v := xs (i + 1)) hE hX dL_law_1001 (nI_in (by omega) (by omega)) (by rw [nI_clamp (by omega)]) ?_
  obtain ⟨v2, n2, g2, w2, hm0⟩ := hm
  refine jr_kVi (ci := 12) (n := 1) (As := [.int (xs (i + 1))]) (rest := []) hE dL_law_1002 (fun l => c_m_count l G o a v2 n2 g2 w2 t (xs (i + 1))) gL_law_X12_count rfl hm0.1.choose_spec.1.1 rfl ⟨rfl, by decide, by decide, by decide +kernel⟩ ⟨rfl, rfl, by decide, by decide⟩ ⟨by decide, by decide⟩ rfl rfl (Nat.le_of_ble_eq_true rfl) hm0 (fun r2 F2 p2 => ?_)
  obtain ⟨eF, a2⟩ := p2
  subst eF
  have hm : mIs G L F o a t := ⟨_, _, _, _, hm0⟩
  refine jr_pop hE dL_law_1005 rfl ?_
  refine jr_goto (tgt := 1009) hE dL_law_1006 (by decide) ?_
  exact kk F _ _ hc hm
set_option maxHeartbeats 4000000 in
set_option maxRecDepth 100000 in
theorem lc_sw {E : jE} {G : Nat → ClassId} {L : List Nat} {F : Nat → va_E} {c : Nat → Nat} {o : Nat} {a : Nat → Nat} {s t : ST} {b N i : Nat} {xs : Nat → Int32} (hE : jOk E G room_1 cL_law 4 RL wsL_law) (hX : jScr E b N xs) (hi : i + 6 ≤ N) (hN : N ≤ 3072) (ht : two c o a) (hc : cIs G L F c s) (hm : mIs G L F o a t) (kk : ∀ F1 s1 t1, cIs G L F1 c s1 → mIs G L F1 o a t1 → J E L F1 431 10207 1009 [(3, .int (nI i)), (2, .ref o), (1, .ref (c 0)), (0, .ref b)] []) (x : Int32) : J E L F 431 10207 33 [(3, .int (nI i)), (2, .ref o), (1, .ref (c 0)), (0, .ref b)] [.int x] := by
  by_cases h0 : x.toInt < 0 ∨ 22 < x.toInt
  · exact jr_tabOut 1009 hE dL_law_33 h0 (by decide) (kk F _ _ hc hm)
  rcases (show x.toInt = 0 ∨ x.toInt = 1 ∨ x.toInt = 2 ∨ x.toInt = 3 ∨ x.toInt = 4 ∨ x.toInt = 5 ∨ x.toInt = 6 ∨ x.toInt = 7 ∨ x.toInt = 8 ∨ x.toInt = 9 ∨ x.toInt = 10 ∨ x.toInt = 11 ∨ x.toInt = 12 ∨ x.toInt = 13 ∨ x.toInt = 14 ∨ x.toInt = 15 ∨ x.toInt = 16 ∨ x.toInt = 17 ∨ x.toInt = 18 ∨ x.toInt = 19 ∨ x.toInt = 20 ∨ x.toInt = 21 ∨ x.toInt = 22 by omega) with h | h | h | h | h | h | h | h | h | h | h | h | h | h | h | h | h | h | h | h | h | h | h
  · refine jr_tabIn (off := 107) 140 hE dL_law_33 (by rw [h]; decide) (by rw [h]; decide) (by rw [h]; rfl) (by decide) ?_
    exact lc_put hE hX hi hN ht hc hm kk
  · refine jr_tabIn (off := 180) 213 hE dL_law_33 (by rw [h]; decide) (by rw [h]; decide) (by rw [h]; rfl) (by decide) ?_
    exact lc_clear hE hX hi hN ht hc hm kk
  · refine jr_tabIn (off := 203) 236 hE dL_law_33 (by rw [h]; decide) (by rw [h]; decide) (by rw [h]; rfl) (by decide) ?_
    exact lc_at hE hX hi hN ht hc hm kk
  · refine jr_tabIn (off := 236) 269 hE dL_law_33 (by rw [h]; decide) (by rw [h]; decide) (by rw [h]; rfl) (by decide) ?_
    exact lc_bend hE hX hi hN ht hc hm kk
  · refine jr_tabIn (off := 279) 312 hE dL_law_33 (by rw [h]; decide) (by rw [h]; decide) (by rw [h]; rfl) (by decide) ?_
    exact lc_copy hE hX hi hN ht hc hm kk
  · refine jr_tabIn (off := 322) 355 hE dL_law_33 (by rw [h]; decide) (by rw [h]; decide) (by rw [h]; rfl) (by decide) ?_
    exact lc_same hE hX hi hN ht hc hm kk
  · refine jr_tabIn (off := 355) 388 hE dL_law_33 (by rw [h]; decide) (by rw [h]; decide) (by rw [h]; rfl) (by decide) ?_
    exact lc_hash hE hX hi hN ht hc hm kk
  · refine jr_tabIn (off := 398) 431 hE dL_law_33 (by rw [h]; decide) (by rw [h]; decide) (by rw [h]; rfl) (by decide) ?_
    exact lc_key hE hX hi hN ht hc hm kk
  · refine jr_tabIn (off := 441) 474 hE dL_law_33 (by rw [h]; decide) (by rw [h]; decide) (by rw [h]; rfl) (by decide) ?_
    exact lc_sign hE hX hi hN ht hc hm kk
  · refine jr_tabIn (off := 494) 527 hE dL_law_33 (by rw [h]; decide) (by rw [h]; decide) (by rw [h]; rfl) (by decide) ?_
    exact lc_holds hE hX hi hN ht hc hm kk
  · refine jr_tabIn (off := 537) 570 hE dL_law_33 (by rw [h]; decide) (by rw [h]; decide) (by rw [h]; rfl) (by decide) ?_
    exact lc_entry hE hX hi hN ht hc hm kk
  · refine jr_tabIn (off := 620) 653 hE dL_law_33 (by rw [h]; decide) (by rw [h]; decide) (by rw [h]; rfl) (by decide) ?_
    exact lc_manyHold hE hX hi hN ht hc hm kk
  · refine jr_tabIn (off := 633) 666 hE dL_law_33 (by rw [h]; decide) (by rw [h]; decide) (by rw [h]; rfl) (by decide) ?_
    exact lc_signer hE hX hi hN ht hc hm kk
  · refine jr_tabIn (off := 656) 689 hE dL_law_33 (by rw [h]; decide) (by rw [h]; decide) (by rw [h]; rfl) (by decide) ?_
    exact lc_noSigners hE hX hi hN ht hc hm kk
  · refine jr_tabIn (off := 669) 702 hE dL_law_33 (by rw [h]; decide) (by rw [h]; decide) (by rw [h]; rfl) (by decide) ?_
    exact lc_jointKey hE hX hi hN ht hc hm kk
  · refine jr_tabIn (off := 692) 725 hE dL_law_33 (by rw [h]; decide) (by rw [h]; decide) (by rw [h]; rfl) (by decide) ?_
    exact lc_nonce hE hX hi hN ht hc hm kk
  · refine jr_tabIn (off := 755) 788 hE dL_law_33 (by rw [h]; decide) (by rw [h]; decide) (by rw [h]; rfl) (by decide) ?_
    exact lc_told hE hX hi hN ht hc hm kk
  · refine jr_tabIn (off := 788) 821 hE dL_law_33 (by rw [h]; decide) (by rw [h]; decide) (by rw [h]; rfl) (by decide) ?_
    exact lc_session hE hX hi hN ht hc hm kk
  · refine jr_tabIn (off := 811) 844 hE dL_law_33 (by rw [h]; decide) (by rw [h]; decide) (by rw [h]; rfl) (by decide) ?_
    exact lc_about hE hX hi hN ht hc hm kk
  · refine jr_tabIn (off := 844) 877 hE dL_law_33 (by rw [h]; decide) (by rw [h]; decide) (by rw [h]; rfl) (by decide) ?_
    exact lc_part hE hX hi hN ht hc hm kk
  · refine jr_tabIn (off := 887) 920 hE dL_law_33 (by rw [h]; decide) (by rw [h]; decide) (by rw [h]; rfl) (by decide) ?_
    exact lc_partHolds hE hX hi hN ht hc hm kk
  · refine jr_tabIn (off := 920) 953 hE dL_law_33 (by rw [h]; decide) (by rw [h]; decide) (by rw [h]; rfl) (by decide) ?_
    exact lc_together hE hX hi hN ht hc hm kk
  · refine jr_tabIn (off := 953) 986 hE dL_law_33 (by rw [h]; decide) (by rw [h]; decide) (by rw [h]; rfl) (by decide) ?_
    exact lc_count hE hX hi hN ht hc hm kk
theorem nI_sub6 {i N : Nat} (hi : i ≤ N) (hN : N ≤ 3072) (h : ¬ (nI N - 6 < nI i)) : i + 6 ≤ N := by
  rw [Int32.lt_iff_toInt_lt, Int32.toInt_sub, nI_toInt (by omega), nI_toInt (by omega), show (6 : Int32).toInt = 6 from rfl, Int.bmod_eq_of_le (by omega) (by omega)] at h
  omega
set_option maxHeartbeats 4000000 in
set_option maxRecDepth 100000 in
theorem law_loop {E : jE} {G : Nat → ClassId} {L : List Nat} {c : Nat → Nat} {o : Nat} {a : Nat → Nat} {b N : Nat} {xs : Nat → Int32} (hE : jOk E G room_1 cL_law 4 RL wsL_law) (hX : jScr E b N xs) (hN : N ≤ 3072) (ht : two c o a) (hR : ∀ F lv, J E L F 431 10207 1016 lv [.int 1]) : ∀ (n i : Nat) (F : Nat → va_E) (s t : ST), i ≤ N → N + 1 ≤ i + n → cIs G L F c s → mIs G L F o a t → J E L F 431 10207 18 [(3, .int (nI i)), (2, .ref o), (1, .ref (c 0)), (0, .ref b)] [] := by
  intro n
  induction n with
  | zero => intro i F s t h1 h2; exact absurd h2 (by omega)
  | succ n ih =>
    intro i F s t h1 h2 hc hm
    refine jr_iload_n hE dL_law_18 0 rfl ?_
    refine jr_aload_n hE dL_law_19 3 rfl ?_
    refine jr_slen hE hX dL_law_20 ?_
    refine jr_bipush (v := (6 : Int32)) hE dL_law_21 (by decide) ?_
    refine jr_isub hE dL_law_23 rfl ?_
    refine jr_icmp_gt (tgt := 1015) hE dL_law_24 (by decide) (fun _ => ?_) (fun h => ?_)
    · refine jr_iconst (v := (1 : Int32)) hE dL_law_1015 (by decide) ?_
      exact hR F _
    have hi := nI_sub6 h1 (by omega) h
    refine jr_aload_n hE dL_law_27 3 rfl ?_
    refine jr_iload_n hE dL_law_28 0 rfl ?_
    refine jr_sld (v := xs i) hE hX dL_law_29 (nI_in (by omega) (by omega)) (by rw [nI_clamp (by omega)]) ?_
    refine jr_bipush (v := (31 : Int32)) hE dL_law_30 (by decide) ?_
    refine jr_iand hE dL_law_32 rfl ?_
    refine lc_sw hE hX hi (by omega) ht hc hm (fun F1 s1 t1 hc1 hm1 => ?_) _
    refine jr_iinc (v := nI (i + 6)) (lv' := [(3, .int (nI (i + 6))), (2, .ref o), (1, .ref (c 0)), (0, .ref b)]) hE dL_law_1009 0 rfl (show nI i + (6 : Int32) = nI (i + 6) from nI_add i 6) (by decide) rfl ?_
    refine jr_goto (tgt := 18) hE dL_law_1012 (by decide) ?_
    exact ih (i + 6) F1 s1 t1 hi (by omega) hc1 hm1
