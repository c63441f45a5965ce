/-! THE REFERENCE'S digest of a row -/
def pall (m : Nat) : Nat := (m + 72) / 64 * 64
def padq (bs : List Nat) (j : Nat) : Nat := if pall bs.length ≤ j + 4 then 8 * bs.length / 256 ^ (pall bs.length - 1 - j) % 256 else if j < bs.length then bs.getD j 0 else if j = bs.length then 128 else 0
def wdq (q : Nat → Nat) (i : Nat) : Int32 := nI (q i * 2 ^ 24 + q (i + 1) * 2 ^ 16 + q (i + 2) * 2 ^ 8 + q (i + 3))
def stq (q : Nat → Nat) : Nat → Nat → Int32
  | 0 => fun j => jSTART.getD j 0
  | k + 1 => shB (stq q k) (fun j => wdq q (64 * k + 4 * j))
/-- the digest of bytes -/
def sha (bs : List Nat) : List Nat := dgl (stq (padq bs) (pall bs.length / 64)) 8
theorem byt32 (x : Int32) : ∀ i, i < 4 → byt x.toInt64 i = x.toBitVec.toNat / 2 ^ (8 * i) % 256 := by
  intro i hi
  unfold byt
  have h : x.toInt64.toBitVec.toNat % 2 ^ 32 = x.toBitVec.toNat := by
    show (BitVec.signExtend 64 x.toBitVec).toNat % 2 ^ 32 = _
    rw [BitVec.toNat_signExtend]
    have hx := x.toBitVec.isLt
    split
    · rw [BitVec.toNat_setWidth]
      omega
    · rw [BitVec.toNat_setWidth]
      omega
  generalize x.toInt64.toBitVec.toNat = A at *
  generalize x.toBitVec.toNat = B at *
  match i, hi with
  | 0, _ => simp only [Nat.mul_zero, Nat.pow_zero, Nat.div_one]; omega
  | 1, _ => simp only [Nat.mul_one]; omega
  | 2, _ => show A / 2 ^ 16 % 256 = B / 2 ^ 16 % 256; omega
  | 3, _ => show A / 2 ^ 24 % 256 = B / 2 ^ 24 % 256; omega
theorem nb_get (v : Int64) : ∀ n i, i < n → (nb v n).getD i 0 = byt v (n - 1 - i)
  | 0, _, h => absurd h (Nat.not_lt_zero _)
  | n + 1, 0, _ => rfl
  | n + 1, i + 1, h => by
    show (nb v n).getD i 0 = _
    rw [nb_get v n i (by omega), show n + 1 - 1 - (i + 1) = n - 1 - i by omega]
theorem dgl_get (f : Nat → Int32) : ∀ n k, k < 4 * n → (dgl f n).getD k 0 = byt (f (k / 4)).toInt64 (3 - k % 4)
  | 0, _, h => absurd h (by omega)
  | n + 1, k, h => by
    rw [dgl, List.getD_eq_getElem?_getD]
    by_cases q : k < 4 * n
    · rw [List.getElem?_append_left (by rw [dgl_len]; exact q), ← List.getD_eq_getElem?_getD]
      exact dgl_get f n k q
    · rw [List.getElem?_append_right (by rw [dgl_len]; omega), dgl_len, ← List.getD_eq_getElem?_getD, nb_get _ _ _ (by omega), show k / 4 = n by omega, show 4 - 1 - (k - 4 * n) = 3 - k % 4 by omega]
theorem dgl_cg {f f' : Nat → Int32} : ∀ n, (∀ j, j < n → f j = f' j) → dgl f n = dgl f' n
  | 0, _ => rfl
  | n + 1, h => by rw [dgl, dgl, dgl_cg n (fun j hj => h j (by omega)), h n (by omega)]
theorem bgf_at (f : Nat → Int32) : ∀ n j, bgf f n j = if j < n then jSTART.getD j 0 else f j
  | 0, j => by rw [if_neg (Nat.not_lt_zero j)]; rfl
  | n + 1, j => by
    rw [bgf]
    show (if j = n then _ else _) = _
    by_cases e : j = n
    · rw [if_pos e, if_pos (by omega), e]
    · rw [if_neg e, bgf_at f n j]
      by_cases q : j < n
      · rw [if_pos q, if_pos (by omega)]
      · rw [if_neg q, if_neg (by omega)]
theorem sh24 : ∀ k, k < 32 → (((nI (24 - 8 * (k % 4))).toUInt32 &&& Int32.toUInt32 31).toBitVec % 32).toNat = 24 - 8 * (k % 4) := by decide +kernel
theorem sh8 : ∀ k, k < 4 → (((nI (8 * k)).toUInt32 &&& Int32.toUInt32 31).toBitVec % 32).toNat = 8 * k := by decide +kernel
theorem dg_b (x : Int32) {k : Nat} (hk : k < 32) : (x.toUInt32 >>> ((nI (24 - 8 * (k % 4))).toUInt32 &&& Int32.toUInt32 31)).toInt32 &&& 255 = nI (byt x.toInt64 (3 - k % 4)) := by
  have hx : x = nI x.toBitVec.toNat := Int32.toBitVec_inj.mp (by show _ = BitVec.ofNat 32 _; simp)
  rw [byt32 x _ (by omega)]
  conv => lhs; rw [hx]
  rw [pk_ushrN x.toBitVec.isLt _ _ (sh24 k hk), pk_andN (Nat.lt_of_le_of_lt (Nat.div_le_self _ _) x.toBitVec.isLt) 8 (by decide), show 24 - 8 * (k % 4) = 8 * (3 - k % 4) by omega]
theorem wdI_q {f : Nat → Int32} {q : Nat → Nat} {i N : Nat} (h : ∀ j, j < N → f j = nI (q j)) (hq : ∀ j, j < N → q j < 256) (hi : i + 4 ≤ N) : wdI f i = wdq q i := by
  unfold wdI wdq
  rw [bt_of (h i (by omega)) (Nat.lt_trans (hq i (by omega)) (by decide)), bt_of (h (i + 1) (by omega)) (Nat.lt_trans (hq (i + 1) (by omega)) (by decide)), bt_of (h (i + 2) (by omega)) (Nat.lt_trans (hq (i + 2) (by omega)) (by decide)), bt_of (h (i + 3) (by omega)) (Nat.lt_trans (hq (i + 3) (by omega)) (by decide))]
abbrev nin4 (z : Nat) : Prop := z ∉ [53, 54, 55, 58]

set_option maxHeartbeats 4000000 in
set_option maxRecDepth 100000 in
theorem c_m_hashOf (l : Launch) (G : Nat → ClassId) (o : Nat) (a : Nat → Nat) (v : Nat → Int32) (n : Nat → Option Nat) (g : Nat → Nat → Int64) (w : Nat → Nat → Int32) (kb m N : Nat) : jKv l yX12_hashOf wsX12_hashOf ({ frames := 2, cells := 0, slots := 0, locals := 53 }) G [.ref o, .ref (a kb), .int (nI m)] (fun L F => MW G L F o a v n g w ∧ ik kb N ∧ kb ∉ [53, 54, 55, 58] ∧ m ≤ 400 ∧ m ≤ N ∧ N < 2 ^ 30 ∧ bB (w kb) 0 m ∧ rdOK w) (fun L F F1 => ∃ w', MW G L F1 o a v n g w' ∧ (∀ z, nin4 z → w' z = w z) ∧ bl (w' 58) 0 32 = sha (bl (w kb) 0 m) ∧ mO o a F F1) := by
  refine jm_kv (cc := cX12_hashOf) (maxL := 5) (by decide) rfl (Nat.le_of_ble_eq_true rfl) ?_
  intro E L F hE hR hpre
  have hE : jOk E G _ cX12_hashOf 5 RX12 wsX12_hashOf := hE

  have f281 : jFl RX12 wsX12_hashOf 281 12 53 := ⟨rfl, by decide, by decide +kernel, by decide +kernel⟩
  have f287 : jFl RX12 wsX12_hashOf 287 12 55 := ⟨rfl, by decide, by decide +kernel, by decide +kernel⟩
  have f293 : jFl RX12 wsX12_hashOf 293 12 58 := ⟨rfl, by decide, by decide +kernel, by decide +kernel⟩
  obtain ⟨M0, hkb, hkb4, hm, hmN, hN, hB, hrd⟩ := hpre
  obtain ⟨A, hA⟩ : ∃ A, A = pall m := ⟨_, rfl⟩
  have hA1 : m + 9 ≤ A ∧ A ≤ 448 ∧ A % 64 = 0 := by
    rw [hA]
    unfold pall
    omega
  have hkw : ∀ f, uz (uz w 53 (bgf (w 53) 8)) 55 f kb = w kb := fun f => by rw [uz_n _ _ (jne hkb4 2 rfl), uz_n _ _ (jne hkb4 0 rfl)]
  have hql : ∀ j, j < A → padq (bl (w kb) 0 m) j < 256 := by
    intro j hj
    unfold padq
    rw [bl_len]
    split
    · exact Nat.mod_lt _ (by decide)
    · split
      · rename_i q
        rw [bl_get _ _ _ _ q]
        exact hB j q
      · split
        · decide
        · decide
  have loopD : ∀ (w2 : Nat → Nat → Int32), (∀ j, j < 8 → w2 53 j = stq (padq (bl (w kb) 0 m)) (pall (bl (w kb) 0 m).length / 64) j) → (∀ z, nin4 z → w2 z = w z) → ∀ (r0 i : Nat) (F3 : Nat → va_E) (f : Nat → Int32), i + r0 = 32 → MW G L F3 o a v n g (uz w2 58 f) → (∀ j, j < i → f j = nI (byt (w2 53 (j / 4)).toInt64 (3 - j % 4))) → mO o a F F3 → J E L F3 0 0 197 [(4, .int (nI i)), (3, .int (nI A)), (0, .ref o), (1, .ref (a kb)), (2, .int (nI m))] [] := by
    intro w2 hst hout r0
    induction r0 with
    | zero =>
      intro i F3 f hi H3 hf O3
      refine jr_iload hE dX12_hashOf_197 0 rfl ?_
      refine jr_bipush (v := (32 : Int32)) hE dX12_hashOf_199 (by decide) ?_
      refine jr_icmp_ge (tgt := 241) hE dX12_hashOf_201 (by decide) (fun c_201 => ?_) (fun c_201 => absurd (nI_le (a := 32) (by omega) (by omega)) c_201)
      exact hR F3 _ _ dX12_hashOf_241 ⟨_, H3, fun z hz => by
        rw [uz_n _ _ (jne hz 3 rfl)]
        exact hout z hz, by
        rw [uz_s]
        apply List.ext_getElem
        · rw [bl_len]
          exact (dgl_len _ 8).symm
        · intro k h1 h2
          rw [bl_len] at h1
          have e1 := bl_get f 0 32 k h1
          rw [Nat.zero_add, bt_of (hf k (by omega)) (Nat.lt_trans (Nat.mod_lt _ (by decide)) (by decide))] at e1
          rw [List.getD_eq_getElem?_getD, List.getElem?_eq_getElem (by rw [bl_len]; exact h1)] at e1
          have e2 := dgl_get (stq (padq (bl (w kb) 0 m)) (pall (bl (w kb) 0 m).length / 64)) 8 k (by omega)
          rw [List.getD_eq_getElem?_getD, List.getElem?_eq_getElem (by rw [dgl_len]; omega), ← hst (k / 4) (by omega)] at e2
          exact e1.trans e2.symm, O3⟩
    | succ r0 ihD =>
      intro i F3 f hi H3 hf O3
      refine jr_iload hE dX12_hashOf_197 0 rfl ?_
      refine jr_bipush (v := (32 : Int32)) hE dX12_hashOf_199 (by decide) ?_
      refine jr_icmp_ge (tgt := 241) hE dX12_hashOf_201 (by decide) (fun c_201 => absurd c_201 (nI_ge (b := 32) (by omega) (by omega))) (fun c_201 => ?_)
      refine jr_aload_n hE dX12_hashOf_204 2 rfl ?_
      refine jr_get hE dX12_hashOf_205 f293 H3.ob rfl ?_
      refine jr_iload hE dX12_hashOf_208 0 rfl ?_
      refine jr_aload_n hE dX12_hashOf_210 2 rfl ?_
      refine jr_get hE dX12_hashOf_211 f281 H3.ob rfl ?_
      refine jr_iload hE dX12_hashOf_214 0 rfl ?_
      refine jr_iconst (v := (4 : Int32)) hE dX12_hashOf_216 (by decide) ?_
      refine jr_idiv (z := nI (i / 4)) hE dX12_hashOf_217 (by decide) (q4 i (by omega)) ?_
      refine jr_iald (v := w2 53 (i / 4)) hE dX12_hashOf_218 (H3.I (k := 53) (N := 8) (by decide)) (vp_in_nI (n := i / 4) (by omega) (by decide)) (by rw [nI_clamp (by omega)]; rfl) ?_
      refine jr_bipush (v := (24 : Int32)) hE dX12_hashOf_219 (by decide) ?_
      refine jr_bipush (v := (8 : Int32)) hE dX12_hashOf_221 (by decide) ?_
      refine jr_iload hE dX12_hashOf_223 0 rfl ?_
      refine jr_iconst (v := (4 : Int32)) hE dX12_hashOf_225 (by decide) ?_
      refine jr_irem (z := nI (i % 4)) hE dX12_hashOf_226 (by decide) (r4 i (by omega)) ?_
      refine jr_imul (z := nI (8 * (i % 4))) hE dX12_hashOf_227 (m8 i (by omega)) ?_
      refine jr_isub (z := nI (24 - 8 * (i % 4))) hE dX12_hashOf_228 (s24 i (by omega)) ?_
      refine jr_iushr hE dX12_hashOf_229 rfl ?_
      refine jr_topi (fun z1 ez1 => ?_)
      refine jr_sipush (v := (255 : Int32)) hE dX12_hashOf_230 (by decide) ?_
      refine jr_iand (z := nI (byt (w2 53 (i / 4)).toInt64 (3 - i % 4))) hE dX12_hashOf_233 (by rw [ez1]; exact dg_b _ (by omega)) ?_
      refine jr_iast hE dX12_hashOf_234 (H3.I (k := 58) (N := 32) (by decide)) (vp_in_nI (by omega) (by decide)) (fun F2 g3 u4 => ?_)
      have H5 := H3.setI (k := 58) (N := 32) (by decide) g3 u4
      have O6 := O3.st (k := 58) (by decide) (by decide) u4
      rw [uz_uz, uz_s] at H5
      refine jr_iinc (v := nI (i + 1)) (lv' := [(4, .int (nI (i + 1))), (3, .int (nI A)), (0, .ref o), (1, .ref (a kb)), (2, .int (nI m))]) hE dX12_hashOf_235 0 rfl (nI_1 _) (by decide) rfl ?_
      refine jr_goto (tgt := 197) hE dX12_hashOf_238 (by decide) ?_
      refine jr_lv (lv' := [(4, .int (nI (i + 1))), (3, .int (nI A)), (0, .ref o), (1, .ref (a kb)), (2, .int (nI m))]) [0, 1, 2, 3, 4] rfl ?_
      exact ihD (i + 1) F2 _ (by omega) H5 (fun j hj => by
        rw [nI_clamp (by omega)]
        show (if j = i then _ else f j) = _
        by_cases e : j = i
        · rw [if_pos e, e]
        · rw [if_neg e]; exact hf j (by omega)) O6
  have pad : ∀ (F2 : Nat → va_E) (fp : Nat → Int32), MW G L F2 o a v n g (uz (uz w 53 (bgf (w 53) 8)) 55 fp) → (∀ j, j < A → fp j = nI (padq (bl (w kb) 0 m) j)) → mO o a F F2 → J E L F2 0 0 176 [(4, .int (nI (64 * 0))), (3, .int (nI A)), (0, .ref o), (1, .ref (a kb)), (2, .int (nI m))] [] := by
    intro F2 fp H hfp O
    have hbb : ∀ k, 64 * k < A → bB fp (64 * k) 64 := fun k hk i hi => by
      rw [bt_of (hfp (64 * k + i) (by omega)) (Nat.lt_trans (hql _ (by omega)) (by decide))]
      exact hql _ (by omega)
    have loopC : ∀ (r0 k : Nat) (F2 : Nat → va_E) (w2 : Nat → Nat → Int32), 64 * (k + r0) = A → MW G L F2 o a v n g w2 → w2 55 = fp → rdOK w2 → (∀ j, j < 8 → w2 53 j = stq (padq (bl (w kb) 0 m)) k j) → (∀ z, nin4 z → w2 z = w z) → mO o a F F2 → J E L F2 0 0 176 [(4, .int (nI (64 * k))), (3, .int (nI A)), (0, .ref o), (1, .ref (a kb)), (2, .int (nI m))] [] := by
      intro r0
      induction r0 with
      | zero =>
        intro k F2 w2 hk H h55 hrd2 hst hout O
        refine jr_iload hE dX12_hashOf_176 0 rfl ?_
        refine jr_iload_n hE dX12_hashOf_178 1 rfl ?_
        refine jr_icmp_ge (tgt := 194) hE dX12_hashOf_179 (by decide) (fun c_179 => ?_) (fun c_179 => absurd (nI_le (by omega) (by omega)) c_179)
        refine jr_iconst (v := (0 : Int32)) hE dX12_hashOf_194 (by decide) ?_
        refine jr_istore (lv' := [(4, .int (0 : Int32)), (3, .int (nI A)), (0, .ref o), (1, .ref (a kb)), (2, .int (nI m))]) hE dX12_hashOf_195 (by decide) rfl ?_
        refine jr_lv (lv' := [(4, .int (0 : Int32)), (3, .int (nI A)), (0, .ref o), (1, .ref (a kb)), (2, .int (nI m))]) [0, 1, 2, 3, 4] rfl ?_
        exact loopD w2 (fun j hj => by rw [hst j hj, show k = pall (bl (w kb) 0 m).length / 64 by rw [bl_len, ← hA]; omega]) hout 32 0 F2 (w2 58) rfl (by rw [uz_id]; exact H) (fun j hj => absurd hj (Nat.not_lt_zero j)) O
      | succ r0 ihC =>
        intro k F2 w2 hk H h55 hrd2 hst hout O
        have hbb : ∀ k, 64 * k < A → bB (w2 55) (64 * k) 64 := by rw [h55]; exact hbb
        refine jr_iload hE dX12_hashOf_176 0 rfl ?_
        refine jr_iload_n hE dX12_hashOf_178 1 rfl ?_
        refine jr_icmp_ge (tgt := 194) hE dX12_hashOf_179 (by decide) (fun c_179 => absurd c_179 (nI_ge (by omega) (by omega))) (fun c_179 => ?_)
        refine jr_aload_n hE dX12_hashOf_182 2 rfl ?_
        refine jr_iload hE dX12_hashOf_183 0 rfl ?_
        refine jr_kVv (ci := 12) (n := 1) (As := [.int (nI (64 * k))]) (rest := []) hE dX12_hashOf_185 (fun l => c_m_block l G o a v n g w2 (64 * k)) gX12_hashOf_X12_block rfl H.ob rfl (by decide +kernel) ⟨rfl, rfl, by decide, by decide⟩ (by decide) rfl rfl (Nat.le_of_ble_eq_true rfl) (⟨H, by omega, hbb k (by omega), hrd2⟩) (fun F1 q2 => ?_)
        obtain ⟨g1, f1, H1, hs1, O1'⟩ := q2
        have O1 := O.tr O1'
        refine jr_iinc (v := nI (64 * (k + 1))) (lv' := [(4, .int (nI (64 * (k + 1)))), (3, .int (nI A)), (0, .ref o), (1, .ref (a kb)), (2, .int (nI m))]) hE dX12_hashOf_188 0 rfl ((nI_add (64 * k) 64).trans (congrArg nI (by omega))) (by decide) rfl ?_
        refine jr_goto (tgt := 176) hE dX12_hashOf_191 (by decide) ?_
        refine jr_lv (lv' := [(4, .int (nI (64 * (k + 1)))), (3, .int (nI A)), (0, .ref o), (1, .ref (a kb)), (2, .int (nI m))]) [0, 1, 2, 3, 4] rfl ?_
        exact ihC (k + 1) F1 _ (by omega) H1 (by
          have e : uz (uz w2 54 g1) 53 f1 55 = w2 55 := rfl
          rw [e]; exact h55) hrd2 (fun j hj => by
          show f1 j = shB (stq (padq (bl (w kb) 0 m)) k) (fun j => wdq (padq (bl (w kb) 0 m)) (64 * k + 4 * j)) j
          rw [hs1 j hj]
          exact shB_cg hst (fun i hi => by
            show wdI (w2 55) (64 * k + 4 * i) = _
            rw [h55]
            exact wdI_q hfp hql (by omega)) j hj) (fun z hz => by
          rw [uz_n _ _ (jne hz 0 rfl), uz_n _ _ (jne hz 1 rfl)]
          exact hout z hz) O1
    exact loopC (A / 64) 0 F2 _ (by omega) H (uz_s _ _ _) (fun j hj => hrd j hj) (fun j hj => (bgf_at (w 53) 8 j).trans (if_pos hj)) (fun z hz => by rw [uz_n _ _ (jne hz 2 rfl), uz_n _ _ (jne hz 0 rfl)]) O
  have loopB : ∀ (r0 i : Nat) (F2 : Nat → va_E) (f : Nat → Int32), i + r0 = 4 → MW G L F2 o a v n g (uz (uz w 53 (bgf (w 53) 8)) 55 f) → (∀ j, j < A → f j = nI (if A ≤ j + i then 8 * m / 256 ^ (A - 1 - j) % 256 else (if j < m then bt (w kb) j else if j = m then 128 else 0))) → mO o a F F2 → J E L F2 0 0 136 [(4, .int (nI i)), (3, .int (nI A)), (0, .ref o), (1, .ref (a kb)), (2, .int (nI m))] [] := by
    intro r0
    induction r0 with
    | zero =>
      intro i F2 f hi H hf O
      refine jr_iload hE dX12_hashOf_136 0 rfl ?_
      refine jr_iconst (v := (4 : Int32)) hE dX12_hashOf_138 (by decide) ?_
      refine jr_icmp_ge (tgt := 173) hE dX12_hashOf_139 (by decide) (fun c_139 => ?_) (fun c_139 => absurd (nI_le (a := 4) (by omega) (by omega)) c_139)
      refine jr_iconst (v := (0 : Int32)) hE dX12_hashOf_173 (by decide) ?_
      refine jr_istore (lv' := [(4, .int (0 : Int32)), (3, .int (nI A)), (0, .ref o), (1, .ref (a kb)), (2, .int (nI m))]) hE dX12_hashOf_174 (by decide) rfl ?_
      refine jr_lv (lv' := [(4, .int (0 : Int32)), (3, .int (nI A)), (0, .ref o), (1, .ref (a kb)), (2, .int (nI m))]) [0, 1, 2, 3, 4] rfl ?_
      exact pad F2 f H (fun j hj => by
        rw [hf j hj]
        congr 1
        unfold padq
        rw [bl_len, ← hA]
        by_cases q : A ≤ j + i
        · rw [if_pos q, if_pos (by omega)]
        · rw [if_neg q, if_neg (show ¬ A ≤ j + 4 by omega)]
          by_cases q2 : j < m
          · rw [if_pos q2, if_pos q2, bl_get _ _ _ _ q2, Nat.zero_add]
          · rw [if_neg q2, if_neg q2]) O
    | succ r0 ihB =>
      intro i F2 f hi H hf O
      refine jr_iload hE dX12_hashOf_136 0 rfl ?_
      refine jr_iconst (v := (4 : Int32)) hE dX12_hashOf_138 (by decide) ?_
      refine jr_icmp_ge (tgt := 173) hE dX12_hashOf_139 (by decide) (fun c_139 => absurd c_139 (nI_ge (b := 4) (by omega) (by omega))) (fun c_139 => ?_)
      refine jr_aload_n hE dX12_hashOf_142 2 rfl ?_
      refine jr_get hE dX12_hashOf_143 f287 H.ob rfl ?_
      refine jr_iload_n hE dX12_hashOf_146 1 rfl ?_
      refine jr_iconst (v := (1 : Int32)) hE dX12_hashOf_147 (by decide) ?_
      refine jr_isub (z := nI (A - 1)) hE dX12_hashOf_148 (pk_sub (b := 1) (by omega)) ?_
      refine jr_iload hE dX12_hashOf_149 0 rfl ?_
      refine jr_isub (z := nI (A - 1 - i)) hE dX12_hashOf_151 (pk_sub (by omega)) ?_
      refine jr_bipush (v := (8 : Int32)) hE dX12_hashOf_152 (by decide) ?_
      refine jr_iload_n hE dX12_hashOf_154 4 rfl ?_
      refine jr_imul (z := nI (8 * m)) hE dX12_hashOf_155 (pk_mul 8 m) ?_
      refine jr_bipush (v := (8 : Int32)) hE dX12_hashOf_156 (by decide) ?_
      refine jr_iload hE dX12_hashOf_158 0 rfl ?_
      refine jr_imul (z := nI (8 * i)) hE dX12_hashOf_160 (pk_mul 8 i) ?_
      refine jr_iushr (z := nI (8 * m / 2 ^ (8 * i))) hE dX12_hashOf_161 (pk_ushrN (by omega) _ _ (sh8 i (by omega))) ?_
      refine jr_sipush (v := (255 : Int32)) hE dX12_hashOf_162 (by decide) ?_
      refine jr_iand (z := nI (8 * m / 2 ^ (8 * i) % 2 ^ 8)) hE dX12_hashOf_165 (pk_andN (Nat.lt_of_le_of_lt (Nat.div_le_self _ _) (by omega)) 8 (by decide)) ?_
      refine jr_iast hE dX12_hashOf_166 (H.I (k := 55) (N := 512) (by decide)) (vp_in_nI (by omega) (by decide)) (fun F1 g2 u3 => ?_)
      have H4 := H.setI (k := 55) (N := 512) (by decide) g2 u3
      have O5 := O.st (k := 55) (by decide) (by decide) u3
      rw [uz_uz, uz_s] at H4
      refine jr_iinc (v := nI (i + 1)) (lv' := [(4, .int (nI (i + 1))), (3, .int (nI A)), (0, .ref o), (1, .ref (a kb)), (2, .int (nI m))]) hE dX12_hashOf_167 0 rfl (nI_1 _) (by decide) rfl ?_
      refine jr_goto (tgt := 136) hE dX12_hashOf_170 (by decide) ?_
      refine jr_lv (lv' := [(4, .int (nI (i + 1))), (3, .int (nI A)), (0, .ref o), (1, .ref (a kb)), (2, .int (nI m))]) [0, 1, 2, 3, 4] rfl ?_
      exact ihB (i + 1) F1 _ (by omega) H4 (fun j hj => by
        rw [nI_clamp (by omega)]
        show (if j = A - 1 - i then _ else f j) = _
        by_cases e : j = A - 1 - i
        · rw [if_pos e, e, if_pos (by omega), show A - 1 - (A - 1 - i) = i by omega, show (256 : Nat) ^ i = 2 ^ (8 * i) by rw [Nat.pow_mul]]
        · rw [if_neg e, hf j hj]
          by_cases q : A ≤ j + i
          · rw [if_pos q, if_pos (by omega)]
          · rw [if_neg q, if_neg (show ¬ A ≤ j + (i + 1) by omega)]) O5
  have loopA : ∀ (r0 i : Nat) (F2 : Nat → va_E) (f : Nat → Int32), i + r0 = A → MW G L F2 o a v n g (uz (uz w 53 (bgf (w 53) 8)) 55 f) → (∀ j, j < i → f j = nI (if j < m then bt (w kb) j else if j = m then 128 else 0)) → mO o a F F2 → J E L F2 0 0 88 [(4, .int (nI i)), (3, .int (nI A)), (0, .ref o), (1, .ref (a kb)), (2, .int (nI m))] [] := by
    intro r0
    induction r0 with
    | zero =>
      intro i F2 f hi H hf O
      refine jr_iload hE dX12_hashOf_88 0 rfl ?_
      refine jr_iload_n hE dX12_hashOf_90 1 rfl ?_
      refine jr_icmp_ge (tgt := 133) hE dX12_hashOf_91 (by decide) (fun c_91 => ?_) (fun c_91 => absurd (nI_le (by omega) (by omega)) c_91)
      refine jr_iconst (v := (0 : Int32)) hE dX12_hashOf_133 (by decide) ?_
      refine jr_istore (lv' := [(4, .int (0 : Int32)), (3, .int (nI A)), (0, .ref o), (1, .ref (a kb)), (2, .int (nI m))]) hE dX12_hashOf_134 (by decide) rfl ?_
      refine jr_lv (lv' := [(4, .int (0 : Int32)), (3, .int (nI A)), (0, .ref o), (1, .ref (a kb)), (2, .int (nI m))]) [0, 1, 2, 3, 4] rfl ?_
      exact loopB 4 0 F2 f rfl H (fun j hj => by rw [if_neg (by omega)]; exact hf j (by omega)) O
    | succ r0 ihA =>
      intro i F2 f hi H hf O
      refine jr_iload hE dX12_hashOf_88 0 rfl ?_
      refine jr_iload_n hE dX12_hashOf_90 1 rfl ?_
      refine jr_icmp_ge (tgt := 133) hE dX12_hashOf_91 (by decide) (fun c_91 => absurd c_91 (nI_ge (by omega) (by omega))) (fun c_91 => ?_)
      refine jr_aload_n hE dX12_hashOf_94 2 rfl ?_
      refine jr_get hE dX12_hashOf_95 f287 H.ob rfl ?_
      refine jr_iload hE dX12_hashOf_98 0 rfl ?_
      refine jr_iload hE dX12_hashOf_100 0 rfl ?_
      refine jr_iload_n hE dX12_hashOf_102 4 rfl ?_
      refine jr_icmp_ge (tgt := 113) hE dX12_hashOf_103 (by decide) (fun c103 => ?_) (fun c103 => ?_)
      · refine jr_iload hE dX12_hashOf_113 0 rfl ?_
        refine jr_iload_n hE dX12_hashOf_115 4 rfl ?_
        refine jr_icmp_ne (tgt := 125) hE dX12_hashOf_116 (by decide) (fun c116 => ?_) (fun c116 => ?_)
        · have him : m ≤ i := Classical.byContradiction (fun q => nI_ge (by omega) (by omega) c103)
          refine jr_iconst (v := (0 : Int32)) hE dX12_hashOf_125 (by decide) ?_
          refine jr_iast hE dX12_hashOf_126 (H.I (k := 55) (N := 512) (by decide)) (vp_in_nI (by omega) (by decide)) (fun F1 g2 u3 => ?_)
          have H4 := H.setI (k := 55) (N := 512) (by decide) g2 u3
          have O5 := O.st (k := 55) (by decide) (by decide) u3
          rw [uz_uz, uz_s] at H4
          refine jr_iinc (v := nI (i + 1)) (lv' := [(4, .int (nI (i + 1))), (3, .int (nI A)), (0, .ref o), (1, .ref (a kb)), (2, .int (nI m))]) hE dX12_hashOf_127 0 rfl (nI_1 _) (by decide) rfl ?_
          refine jr_goto (tgt := 88) hE dX12_hashOf_130 (by decide) ?_
          refine jr_lv (lv' := [(4, .int (nI (i + 1))), (3, .int (nI A)), (0, .ref o), (1, .ref (a kb)), (2, .int (nI m))]) [0, 1, 2, 3, 4] rfl ?_
          exact ihA (i + 1) F1 _ (by omega) H4 (fun j hj => by
            rw [nI_clamp (by omega)]
            show (if j = i then _ else f j) = _
            by_cases e : j = i
            · rw [if_pos e, e]
              rw [if_neg (by omega), if_neg (fun q => c116 (by rw [q]))]
              rfl
            · rw [if_neg e]; exact hf j (by omega)) O5
        · have him : i = m := (nI_eq (by omega) (by omega)).mp c116
          refine jr_sipush (v := (128 : Int32)) hE dX12_hashOf_119 (by decide) ?_
          refine jr_goto (tgt := 126) hE dX12_hashOf_122 (by decide) ?_
          refine jr_iast hE dX12_hashOf_126 (H.I (k := 55) (N := 512) (by decide)) (vp_in_nI (by omega) (by decide)) (fun F6 g7 u8 => ?_)
          have H9 := H.setI (k := 55) (N := 512) (by decide) g7 u8
          have O10 := O.st (k := 55) (by decide) (by decide) u8
          rw [uz_uz, uz_s] at H9
          refine jr_iinc (v := nI (i + 1)) (lv' := [(4, .int (nI (i + 1))), (3, .int (nI A)), (0, .ref o), (1, .ref (a kb)), (2, .int (nI m))]) hE dX12_hashOf_127 0 rfl (nI_1 _) (by decide) rfl ?_
          refine jr_goto (tgt := 88) hE dX12_hashOf_130 (by decide) ?_
          refine jr_lv (lv' := [(4, .int (nI (i + 1))), (3, .int (nI A)), (0, .ref o), (1, .ref (a kb)), (2, .int (nI m))]) [0, 1, 2, 3, 4] rfl ?_
          exact ihA (i + 1) F6 _ (by omega) H9 (fun j hj => by
            rw [nI_clamp (by omega)]
            show (if j = i then _ else f j) = _
            by_cases e : j = i
            · rw [if_pos e, e]
              rw [if_neg (by omega), if_pos him]
              rfl
            · rw [if_neg e]; exact hf j (by omega)) O10
      · have him : i < m := Classical.byContradiction (fun q => c103 (nI_le (by omega) (by omega)))
        refine jr_aload_n hE dX12_hashOf_106 3 rfl ?_
        refine jr_iload hE dX12_hashOf_107 0 rfl ?_
        refine jr_iald (v := nI (bt (w kb) i)) hE dX12_hashOf_109 (H.I (k := kb) (N := N) hkb) (vp_in_nI (by omega) (by omega)) (by rw [nI_clamp (by omega)]; exact (congrFun (hkw f) i).trans (bt_nI _ _)) ?_
        refine jr_goto (tgt := 126) hE dX12_hashOf_110 (by decide) ?_
        refine jr_iast hE dX12_hashOf_126 (H.I (k := 55) (N := 512) (by decide)) (vp_in_nI (by omega) (by decide)) (fun F11 g12 u13 => ?_)
        have H14 := H.setI (k := 55) (N := 512) (by decide) g12 u13
        have O15 := O.st (k := 55) (by decide) (by decide) u13
        rw [uz_uz, uz_s] at H14
        refine jr_iinc (v := nI (i + 1)) (lv' := [(4, .int (nI (i + 1))), (3, .int (nI A)), (0, .ref o), (1, .ref (a kb)), (2, .int (nI m))]) hE dX12_hashOf_127 0 rfl (nI_1 _) (by decide) rfl ?_
        refine jr_goto (tgt := 88) hE dX12_hashOf_130 (by decide) ?_
        refine jr_lv (lv' := [(4, .int (nI (i + 1))), (3, .int (nI A)), (0, .ref o), (1, .ref (a kb)), (2, .int (nI m))]) [0, 1, 2, 3, 4] rfl ?_
        exact ihA (i + 1) F11 _ (by omega) H14 (fun j hj => by
          rw [nI_clamp (by omega)]
          show (if j = i then _ else f j) = _
          by_cases e : j = i
          · rw [if_pos e, e]
            rw [if_pos him]
          · rw [if_neg e]; exact hf j (by omega)) O15
  refine jr_aload_n hE dX12_hashOf_0 0 rfl ?_
  refine jr_get hE dX12_hashOf_1 f281 M0.ob rfl ?_
  refine jr_iconst (v := (0 : Int32)) hE dX12_hashOf_4 (by decide) ?_
  refine jr_ldcw (v := (1779033703 : Int32)) hE dX12_hashOf_5 (by decide +kernel) ?_
  refine jr_iast hE dX12_hashOf_8 (M0.I (k := 53) (N := 8) (by decide)) (vp_in_nI (n := 0) (by decide) (by decide)) (fun F1 g2 u3 => ?_)
  have H4 := M0.setI (k := 53) (N := 8) (by decide) g2 u3
  have O5 := (mO.rf o a F).st (k := 53) (by decide) (by decide) u3
  have H4 : MW G L F1 o a v n g (uz w 53 (bgf (w 53) 1)) := H4
  refine jr_aload_n hE dX12_hashOf_9 0 rfl ?_
  refine jr_get hE dX12_hashOf_10 f281 H4.ob rfl ?_
  refine jr_iconst (v := (1 : Int32)) hE dX12_hashOf_13 (by decide) ?_
  refine jr_ldcw (v := (-1150833019 : Int32)) hE dX12_hashOf_14 (by decide +kernel) ?_
  refine jr_iast hE dX12_hashOf_17 (H4.I (k := 53) (N := 8) (by decide)) (vp_in_nI (n := 1) (by decide) (by decide)) (fun F6 g7 u8 => ?_)
  have H9 := H4.setI (k := 53) (N := 8) (by decide) g7 u8
  have O10 := O5.st (k := 53) (by decide) (by decide) u8
  rw [uz_uz, uz_s] at H9
  have H9 : MW G L F6 o a v n g (uz w 53 (bgf (w 53) 2)) := H9
  refine jr_aload_n hE dX12_hashOf_18 0 rfl ?_
  refine jr_get hE dX12_hashOf_19 f281 H9.ob rfl ?_
  refine jr_iconst (v := (2 : Int32)) hE dX12_hashOf_22 (by decide) ?_
  refine jr_ldcw (v := (1013904242 : Int32)) hE dX12_hashOf_23 (by decide +kernel) ?_
  refine jr_iast hE dX12_hashOf_26 (H9.I (k := 53) (N := 8) (by decide)) (vp_in_nI (n := 2) (by decide) (by decide)) (fun F11 g12 u13 => ?_)
  have H14 := H9.setI (k := 53) (N := 8) (by decide) g12 u13
  have O15 := O10.st (k := 53) (by decide) (by decide) u13
  rw [uz_uz, uz_s] at H14
  have H14 : MW G L F11 o a v n g (uz w 53 (bgf (w 53) 3)) := H14
  refine jr_aload_n hE dX12_hashOf_27 0 rfl ?_
  refine jr_get hE dX12_hashOf_28 f281 H14.ob rfl ?_
  refine jr_iconst (v := (3 : Int32)) hE dX12_hashOf_31 (by decide) ?_
  refine jr_ldcw (v := (-1521486534 : Int32)) hE dX12_hashOf_32 (by decide +kernel) ?_
  refine jr_iast hE dX12_hashOf_35 (H14.I (k := 53) (N := 8) (by decide)) (vp_in_nI (n := 3) (by decide) (by decide)) (fun F16 g17 u18 => ?_)
  have H19 := H14.setI (k := 53) (N := 8) (by decide) g17 u18
  have O20 := O15.st (k := 53) (by decide) (by decide) u18
  rw [uz_uz, uz_s] at H19
  have H19 : MW G L F16 o a v n g (uz w 53 (bgf (w 53) 4)) := H19
  refine jr_aload_n hE dX12_hashOf_36 0 rfl ?_
  refine jr_get hE dX12_hashOf_37 f281 H19.ob rfl ?_
  refine jr_iconst (v := (4 : Int32)) hE dX12_hashOf_40 (by decide) ?_
  refine jr_ldcw (v := (1359893119 : Int32)) hE dX12_hashOf_41 (by decide +kernel) ?_
  refine jr_iast hE dX12_hashOf_44 (H19.I (k := 53) (N := 8) (by decide)) (vp_in_nI (n := 4) (by decide) (by decide)) (fun F21 g22 u23 => ?_)
  have H24 := H19.setI (k := 53) (N := 8) (by decide) g22 u23
  have O25 := O20.st (k := 53) (by decide) (by decide) u23
  rw [uz_uz, uz_s] at H24
  have H24 : MW G L F21 o a v n g (uz w 53 (bgf (w 53) 5)) := H24
  refine jr_aload_n hE dX12_hashOf_45 0 rfl ?_
  refine jr_get hE dX12_hashOf_46 f281 H24.ob rfl ?_
  refine jr_iconst (v := (5 : Int32)) hE dX12_hashOf_49 (by decide) ?_
  refine jr_ldcw (v := (-1694144372 : Int32)) hE dX12_hashOf_50 (by decide +kernel) ?_
  refine jr_iast hE dX12_hashOf_53 (H24.I (k := 53) (N := 8) (by decide)) (vp_in_nI (n := 5) (by decide) (by decide)) (fun F26 g27 u28 => ?_)
  have H29 := H24.setI (k := 53) (N := 8) (by decide) g27 u28
  have O30 := O25.st (k := 53) (by decide) (by decide) u28
  rw [uz_uz, uz_s] at H29
  have H29 : MW G L F26 o a v n g (uz w 53 (bgf (w 53) 6)) := H29
  refine jr_aload_n hE dX12_hashOf_54 0 rfl ?_
  refine jr_get hE dX12_hashOf_55 f281 H29.ob rfl ?_
  refine jr_bipush (v := (6 : Int32)) hE dX12_hashOf_58 (by decide) ?_
  refine jr_ldcw (v := (528734635 : Int32)) hE dX12_hashOf_60 (by decide +kernel) ?_
  refine jr_iast hE dX12_hashOf_63 (H29.I (k := 53) (N := 8) (by decide)) (vp_in_nI (n := 6) (by decide) (by decide)) (fun F31 g32 u33 => ?_)
  have H34 := H29.setI (k := 53) (N := 8) (by decide) g32 u33
  have O35 := O30.st (k := 53) (by decide) (by decide) u33
  rw [uz_uz, uz_s] at H34
  have H34 : MW G L F31 o a v n g (uz w 53 (bgf (w 53) 7)) := H34
  refine jr_aload_n hE dX12_hashOf_64 0 rfl ?_
  refine jr_get hE dX12_hashOf_65 f281 H34.ob rfl ?_
  refine jr_bipush (v := (7 : Int32)) hE dX12_hashOf_68 (by decide) ?_
  refine jr_ldcw (v := (1541459225 : Int32)) hE dX12_hashOf_70 (by decide +kernel) ?_
  refine jr_iast hE dX12_hashOf_73 (H34.I (k := 53) (N := 8) (by decide)) (vp_in_nI (n := 7) (by decide) (by decide)) (fun F36 g37 u38 => ?_)
  have H39 := H34.setI (k := 53) (N := 8) (by decide) g37 u38
  have O40 := O35.st (k := 53) (by decide) (by decide) u38
  rw [uz_uz, uz_s] at H39
  have H39 : MW G L F36 o a v n g (uz w 53 (bgf (w 53) 8)) := H39
  refine jr_iload_n hE dX12_hashOf_74 2 rfl ?_
  refine jr_bipush (v := (72 : Int32)) hE dX12_hashOf_75 (by decide) ?_
  refine jr_iadd (z := nI (m + 72)) hE dX12_hashOf_77 (nI_add m 72) ?_
  refine jr_bipush (v := (64 : Int32)) hE dX12_hashOf_78 (by decide) ?_
  refine jr_idiv (z := nI ((m + 72) / 64)) hE dX12_hashOf_80 (by decide) (pk_div (by omega) (by decide) (by decide)) ?_
  refine jr_bipush (v := (64 : Int32)) hE dX12_hashOf_81 (by decide) ?_
  refine jr_imul (z := nI A) hE dX12_hashOf_83 (by rw [hA]; exact pk_mul _ 64) ?_
  refine jr_istore_n (lv' := [(3, .int (nI A)), (0, .ref o), (1, .ref (a kb)), (2, .int (nI m))]) hE dX12_hashOf_84 (by decide) rfl ?_
  refine jr_iconst (v := (0 : Int32)) hE dX12_hashOf_85 (by decide) ?_
  refine jr_istore (lv' := [(4, .int (0 : Int32)), (3, .int (nI A)), (0, .ref o), (1, .ref (a kb)), (2, .int (nI m))]) hE dX12_hashOf_86 (by decide) rfl ?_
  refine jr_lv (lv' := [(4, .int (0 : Int32)), (3, .int (nI A)), (0, .ref o), (1, .ref (a kb)), (2, .int (nI m))]) [0, 1, 2, 3, 4] rfl ?_
  exact loopA A 0 F36 (w 55) (Nat.zero_add A) (by rw [show uz (uz w 53 (bgf (w 53) 8)) 55 (w 55) = uz w 53 (bgf (w 53) 8) from uz_id (uz w 53 (bgf (w 53) 8)) 55]; exact H39) (fun j hj => absurd hj (Nat.not_lt_zero j)) O40

