/-! POINTS: x / z^2 and y / z^3, or nought -/
def fk (k : Int) (a : Nat) : Nat := ((k * (a : Int)) % (PP : Int)).toNat
def fs (a b : Nat) : Nat := (a + (PP - b)) % PP
def fm (a b : Nat) : Nat := a * b % PP
def bi (b : Bool) : Int32 := if b then 1 else 0
abbrev cPt (x y z : Nat) (n : Bool) : va_E := .inr (6, [.ref x, .ref y, .ref z, .int (bi n)])
abbrev JP : Type := Bool × Nat × Nat × Nat
/-- the point object p with its coordinates at px, py, pz holds P -/
def jPt (L : List Nat) (F : Nat → va_E) (p px py pz : Nat) (P : JP) : Prop := jF L F p (cPt px py pz P.1) ∧ jCo L F px P.2.1 ∧ jCo L F py P.2.2.1 ∧ jCo L F pz P.2.2.2
theorem jPt.fr {L : List Nat} {F F' : Nat → va_E} {p px py pz : Nat} {P : JP} (h : jPt L F p px py pz P) (e0 : F' p = F p) (e1 : F' px = F px) (e2 : F' py = F py) (e3 : F' pz = F pz) : jPt L F' p px py pz P := ⟨h.1.fr e0, h.2.1.fr e1, h.2.2.1.fr e2, h.2.2.2.fr e3⟩
theorem bi_ne {b : Bool} (h : bi b ≠ 0) : b = true := by
  cases b
  · exact absurd rfl h
  · rfl
theorem bi_eq {b : Bool} (h : bi b = 0) : b = false := by
  cases b
  · rfl
  · exact absurd h (by decide)
theorem jCo.ex {L : List Nat} {F F' : Nat → va_E} {a : Nat} {l : Nat → Int64} (h : jF L F a (cC l)) (e : F' a = F a) : ∃ l, jF L F' a (cC l) := ⟨l, h.fr e⟩

theorem bi_nar (b : Bool) : narrow .boolean (.int (bi b)) = .int (bi b) := by cases b <;> rfl
theorem bi_fit (b : Bool) : fits .boolean (.int (bi b)) = true := by cases b <;> rfl

set_option maxHeartbeats 4000000 in
set_option maxRecDepth 100000 in
theorem c_X6_become (l : Launch) (G : Nat → ClassId) (p px py pz q qx qy qz : Nat) (P Q : JP) : jKv l yX6_become wsX6_become ({ frames := 1, cells := 0, slots := 0, locals := 21 }) G [.ref p, .ref q] (fun L F => jPt L F p px py pz P ∧ jPt L F q qx qy qz Q ∧ [p, px, py, pz, q, qx, qy, qz].Nodup) (fun L F F1 => jPt L F1 p px py pz Q ∧ ∀ z, z ∉ [p, px, py, pz] → F1 z = F z) := by
  refine jm_kv (cc := cX6_become) (maxL := 2) (by decide) rfl (Nat.le_of_ble_eq_true rfl) ?_
  intro E L F hE hR hpre
  have hE : jOk E G _ cX6_become 2 RX6 wsX6_become := hE
  obtain ⟨⟨hp0, hp1, hp2, hp3⟩, ⟨hq0, hq1, hq2, hq3⟩, hnd⟩ := hpre
  have f10 : jFl RX6 wsX6_become 10 6 0 := ⟨rfl, by decide, by decide +kernel, by decide +kernel⟩
  have f16 : jFl RX6 wsX6_become 16 6 1 := ⟨rfl, by decide, by decide +kernel, by decide +kernel⟩
  have f19 : jFl RX6 wsX6_become 19 6 2 := ⟨rfl, by decide, by decide +kernel, by decide +kernel⟩
  have f22 : jFl RX6 wsX6_become 22 6 3 := ⟨rfl, by decide, by decide +kernel, by decide +kernel⟩
  refine jr_aload_n hE dX6_become_0 0 rfl ?_
  refine jr_get hE dX6_become_1 f10 hp0 rfl ?_
  refine jr_aload_n hE dX6_become_4 1 rfl ?_
  refine jr_get hE dX6_become_5 f10 hq0 rfl ?_
  obtain ⟨lw1, w1⟩ := hp1.cell
  refine jr_kVv (ci := 1) (n := 1) (As := [.ref qx]) (rest := []) hE dX6_become_8 (fun l => c_X1_become l G px qx Q.2.1 _) gX6_become_X1_become rfl w1 rfl (by decide +kernel) ⟨rfl, rfl, by decide, by decide⟩ (by decide) rfl rfl (Nat.le_of_ble_eq_true rfl) (⟨w1, hq1⟩) (fun F3 q4 => ?_)
  obtain ⟨p2, r2⟩ := q4
  have h1_py := hp2.fr (r2 py (jn hnd 2 [1] rfl rfl (by decide)))
  have h1_pz := hp3.fr (r2 pz (jn hnd 3 [1] rfl rfl (by decide)))
  have h1_qx := hq1.fr (r2 qx (jn hnd 5 [1] rfl rfl (by decide)))
  have h1_qy := hq2.fr (r2 qy (jn hnd 6 [1] rfl rfl (by decide)))
  have h1_qz := hq3.fr (r2 qz (jn hnd 7 [1] rfl rfl (by decide)))
  have g1_p := hp0.fr (r2 p (jn hnd 0 [1] rfl rfl (by decide)))
  have g1_q := hq0.fr (r2 q (jn hnd 4 [1] rfl rfl (by decide)))
  refine jr_aload_n hE dX6_become_11 0 rfl ?_
  refine jr_get hE dX6_become_12 f16 g1_p rfl ?_
  refine jr_aload_n hE dX6_become_15 1 rfl ?_
  refine jr_get hE dX6_become_16 f16 g1_q rfl ?_
  obtain ⟨lw5, w5⟩ := h1_py.cell
  refine jr_kVv (ci := 1) (n := 1) (As := [.ref qy]) (rest := []) hE dX6_become_19 (fun l => c_X1_become l G py qy Q.2.2.1 _) gX6_become_X1_become rfl w5 rfl (by decide +kernel) ⟨rfl, rfl, by decide, by decide⟩ (by decide) rfl rfl (Nat.le_of_ble_eq_true rfl) (⟨w5, h1_qy⟩) (fun F7 q8 => ?_)
  obtain ⟨p6, r6⟩ := q8
  have h2_pz := h1_pz.fr (r6 pz (jn hnd 3 [2] rfl rfl (by decide)))
  have h2_qx := h1_qx.fr (r6 qx (jn hnd 5 [2] rfl rfl (by decide)))
  have h2_qy := h1_qy.fr (r6 qy (jn hnd 6 [2] rfl rfl (by decide)))
  have h2_qz := h1_qz.fr (r6 qz (jn hnd 7 [2] rfl rfl (by decide)))
  have h2_px := p2.fr (r6 px (jn hnd 1 [2] rfl rfl (by decide)))
  have g2_p := g1_p.fr (r6 p (jn hnd 0 [2] rfl rfl (by decide)))
  have g2_q := g1_q.fr (r6 q (jn hnd 4 [2] rfl rfl (by decide)))
  refine jr_aload_n hE dX6_become_22 0 rfl ?_
  refine jr_get hE dX6_become_23 f19 g2_p rfl ?_
  refine jr_aload_n hE dX6_become_26 1 rfl ?_
  refine jr_get hE dX6_become_27 f19 g2_q rfl ?_
  obtain ⟨lw9, w9⟩ := h2_pz.cell
  refine jr_kVv (ci := 1) (n := 1) (As := [.ref qz]) (rest := []) hE dX6_become_30 (fun l => c_X1_become l G pz qz Q.2.2.2 _) gX6_become_X1_become rfl w9 rfl (by decide +kernel) ⟨rfl, rfl, by decide, by decide⟩ (by decide) rfl rfl (Nat.le_of_ble_eq_true rfl) (⟨w9, h2_qz⟩) (fun F11 q12 => ?_)
  obtain ⟨p10, r10⟩ := q12
  have h3_qx := h2_qx.fr (r10 qx (jn hnd 5 [3] rfl rfl (by decide)))
  have h3_qy := h2_qy.fr (r10 qy (jn hnd 6 [3] rfl rfl (by decide)))
  have h3_qz := h2_qz.fr (r10 qz (jn hnd 7 [3] rfl rfl (by decide)))
  have h3_px := h2_px.fr (r10 px (jn hnd 1 [3] rfl rfl (by decide)))
  have h3_py := p6.fr (r10 py (jn hnd 2 [3] rfl rfl (by decide)))
  have g3_p := g2_p.fr (r10 p (jn hnd 0 [3] rfl rfl (by decide)))
  have g3_q := g2_q.fr (r10 q (jn hnd 4 [3] rfl rfl (by decide)))
  refine jr_aload_n hE dX6_become_33 0 rfl ?_
  refine jr_aload_n hE dX6_become_34 1 rfl ?_
  refine jr_get hE dX6_become_35 f22 g3_q rfl ?_
  refine jr_put (ty := .boolean) hE dX6_become_38 f22 g3_p rfl (by decide +kernel) (bi_nar Q.1) (bi_fit Q.1) (Nat.le_of_ble_eq_true rfl) (fun F13 g14 u15 => ?_)
  have g14 : jF L F13 p (.inr (6, [.ref px, .ref py, .ref pz, .int (bi Q.1)])) := g14
  have g16 := g3_q.up u15 (jn2 hnd 4 0 rfl rfl (by decide))
  exact hR F13 _ _ dX6_become_41 ⟨⟨g14, (h3_px.fr (u15 px (jn2 hnd 1 0 rfl rfl (by decide)))), (h3_py.fr (u15 py (jn2 hnd 2 0 rfl rfl (by decide)))), (p10.fr (u15 pz (jn2 hnd 3 0 rfl rfl (by decide))))⟩, fun z hz => (u15 z (jne hz 0 rfl)).trans ((r10 z (jnsub (V := [pz]) hz [3] rfl)).trans ((r6 z (jnsub (V := [py]) hz [2] rfl)).trans (r2 z (jnsub (V := [px]) hz [1] rfl))))⟩

def ngJ (P : JP) : JP := (P.1, P.2.1, fk (-1) P.2.2.1, P.2.2.2)

set_option maxHeartbeats 4000000 in
set_option maxRecDepth 100000 in
theorem c_X6_negate (l : Launch) (G : Nat → ClassId) (p px py pz : Nat) (P : JP) : jKv l yX6_negate wsX6_negate ({ frames := 2, cells := 0, slots := 0, locals := 46 }) G [.ref p] (fun L F => jPt L F p px py pz P ∧ [p, px, py, pz].Nodup) (fun L F F1 => jPt L F1 p px py pz (ngJ P) ∧ ∀ z, z ∉ [py] → F1 z = F z) := by
  refine jm_kv (cc := cX6_negate) (maxL := 1) (by decide) rfl (Nat.le_of_ble_eq_true rfl) ?_
  intro E L F hE hR hpre
  have hE : jOk E G _ cX6_negate 1 RX6 wsX6_negate := hE
  obtain ⟨⟨hp0, hp1, hp2, hp3⟩, hnd⟩ := hpre
  have f16 : jFl RX6 wsX6_negate 16 6 1 := ⟨rfl, by decide, by decide +kernel, by decide +kernel⟩
  refine jr_aload_n hE dX6_negate_0 0 rfl ?_
  refine jr_get hE dX6_negate_1 f16 hp0 rfl ?_
  refine jr_aload_n hE dX6_negate_4 0 rfl ?_
  refine jr_get hE dX6_negate_5 f16 hp0 rfl ?_
  refine jr_iconst (v := (-1 : Int32)) hE dX6_negate_8 (by decide) ?_
  obtain ⟨lw1, w1⟩ := hp2.cell
  refine jr_kVv (ci := 1) (n := 2) (As := [.ref py, .int (-1 : Int32)]) (rest := []) hE dX6_negate_9 (fun l => c_X1_multiple l G py P.2.2.1 _ (-1)) gX6_negate_X1_multiple rfl w1 rfl (by decide +kernel) ⟨rfl, rfl, by decide, by decide⟩ (by decide) rfl rfl (Nat.le_of_ble_eq_true rfl) (⟨hp2, ⟨by decide, by decide, by decide⟩⟩) (fun F3 q4 => ?_)
  obtain ⟨p2, r2⟩ := q4
  have p2 : jCo L F3 py (fk (-1) P.2.2.1) := p2
  have h1_px := hp1.fr (r2 px (jn hnd 1 [2] rfl rfl (by decide)))
  have h1_pz := hp3.fr (r2 pz (jn hnd 3 [2] rfl rfl (by decide)))
  have g1_p := hp0.fr (r2 p (jn hnd 0 [2] rfl rfl (by decide)))
  exact hR F3 _ _ dX6_negate_12 ⟨⟨g1_p, h1_px, p2, h1_pz⟩, fun z hz => r2 z (jnsub (V := [py]) hz [0] rfl)⟩

