/-! THE CURVE's sums -/
abbrev cCv (g ms pw one u s h r t : Nat) : va_E := .inr (2, [.ref g, .ref ms, .ref pw, .ref one, .ref u, .ref s, .ref h, .ref r, .ref t])
def fk (k : Int) (a : Nat) : Nat := ((k * (a : Int)) % (PP : Int)).toNat
def fs (a b : Nat) : Nat := (a + (PP - b)) % PP
def fm (a b : Nat) : Nat := a * b % PP
def twJ (P : JP) : JP :=
  if P.1 = true then P else
  let s := fm P.2.2.1 P.2.2.1
  let u := fk 4 (fm P.2.1 s)
  let s2 := fk 8 (fm s s)
  let r := fk 3 (fm P.2.1 P.2.1)
  let x := fs (fs (fm r r) u) u
  (false, x, fs (fm (fs u x) r) s2, fk 2 (fm P.2.2.2 P.2.2.1))
def plJ (P Q : JP) : JP :=
  if Q.1 = true then P else if P.1 = true then Q else
  let t := fm Q.2.2.2 Q.2.2.2
  let u := fm P.2.1 t
  let s := fm (fm P.2.2.1 t) Q.2.2.2
  let t2 := fm P.2.2.2 P.2.2.2
  let h := fs (fm Q.2.1 t2) u
  let r := fs (fm (fm Q.2.2.1 t2) P.2.2.2) s
  if h = 0 ∧ r = 0 then twJ P else if h = 0 then (true, P.2) else
  let t3 := fm h h
  let u3 := fm u t3
  let h3 := fm h t3
  let x := fs (fs (fs (fm r r) h3) u3) u3
  (false, x, fs (fm (fs u3 x) r) (fm s h3), fm (fm P.2.2.2 Q.2.2.2) h)
/-- the curve object with what it works with -/
def jCu (L : List Nat) (F : Nat → va_E) (cv g ms pw one u s h r t : Nat) : Prop := jF L F cv (cCv g ms pw one u s h r t) ∧ (∃ l, jF L F u (cC l)) ∧ (∃ l, jF L F s (cC l)) ∧ (∃ l, jF L F h (cC l)) ∧ (∃ l, jF L F r (cC l)) ∧ (∃ l, jF L F t (cC l))
theorem excell {L : List Nat} {F F' : Nat → va_E} {a : Nat} (h : ∃ l, jF L F a (cC l)) (e : F' a = F a) : ∃ l, jF L F' a (cC l) := by
  obtain ⟨l, hl⟩ := h
  exact ⟨l, hl.fr e⟩
theorem jCu.fr {L : List Nat} {F F' : Nat → va_E} {cv g ms pw one u s h r t : Nat} (c : jCu L F cv g ms pw one u s h r t) (e0 : F' cv = F cv) (e1 : F' u = F u) (e2 : F' s = F s) (e3 : F' h = F h) (e4 : F' r = F r) (e5 : F' t = F t) : jCu L F' cv g ms pw one u s h r t := ⟨c.1.fr e0, excell c.2.1 e1, excell c.2.2.1 e2, excell c.2.2.2.1 e3, excell c.2.2.2.2.1 e4, excell c.2.2.2.2.2 e5⟩

set_option maxHeartbeats 4000000 in
set_option maxRecDepth 100000 in
theorem c_X2_twice (l : Launch) (G : Nat → ClassId) (cv g ms pw one u s h r t p px py pz : Nat) (P : JP) : jKv l yX2_twice wsX2_twice ({ frames := 2, cells := 0, slots := 0, locals := 80 }) G [.ref cv, .ref p] (fun L F => jCu L F cv g ms pw one u s h r t ∧ jPt L F p px py pz P ∧ [cv, u, s, h, r, t, p, px, py, pz].Nodup) (fun L F F1 => jCu L F1 cv g ms pw one u s h r t ∧ jPt L F1 p px py pz (twJ P) ∧ ∀ z, z ∉ [u, s, r, px, py, pz] → F1 z = F z) := by
  refine jm_kv (cc := cX2_twice) (maxL := 2) (by decide) rfl (Nat.le_of_ble_eq_true rfl) ?_
  intro E L F hE hR hpre
  have hE : jOk E G _ cX2_twice 2 RX2 wsX2_twice := hE
  obtain ⟨⟨hc0, ⟨lu, hcu⟩, ⟨ls, hcs⟩, ⟨lh, hch⟩, ⟨lr, hcr⟩, ⟨lt, hct⟩⟩, ⟨hp0, hp1, hp2, hp3⟩, hnd⟩ := hpre

  have f82 : jFl RX2 wsX2_twice 82 6 3 := ⟨rfl, by decide, by decide +kernel, by decide +kernel⟩
  have f37 : jFl RX2 wsX2_twice 37 2 5 := ⟨rfl, by decide, by decide +kernel, by decide +kernel⟩
  have f64 : jFl RX2 wsX2_twice 64 6 1 := ⟨rfl, by decide, by decide +kernel, by decide +kernel⟩
  have f34 : jFl RX2 wsX2_twice 34 2 4 := ⟨rfl, by decide, by decide +kernel, by decide +kernel⟩
  have f53 : jFl RX2 wsX2_twice 53 6 0 := ⟨rfl, by decide, by decide +kernel, by decide +kernel⟩
  have f43 : jFl RX2 wsX2_twice 43 2 7 := ⟨rfl, by decide, by decide +kernel, by decide +kernel⟩
  have f75 : jFl RX2 wsX2_twice 75 6 2 := ⟨rfl, by decide, by decide +kernel, by decide +kernel⟩
  refine jr_aload_n hE dX2_twice_0 1 rfl ?_
  refine jr_get hE dX2_twice_1 f82 hp0 rfl ?_
  refine jr_if_eq (tgt := 8) hE dX2_twice_4 (by decide) (fun c1 => ?_) (fun c1 => ?_)
  · refine jr_aload_n hE dX2_twice_8 0 rfl ?_
    refine jr_get hE dX2_twice_9 f37 hc0 rfl ?_
    refine jr_aload_n hE dX2_twice_12 1 rfl ?_
    refine jr_get hE dX2_twice_13 f64 hp0 rfl ?_
    refine jr_aload_n hE dX2_twice_16 1 rfl ?_
    refine jr_get hE dX2_twice_17 f64 hp0 rfl ?_
    refine jr_kVv (ci := 1) (n := 2) (As := [.ref py, .ref py]) (rest := []) hE dX2_twice_20 (fun l => c_X1_product l G s py py P.2.2.1 P.2.2.1 _) gX2_twice_X1_product rfl hcs rfl (by decide +kernel) ⟨rfl, rfl, by decide, by decide⟩ (by decide) rfl rfl (Nat.le_of_ble_eq_true rfl) (⟨hcs, hp2, hp2⟩) (fun F2 q3 => ?_)
    obtain ⟨p1T, r1T⟩ := q3
    have h1T_u := hcu.fr (r1T u (jn hnd 1 [2] rfl rfl (by decide)))
    have h1T_h := hch.fr (r1T h (jn hnd 3 [2] rfl rfl (by decide)))
    have h1T_r := hcr.fr (r1T r (jn hnd 4 [2] rfl rfl (by decide)))
    have h1T_t := hct.fr (r1T t (jn hnd 5 [2] rfl rfl (by decide)))
    have h1T_px := hp1.fr (r1T px (jn hnd 7 [2] rfl rfl (by decide)))
    have h1T_py := hp2.fr (r1T py (jn hnd 8 [2] rfl rfl (by decide)))
    have h1T_pz := hp3.fr (r1T pz (jn hnd 9 [2] rfl rfl (by decide)))
    have g1T_cv := hc0.fr (r1T cv (jn hnd 0 [2] rfl rfl (by decide)))
    have g1T_p := hp0.fr (r1T p (jn hnd 6 [2] rfl rfl (by decide)))
    refine jr_aload_n hE dX2_twice_23 0 rfl ?_
    refine jr_get hE dX2_twice_24 f34 g1T_cv rfl ?_
    refine jr_aload_n hE dX2_twice_27 1 rfl ?_
    refine jr_get hE dX2_twice_28 f53 g1T_p rfl ?_
    refine jr_aload_n hE dX2_twice_31 0 rfl ?_
    refine jr_get hE dX2_twice_32 f37 g1T_cv rfl ?_
    refine jr_kVv (ci := 1) (n := 2) (As := [.ref px, .ref s]) (rest := []) hE dX2_twice_35 (fun l => c_X1_product l G u px s P.2.1 (P.2.2.1 * P.2.2.1 % PP) _) gX2_twice_X1_product rfl h1T_u rfl (by decide +kernel) ⟨rfl, rfl, by decide, by decide⟩ (by decide) rfl rfl (Nat.le_of_ble_eq_true rfl) (⟨h1T_u, h1T_px, p1T⟩) (fun F5 q6 => ?_)
    obtain ⟨p4T, r4T⟩ := q6
    have h2T_h := h1T_h.fr (r4T h (jn hnd 3 [1] rfl rfl (by decide)))
    have h2T_r := h1T_r.fr (r4T r (jn hnd 4 [1] rfl rfl (by decide)))
    have h2T_t := h1T_t.fr (r4T t (jn hnd 5 [1] rfl rfl (by decide)))
    have h2T_px := h1T_px.fr (r4T px (jn hnd 7 [1] rfl rfl (by decide)))
    have h2T_py := h1T_py.fr (r4T py (jn hnd 8 [1] rfl rfl (by decide)))
    have h2T_pz := h1T_pz.fr (r4T pz (jn hnd 9 [1] rfl rfl (by decide)))
    have h2T_s := p1T.fr (r4T s (jn hnd 2 [1] rfl rfl (by decide)))
    have g2T_cv := g1T_cv.fr (r4T cv (jn hnd 0 [1] rfl rfl (by decide)))
    have g2T_p := g1T_p.fr (r4T p (jn hnd 6 [1] rfl rfl (by decide)))
    refine jr_aload_n hE dX2_twice_38 0 rfl ?_
    refine jr_get hE dX2_twice_39 f34 g2T_cv rfl ?_
    refine jr_aload_n hE dX2_twice_42 0 rfl ?_
    refine jr_get hE dX2_twice_43 f34 g2T_cv rfl ?_
    refine jr_iconst (v := (4 : Int32)) hE dX2_twice_46 (by decide) ?_
    obtain ⟨lw7T, w7T⟩ := p4T.cell
    refine jr_kVv (ci := 1) (n := 2) (As := [.ref u, .int (4 : Int32)]) (rest := []) hE dX2_twice_47 (fun l => c_X1_multiple l G u (P.2.1 * (P.2.2.1 * P.2.2.1 % PP) % PP) _ (4)) gX2_twice_X1_multiple rfl w7T rfl (by decide +kernel) ⟨rfl, rfl, by decide, by decide⟩ (by decide) rfl rfl (Nat.le_of_ble_eq_true rfl) (⟨p4T, ⟨by decide, by decide, by decide⟩⟩) (fun F9 q10 => ?_)
    obtain ⟨p8T, r8T⟩ := q10
    have h3T_h := h2T_h.fr (r8T h (jn hnd 3 [1] rfl rfl (by decide)))
    have h3T_r := h2T_r.fr (r8T r (jn hnd 4 [1] rfl rfl (by decide)))
    have h3T_t := h2T_t.fr (r8T t (jn hnd 5 [1] rfl rfl (by decide)))
    have h3T_px := h2T_px.fr (r8T px (jn hnd 7 [1] rfl rfl (by decide)))
    have h3T_py := h2T_py.fr (r8T py (jn hnd 8 [1] rfl rfl (by decide)))
    have h3T_pz := h2T_pz.fr (r8T pz (jn hnd 9 [1] rfl rfl (by decide)))
    have h3T_s := h2T_s.fr (r8T s (jn hnd 2 [1] rfl rfl (by decide)))
    have g3T_cv := g2T_cv.fr (r8T cv (jn hnd 0 [1] rfl rfl (by decide)))
    have g3T_p := g2T_p.fr (r8T p (jn hnd 6 [1] rfl rfl (by decide)))
    refine jr_aload_n hE dX2_twice_50 0 rfl ?_
    refine jr_get hE dX2_twice_51 f37 g3T_cv rfl ?_
    refine jr_aload_n hE dX2_twice_54 0 rfl ?_
    refine jr_get hE dX2_twice_55 f37 g3T_cv rfl ?_
    refine jr_aload_n hE dX2_twice_58 0 rfl ?_
    refine jr_get hE dX2_twice_59 f37 g3T_cv rfl ?_
    obtain ⟨lw11T, w11T⟩ := h3T_s.cell
    refine jr_kVv (ci := 1) (n := 2) (As := [.ref s, .ref s]) (rest := []) hE dX2_twice_62 (fun l => c_X1_product l G s s s (P.2.2.1 * P.2.2.1 % PP) (P.2.2.1 * P.2.2.1 % PP) _) gX2_twice_X1_product rfl w11T rfl (by decide +kernel) ⟨rfl, rfl, by decide, by decide⟩ (by decide) rfl rfl (Nat.le_of_ble_eq_true rfl) (⟨w11T, h3T_s, h3T_s⟩) (fun F13 q14 => ?_)
    obtain ⟨p12T, r12T⟩ := q14
    have h4T_h := h3T_h.fr (r12T h (jn hnd 3 [2] rfl rfl (by decide)))
    have h4T_r := h3T_r.fr (r12T r (jn hnd 4 [2] rfl rfl (by decide)))
    have h4T_t := h3T_t.fr (r12T t (jn hnd 5 [2] rfl rfl (by decide)))
    have h4T_px := h3T_px.fr (r12T px (jn hnd 7 [2] rfl rfl (by decide)))
    have h4T_py := h3T_py.fr (r12T py (jn hnd 8 [2] rfl rfl (by decide)))
    have h4T_pz := h3T_pz.fr (r12T pz (jn hnd 9 [2] rfl rfl (by decide)))
    have h4T_u := p8T.fr (r12T u (jn hnd 1 [2] rfl rfl (by decide)))
    have g4T_cv := g3T_cv.fr (r12T cv (jn hnd 0 [2] rfl rfl (by decide)))
    have g4T_p := g3T_p.fr (r12T p (jn hnd 6 [2] rfl rfl (by decide)))
    refine jr_aload_n hE dX2_twice_65 0 rfl ?_
    refine jr_get hE dX2_twice_66 f37 g4T_cv rfl ?_
    refine jr_aload_n hE dX2_twice_69 0 rfl ?_
    refine jr_get hE dX2_twice_70 f37 g4T_cv rfl ?_
    refine jr_bipush (v := (8 : Int32)) hE dX2_twice_73 (by decide) ?_
    obtain ⟨lw15T, w15T⟩ := p12T.cell
    refine jr_kVv (ci := 1) (n := 2) (As := [.ref s, .int (8 : Int32)]) (rest := []) hE dX2_twice_75 (fun l => c_X1_multiple l G s ((P.2.2.1 * P.2.2.1 % PP) * (P.2.2.1 * P.2.2.1 % PP) % PP) _ (8)) gX2_twice_X1_multiple rfl w15T rfl (by decide +kernel) ⟨rfl, rfl, by decide, by decide⟩ (by decide) rfl rfl (Nat.le_of_ble_eq_true rfl) (⟨p12T, ⟨by decide, by decide, by decide⟩⟩) (fun F17 q18 => ?_)
    obtain ⟨p16T, r16T⟩ := q18
    have h5T_h := h4T_h.fr (r16T h (jn hnd 3 [2] rfl rfl (by decide)))
    have h5T_r := h4T_r.fr (r16T r (jn hnd 4 [2] rfl rfl (by decide)))
    have h5T_t := h4T_t.fr (r16T t (jn hnd 5 [2] rfl rfl (by decide)))
    have h5T_px := h4T_px.fr (r16T px (jn hnd 7 [2] rfl rfl (by decide)))
    have h5T_py := h4T_py.fr (r16T py (jn hnd 8 [2] rfl rfl (by decide)))
    have h5T_pz := h4T_pz.fr (r16T pz (jn hnd 9 [2] rfl rfl (by decide)))
    have h5T_u := h4T_u.fr (r16T u (jn hnd 1 [2] rfl rfl (by decide)))
    have g5T_cv := g4T_cv.fr (r16T cv (jn hnd 0 [2] rfl rfl (by decide)))
    have g5T_p := g4T_p.fr (r16T p (jn hnd 6 [2] rfl rfl (by decide)))
    refine jr_aload_n hE dX2_twice_78 0 rfl ?_
    refine jr_get hE dX2_twice_79 f43 g5T_cv rfl ?_
    refine jr_aload_n hE dX2_twice_82 1 rfl ?_
    refine jr_get hE dX2_twice_83 f53 g5T_p rfl ?_
    refine jr_aload_n hE dX2_twice_86 1 rfl ?_
    refine jr_get hE dX2_twice_87 f53 g5T_p rfl ?_
    refine jr_kVv (ci := 1) (n := 2) (As := [.ref px, .ref px]) (rest := []) hE dX2_twice_90 (fun l => c_X1_product l G r px px P.2.1 P.2.1 _) gX2_twice_X1_product rfl h5T_r rfl (by decide +kernel) ⟨rfl, rfl, by decide, by decide⟩ (by decide) rfl rfl (Nat.le_of_ble_eq_true rfl) (⟨h5T_r, h5T_px, h5T_px⟩) (fun F20 q21 => ?_)
    obtain ⟨p19T, r19T⟩ := q21
    have h6T_h := h5T_h.fr (r19T h (jn hnd 3 [4] rfl rfl (by decide)))
    have h6T_t := h5T_t.fr (r19T t (jn hnd 5 [4] rfl rfl (by decide)))
    have h6T_px := h5T_px.fr (r19T px (jn hnd 7 [4] rfl rfl (by decide)))
    have h6T_py := h5T_py.fr (r19T py (jn hnd 8 [4] rfl rfl (by decide)))
    have h6T_pz := h5T_pz.fr (r19T pz (jn hnd 9 [4] rfl rfl (by decide)))
    have h6T_u := h5T_u.fr (r19T u (jn hnd 1 [4] rfl rfl (by decide)))
    have h6T_s := p16T.fr (r19T s (jn hnd 2 [4] rfl rfl (by decide)))
    have g6T_cv := g5T_cv.fr (r19T cv (jn hnd 0 [4] rfl rfl (by decide)))
    have g6T_p := g5T_p.fr (r19T p (jn hnd 6 [4] rfl rfl (by decide)))
    refine jr_aload_n hE dX2_twice_93 0 rfl ?_
    refine jr_get hE dX2_twice_94 f43 g6T_cv rfl ?_
    refine jr_aload_n hE dX2_twice_97 0 rfl ?_
    refine jr_get hE dX2_twice_98 f43 g6T_cv rfl ?_
    refine jr_iconst (v := (3 : Int32)) hE dX2_twice_101 (by decide) ?_
    obtain ⟨lw22T, w22T⟩ := p19T.cell
    refine jr_kVv (ci := 1) (n := 2) (As := [.ref r, .int (3 : Int32)]) (rest := []) hE dX2_twice_102 (fun l => c_X1_multiple l G r (P.2.1 * P.2.1 % PP) _ (3)) gX2_twice_X1_multiple rfl w22T rfl (by decide +kernel) ⟨rfl, rfl, by decide, by decide⟩ (by decide) rfl rfl (Nat.le_of_ble_eq_true rfl) (⟨p19T, ⟨by decide, by decide, by decide⟩⟩) (fun F24 q25 => ?_)
    obtain ⟨p23T, r23T⟩ := q25
    have h7T_h := h6T_h.fr (r23T h (jn hnd 3 [4] rfl rfl (by decide)))
    have h7T_t := h6T_t.fr (r23T t (jn hnd 5 [4] rfl rfl (by decide)))
    have h7T_px := h6T_px.fr (r23T px (jn hnd 7 [4] rfl rfl (by decide)))
    have h7T_py := h6T_py.fr (r23T py (jn hnd 8 [4] rfl rfl (by decide)))
    have h7T_pz := h6T_pz.fr (r23T pz (jn hnd 9 [4] rfl rfl (by decide)))
    have h7T_u := h6T_u.fr (r23T u (jn hnd 1 [4] rfl rfl (by decide)))
    have h7T_s := h6T_s.fr (r23T s (jn hnd 2 [4] rfl rfl (by decide)))
    have g7T_cv := g6T_cv.fr (r23T cv (jn hnd 0 [4] rfl rfl (by decide)))
    have g7T_p := g6T_p.fr (r23T p (jn hnd 6 [4] rfl rfl (by decide)))
    refine jr_aload_n hE dX2_twice_105 1 rfl ?_
    refine jr_get hE dX2_twice_106 f75 g7T_p rfl ?_
    refine jr_aload_n hE dX2_twice_109 1 rfl ?_
    refine jr_get hE dX2_twice_110 f75 g7T_p rfl ?_
    refine jr_aload_n hE dX2_twice_113 1 rfl ?_
    refine jr_get hE dX2_twice_114 f64 g7T_p rfl ?_
    obtain ⟨lw26T, w26T⟩ := h7T_pz.cell
    refine jr_kVv (ci := 1) (n := 2) (As := [.ref pz, .ref py]) (rest := []) hE dX2_twice_117 (fun l => c_X1_product l G pz pz py P.2.2.2 P.2.2.1 _) gX2_twice_X1_product rfl w26T rfl (by decide +kernel) ⟨rfl, rfl, by decide, by decide⟩ (by decide) rfl rfl (Nat.le_of_ble_eq_true rfl) (⟨w26T, h7T_pz, h7T_py⟩) (fun F28 q29 => ?_)
    obtain ⟨p27T, r27T⟩ := q29
    have h8T_h := h7T_h.fr (r27T h (jn hnd 3 [9] rfl rfl (by decide)))
    have h8T_t := h7T_t.fr (r27T t (jn hnd 5 [9] rfl rfl (by decide)))
    have h8T_px := h7T_px.fr (r27T px (jn hnd 7 [9] rfl rfl (by decide)))
    have h8T_py := h7T_py.fr (r27T py (jn hnd 8 [9] rfl rfl (by decide)))
    have h8T_u := h7T_u.fr (r27T u (jn hnd 1 [9] rfl rfl (by decide)))
    have h8T_s := h7T_s.fr (r27T s (jn hnd 2 [9] rfl rfl (by decide)))
    have h8T_r := p23T.fr (r27T r (jn hnd 4 [9] rfl rfl (by decide)))
    have g8T_cv := g7T_cv.fr (r27T cv (jn hnd 0 [9] rfl rfl (by decide)))
    have g8T_p := g7T_p.fr (r27T p (jn hnd 6 [9] rfl rfl (by decide)))
    refine jr_aload_n hE dX2_twice_120 1 rfl ?_
    refine jr_get hE dX2_twice_121 f75 g8T_p rfl ?_
    refine jr_aload_n hE dX2_twice_124 1 rfl ?_
    refine jr_get hE dX2_twice_125 f75 g8T_p rfl ?_
    refine jr_iconst (v := (2 : Int32)) hE dX2_twice_128 (by decide) ?_
    obtain ⟨lw30T, w30T⟩ := p27T.cell
    refine jr_kVv (ci := 1) (n := 2) (As := [.ref pz, .int (2 : Int32)]) (rest := []) hE dX2_twice_129 (fun l => c_X1_multiple l G pz (P.2.2.2 * P.2.2.1 % PP) _ (2)) gX2_twice_X1_multiple rfl w30T rfl (by decide +kernel) ⟨rfl, rfl, by decide, by decide⟩ (by decide) rfl rfl (Nat.le_of_ble_eq_true rfl) (⟨p27T, ⟨by decide, by decide, by decide⟩⟩) (fun F32 q33 => ?_)
    obtain ⟨p31T, r31T⟩ := q33
    have h9T_h := h8T_h.fr (r31T h (jn hnd 3 [9] rfl rfl (by decide)))
    have h9T_t := h8T_t.fr (r31T t (jn hnd 5 [9] rfl rfl (by decide)))
    have h9T_px := h8T_px.fr (r31T px (jn hnd 7 [9] rfl rfl (by decide)))
    have h9T_py := h8T_py.fr (r31T py (jn hnd 8 [9] rfl rfl (by decide)))
    have h9T_u := h8T_u.fr (r31T u (jn hnd 1 [9] rfl rfl (by decide)))
    have h9T_s := h8T_s.fr (r31T s (jn hnd 2 [9] rfl rfl (by decide)))
    have h9T_r := h8T_r.fr (r31T r (jn hnd 4 [9] rfl rfl (by decide)))
    have g9T_cv := g8T_cv.fr (r31T cv (jn hnd 0 [9] rfl rfl (by decide)))
    have g9T_p := g8T_p.fr (r31T p (jn hnd 6 [9] rfl rfl (by decide)))
    refine jr_aload_n hE dX2_twice_132 1 rfl ?_
    refine jr_get hE dX2_twice_133 f53 g9T_p rfl ?_
    refine jr_aload_n hE dX2_twice_136 0 rfl ?_
    refine jr_get hE dX2_twice_137 f43 g9T_cv rfl ?_
    refine jr_aload_n hE dX2_twice_140 0 rfl ?_
    refine jr_get hE dX2_twice_141 f43 g9T_cv rfl ?_
    obtain ⟨lw34T, w34T⟩ := h9T_px.cell
    refine jr_kVv (ci := 1) (n := 2) (As := [.ref r, .ref r]) (rest := []) hE dX2_twice_144 (fun l => c_X1_product l G px r r ((((3 : Int) * ((P.2.1 * P.2.1 % PP) : Nat)) % (PP : Int)).toNat) ((((3 : Int) * ((P.2.1 * P.2.1 % PP) : Nat)) % (PP : Int)).toNat) _) gX2_twice_X1_product rfl w34T rfl (by decide +kernel) ⟨rfl, rfl, by decide, by decide⟩ (by decide) rfl rfl (Nat.le_of_ble_eq_true rfl) (⟨w34T, h9T_r, h9T_r⟩) (fun F36 q37 => ?_)
    obtain ⟨p35T, r35T⟩ := q37
    have h10T_h := h9T_h.fr (r35T h (jn hnd 3 [7] rfl rfl (by decide)))
    have h10T_t := h9T_t.fr (r35T t (jn hnd 5 [7] rfl rfl (by decide)))
    have h10T_py := h9T_py.fr (r35T py (jn hnd 8 [7] rfl rfl (by decide)))
    have h10T_u := h9T_u.fr (r35T u (jn hnd 1 [7] rfl rfl (by decide)))
    have h10T_s := h9T_s.fr (r35T s (jn hnd 2 [7] rfl rfl (by decide)))
    have h10T_r := h9T_r.fr (r35T r (jn hnd 4 [7] rfl rfl (by decide)))
    have h10T_pz := p31T.fr (r35T pz (jn hnd 9 [7] rfl rfl (by decide)))
    have g10T_cv := g9T_cv.fr (r35T cv (jn hnd 0 [7] rfl rfl (by decide)))
    have g10T_p := g9T_p.fr (r35T p (jn hnd 6 [7] rfl rfl (by decide)))
    refine jr_aload_n hE dX2_twice_147 1 rfl ?_
    refine jr_get hE dX2_twice_148 f53 g10T_p rfl ?_
    refine jr_aload_n hE dX2_twice_151 1 rfl ?_
    refine jr_get hE dX2_twice_152 f53 g10T_p rfl ?_
    refine jr_aload_n hE dX2_twice_155 0 rfl ?_
    refine jr_get hE dX2_twice_156 f34 g10T_cv rfl ?_
    obtain ⟨lw38T, w38T⟩ := p35T.cell
    refine jr_kVv (ci := 1) (n := 2) (As := [.ref px, .ref u]) (rest := []) hE dX2_twice_159 (fun l => c_X1_difference_s l G px u (((((3 : Int) * ((P.2.1 * P.2.1 % PP) : Nat)) % (PP : Int)).toNat) * ((((3 : Int) * ((P.2.1 * P.2.1 % PP) : Nat)) % (PP : Int)).toNat) % PP) ((((4 : Int) * ((P.2.1 * (P.2.2.1 * P.2.2.1 % PP) % PP) : Nat)) % (PP : Int)).toNat)) gX2_twice_X1_difference rfl w38T rfl (by decide +kernel) ⟨rfl, rfl, by decide, by decide⟩ (by decide) rfl rfl (Nat.le_of_ble_eq_true rfl) (⟨p35T, h10T_u, jnd hnd [7, 1] rfl (by decide)⟩) (fun F40 q41 => ?_)
    obtain ⟨p39T, r39T⟩ := q41
    have h11T_h := h10T_h.fr (r39T h (jn hnd 3 [7] rfl rfl (by decide)))
    have h11T_t := h10T_t.fr (r39T t (jn hnd 5 [7] rfl rfl (by decide)))
    have h11T_py := h10T_py.fr (r39T py (jn hnd 8 [7] rfl rfl (by decide)))
    have h11T_u := h10T_u.fr (r39T u (jn hnd 1 [7] rfl rfl (by decide)))
    have h11T_s := h10T_s.fr (r39T s (jn hnd 2 [7] rfl rfl (by decide)))
    have h11T_r := h10T_r.fr (r39T r (jn hnd 4 [7] rfl rfl (by decide)))
    have h11T_pz := h10T_pz.fr (r39T pz (jn hnd 9 [7] rfl rfl (by decide)))
    have g11T_cv := g10T_cv.fr (r39T cv (jn hnd 0 [7] rfl rfl (by decide)))
    have g11T_p := g10T_p.fr (r39T p (jn hnd 6 [7] rfl rfl (by decide)))
    refine jr_aload_n hE dX2_twice_162 1 rfl ?_
    refine jr_get hE dX2_twice_163 f53 g11T_p rfl ?_
    refine jr_aload_n hE dX2_twice_166 1 rfl ?_
    refine jr_get hE dX2_twice_167 f53 g11T_p rfl ?_
    refine jr_aload_n hE dX2_twice_170 0 rfl ?_
    refine jr_get hE dX2_twice_171 f34 g11T_cv rfl ?_
    obtain ⟨lw42T, w42T⟩ := p39T.cell
    refine jr_kVv (ci := 1) (n := 2) (As := [.ref px, .ref u]) (rest := []) hE dX2_twice_174 (fun l => c_X1_difference_s l G px u (((((((3 : Int) * ((P.2.1 * P.2.1 % PP) : Nat)) % (PP : Int)).toNat) * ((((3 : Int) * ((P.2.1 * P.2.1 % PP) : Nat)) % (PP : Int)).toNat) % PP) + (PP - ((((4 : Int) * ((P.2.1 * (P.2.2.1 * P.2.2.1 % PP) % PP) : Nat)) % (PP : Int)).toNat))) % PP) ((((4 : Int) * ((P.2.1 * (P.2.2.1 * P.2.2.1 % PP) % PP) : Nat)) % (PP : Int)).toNat)) gX2_twice_X1_difference rfl w42T rfl (by decide +kernel) ⟨rfl, rfl, by decide, by decide⟩ (by decide) rfl rfl (Nat.le_of_ble_eq_true rfl) (⟨p39T, h11T_u, jnd hnd [7, 1] rfl (by decide)⟩) (fun F44 q45 => ?_)
    obtain ⟨p43T, r43T⟩ := q45
    have h12T_h := h11T_h.fr (r43T h (jn hnd 3 [7] rfl rfl (by decide)))
    have h12T_t := h11T_t.fr (r43T t (jn hnd 5 [7] rfl rfl (by decide)))
    have h12T_py := h11T_py.fr (r43T py (jn hnd 8 [7] rfl rfl (by decide)))
    have h12T_u := h11T_u.fr (r43T u (jn hnd 1 [7] rfl rfl (by decide)))
    have h12T_s := h11T_s.fr (r43T s (jn hnd 2 [7] rfl rfl (by decide)))
    have h12T_r := h11T_r.fr (r43T r (jn hnd 4 [7] rfl rfl (by decide)))
    have h12T_pz := h11T_pz.fr (r43T pz (jn hnd 9 [7] rfl rfl (by decide)))
    have g12T_cv := g11T_cv.fr (r43T cv (jn hnd 0 [7] rfl rfl (by decide)))
    have g12T_p := g11T_p.fr (r43T p (jn hnd 6 [7] rfl rfl (by decide)))
    refine jr_aload_n hE dX2_twice_177 0 rfl ?_
    refine jr_get hE dX2_twice_178 f34 g12T_cv rfl ?_
    refine jr_aload_n hE dX2_twice_181 0 rfl ?_
    refine jr_get hE dX2_twice_182 f34 g12T_cv rfl ?_
    refine jr_aload_n hE dX2_twice_185 1 rfl ?_
    refine jr_get hE dX2_twice_186 f53 g12T_p rfl ?_
    obtain ⟨lw46T, w46T⟩ := h12T_u.cell
    refine jr_kVv (ci := 1) (n := 2) (As := [.ref u, .ref px]) (rest := []) hE dX2_twice_189 (fun l => c_X1_difference_s l G u px ((((4 : Int) * ((P.2.1 * (P.2.2.1 * P.2.2.1 % PP) % PP) : Nat)) % (PP : Int)).toNat) (((((((((3 : Int) * ((P.2.1 * P.2.1 % PP) : Nat)) % (PP : Int)).toNat) * ((((3 : Int) * ((P.2.1 * P.2.1 % PP) : Nat)) % (PP : Int)).toNat) % PP) + (PP - ((((4 : Int) * ((P.2.1 * (P.2.2.1 * P.2.2.1 % PP) % PP) : Nat)) % (PP : Int)).toNat))) % PP) + (PP - ((((4 : Int) * ((P.2.1 * (P.2.2.1 * P.2.2.1 % PP) % PP) : Nat)) % (PP : Int)).toNat))) % PP)) gX2_twice_X1_difference rfl w46T rfl (by decide +kernel) ⟨rfl, rfl, by decide, by decide⟩ (by decide) rfl rfl (Nat.le_of_ble_eq_true rfl) (⟨h12T_u, p43T, jnd hnd [1, 7] rfl (by decide)⟩) (fun F48 q49 => ?_)
    obtain ⟨p47T, r47T⟩ := q49
    have h13T_h := h12T_h.fr (r47T h (jn hnd 3 [1] rfl rfl (by decide)))
    have h13T_t := h12T_t.fr (r47T t (jn hnd 5 [1] rfl rfl (by decide)))
    have h13T_py := h12T_py.fr (r47T py (jn hnd 8 [1] rfl rfl (by decide)))
    have h13T_s := h12T_s.fr (r47T s (jn hnd 2 [1] rfl rfl (by decide)))
    have h13T_r := h12T_r.fr (r47T r (jn hnd 4 [1] rfl rfl (by decide)))
    have h13T_pz := h12T_pz.fr (r47T pz (jn hnd 9 [1] rfl rfl (by decide)))
    have h13T_px := p43T.fr (r47T px (jn hnd 7 [1] rfl rfl (by decide)))
    have g13T_cv := g12T_cv.fr (r47T cv (jn hnd 0 [1] rfl rfl (by decide)))
    have g13T_p := g12T_p.fr (r47T p (jn hnd 6 [1] rfl rfl (by decide)))
    refine jr_aload_n hE dX2_twice_192 0 rfl ?_
    refine jr_get hE dX2_twice_193 f34 g13T_cv rfl ?_
    refine jr_aload_n hE dX2_twice_196 0 rfl ?_
    refine jr_get hE dX2_twice_197 f34 g13T_cv rfl ?_
    refine jr_aload_n hE dX2_twice_200 0 rfl ?_
    refine jr_get hE dX2_twice_201 f43 g13T_cv rfl ?_
    obtain ⟨lw50T, w50T⟩ := p47T.cell
    refine jr_kVv (ci := 1) (n := 2) (As := [.ref u, .ref r]) (rest := []) hE dX2_twice_204 (fun l => c_X1_product l G u u r ((((((4 : Int) * ((P.2.1 * (P.2.2.1 * P.2.2.1 % PP) % PP) : Nat)) % (PP : Int)).toNat) + (PP - (((((((((3 : Int) * ((P.2.1 * P.2.1 % PP) : Nat)) % (PP : Int)).toNat) * ((((3 : Int) * ((P.2.1 * P.2.1 % PP) : Nat)) % (PP : Int)).toNat) % PP) + (PP - ((((4 : Int) * ((P.2.1 * (P.2.2.1 * P.2.2.1 % PP) % PP) : Nat)) % (PP : Int)).toNat))) % PP) + (PP - ((((4 : Int) * ((P.2.1 * (P.2.2.1 * P.2.2.1 % PP) % PP) : Nat)) % (PP : Int)).toNat))) % PP))) % PP) ((((3 : Int) * ((P.2.1 * P.2.1 % PP) : Nat)) % (PP : Int)).toNat) _) gX2_twice_X1_product rfl w50T rfl (by decide +kernel) ⟨rfl, rfl, by decide, by decide⟩ (by decide) rfl rfl (Nat.le_of_ble_eq_true rfl) (⟨w50T, p47T, h13T_r⟩) (fun F52 q53 => ?_)
    obtain ⟨p51T, r51T⟩ := q53
    have h14T_h := h13T_h.fr (r51T h (jn hnd 3 [1] rfl rfl (by decide)))
    have h14T_t := h13T_t.fr (r51T t (jn hnd 5 [1] rfl rfl (by decide)))
    have h14T_py := h13T_py.fr (r51T py (jn hnd 8 [1] rfl rfl (by decide)))
    have h14T_s := h13T_s.fr (r51T s (jn hnd 2 [1] rfl rfl (by decide)))
    have h14T_r := h13T_r.fr (r51T r (jn hnd 4 [1] rfl rfl (by decide)))
    have h14T_pz := h13T_pz.fr (r51T pz (jn hnd 9 [1] rfl rfl (by decide)))
    have h14T_px := h13T_px.fr (r51T px (jn hnd 7 [1] rfl rfl (by decide)))
    have g14T_cv := g13T_cv.fr (r51T cv (jn hnd 0 [1] rfl rfl (by decide)))
    have g14T_p := g13T_p.fr (r51T p (jn hnd 6 [1] rfl rfl (by decide)))
    refine jr_aload_n hE dX2_twice_207 1 rfl ?_
    refine jr_get hE dX2_twice_208 f64 g14T_p rfl ?_
    refine jr_aload_n hE dX2_twice_211 0 rfl ?_
    refine jr_get hE dX2_twice_212 f34 g14T_cv rfl ?_
    refine jr_aload_n hE dX2_twice_215 0 rfl ?_
    refine jr_get hE dX2_twice_216 f37 g14T_cv rfl ?_
    obtain ⟨lw54T, w54T⟩ := h14T_py.cell
    refine jr_kVv (ci := 1) (n := 2) (As := [.ref u, .ref s]) (rest := []) hE dX2_twice_219 (fun l => c_X1_difference_o l G py u s (((((((4 : Int) * ((P.2.1 * (P.2.2.1 * P.2.2.1 % PP) % PP) : Nat)) % (PP : Int)).toNat) + (PP - (((((((((3 : Int) * ((P.2.1 * P.2.1 % PP) : Nat)) % (PP : Int)).toNat) * ((((3 : Int) * ((P.2.1 * P.2.1 % PP) : Nat)) % (PP : Int)).toNat) % PP) + (PP - ((((4 : Int) * ((P.2.1 * (P.2.2.1 * P.2.2.1 % PP) % PP) : Nat)) % (PP : Int)).toNat))) % PP) + (PP - ((((4 : Int) * ((P.2.1 * (P.2.2.1 * P.2.2.1 % PP) % PP) : Nat)) % (PP : Int)).toNat))) % PP))) % PP) * ((((3 : Int) * ((P.2.1 * P.2.1 % PP) : Nat)) % (PP : Int)).toNat) % PP) ((((8 : Int) * (((P.2.2.1 * P.2.2.1 % PP) * (P.2.2.1 * P.2.2.1 % PP) % PP) : Nat)) % (PP : Int)).toNat) _) gX2_twice_X1_difference rfl w54T rfl (by decide +kernel) ⟨rfl, rfl, by decide, by decide⟩ (by decide) rfl rfl (Nat.le_of_ble_eq_true rfl) (⟨w54T, p51T, h14T_s, jnd hnd [8, 1, 2] rfl (by decide)⟩) (fun F56 q57 => ?_)
    obtain ⟨p55T, r55T⟩ := q57
    have h15T_h := h14T_h.fr (r55T h (jn hnd 3 [8] rfl rfl (by decide)))
    have h15T_t := h14T_t.fr (r55T t (jn hnd 5 [8] rfl rfl (by decide)))
    have h15T_s := h14T_s.fr (r55T s (jn hnd 2 [8] rfl rfl (by decide)))
    have h15T_r := h14T_r.fr (r55T r (jn hnd 4 [8] rfl rfl (by decide)))
    have h15T_pz := h14T_pz.fr (r55T pz (jn hnd 9 [8] rfl rfl (by decide)))
    have h15T_px := h14T_px.fr (r55T px (jn hnd 7 [8] rfl rfl (by decide)))
    have h15T_u := p51T.fr (r55T u (jn hnd 1 [8] rfl rfl (by decide)))
    have g15T_cv := g14T_cv.fr (r55T cv (jn hnd 0 [8] rfl rfl (by decide)))
    have g15T_p := g14T_p.fr (r55T p (jn hnd 6 [8] rfl rfl (by decide)))
    have hn := bi_eq c1
    have e : twJ P = (false, _, _, _) := if_neg (by rw [hn]; decide)
    exact hR F56 _ _ dX2_twice_222 ⟨⟨g15T_cv, h15T_u.cell, h15T_s.cell, ⟨_, h15T_h⟩, h15T_r.cell, ⟨_, h15T_t⟩⟩, by rw [e, ← hn]; exact ⟨g15T_p, h15T_px, p55T, h15T_pz⟩, fun z hz => (r55T z (jnsub (V := [py]) hz [4] rfl)).trans ((r51T z (jnsub (V := [u]) hz [0] rfl)).trans ((r47T z (jnsub (V := [u]) hz [0] rfl)).trans ((r43T z (jnsub (V := [px]) hz [3] rfl)).trans ((r39T z (jnsub (V := [px]) hz [3] rfl)).trans ((r35T z (jnsub (V := [px]) hz [3] rfl)).trans ((r31T z (jnsub (V := [pz]) hz [5] rfl)).trans ((r27T z (jnsub (V := [pz]) hz [5] rfl)).trans ((r23T z (jnsub (V := [r]) hz [2] rfl)).trans ((r19T z (jnsub (V := [r]) hz [2] rfl)).trans ((r16T z (jnsub (V := [s]) hz [1] rfl)).trans ((r12T z (jnsub (V := [s]) hz [1] rfl)).trans ((r8T z (jnsub (V := [u]) hz [0] rfl)).trans ((r4T z (jnsub (V := [u]) hz [0] rfl)).trans (r1T z (jnsub (V := [s]) hz [1] rfl)))))))))))))))⟩
  · exact hR F _ _ dX2_twice_7 ⟨⟨hc0, ⟨_, hcu⟩, ⟨_, hcs⟩, ⟨_, hch⟩, ⟨_, hcr⟩, ⟨_, hct⟩⟩, by rw [show twJ P = P from if_pos (bi_ne c1)]; exact ⟨hp0, hp1, hp2, hp3⟩, fun _ _ => rfl⟩

