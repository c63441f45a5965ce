/-! THE CURVE's sums -/
abbrev cCv (g ms pw one u s h r t : Nat) : va_E := .inr (2, [.ref g, .ref ms, .ref pw, .ref one, .ref u, .ref s, .ref h, .ref r, .ref t])
def twJ (P : JP) : JP :=
  if P.1 = true then P else
  let s := fm P.2.2.1 P.2.2.1
  let u := fk 4 (fm P.2.1 s)
  let s2 := fk 8 (fm s s)
  let r := fk 3 (fm P.2.1 P.2.1)
  let x := fs (fs (fm r r) u) u
  (false, x, fs (fm (fs u x) r) s2, fk 2 (fm P.2.2.2 P.2.2.1))
def plJ (P Q : JP) : JP :=
  if Q.1 = true then P else if P.1 = true then Q else
  let t := fm Q.2.2.2 Q.2.2.2
  let u := fm P.2.1 t
  let s := fm (fm P.2.2.1 t) Q.2.2.2
  let t2 := fm P.2.2.2 P.2.2.2
  let h := fs (fm Q.2.1 t2) u
  let r := fs (fm (fm Q.2.2.1 t2) P.2.2.2) s
  if h = 0 ∧ r = 0 then twJ P else if h = 0 then (true, P.2) else
  let t3 := fm h h
  let u3 := fm u t3
  let h3 := fm h t3
  let x := fs (fs (fs (fm r r) h3) u3) u3
  (false, x, fs (fm (fs u3 x) r) (fm s h3), fm (fm P.2.2.2 Q.2.2.2) h)
/-- the curve object with what it works with -/
def jCu (L : List Nat) (F : Nat → va_E) (cv g ms pw one u s h r t : Nat) : Prop := jF L F cv (cCv g ms pw one u s h r t) ∧ (∃ l, jF L F u (cC l)) ∧ (∃ l, jF L F s (cC l)) ∧ (∃ l, jF L F h (cC l)) ∧ (∃ l, jF L F r (cC l)) ∧ (∃ l, jF L F t (cC l))
theorem excell {L : List Nat} {F F' : Nat → va_E} {a : Nat} (h : ∃ l, jF L F a (cC l)) (e : F' a = F a) : ∃ l, jF L F' a (cC l) := by
  obtain ⟨l, hl⟩ := h
  exact ⟨l, hl.fr e⟩
theorem jCu.fr {L : List Nat} {F F' : Nat → va_E} {cv g ms pw one u s h r t : Nat} (c : jCu L F cv g ms pw one u s h r t) (e0 : F' cv = F cv) (e1 : F' u = F u) (e2 : F' s = F s) (e3 : F' h = F h) (e4 : F' r = F r) (e5 : F' t = F t) : jCu L F' cv g ms pw one u s h r t := ⟨c.1.fr e0, excell c.2.1 e1, excell c.2.2.1 e2, excell c.2.2.2.1 e3, excell c.2.2.2.2.1 e4, excell c.2.2.2.2.2 e5⟩

set_option maxHeartbeats 4000000 in
set_option maxRecDepth 100000 in
theorem c_X2_twice (l : Launch) (G : Nat → ClassId) (cv g ms pw one u s h r t p px py pz : Nat) (P : JP) : jKv l yX2_twice wsX2_twice ({ frames := 2, cells := 0, slots := 0, locals := 80 }) G [.ref cv, .ref p] (fun L F => jCu L F cv g ms pw one u s h r t ∧ jPt L F p px py pz P ∧ [cv, u, s, h, r, t, p, px, py, pz].Nodup) (fun L F F1 => jCu L F1 cv g ms pw one u s h r t ∧ jPt L F1 p px py pz (twJ P) ∧ ∀ z, z ∉ [u, s, r, px, py, pz] → F1 z = F z) := by
  refine jm_kv (cc := cX2_twice) (maxL := 2) (by decide) rfl (Nat.le_of_ble_eq_true rfl) ?_
  intro E L F hE hR hpre
  have hE : jOk E G _ cX2_twice 2 RX2 wsX2_twice := hE
  obtain ⟨⟨hc0, ⟨lu, hcu⟩, ⟨ls, hcs⟩, ⟨lh, hch⟩, ⟨lr, hcr⟩, ⟨lt, hct⟩⟩, ⟨hp0, hp1, hp2, hp3⟩, hnd⟩ := hpre

  have f82 : jFl RX2 wsX2_twice 82 6 3 := ⟨rfl, by decide, by decide +kernel, by decide +kernel⟩
  have f37 : jFl RX2 wsX2_twice 37 2 5 := ⟨rfl, by decide, by decide +kernel, by decide +kernel⟩
  have f64 : jFl RX2 wsX2_twice 64 6 1 := ⟨rfl, by decide, by decide +kernel, by decide +kernel⟩
  have f34 : jFl RX2 wsX2_twice 34 2 4 := ⟨rfl, by decide, by decide +kernel, by decide +kernel⟩
  have f53 : jFl RX2 wsX2_twice 53 6 0 := ⟨rfl, by decide, by decide +kernel, by decide +kernel⟩
  have f43 : jFl RX2 wsX2_twice 43 2 7 := ⟨rfl, by decide, by decide +kernel, by decide +kernel⟩
  have f75 : jFl RX2 wsX2_twice 75 6 2 := ⟨rfl, by decide, by decide +kernel, by decide +kernel⟩
  refine jr_aload_n hE dX2_twice_0 1 rfl ?_
  refine jr_get hE dX2_twice_1 f82 hp0 rfl ?_
  refine jr_if_eq (tgt := 8) hE dX2_twice_4 (by decide) (fun c1 => ?_) (fun c1 => ?_)
  · refine jr_aload_n hE dX2_twice_8 0 rfl ?_
    refine jr_get hE dX2_twice_9 f37 hc0 rfl ?_
    refine jr_aload_n hE dX2_twice_12 1 rfl ?_
    refine jr_get hE dX2_twice_13 f64 hp0 rfl ?_
    refine jr_aload_n hE dX2_twice_16 1 rfl ?_
    refine jr_get hE dX2_twice_17 f64 hp0 rfl ?_
    refine jr_kVv (ci := 1) (n := 2) (As := [.ref py, .ref py]) (rest := []) hE dX2_twice_20 (fun l => c_X1_product l G s py py P.2.2.1 P.2.2.1 _) gX2_twice_X1_product rfl hcs rfl (by decide +kernel) ⟨rfl, rfl, by decide, by decide⟩ (by decide) rfl rfl (Nat.le_of_ble_eq_true rfl) (⟨hcs, hp2, hp2⟩) (fun F2 q3 => ?_)
    obtain ⟨p1T, r1T⟩ := q3
    have p1T : jCo L F2 s (fm P.2.2.1 P.2.2.1) := p1T
    have h1T_u := hcu.fr (r1T u (jn hnd 1 [2] rfl rfl (by decide)))
    have h1T_h := hch.fr (r1T h (jn hnd 3 [2] rfl rfl (by decide)))
    have h1T_r := hcr.fr (r1T r (jn hnd 4 [2] rfl rfl (by decide)))
    have h1T_t := hct.fr (r1T t (jn hnd 5 [2] rfl rfl (by decide)))
    have h1T_px := hp1.fr (r1T px (jn hnd 7 [2] rfl rfl (by decide)))
    have h1T_py := hp2.fr (r1T py (jn hnd 8 [2] rfl rfl (by decide)))
    have h1T_pz := hp3.fr (r1T pz (jn hnd 9 [2] rfl rfl (by decide)))
    have g1T_cv := hc0.fr (r1T cv (jn hnd 0 [2] rfl rfl (by decide)))
    have g1T_p := hp0.fr (r1T p (jn hnd 6 [2] rfl rfl (by decide)))
    refine jr_aload_n hE dX2_twice_23 0 rfl ?_
    refine jr_get hE dX2_twice_24 f34 g1T_cv rfl ?_
    refine jr_aload_n hE dX2_twice_27 1 rfl ?_
    refine jr_get hE dX2_twice_28 f53 g1T_p rfl ?_
    refine jr_aload_n hE dX2_twice_31 0 rfl ?_
    refine jr_get hE dX2_twice_32 f37 g1T_cv rfl ?_
    refine jr_kVv (ci := 1) (n := 2) (As := [.ref px, .ref s]) (rest := []) hE dX2_twice_35 (fun l => c_X1_product l G u px s P.2.1 (fm P.2.2.1 P.2.2.1) _) gX2_twice_X1_product rfl h1T_u rfl (by decide +kernel) ⟨rfl, rfl, by decide, by decide⟩ (by decide) rfl rfl (Nat.le_of_ble_eq_true rfl) (⟨h1T_u, h1T_px, p1T⟩) (fun F5 q6 => ?_)
    obtain ⟨p4T, r4T⟩ := q6
    have p4T : jCo L F5 u (fm P.2.1 (fm P.2.2.1 P.2.2.1)) := p4T
    have h2T_h := h1T_h.fr (r4T h (jn hnd 3 [1] rfl rfl (by decide)))
    have h2T_r := h1T_r.fr (r4T r (jn hnd 4 [1] rfl rfl (by decide)))
    have h2T_t := h1T_t.fr (r4T t (jn hnd 5 [1] rfl rfl (by decide)))
    have h2T_px := h1T_px.fr (r4T px (jn hnd 7 [1] rfl rfl (by decide)))
    have h2T_py := h1T_py.fr (r4T py (jn hnd 8 [1] rfl rfl (by decide)))
    have h2T_pz := h1T_pz.fr (r4T pz (jn hnd 9 [1] rfl rfl (by decide)))
    have h2T_s := p1T.fr (r4T s (jn hnd 2 [1] rfl rfl (by decide)))
    have g2T_cv := g1T_cv.fr (r4T cv (jn hnd 0 [1] rfl rfl (by decide)))
    have g2T_p := g1T_p.fr (r4T p (jn hnd 6 [1] rfl rfl (by decide)))
    refine jr_aload_n hE dX2_twice_38 0 rfl ?_
    refine jr_get hE dX2_twice_39 f34 g2T_cv rfl ?_
    refine jr_aload_n hE dX2_twice_42 0 rfl ?_
    refine jr_get hE dX2_twice_43 f34 g2T_cv rfl ?_
    refine jr_iconst (v := (4 : Int32)) hE dX2_twice_46 (by decide) ?_
    obtain ⟨lw7T, w7T⟩ := p4T.cell
    refine jr_kVv (ci := 1) (n := 2) (As := [.ref u, .int (4 : Int32)]) (rest := []) hE dX2_twice_47 (fun l => c_X1_multiple l G u (fm P.2.1 (fm P.2.2.1 P.2.2.1)) _ (4)) gX2_twice_X1_multiple rfl w7T rfl (by decide +kernel) ⟨rfl, rfl, by decide, by decide⟩ (by decide) rfl rfl (Nat.le_of_ble_eq_true rfl) (⟨p4T, ⟨by decide, by decide, by decide⟩⟩) (fun F9 q10 => ?_)
    obtain ⟨p8T, r8T⟩ := q10
    have p8T : jCo L F9 u (fk (4) (fm P.2.1 (fm P.2.2.1 P.2.2.1))) := p8T
    have h3T_h := h2T_h.fr (r8T h (jn hnd 3 [1] rfl rfl (by decide)))
    have h3T_r := h2T_r.fr (r8T r (jn hnd 4 [1] rfl rfl (by decide)))
    have h3T_t := h2T_t.fr (r8T t (jn hnd 5 [1] rfl rfl (by decide)))
    have h3T_px := h2T_px.fr (r8T px (jn hnd 7 [1] rfl rfl (by decide)))
    have h3T_py := h2T_py.fr (r8T py (jn hnd 8 [1] rfl rfl (by decide)))
    have h3T_pz := h2T_pz.fr (r8T pz (jn hnd 9 [1] rfl rfl (by decide)))
    have h3T_s := h2T_s.fr (r8T s (jn hnd 2 [1] rfl rfl (by decide)))
    have g3T_cv := g2T_cv.fr (r8T cv (jn hnd 0 [1] rfl rfl (by decide)))
    have g3T_p := g2T_p.fr (r8T p (jn hnd 6 [1] rfl rfl (by decide)))
    refine jr_aload_n hE dX2_twice_50 0 rfl ?_
    refine jr_get hE dX2_twice_51 f37 g3T_cv rfl ?_
    refine jr_aload_n hE dX2_twice_54 0 rfl ?_
    refine jr_get hE dX2_twice_55 f37 g3T_cv rfl ?_
    refine jr_aload_n hE dX2_twice_58 0 rfl ?_
    refine jr_get hE dX2_twice_59 f37 g3T_cv rfl ?_
    obtain ⟨lw11T, w11T⟩ := h3T_s.cell
    refine jr_kVv (ci := 1) (n := 2) (As := [.ref s, .ref s]) (rest := []) hE dX2_twice_62 (fun l => c_X1_product l G s s s (fm P.2.2.1 P.2.2.1) (fm P.2.2.1 P.2.2.1) _) gX2_twice_X1_product rfl w11T rfl (by decide +kernel) ⟨rfl, rfl, by decide, by decide⟩ (by decide) rfl rfl (Nat.le_of_ble_eq_true rfl) (⟨w11T, h3T_s, h3T_s⟩) (fun F13 q14 => ?_)
    obtain ⟨p12T, r12T⟩ := q14
    have p12T : jCo L F13 s (fm (fm P.2.2.1 P.2.2.1) (fm P.2.2.1 P.2.2.1)) := p12T
    have h4T_h := h3T_h.fr (r12T h (jn hnd 3 [2] rfl rfl (by decide)))
    have h4T_r := h3T_r.fr (r12T r (jn hnd 4 [2] rfl rfl (by decide)))
    have h4T_t := h3T_t.fr (r12T t (jn hnd 5 [2] rfl rfl (by decide)))
    have h4T_px := h3T_px.fr (r12T px (jn hnd 7 [2] rfl rfl (by decide)))
    have h4T_py := h3T_py.fr (r12T py (jn hnd 8 [2] rfl rfl (by decide)))
    have h4T_pz := h3T_pz.fr (r12T pz (jn hnd 9 [2] rfl rfl (by decide)))
    have h4T_u := p8T.fr (r12T u (jn hnd 1 [2] rfl rfl (by decide)))
    have g4T_cv := g3T_cv.fr (r12T cv (jn hnd 0 [2] rfl rfl (by decide)))
    have g4T_p := g3T_p.fr (r12T p (jn hnd 6 [2] rfl rfl (by decide)))
    refine jr_aload_n hE dX2_twice_65 0 rfl ?_
    refine jr_get hE dX2_twice_66 f37 g4T_cv rfl ?_
    refine jr_aload_n hE dX2_twice_69 0 rfl ?_
    refine jr_get hE dX2_twice_70 f37 g4T_cv rfl ?_
    refine jr_bipush (v := (8 : Int32)) hE dX2_twice_73 (by decide) ?_
    obtain ⟨lw15T, w15T⟩ := p12T.cell
    refine jr_kVv (ci := 1) (n := 2) (As := [.ref s, .int (8 : Int32)]) (rest := []) hE dX2_twice_75 (fun l => c_X1_multiple l G s (fm (fm P.2.2.1 P.2.2.1) (fm P.2.2.1 P.2.2.1)) _ (8)) gX2_twice_X1_multiple rfl w15T rfl (by decide +kernel) ⟨rfl, rfl, by decide, by decide⟩ (by decide) rfl rfl (Nat.le_of_ble_eq_true rfl) (⟨p12T, ⟨by decide, by decide, by decide⟩⟩) (fun F17 q18 => ?_)
    obtain ⟨p16T, r16T⟩ := q18
    have p16T : jCo L F17 s (fk (8) (fm (fm P.2.2.1 P.2.2.1) (fm P.2.2.1 P.2.2.1))) := p16T
    have h5T_h := h4T_h.fr (r16T h (jn hnd 3 [2] rfl rfl (by decide)))
    have h5T_r := h4T_r.fr (r16T r (jn hnd 4 [2] rfl rfl (by decide)))
    have h5T_t := h4T_t.fr (r16T t (jn hnd 5 [2] rfl rfl (by decide)))
    have h5T_px := h4T_px.fr (r16T px (jn hnd 7 [2] rfl rfl (by decide)))
    have h5T_py := h4T_py.fr (r16T py (jn hnd 8 [2] rfl rfl (by decide)))
    have h5T_pz := h4T_pz.fr (r16T pz (jn hnd 9 [2] rfl rfl (by decide)))
    have h5T_u := h4T_u.fr (r16T u (jn hnd 1 [2] rfl rfl (by decide)))
    have g5T_cv := g4T_cv.fr (r16T cv (jn hnd 0 [2] rfl rfl (by decide)))
    have g5T_p := g4T_p.fr (r16T p (jn hnd 6 [2] rfl rfl (by decide)))
    refine jr_aload_n hE dX2_twice_78 0 rfl ?_
    refine jr_get hE dX2_twice_79 f43 g5T_cv rfl ?_
    refine jr_aload_n hE dX2_twice_82 1 rfl ?_
    refine jr_get hE dX2_twice_83 f53 g5T_p rfl ?_
    refine jr_aload_n hE dX2_twice_86 1 rfl ?_
    refine jr_get hE dX2_twice_87 f53 g5T_p rfl ?_
    refine jr_kVv (ci := 1) (n := 2) (As := [.ref px, .ref px]) (rest := []) hE dX2_twice_90 (fun l => c_X1_product l G r px px P.2.1 P.2.1 _) gX2_twice_X1_product rfl h5T_r rfl (by decide +kernel) ⟨rfl, rfl, by decide, by decide⟩ (by decide) rfl rfl (Nat.le_of_ble_eq_true rfl) (⟨h5T_r, h5T_px, h5T_px⟩) (fun F20 q21 => ?_)
    obtain ⟨p19T, r19T⟩ := q21
    have p19T : jCo L F20 r (fm P.2.1 P.2.1) := p19T
    have h6T_h := h5T_h.fr (r19T h (jn hnd 3 [4] rfl rfl (by decide)))
    have h6T_t := h5T_t.fr (r19T t (jn hnd 5 [4] rfl rfl (by decide)))
    have h6T_px := h5T_px.fr (r19T px (jn hnd 7 [4] rfl rfl (by decide)))
    have h6T_py := h5T_py.fr (r19T py (jn hnd 8 [4] rfl rfl (by decide)))
    have h6T_pz := h5T_pz.fr (r19T pz (jn hnd 9 [4] rfl rfl (by decide)))
    have h6T_u := h5T_u.fr (r19T u (jn hnd 1 [4] rfl rfl (by decide)))
    have h6T_s := p16T.fr (r19T s (jn hnd 2 [4] rfl rfl (by decide)))
    have g6T_cv := g5T_cv.fr (r19T cv (jn hnd 0 [4] rfl rfl (by decide)))
    have g6T_p := g5T_p.fr (r19T p (jn hnd 6 [4] rfl rfl (by decide)))
    refine jr_aload_n hE dX2_twice_93 0 rfl ?_
    refine jr_get hE dX2_twice_94 f43 g6T_cv rfl ?_
    refine jr_aload_n hE dX2_twice_97 0 rfl ?_
    refine jr_get hE dX2_twice_98 f43 g6T_cv rfl ?_
    refine jr_iconst (v := (3 : Int32)) hE dX2_twice_101 (by decide) ?_
    obtain ⟨lw22T, w22T⟩ := p19T.cell
    refine jr_kVv (ci := 1) (n := 2) (As := [.ref r, .int (3 : Int32)]) (rest := []) hE dX2_twice_102 (fun l => c_X1_multiple l G r (fm P.2.1 P.2.1) _ (3)) gX2_twice_X1_multiple rfl w22T rfl (by decide +kernel) ⟨rfl, rfl, by decide, by decide⟩ (by decide) rfl rfl (Nat.le_of_ble_eq_true rfl) (⟨p19T, ⟨by decide, by decide, by decide⟩⟩) (fun F24 q25 => ?_)
    obtain ⟨p23T, r23T⟩ := q25
    have p23T : jCo L F24 r (fk (3) (fm P.2.1 P.2.1)) := p23T
    have h7T_h := h6T_h.fr (r23T h (jn hnd 3 [4] rfl rfl (by decide)))
    have h7T_t := h6T_t.fr (r23T t (jn hnd 5 [4] rfl rfl (by decide)))
    have h7T_px := h6T_px.fr (r23T px (jn hnd 7 [4] rfl rfl (by decide)))
    have h7T_py := h6T_py.fr (r23T py (jn hnd 8 [4] rfl rfl (by decide)))
    have h7T_pz := h6T_pz.fr (r23T pz (jn hnd 9 [4] rfl rfl (by decide)))
    have h7T_u := h6T_u.fr (r23T u (jn hnd 1 [4] rfl rfl (by decide)))
    have h7T_s := h6T_s.fr (r23T s (jn hnd 2 [4] rfl rfl (by decide)))
    have g7T_cv := g6T_cv.fr (r23T cv (jn hnd 0 [4] rfl rfl (by decide)))
    have g7T_p := g6T_p.fr (r23T p (jn hnd 6 [4] rfl rfl (by decide)))
    refine jr_aload_n hE dX2_twice_105 1 rfl ?_
    refine jr_get hE dX2_twice_106 f75 g7T_p rfl ?_
    refine jr_aload_n hE dX2_twice_109 1 rfl ?_
    refine jr_get hE dX2_twice_110 f75 g7T_p rfl ?_
    refine jr_aload_n hE dX2_twice_113 1 rfl ?_
    refine jr_get hE dX2_twice_114 f64 g7T_p rfl ?_
    obtain ⟨lw26T, w26T⟩ := h7T_pz.cell
    refine jr_kVv (ci := 1) (n := 2) (As := [.ref pz, .ref py]) (rest := []) hE dX2_twice_117 (fun l => c_X1_product l G pz pz py P.2.2.2 P.2.2.1 _) gX2_twice_X1_product rfl w26T rfl (by decide +kernel) ⟨rfl, rfl, by decide, by decide⟩ (by decide) rfl rfl (Nat.le_of_ble_eq_true rfl) (⟨w26T, h7T_pz, h7T_py⟩) (fun F28 q29 => ?_)
    obtain ⟨p27T, r27T⟩ := q29
    have p27T : jCo L F28 pz (fm P.2.2.2 P.2.2.1) := p27T
    have h8T_h := h7T_h.fr (r27T h (jn hnd 3 [9] rfl rfl (by decide)))
    have h8T_t := h7T_t.fr (r27T t (jn hnd 5 [9] rfl rfl (by decide)))
    have h8T_px := h7T_px.fr (r27T px (jn hnd 7 [9] rfl rfl (by decide)))
    have h8T_py := h7T_py.fr (r27T py (jn hnd 8 [9] rfl rfl (by decide)))
    have h8T_u := h7T_u.fr (r27T u (jn hnd 1 [9] rfl rfl (by decide)))
    have h8T_s := h7T_s.fr (r27T s (jn hnd 2 [9] rfl rfl (by decide)))
    have h8T_r := p23T.fr (r27T r (jn hnd 4 [9] rfl rfl (by decide)))
    have g8T_cv := g7T_cv.fr (r27T cv (jn hnd 0 [9] rfl rfl (by decide)))
    have g8T_p := g7T_p.fr (r27T p (jn hnd 6 [9] rfl rfl (by decide)))
    refine jr_aload_n hE dX2_twice_120 1 rfl ?_
    refine jr_get hE dX2_twice_121 f75 g8T_p rfl ?_
    refine jr_aload_n hE dX2_twice_124 1 rfl ?_
    refine jr_get hE dX2_twice_125 f75 g8T_p rfl ?_
    refine jr_iconst (v := (2 : Int32)) hE dX2_twice_128 (by decide) ?_
    obtain ⟨lw30T, w30T⟩ := p27T.cell
    refine jr_kVv (ci := 1) (n := 2) (As := [.ref pz, .int (2 : Int32)]) (rest := []) hE dX2_twice_129 (fun l => c_X1_multiple l G pz (fm P.2.2.2 P.2.2.1) _ (2)) gX2_twice_X1_multiple rfl w30T rfl (by decide +kernel) ⟨rfl, rfl, by decide, by decide⟩ (by decide) rfl rfl (Nat.le_of_ble_eq_true rfl) (⟨p27T, ⟨by decide, by decide, by decide⟩⟩) (fun F32 q33 => ?_)
    obtain ⟨p31T, r31T⟩ := q33
    have p31T : jCo L F32 pz (fk (2) (fm P.2.2.2 P.2.2.1)) := p31T
    have h9T_h := h8T_h.fr (r31T h (jn hnd 3 [9] rfl rfl (by decide)))
    have h9T_t := h8T_t.fr (r31T t (jn hnd 5 [9] rfl rfl (by decide)))
    have h9T_px := h8T_px.fr (r31T px (jn hnd 7 [9] rfl rfl (by decide)))
    have h9T_py := h8T_py.fr (r31T py (jn hnd 8 [9] rfl rfl (by decide)))
    have h9T_u := h8T_u.fr (r31T u (jn hnd 1 [9] rfl rfl (by decide)))
    have h9T_s := h8T_s.fr (r31T s (jn hnd 2 [9] rfl rfl (by decide)))
    have h9T_r := h8T_r.fr (r31T r (jn hnd 4 [9] rfl rfl (by decide)))
    have g9T_cv := g8T_cv.fr (r31T cv (jn hnd 0 [9] rfl rfl (by decide)))
    have g9T_p := g8T_p.fr (r31T p (jn hnd 6 [9] rfl rfl (by decide)))
    refine jr_aload_n hE dX2_twice_132 1 rfl ?_
    refine jr_get hE dX2_twice_133 f53 g9T_p rfl ?_
    refine jr_aload_n hE dX2_twice_136 0 rfl ?_
    refine jr_get hE dX2_twice_137 f43 g9T_cv rfl ?_
    refine jr_aload_n hE dX2_twice_140 0 rfl ?_
    refine jr_get hE dX2_twice_141 f43 g9T_cv rfl ?_
    obtain ⟨lw34T, w34T⟩ := h9T_px.cell
    refine jr_kVv (ci := 1) (n := 2) (As := [.ref r, .ref r]) (rest := []) hE dX2_twice_144 (fun l => c_X1_product l G px r r (fk (3) (fm P.2.1 P.2.1)) (fk (3) (fm P.2.1 P.2.1)) _) gX2_twice_X1_product rfl w34T rfl (by decide +kernel) ⟨rfl, rfl, by decide, by decide⟩ (by decide) rfl rfl (Nat.le_of_ble_eq_true rfl) (⟨w34T, h9T_r, h9T_r⟩) (fun F36 q37 => ?_)
    obtain ⟨p35T, r35T⟩ := q37
    have p35T : jCo L F36 px (fm (fk (3) (fm P.2.1 P.2.1)) (fk (3) (fm P.2.1 P.2.1))) := p35T
    have h10T_h := h9T_h.fr (r35T h (jn hnd 3 [7] rfl rfl (by decide)))
    have h10T_t := h9T_t.fr (r35T t (jn hnd 5 [7] rfl rfl (by decide)))
    have h10T_py := h9T_py.fr (r35T py (jn hnd 8 [7] rfl rfl (by decide)))
    have h10T_u := h9T_u.fr (r35T u (jn hnd 1 [7] rfl rfl (by decide)))
    have h10T_s := h9T_s.fr (r35T s (jn hnd 2 [7] rfl rfl (by decide)))
    have h10T_r := h9T_r.fr (r35T r (jn hnd 4 [7] rfl rfl (by decide)))
    have h10T_pz := p31T.fr (r35T pz (jn hnd 9 [7] rfl rfl (by decide)))
    have g10T_cv := g9T_cv.fr (r35T cv (jn hnd 0 [7] rfl rfl (by decide)))
    have g10T_p := g9T_p.fr (r35T p (jn hnd 6 [7] rfl rfl (by decide)))
    refine jr_aload_n hE dX2_twice_147 1 rfl ?_
    refine jr_get hE dX2_twice_148 f53 g10T_p rfl ?_
    refine jr_aload_n hE dX2_twice_151 1 rfl ?_
    refine jr_get hE dX2_twice_152 f53 g10T_p rfl ?_
    refine jr_aload_n hE dX2_twice_155 0 rfl ?_
    refine jr_get hE dX2_twice_156 f34 g10T_cv rfl ?_
    obtain ⟨lw38T, w38T⟩ := p35T.cell
    refine jr_kVv (ci := 1) (n := 2) (As := [.ref px, .ref u]) (rest := []) hE dX2_twice_159 (fun l => c_X1_difference_s l G px u (fm (fk (3) (fm P.2.1 P.2.1)) (fk (3) (fm P.2.1 P.2.1))) (fk (4) (fm P.2.1 (fm P.2.2.1 P.2.2.1)))) gX2_twice_X1_difference rfl w38T rfl (by decide +kernel) ⟨rfl, rfl, by decide, by decide⟩ (by decide) rfl rfl (Nat.le_of_ble_eq_true rfl) (⟨p35T, h10T_u, jnd hnd [7, 1] rfl (by decide)⟩) (fun F40 q41 => ?_)
    obtain ⟨p39T, r39T⟩ := q41
    have p39T : jCo L F40 px (fs (fm (fk (3) (fm P.2.1 P.2.1)) (fk (3) (fm P.2.1 P.2.1))) (fk (4) (fm P.2.1 (fm P.2.2.1 P.2.2.1)))) := p39T
    have h11T_h := h10T_h.fr (r39T h (jn hnd 3 [7] rfl rfl (by decide)))
    have h11T_t := h10T_t.fr (r39T t (jn hnd 5 [7] rfl rfl (by decide)))
    have h11T_py := h10T_py.fr (r39T py (jn hnd 8 [7] rfl rfl (by decide)))
    have h11T_u := h10T_u.fr (r39T u (jn hnd 1 [7] rfl rfl (by decide)))
    have h11T_s := h10T_s.fr (r39T s (jn hnd 2 [7] rfl rfl (by decide)))
    have h11T_r := h10T_r.fr (r39T r (jn hnd 4 [7] rfl rfl (by decide)))
    have h11T_pz := h10T_pz.fr (r39T pz (jn hnd 9 [7] rfl rfl (by decide)))
    have g11T_cv := g10T_cv.fr (r39T cv (jn hnd 0 [7] rfl rfl (by decide)))
    have g11T_p := g10T_p.fr (r39T p (jn hnd 6 [7] rfl rfl (by decide)))
    refine jr_aload_n hE dX2_twice_162 1 rfl ?_
    refine jr_get hE dX2_twice_163 f53 g11T_p rfl ?_
    refine jr_aload_n hE dX2_twice_166 1 rfl ?_
    refine jr_get hE dX2_twice_167 f53 g11T_p rfl ?_
    refine jr_aload_n hE dX2_twice_170 0 rfl ?_
    refine jr_get hE dX2_twice_171 f34 g11T_cv rfl ?_
    obtain ⟨lw42T, w42T⟩ := p39T.cell
    refine jr_kVv (ci := 1) (n := 2) (As := [.ref px, .ref u]) (rest := []) hE dX2_twice_174 (fun l => c_X1_difference_s l G px u (fs (fm (fk (3) (fm P.2.1 P.2.1)) (fk (3) (fm P.2.1 P.2.1))) (fk (4) (fm P.2.1 (fm P.2.2.1 P.2.2.1)))) (fk (4) (fm P.2.1 (fm P.2.2.1 P.2.2.1)))) gX2_twice_X1_difference rfl w42T rfl (by decide +kernel) ⟨rfl, rfl, by decide, by decide⟩ (by decide) rfl rfl (Nat.le_of_ble_eq_true rfl) (⟨p39T, h11T_u, jnd hnd [7, 1] rfl (by decide)⟩) (fun F44 q45 => ?_)
    obtain ⟨p43T, r43T⟩ := q45
    have p43T : jCo L F44 px (fs (fs (fm (fk (3) (fm P.2.1 P.2.1)) (fk (3) (fm P.2.1 P.2.1))) (fk (4) (fm P.2.1 (fm P.2.2.1 P.2.2.1)))) (fk (4) (fm P.2.1 (fm P.2.2.1 P.2.2.1)))) := p43T
    have h12T_h := h11T_h.fr (r43T h (jn hnd 3 [7] rfl rfl (by decide)))
    have h12T_t := h11T_t.fr (r43T t (jn hnd 5 [7] rfl rfl (by decide)))
    have h12T_py := h11T_py.fr (r43T py (jn hnd 8 [7] rfl rfl (by decide)))
    have h12T_u := h11T_u.fr (r43T u (jn hnd 1 [7] rfl rfl (by decide)))
    have h12T_s := h11T_s.fr (r43T s (jn hnd 2 [7] rfl rfl (by decide)))
    have h12T_r := h11T_r.fr (r43T r (jn hnd 4 [7] rfl rfl (by decide)))
    have h12T_pz := h11T_pz.fr (r43T pz (jn hnd 9 [7] rfl rfl (by decide)))
    have g12T_cv := g11T_cv.fr (r43T cv (jn hnd 0 [7] rfl rfl (by decide)))
    have g12T_p := g11T_p.fr (r43T p (jn hnd 6 [7] rfl rfl (by decide)))
    refine jr_aload_n hE dX2_twice_177 0 rfl ?_
    refine jr_get hE dX2_twice_178 f34 g12T_cv rfl ?_
    refine jr_aload_n hE dX2_twice_181 0 rfl ?_
    refine jr_get hE dX2_twice_182 f34 g12T_cv rfl ?_
    refine jr_aload_n hE dX2_twice_185 1 rfl ?_
    refine jr_get hE dX2_twice_186 f53 g12T_p rfl ?_
    obtain ⟨lw46T, w46T⟩ := h12T_u.cell
    refine jr_kVv (ci := 1) (n := 2) (As := [.ref u, .ref px]) (rest := []) hE dX2_twice_189 (fun l => c_X1_difference_s l G u px (fk (4) (fm P.2.1 (fm P.2.2.1 P.2.2.1))) (fs (fs (fm (fk (3) (fm P.2.1 P.2.1)) (fk (3) (fm P.2.1 P.2.1))) (fk (4) (fm P.2.1 (fm P.2.2.1 P.2.2.1)))) (fk (4) (fm P.2.1 (fm P.2.2.1 P.2.2.1))))) gX2_twice_X1_difference rfl w46T rfl (by decide +kernel) ⟨rfl, rfl, by decide, by decide⟩ (by decide) rfl rfl (Nat.le_of_ble_eq_true rfl) (⟨h12T_u, p43T, jnd hnd [1, 7] rfl (by decide)⟩) (fun F48 q49 => ?_)
    obtain ⟨p47T, r47T⟩ := q49
    have p47T : jCo L F48 u (fs (fk (4) (fm P.2.1 (fm P.2.2.1 P.2.2.1))) (fs (fs (fm (fk (3) (fm P.2.1 P.2.1)) (fk (3) (fm P.2.1 P.2.1))) (fk (4) (fm P.2.1 (fm P.2.2.1 P.2.2.1)))) (fk (4) (fm P.2.1 (fm P.2.2.1 P.2.2.1))))) := p47T
    have h13T_h := h12T_h.fr (r47T h (jn hnd 3 [1] rfl rfl (by decide)))
    have h13T_t := h12T_t.fr (r47T t (jn hnd 5 [1] rfl rfl (by decide)))
    have h13T_py := h12T_py.fr (r47T py (jn hnd 8 [1] rfl rfl (by decide)))
    have h13T_s := h12T_s.fr (r47T s (jn hnd 2 [1] rfl rfl (by decide)))
    have h13T_r := h12T_r.fr (r47T r (jn hnd 4 [1] rfl rfl (by decide)))
    have h13T_pz := h12T_pz.fr (r47T pz (jn hnd 9 [1] rfl rfl (by decide)))
    have h13T_px := p43T.fr (r47T px (jn hnd 7 [1] rfl rfl (by decide)))
    have g13T_cv := g12T_cv.fr (r47T cv (jn hnd 0 [1] rfl rfl (by decide)))
    have g13T_p := g12T_p.fr (r47T p (jn hnd 6 [1] rfl rfl (by decide)))
    refine jr_aload_n hE dX2_twice_192 0 rfl ?_
    refine jr_get hE dX2_twice_193 f34 g13T_cv rfl ?_
    refine jr_aload_n hE dX2_twice_196 0 rfl ?_
    refine jr_get hE dX2_twice_197 f34 g13T_cv rfl ?_
    refine jr_aload_n hE dX2_twice_200 0 rfl ?_
    refine jr_get hE dX2_twice_201 f43 g13T_cv rfl ?_
    obtain ⟨lw50T, w50T⟩ := p47T.cell
    refine jr_kVv (ci := 1) (n := 2) (As := [.ref u, .ref r]) (rest := []) hE dX2_twice_204 (fun l => c_X1_product l G u u r (fs (fk (4) (fm P.2.1 (fm P.2.2.1 P.2.2.1))) (fs (fs (fm (fk (3) (fm P.2.1 P.2.1)) (fk (3) (fm P.2.1 P.2.1))) (fk (4) (fm P.2.1 (fm P.2.2.1 P.2.2.1)))) (fk (4) (fm P.2.1 (fm P.2.2.1 P.2.2.1))))) (fk (3) (fm P.2.1 P.2.1)) _) gX2_twice_X1_product rfl w50T rfl (by decide +kernel) ⟨rfl, rfl, by decide, by decide⟩ (by decide) rfl rfl (Nat.le_of_ble_eq_true rfl) (⟨w50T, p47T, h13T_r⟩) (fun F52 q53 => ?_)
    obtain ⟨p51T, r51T⟩ := q53
    have p51T : jCo L F52 u (fm (fs (fk (4) (fm P.2.1 (fm P.2.2.1 P.2.2.1))) (fs (fs (fm (fk (3) (fm P.2.1 P.2.1)) (fk (3) (fm P.2.1 P.2.1))) (fk (4) (fm P.2.1 (fm P.2.2.1 P.2.2.1)))) (fk (4) (fm P.2.1 (fm P.2.2.1 P.2.2.1))))) (fk (3) (fm P.2.1 P.2.1))) := p51T
    have h14T_h := h13T_h.fr (r51T h (jn hnd 3 [1] rfl rfl (by decide)))
    have h14T_t := h13T_t.fr (r51T t (jn hnd 5 [1] rfl rfl (by decide)))
    have h14T_py := h13T_py.fr (r51T py (jn hnd 8 [1] rfl rfl (by decide)))
    have h14T_s := h13T_s.fr (r51T s (jn hnd 2 [1] rfl rfl (by decide)))
    have h14T_r := h13T_r.fr (r51T r (jn hnd 4 [1] rfl rfl (by decide)))
    have h14T_pz := h13T_pz.fr (r51T pz (jn hnd 9 [1] rfl rfl (by decide)))
    have h14T_px := h13T_px.fr (r51T px (jn hnd 7 [1] rfl rfl (by decide)))
    have g14T_cv := g13T_cv.fr (r51T cv (jn hnd 0 [1] rfl rfl (by decide)))
    have g14T_p := g13T_p.fr (r51T p (jn hnd 6 [1] rfl rfl (by decide)))
    refine jr_aload_n hE dX2_twice_207 1 rfl ?_
    refine jr_get hE dX2_twice_208 f64 g14T_p rfl ?_
    refine jr_aload_n hE dX2_twice_211 0 rfl ?_
    refine jr_get hE dX2_twice_212 f34 g14T_cv rfl ?_
    refine jr_aload_n hE dX2_twice_215 0 rfl ?_
    refine jr_get hE dX2_twice_216 f37 g14T_cv rfl ?_
    obtain ⟨lw54T, w54T⟩ := h14T_py.cell
    refine jr_kVv (ci := 1) (n := 2) (As := [.ref u, .ref s]) (rest := []) hE dX2_twice_219 (fun l => c_X1_difference_o l G py u s (fm (fs (fk (4) (fm P.2.1 (fm P.2.2.1 P.2.2.1))) (fs (fs (fm (fk (3) (fm P.2.1 P.2.1)) (fk (3) (fm P.2.1 P.2.1))) (fk (4) (fm P.2.1 (fm P.2.2.1 P.2.2.1)))) (fk (4) (fm P.2.1 (fm P.2.2.1 P.2.2.1))))) (fk (3) (fm P.2.1 P.2.1))) (fk (8) (fm (fm P.2.2.1 P.2.2.1) (fm P.2.2.1 P.2.2.1))) _) gX2_twice_X1_difference rfl w54T rfl (by decide +kernel) ⟨rfl, rfl, by decide, by decide⟩ (by decide) rfl rfl (Nat.le_of_ble_eq_true rfl) (⟨w54T, p51T, h14T_s, jnd hnd [8, 1, 2] rfl (by decide)⟩) (fun F56 q57 => ?_)
    obtain ⟨p55T, r55T⟩ := q57
    have p55T : jCo L F56 py (fs (fm (fs (fk (4) (fm P.2.1 (fm P.2.2.1 P.2.2.1))) (fs (fs (fm (fk (3) (fm P.2.1 P.2.1)) (fk (3) (fm P.2.1 P.2.1))) (fk (4) (fm P.2.1 (fm P.2.2.1 P.2.2.1)))) (fk (4) (fm P.2.1 (fm P.2.2.1 P.2.2.1))))) (fk (3) (fm P.2.1 P.2.1))) (fk (8) (fm (fm P.2.2.1 P.2.2.1) (fm P.2.2.1 P.2.2.1)))) := p55T
    have h15T_h := h14T_h.fr (r55T h (jn hnd 3 [8] rfl rfl (by decide)))
    have h15T_t := h14T_t.fr (r55T t (jn hnd 5 [8] rfl rfl (by decide)))
    have h15T_s := h14T_s.fr (r55T s (jn hnd 2 [8] rfl rfl (by decide)))
    have h15T_r := h14T_r.fr (r55T r (jn hnd 4 [8] rfl rfl (by decide)))
    have h15T_pz := h14T_pz.fr (r55T pz (jn hnd 9 [8] rfl rfl (by decide)))
    have h15T_px := h14T_px.fr (r55T px (jn hnd 7 [8] rfl rfl (by decide)))
    have h15T_u := p51T.fr (r55T u (jn hnd 1 [8] rfl rfl (by decide)))
    have g15T_cv := g14T_cv.fr (r55T cv (jn hnd 0 [8] rfl rfl (by decide)))
    have g15T_p := g14T_p.fr (r55T p (jn hnd 6 [8] rfl rfl (by decide)))
    have hn := bi_eq c1
    have e : twJ P = (false, _, _, _) := if_neg (by rw [hn]; decide)
    exact hR F56 _ _ dX2_twice_222 ⟨⟨g15T_cv, h15T_u.cell, h15T_s.cell, ⟨_, h15T_h⟩, h15T_r.cell, ⟨_, h15T_t⟩⟩, by rw [e, ← hn]; exact ⟨g15T_p, h15T_px, p55T, h15T_pz⟩, fun z hz => (r55T z (jnsub (V := [py]) hz [4] rfl)).trans ((r51T z (jnsub (V := [u]) hz [0] rfl)).trans ((r47T z (jnsub (V := [u]) hz [0] rfl)).trans ((r43T z (jnsub (V := [px]) hz [3] rfl)).trans ((r39T z (jnsub (V := [px]) hz [3] rfl)).trans ((r35T z (jnsub (V := [px]) hz [3] rfl)).trans ((r31T z (jnsub (V := [pz]) hz [5] rfl)).trans ((r27T z (jnsub (V := [pz]) hz [5] rfl)).trans ((r23T z (jnsub (V := [r]) hz [2] rfl)).trans ((r19T z (jnsub (V := [r]) hz [2] rfl)).trans ((r16T z (jnsub (V := [s]) hz [1] rfl)).trans ((r12T z (jnsub (V := [s]) hz [1] rfl)).trans ((r8T z (jnsub (V := [u]) hz [0] rfl)).trans ((r4T z (jnsub (V := [u]) hz [0] rfl)).trans (r1T z (jnsub (V := [s]) hz [1] rfl)))))))))))))))⟩
  · exact hR F _ _ dX2_twice_7 ⟨⟨hc0, ⟨_, hcu⟩, ⟨_, hcs⟩, ⟨_, hch⟩, ⟨_, hcr⟩, ⟨_, hct⟩⟩, by rw [show twJ P = P from if_pos (bi_ne c1)]; exact ⟨hp0, hp1, hp2, hp3⟩, fun _ _ => rfl⟩

theorem plJ_a {P Q : JP} (h : Q.1 = true) : plJ P Q = P := if_pos h
theorem plJ_b {P Q : JP} (h : Q.1 = false) (h2 : P.1 = true) : plJ P Q = Q := by
  unfold plJ
  rw [if_neg (by rw [h]; decide), if_pos h2]
abbrev plH (P Q : JP) : Nat := fs (fm Q.2.1 (fm P.2.2.2 P.2.2.2)) (fm P.2.1 (fm Q.2.2.2 Q.2.2.2))
abbrev plR (P Q : JP) : Nat := fs (fm (fm Q.2.2.1 (fm P.2.2.2 P.2.2.2)) P.2.2.2) (fm (fm P.2.2.1 (fm Q.2.2.2 Q.2.2.2)) Q.2.2.2)
theorem plJ_c {P Q : JP} (h : Q.1 = false) (h2 : P.1 = false) (e : plH P Q = 0) (e2 : plR P Q = 0) : plJ P Q = twJ P := by
  unfold plJ
  rw [if_neg (by rw [h]; decide), if_neg (by rw [h2]; decide)]
  exact if_pos ⟨e, e2⟩
theorem plJ_d {P Q : JP} (h : Q.1 = false) (h2 : P.1 = false) (e : plH P Q = 0) (e2 : ¬ plR P Q = 0) : plJ P Q = (true, P.2) := by
  unfold plJ
  rw [if_neg (by rw [h]; decide), if_neg (by rw [h2]; decide)]
  exact (if_neg (fun q => e2 q.2)).trans (if_pos e)
theorem plJ_e {P Q : JP} (h : Q.1 = false) (h2 : P.1 = false) (e : ¬ plH P Q = 0) : plJ P Q = (false, fs (fs (fs (fm (plR P Q) (plR P Q)) (fm (plH P Q) (fm (plH P Q) (plH P Q)))) (fm (fm P.2.1 (fm Q.2.2.2 Q.2.2.2)) (fm (plH P Q) (plH P Q)))) (fm (fm P.2.1 (fm Q.2.2.2 Q.2.2.2)) (fm (plH P Q) (plH P Q))), fs (fm (fs (fm (fm P.2.1 (fm Q.2.2.2 Q.2.2.2)) (fm (plH P Q) (plH P Q))) (fs (fs (fs (fm (plR P Q) (plR P Q)) (fm (plH P Q) (fm (plH P Q) (plH P Q)))) (fm (fm P.2.1 (fm Q.2.2.2 Q.2.2.2)) (fm (plH P Q) (plH P Q)))) (fm (fm P.2.1 (fm Q.2.2.2 Q.2.2.2)) (fm (plH P Q) (plH P Q))))) (plR P Q)) (fm (fm (fm P.2.2.1 (fm Q.2.2.2 Q.2.2.2)) Q.2.2.2) (fm (plH P Q) (fm (plH P Q) (plH P Q)))), fm (fm P.2.2.2 Q.2.2.2) (plH P Q)) := by
  unfold plJ
  rw [if_neg (by rw [h]; decide), if_neg (by rw [h2]; decide)]
  exact (if_neg (fun q => e q.1)).trans (if_neg e)
theorem b2i_0 {p : Prop} [Decidable p] (h : b2i p = 0) : ¬ p := fun q => by rw [b2i_t q] at h; exact absurd h (by decide)
theorem b2i_1 {p : Prop} [Decidable p] (h : b2i p ≠ 0) : p := by
  by_cases q : p
  · exact q
  · exact absurd (b2i_f q) h

set_option maxHeartbeats 4000000 in
set_option maxRecDepth 100000 in
theorem c_X2_plus (l : Launch) (G : Nat → ClassId) (cv g ms pw one u s h r t p px py pz q qx qy qz : Nat) (P Q : JP) : jKv l yX2_plus wsX2_plus ({ frames := 3, cells := 0, slots := 0, locals := 101 }) G [.ref cv, .ref p, .ref q] (fun L F => jCu L F cv g ms pw one u s h r t ∧ jPt L F p px py pz P ∧ jPt L F q qx qy qz Q ∧ [cv, u, s, h, r, t, p, px, py, pz, q, qx, qy, qz].Nodup) (fun L F F1 => jCu L F1 cv g ms pw one u s h r t ∧ jPt L F1 p px py pz (plJ P Q) ∧ ∀ z, z ∉ [u, s, h, r, t, p, px, py, pz] → F1 z = F z) := by
  refine jm_kv (cc := cX2_plus) (maxL := 3) (by decide) rfl (Nat.le_of_ble_eq_true rfl) ?_
  intro E L F hE hR hpre
  have hE : jOk E G _ cX2_plus 3 RX2 wsX2_plus := hE
  obtain ⟨⟨hc0, ⟨lu, hcu⟩, ⟨ls, hcs⟩, ⟨lh, hch⟩, ⟨lr, hcr⟩, ⟨lt, hct⟩⟩, ⟨hp0, hp1, hp2, hp3⟩, ⟨hq0, hq1, hq2, hq3⟩, hnd⟩ := hpre

  have f82 : jFl RX2 wsX2_plus 82 6 3 := ⟨rfl, by decide, by decide +kernel, by decide +kernel⟩
  have f46 : jFl RX2 wsX2_plus 46 2 8 := ⟨rfl, by decide, by decide +kernel, by decide +kernel⟩
  have f75 : jFl RX2 wsX2_plus 75 6 2 := ⟨rfl, by decide, by decide +kernel, by decide +kernel⟩
  have f34 : jFl RX2 wsX2_plus 34 2 4 := ⟨rfl, by decide, by decide +kernel, by decide +kernel⟩
  have f53 : jFl RX2 wsX2_plus 53 6 0 := ⟨rfl, by decide, by decide +kernel, by decide +kernel⟩
  have f37 : jFl RX2 wsX2_plus 37 2 5 := ⟨rfl, by decide, by decide +kernel, by decide +kernel⟩
  have f64 : jFl RX2 wsX2_plus 64 6 1 := ⟨rfl, by decide, by decide +kernel, by decide +kernel⟩
  have f40 : jFl RX2 wsX2_plus 40 2 6 := ⟨rfl, by decide, by decide +kernel, by decide +kernel⟩
  have f43 : jFl RX2 wsX2_plus 43 2 7 := ⟨rfl, by decide, by decide +kernel, by decide +kernel⟩
  refine jr_aload_n hE dX2_plus_0 2 rfl ?_
  refine jr_get hE dX2_plus_1 f82 hq0 rfl ?_
  refine jr_if_eq (tgt := 8) hE dX2_plus_4 (by decide) (fun c4 => ?_) (fun c4 => ?_)
  · refine jr_aload_n hE dX2_plus_8 1 rfl ?_
    refine jr_get hE dX2_plus_9 f82 hp0 rfl ?_
    have hq := bi_eq c4
    refine jr_if_eq (tgt := 21) hE dX2_plus_12 (by decide) (fun c12 => ?_) (fun c12 => ?_)
    · have hp := bi_eq c12
      refine jr_aload_n hE dX2_plus_21 0 rfl ?_
      refine jr_get hE dX2_plus_22 f46 hc0 rfl ?_
      refine jr_aload_n hE dX2_plus_25 2 rfl ?_
      refine jr_get hE dX2_plus_26 f75 hq0 rfl ?_
      refine jr_aload_n hE dX2_plus_29 2 rfl ?_
      refine jr_get hE dX2_plus_30 f75 hq0 rfl ?_
      refine jr_kVv (ci := 1) (n := 2) (As := [.ref qz, .ref qz]) (rest := []) hE dX2_plus_33 (fun l => c_X1_product l G t qz qz Q.2.2.2 Q.2.2.2 _) gX2_plus_X1_product rfl hct rfl (by decide +kernel) ⟨rfl, rfl, by decide, by decide⟩ (by decide) rfl rfl (Nat.le_of_ble_eq_true rfl) (⟨hct, hq3, hq3⟩) (fun F2 q3 => ?_)
      obtain ⟨p1TT, r1TT⟩ := q3
      have p1TT : jCo L F2 t (fm Q.2.2.2 Q.2.2.2) := p1TT
      have h1TT_u := hcu.fr (r1TT u (jn hnd 1 [5] rfl rfl (by decide)))
      have h1TT_s := hcs.fr (r1TT s (jn hnd 2 [5] rfl rfl (by decide)))
      have h1TT_h := hch.fr (r1TT h (jn hnd 3 [5] rfl rfl (by decide)))
      have h1TT_r := hcr.fr (r1TT r (jn hnd 4 [5] rfl rfl (by decide)))
      have h1TT_px := hp1.fr (r1TT px (jn hnd 7 [5] rfl rfl (by decide)))
      have h1TT_py := hp2.fr (r1TT py (jn hnd 8 [5] rfl rfl (by decide)))
      have h1TT_pz := hp3.fr (r1TT pz (jn hnd 9 [5] rfl rfl (by decide)))
      have h1TT_qx := hq1.fr (r1TT qx (jn hnd 11 [5] rfl rfl (by decide)))
      have h1TT_qy := hq2.fr (r1TT qy (jn hnd 12 [5] rfl rfl (by decide)))
      have h1TT_qz := hq3.fr (r1TT qz (jn hnd 13 [5] rfl rfl (by decide)))
      have g1TT_cv := hc0.fr (r1TT cv (jn hnd 0 [5] rfl rfl (by decide)))
      have g1TT_p := hp0.fr (r1TT p (jn hnd 6 [5] rfl rfl (by decide)))
      have g1TT_q := hq0.fr (r1TT q (jn hnd 10 [5] rfl rfl (by decide)))
      refine jr_aload_n hE dX2_plus_36 0 rfl ?_
      refine jr_get hE dX2_plus_37 f34 g1TT_cv rfl ?_
      refine jr_aload_n hE dX2_plus_40 1 rfl ?_
      refine jr_get hE dX2_plus_41 f53 g1TT_p rfl ?_
      refine jr_aload_n hE dX2_plus_44 0 rfl ?_
      refine jr_get hE dX2_plus_45 f46 g1TT_cv rfl ?_
      refine jr_kVv (ci := 1) (n := 2) (As := [.ref px, .ref t]) (rest := []) hE dX2_plus_48 (fun l => c_X1_product l G u px t P.2.1 (fm Q.2.2.2 Q.2.2.2) _) gX2_plus_X1_product rfl h1TT_u rfl (by decide +kernel) ⟨rfl, rfl, by decide, by decide⟩ (by decide) rfl rfl (Nat.le_of_ble_eq_true rfl) (⟨h1TT_u, h1TT_px, p1TT⟩) (fun F5 q6 => ?_)
      obtain ⟨p4TT, r4TT⟩ := q6
      have p4TT : jCo L F5 u (fm P.2.1 (fm Q.2.2.2 Q.2.2.2)) := p4TT
      have h2TT_s := h1TT_s.fr (r4TT s (jn hnd 2 [1] rfl rfl (by decide)))
      have h2TT_h := h1TT_h.fr (r4TT h (jn hnd 3 [1] rfl rfl (by decide)))
      have h2TT_r := h1TT_r.fr (r4TT r (jn hnd 4 [1] rfl rfl (by decide)))
      have h2TT_px := h1TT_px.fr (r4TT px (jn hnd 7 [1] rfl rfl (by decide)))
      have h2TT_py := h1TT_py.fr (r4TT py (jn hnd 8 [1] rfl rfl (by decide)))
      have h2TT_pz := h1TT_pz.fr (r4TT pz (jn hnd 9 [1] rfl rfl (by decide)))
      have h2TT_qx := h1TT_qx.fr (r4TT qx (jn hnd 11 [1] rfl rfl (by decide)))
      have h2TT_qy := h1TT_qy.fr (r4TT qy (jn hnd 12 [1] rfl rfl (by decide)))
      have h2TT_qz := h1TT_qz.fr (r4TT qz (jn hnd 13 [1] rfl rfl (by decide)))
      have h2TT_t := p1TT.fr (r4TT t (jn hnd 5 [1] rfl rfl (by decide)))
      have g2TT_cv := g1TT_cv.fr (r4TT cv (jn hnd 0 [1] rfl rfl (by decide)))
      have g2TT_p := g1TT_p.fr (r4TT p (jn hnd 6 [1] rfl rfl (by decide)))
      have g2TT_q := g1TT_q.fr (r4TT q (jn hnd 10 [1] rfl rfl (by decide)))
      refine jr_aload_n hE dX2_plus_51 0 rfl ?_
      refine jr_get hE dX2_plus_52 f37 g2TT_cv rfl ?_
      refine jr_aload_n hE dX2_plus_55 1 rfl ?_
      refine jr_get hE dX2_plus_56 f64 g2TT_p rfl ?_
      refine jr_aload_n hE dX2_plus_59 0 rfl ?_
      refine jr_get hE dX2_plus_60 f46 g2TT_cv rfl ?_
      refine jr_kVv (ci := 1) (n := 2) (As := [.ref py, .ref t]) (rest := []) hE dX2_plus_63 (fun l => c_X1_product l G s py t P.2.2.1 (fm Q.2.2.2 Q.2.2.2) _) gX2_plus_X1_product rfl h2TT_s rfl (by decide +kernel) ⟨rfl, rfl, by decide, by decide⟩ (by decide) rfl rfl (Nat.le_of_ble_eq_true rfl) (⟨h2TT_s, h2TT_py, h2TT_t⟩) (fun F8 q9 => ?_)
      obtain ⟨p7TT, r7TT⟩ := q9
      have p7TT : jCo L F8 s (fm P.2.2.1 (fm Q.2.2.2 Q.2.2.2)) := p7TT
      have h3TT_h := h2TT_h.fr (r7TT h (jn hnd 3 [2] rfl rfl (by decide)))
      have h3TT_r := h2TT_r.fr (r7TT r (jn hnd 4 [2] rfl rfl (by decide)))
      have h3TT_px := h2TT_px.fr (r7TT px (jn hnd 7 [2] rfl rfl (by decide)))
      have h3TT_py := h2TT_py.fr (r7TT py (jn hnd 8 [2] rfl rfl (by decide)))
      have h3TT_pz := h2TT_pz.fr (r7TT pz (jn hnd 9 [2] rfl rfl (by decide)))
      have h3TT_qx := h2TT_qx.fr (r7TT qx (jn hnd 11 [2] rfl rfl (by decide)))
      have h3TT_qy := h2TT_qy.fr (r7TT qy (jn hnd 12 [2] rfl rfl (by decide)))
      have h3TT_qz := h2TT_qz.fr (r7TT qz (jn hnd 13 [2] rfl rfl (by decide)))
      have h3TT_t := h2TT_t.fr (r7TT t (jn hnd 5 [2] rfl rfl (by decide)))
      have h3TT_u := p4TT.fr (r7TT u (jn hnd 1 [2] rfl rfl (by decide)))
      have g3TT_cv := g2TT_cv.fr (r7TT cv (jn hnd 0 [2] rfl rfl (by decide)))
      have g3TT_p := g2TT_p.fr (r7TT p (jn hnd 6 [2] rfl rfl (by decide)))
      have g3TT_q := g2TT_q.fr (r7TT q (jn hnd 10 [2] rfl rfl (by decide)))
      refine jr_aload_n hE dX2_plus_66 0 rfl ?_
      refine jr_get hE dX2_plus_67 f37 g3TT_cv rfl ?_
      refine jr_aload_n hE dX2_plus_70 0 rfl ?_
      refine jr_get hE dX2_plus_71 f37 g3TT_cv rfl ?_
      refine jr_aload_n hE dX2_plus_74 2 rfl ?_
      refine jr_get hE dX2_plus_75 f75 g3TT_q rfl ?_
      obtain ⟨lw10TT, w10TT⟩ := p7TT.cell
      refine jr_kVv (ci := 1) (n := 2) (As := [.ref s, .ref qz]) (rest := []) hE dX2_plus_78 (fun l => c_X1_product l G s s qz (fm P.2.2.1 (fm Q.2.2.2 Q.2.2.2)) Q.2.2.2 _) gX2_plus_X1_product rfl w10TT rfl (by decide +kernel) ⟨rfl, rfl, by decide, by decide⟩ (by decide) rfl rfl (Nat.le_of_ble_eq_true rfl) (⟨w10TT, p7TT, h3TT_qz⟩) (fun F12 q13 => ?_)
      obtain ⟨p11TT, r11TT⟩ := q13
      have p11TT : jCo L F12 s (fm (fm P.2.2.1 (fm Q.2.2.2 Q.2.2.2)) Q.2.2.2) := p11TT
      have h4TT_h := h3TT_h.fr (r11TT h (jn hnd 3 [2] rfl rfl (by decide)))
      have h4TT_r := h3TT_r.fr (r11TT r (jn hnd 4 [2] rfl rfl (by decide)))
      have h4TT_px := h3TT_px.fr (r11TT px (jn hnd 7 [2] rfl rfl (by decide)))
      have h4TT_py := h3TT_py.fr (r11TT py (jn hnd 8 [2] rfl rfl (by decide)))
      have h4TT_pz := h3TT_pz.fr (r11TT pz (jn hnd 9 [2] rfl rfl (by decide)))
      have h4TT_qx := h3TT_qx.fr (r11TT qx (jn hnd 11 [2] rfl rfl (by decide)))
      have h4TT_qy := h3TT_qy.fr (r11TT qy (jn hnd 12 [2] rfl rfl (by decide)))
      have h4TT_qz := h3TT_qz.fr (r11TT qz (jn hnd 13 [2] rfl rfl (by decide)))
      have h4TT_t := h3TT_t.fr (r11TT t (jn hnd 5 [2] rfl rfl (by decide)))
      have h4TT_u := h3TT_u.fr (r11TT u (jn hnd 1 [2] rfl rfl (by decide)))
      have g4TT_cv := g3TT_cv.fr (r11TT cv (jn hnd 0 [2] rfl rfl (by decide)))
      have g4TT_p := g3TT_p.fr (r11TT p (jn hnd 6 [2] rfl rfl (by decide)))
      have g4TT_q := g3TT_q.fr (r11TT q (jn hnd 10 [2] rfl rfl (by decide)))
      refine jr_aload_n hE dX2_plus_81 0 rfl ?_
      refine jr_get hE dX2_plus_82 f46 g4TT_cv rfl ?_
      refine jr_aload_n hE dX2_plus_85 1 rfl ?_
      refine jr_get hE dX2_plus_86 f75 g4TT_p rfl ?_
      refine jr_aload_n hE dX2_plus_89 1 rfl ?_
      refine jr_get hE dX2_plus_90 f75 g4TT_p rfl ?_
      obtain ⟨lw14TT, w14TT⟩ := h4TT_t.cell
      refine jr_kVv (ci := 1) (n := 2) (As := [.ref pz, .ref pz]) (rest := []) hE dX2_plus_93 (fun l => c_X1_product l G t pz pz P.2.2.2 P.2.2.2 _) gX2_plus_X1_product rfl w14TT rfl (by decide +kernel) ⟨rfl, rfl, by decide, by decide⟩ (by decide) rfl rfl (Nat.le_of_ble_eq_true rfl) (⟨w14TT, h4TT_pz, h4TT_pz⟩) (fun F16 q17 => ?_)
      obtain ⟨p15TT, r15TT⟩ := q17
      have p15TT : jCo L F16 t (fm P.2.2.2 P.2.2.2) := p15TT
      have h5TT_h := h4TT_h.fr (r15TT h (jn hnd 3 [5] rfl rfl (by decide)))
      have h5TT_r := h4TT_r.fr (r15TT r (jn hnd 4 [5] rfl rfl (by decide)))
      have h5TT_px := h4TT_px.fr (r15TT px (jn hnd 7 [5] rfl rfl (by decide)))
      have h5TT_py := h4TT_py.fr (r15TT py (jn hnd 8 [5] rfl rfl (by decide)))
      have h5TT_pz := h4TT_pz.fr (r15TT pz (jn hnd 9 [5] rfl rfl (by decide)))
      have h5TT_qx := h4TT_qx.fr (r15TT qx (jn hnd 11 [5] rfl rfl (by decide)))
      have h5TT_qy := h4TT_qy.fr (r15TT qy (jn hnd 12 [5] rfl rfl (by decide)))
      have h5TT_qz := h4TT_qz.fr (r15TT qz (jn hnd 13 [5] rfl rfl (by decide)))
      have h5TT_u := h4TT_u.fr (r15TT u (jn hnd 1 [5] rfl rfl (by decide)))
      have h5TT_s := p11TT.fr (r15TT s (jn hnd 2 [5] rfl rfl (by decide)))
      have g5TT_cv := g4TT_cv.fr (r15TT cv (jn hnd 0 [5] rfl rfl (by decide)))
      have g5TT_p := g4TT_p.fr (r15TT p (jn hnd 6 [5] rfl rfl (by decide)))
      have g5TT_q := g4TT_q.fr (r15TT q (jn hnd 10 [5] rfl rfl (by decide)))
      refine jr_aload_n hE dX2_plus_96 0 rfl ?_
      refine jr_get hE dX2_plus_97 f40 g5TT_cv rfl ?_
      refine jr_aload_n hE dX2_plus_100 2 rfl ?_
      refine jr_get hE dX2_plus_101 f53 g5TT_q rfl ?_
      refine jr_aload_n hE dX2_plus_104 0 rfl ?_
      refine jr_get hE dX2_plus_105 f46 g5TT_cv rfl ?_
      refine jr_kVv (ci := 1) (n := 2) (As := [.ref qx, .ref t]) (rest := []) hE dX2_plus_108 (fun l => c_X1_product l G h qx t Q.2.1 (fm P.2.2.2 P.2.2.2) _) gX2_plus_X1_product rfl h5TT_h rfl (by decide +kernel) ⟨rfl, rfl, by decide, by decide⟩ (by decide) rfl rfl (Nat.le_of_ble_eq_true rfl) (⟨h5TT_h, h5TT_qx, p15TT⟩) (fun F19 q20 => ?_)
      obtain ⟨p18TT, r18TT⟩ := q20
      have p18TT : jCo L F19 h (fm Q.2.1 (fm P.2.2.2 P.2.2.2)) := p18TT
      have h6TT_r := h5TT_r.fr (r18TT r (jn hnd 4 [3] rfl rfl (by decide)))
      have h6TT_px := h5TT_px.fr (r18TT px (jn hnd 7 [3] rfl rfl (by decide)))
      have h6TT_py := h5TT_py.fr (r18TT py (jn hnd 8 [3] rfl rfl (by decide)))
      have h6TT_pz := h5TT_pz.fr (r18TT pz (jn hnd 9 [3] rfl rfl (by decide)))
      have h6TT_qx := h5TT_qx.fr (r18TT qx (jn hnd 11 [3] rfl rfl (by decide)))
      have h6TT_qy := h5TT_qy.fr (r18TT qy (jn hnd 12 [3] rfl rfl (by decide)))
      have h6TT_qz := h5TT_qz.fr (r18TT qz (jn hnd 13 [3] rfl rfl (by decide)))
      have h6TT_u := h5TT_u.fr (r18TT u (jn hnd 1 [3] rfl rfl (by decide)))
      have h6TT_s := h5TT_s.fr (r18TT s (jn hnd 2 [3] rfl rfl (by decide)))
      have h6TT_t := p15TT.fr (r18TT t (jn hnd 5 [3] rfl rfl (by decide)))
      have g6TT_cv := g5TT_cv.fr (r18TT cv (jn hnd 0 [3] rfl rfl (by decide)))
      have g6TT_p := g5TT_p.fr (r18TT p (jn hnd 6 [3] rfl rfl (by decide)))
      have g6TT_q := g5TT_q.fr (r18TT q (jn hnd 10 [3] rfl rfl (by decide)))
      refine jr_aload_n hE dX2_plus_111 0 rfl ?_
      refine jr_get hE dX2_plus_112 f40 g6TT_cv rfl ?_
      refine jr_aload_n hE dX2_plus_115 0 rfl ?_
      refine jr_get hE dX2_plus_116 f40 g6TT_cv rfl ?_
      refine jr_aload_n hE dX2_plus_119 0 rfl ?_
      refine jr_get hE dX2_plus_120 f34 g6TT_cv rfl ?_
      obtain ⟨lw21TT, w21TT⟩ := p18TT.cell
      refine jr_kVv (ci := 1) (n := 2) (As := [.ref h, .ref u]) (rest := []) hE dX2_plus_123 (fun l => c_X1_difference_s l G h u (fm Q.2.1 (fm P.2.2.2 P.2.2.2)) (fm P.2.1 (fm Q.2.2.2 Q.2.2.2))) gX2_plus_X1_difference rfl w21TT rfl (by decide +kernel) ⟨rfl, rfl, by decide, by decide⟩ (by decide) rfl rfl (Nat.le_of_ble_eq_true rfl) (⟨p18TT, h6TT_u, jnd hnd [3, 1] rfl (by decide)⟩) (fun F23 q24 => ?_)
      obtain ⟨p22TT, r22TT⟩ := q24
      have p22TT : jCo L F23 h (fs (fm Q.2.1 (fm P.2.2.2 P.2.2.2)) (fm P.2.1 (fm Q.2.2.2 Q.2.2.2))) := p22TT
      have h7TT_r := h6TT_r.fr (r22TT r (jn hnd 4 [3] rfl rfl (by decide)))
      have h7TT_px := h6TT_px.fr (r22TT px (jn hnd 7 [3] rfl rfl (by decide)))
      have h7TT_py := h6TT_py.fr (r22TT py (jn hnd 8 [3] rfl rfl (by decide)))
      have h7TT_pz := h6TT_pz.fr (r22TT pz (jn hnd 9 [3] rfl rfl (by decide)))
      have h7TT_qx := h6TT_qx.fr (r22TT qx (jn hnd 11 [3] rfl rfl (by decide)))
      have h7TT_qy := h6TT_qy.fr (r22TT qy (jn hnd 12 [3] rfl rfl (by decide)))
      have h7TT_qz := h6TT_qz.fr (r22TT qz (jn hnd 13 [3] rfl rfl (by decide)))
      have h7TT_u := h6TT_u.fr (r22TT u (jn hnd 1 [3] rfl rfl (by decide)))
      have h7TT_s := h6TT_s.fr (r22TT s (jn hnd 2 [3] rfl rfl (by decide)))
      have h7TT_t := h6TT_t.fr (r22TT t (jn hnd 5 [3] rfl rfl (by decide)))
      have g7TT_cv := g6TT_cv.fr (r22TT cv (jn hnd 0 [3] rfl rfl (by decide)))
      have g7TT_p := g6TT_p.fr (r22TT p (jn hnd 6 [3] rfl rfl (by decide)))
      have g7TT_q := g6TT_q.fr (r22TT q (jn hnd 10 [3] rfl rfl (by decide)))
      refine jr_aload_n hE dX2_plus_126 0 rfl ?_
      refine jr_get hE dX2_plus_127 f43 g7TT_cv rfl ?_
      refine jr_aload_n hE dX2_plus_130 2 rfl ?_
      refine jr_get hE dX2_plus_131 f64 g7TT_q rfl ?_
      refine jr_aload_n hE dX2_plus_134 0 rfl ?_
      refine jr_get hE dX2_plus_135 f46 g7TT_cv rfl ?_
      refine jr_kVv (ci := 1) (n := 2) (As := [.ref qy, .ref t]) (rest := []) hE dX2_plus_138 (fun l => c_X1_product l G r qy t Q.2.2.1 (fm P.2.2.2 P.2.2.2) _) gX2_plus_X1_product rfl h7TT_r rfl (by decide +kernel) ⟨rfl, rfl, by decide, by decide⟩ (by decide) rfl rfl (Nat.le_of_ble_eq_true rfl) (⟨h7TT_r, h7TT_qy, h7TT_t⟩) (fun F26 q27 => ?_)
      obtain ⟨p25TT, r25TT⟩ := q27
      have p25TT : jCo L F26 r (fm Q.2.2.1 (fm P.2.2.2 P.2.2.2)) := p25TT
      have h8TT_px := h7TT_px.fr (r25TT px (jn hnd 7 [4] rfl rfl (by decide)))
      have h8TT_py := h7TT_py.fr (r25TT py (jn hnd 8 [4] rfl rfl (by decide)))
      have h8TT_pz := h7TT_pz.fr (r25TT pz (jn hnd 9 [4] rfl rfl (by decide)))
      have h8TT_qx := h7TT_qx.fr (r25TT qx (jn hnd 11 [4] rfl rfl (by decide)))
      have h8TT_qy := h7TT_qy.fr (r25TT qy (jn hnd 12 [4] rfl rfl (by decide)))
      have h8TT_qz := h7TT_qz.fr (r25TT qz (jn hnd 13 [4] rfl rfl (by decide)))
      have h8TT_u := h7TT_u.fr (r25TT u (jn hnd 1 [4] rfl rfl (by decide)))
      have h8TT_s := h7TT_s.fr (r25TT s (jn hnd 2 [4] rfl rfl (by decide)))
      have h8TT_t := h7TT_t.fr (r25TT t (jn hnd 5 [4] rfl rfl (by decide)))
      have h8TT_h := p22TT.fr (r25TT h (jn hnd 3 [4] rfl rfl (by decide)))
      have g8TT_cv := g7TT_cv.fr (r25TT cv (jn hnd 0 [4] rfl rfl (by decide)))
      have g8TT_p := g7TT_p.fr (r25TT p (jn hnd 6 [4] rfl rfl (by decide)))
      have g8TT_q := g7TT_q.fr (r25TT q (jn hnd 10 [4] rfl rfl (by decide)))
      refine jr_aload_n hE dX2_plus_141 0 rfl ?_
      refine jr_get hE dX2_plus_142 f43 g8TT_cv rfl ?_
      refine jr_aload_n hE dX2_plus_145 0 rfl ?_
      refine jr_get hE dX2_plus_146 f43 g8TT_cv rfl ?_
      refine jr_aload_n hE dX2_plus_149 1 rfl ?_
      refine jr_get hE dX2_plus_150 f75 g8TT_p rfl ?_
      obtain ⟨lw28TT, w28TT⟩ := p25TT.cell
      refine jr_kVv (ci := 1) (n := 2) (As := [.ref r, .ref pz]) (rest := []) hE dX2_plus_153 (fun l => c_X1_product l G r r pz (fm Q.2.2.1 (fm P.2.2.2 P.2.2.2)) P.2.2.2 _) gX2_plus_X1_product rfl w28TT rfl (by decide +kernel) ⟨rfl, rfl, by decide, by decide⟩ (by decide) rfl rfl (Nat.le_of_ble_eq_true rfl) (⟨w28TT, p25TT, h8TT_pz⟩) (fun F30 q31 => ?_)
      obtain ⟨p29TT, r29TT⟩ := q31
      have p29TT : jCo L F30 r (fm (fm Q.2.2.1 (fm P.2.2.2 P.2.2.2)) P.2.2.2) := p29TT
      have h9TT_px := h8TT_px.fr (r29TT px (jn hnd 7 [4] rfl rfl (by decide)))
      have h9TT_py := h8TT_py.fr (r29TT py (jn hnd 8 [4] rfl rfl (by decide)))
      have h9TT_pz := h8TT_pz.fr (r29TT pz (jn hnd 9 [4] rfl rfl (by decide)))
      have h9TT_qx := h8TT_qx.fr (r29TT qx (jn hnd 11 [4] rfl rfl (by decide)))
      have h9TT_qy := h8TT_qy.fr (r29TT qy (jn hnd 12 [4] rfl rfl (by decide)))
      have h9TT_qz := h8TT_qz.fr (r29TT qz (jn hnd 13 [4] rfl rfl (by decide)))
      have h9TT_u := h8TT_u.fr (r29TT u (jn hnd 1 [4] rfl rfl (by decide)))
      have h9TT_s := h8TT_s.fr (r29TT s (jn hnd 2 [4] rfl rfl (by decide)))
      have h9TT_t := h8TT_t.fr (r29TT t (jn hnd 5 [4] rfl rfl (by decide)))
      have h9TT_h := h8TT_h.fr (r29TT h (jn hnd 3 [4] rfl rfl (by decide)))
      have g9TT_cv := g8TT_cv.fr (r29TT cv (jn hnd 0 [4] rfl rfl (by decide)))
      have g9TT_p := g8TT_p.fr (r29TT p (jn hnd 6 [4] rfl rfl (by decide)))
      have g9TT_q := g8TT_q.fr (r29TT q (jn hnd 10 [4] rfl rfl (by decide)))
      refine jr_aload_n hE dX2_plus_156 0 rfl ?_
      refine jr_get hE dX2_plus_157 f43 g9TT_cv rfl ?_
      refine jr_aload_n hE dX2_plus_160 0 rfl ?_
      refine jr_get hE dX2_plus_161 f43 g9TT_cv rfl ?_
      refine jr_aload_n hE dX2_plus_164 0 rfl ?_
      refine jr_get hE dX2_plus_165 f37 g9TT_cv rfl ?_
      obtain ⟨lw32TT, w32TT⟩ := p29TT.cell
      refine jr_kVv (ci := 1) (n := 2) (As := [.ref r, .ref s]) (rest := []) hE dX2_plus_168 (fun l => c_X1_difference_s l G r s (fm (fm Q.2.2.1 (fm P.2.2.2 P.2.2.2)) P.2.2.2) (fm (fm P.2.2.1 (fm Q.2.2.2 Q.2.2.2)) Q.2.2.2)) gX2_plus_X1_difference rfl w32TT rfl (by decide +kernel) ⟨rfl, rfl, by decide, by decide⟩ (by decide) rfl rfl (Nat.le_of_ble_eq_true rfl) (⟨p29TT, h9TT_s, jnd hnd [4, 2] rfl (by decide)⟩) (fun F34 q35 => ?_)
      obtain ⟨p33TT, r33TT⟩ := q35
      have p33TT : jCo L F34 r (fs (fm (fm Q.2.2.1 (fm P.2.2.2 P.2.2.2)) P.2.2.2) (fm (fm P.2.2.1 (fm Q.2.2.2 Q.2.2.2)) Q.2.2.2)) := p33TT
      have h10TT_px := h9TT_px.fr (r33TT px (jn hnd 7 [4] rfl rfl (by decide)))
      have h10TT_py := h9TT_py.fr (r33TT py (jn hnd 8 [4] rfl rfl (by decide)))
      have h10TT_pz := h9TT_pz.fr (r33TT pz (jn hnd 9 [4] rfl rfl (by decide)))
      have h10TT_qx := h9TT_qx.fr (r33TT qx (jn hnd 11 [4] rfl rfl (by decide)))
      have h10TT_qy := h9TT_qy.fr (r33TT qy (jn hnd 12 [4] rfl rfl (by decide)))
      have h10TT_qz := h9TT_qz.fr (r33TT qz (jn hnd 13 [4] rfl rfl (by decide)))
      have h10TT_u := h9TT_u.fr (r33TT u (jn hnd 1 [4] rfl rfl (by decide)))
      have h10TT_s := h9TT_s.fr (r33TT s (jn hnd 2 [4] rfl rfl (by decide)))
      have h10TT_t := h9TT_t.fr (r33TT t (jn hnd 5 [4] rfl rfl (by decide)))
      have h10TT_h := h9TT_h.fr (r33TT h (jn hnd 3 [4] rfl rfl (by decide)))
      have g10TT_cv := g9TT_cv.fr (r33TT cv (jn hnd 0 [4] rfl rfl (by decide)))
      have g10TT_p := g9TT_p.fr (r33TT p (jn hnd 6 [4] rfl rfl (by decide)))
      have g10TT_q := g9TT_q.fr (r33TT q (jn hnd 10 [4] rfl rfl (by decide)))
      refine jr_aload_n hE dX2_plus_171 0 rfl ?_
      refine jr_get hE dX2_plus_172 f40 g10TT_cv rfl ?_
      obtain ⟨lw36TT, w36TT⟩ := h10TT_h.cell
      refine jr_kVi (ci := 1) (n := 0) (As := []) (rest := []) hE dX2_plus_175 (fun l => c_X1_isZero l G h (fs (fm Q.2.1 (fm P.2.2.2 P.2.2.2)) (fm P.2.1 (fm Q.2.2.2 Q.2.2.2)))) gX2_plus_X1_isZero rfl w36TT rfl (by decide +kernel) ⟨rfl, rfl, by decide, by decide⟩ (by decide) rfl rfl (Nat.le_of_ble_eq_true rfl) (h10TT_h) (fun r40 F38 q39 => ?_)
      have l37TT := co_lt h10TT_h
      obtain ⟨d37TT, r37TT, rfl⟩ := q39
      have p37TT := d37TT.co' l37TT
      have h11TT_px := h10TT_px.fr (r37TT px (jn hnd 7 [3] rfl rfl (by decide)))
      have h11TT_py := h10TT_py.fr (r37TT py (jn hnd 8 [3] rfl rfl (by decide)))
      have h11TT_pz := h10TT_pz.fr (r37TT pz (jn hnd 9 [3] rfl rfl (by decide)))
      have h11TT_qx := h10TT_qx.fr (r37TT qx (jn hnd 11 [3] rfl rfl (by decide)))
      have h11TT_qy := h10TT_qy.fr (r37TT qy (jn hnd 12 [3] rfl rfl (by decide)))
      have h11TT_qz := h10TT_qz.fr (r37TT qz (jn hnd 13 [3] rfl rfl (by decide)))
      have h11TT_u := h10TT_u.fr (r37TT u (jn hnd 1 [3] rfl rfl (by decide)))
      have h11TT_s := h10TT_s.fr (r37TT s (jn hnd 2 [3] rfl rfl (by decide)))
      have h11TT_t := h10TT_t.fr (r37TT t (jn hnd 5 [3] rfl rfl (by decide)))
      have h11TT_r := p33TT.fr (r37TT r (jn hnd 4 [3] rfl rfl (by decide)))
      have g11TT_cv := g10TT_cv.fr (r37TT cv (jn hnd 0 [3] rfl rfl (by decide)))
      have g11TT_p := g10TT_p.fr (r37TT p (jn hnd 6 [3] rfl rfl (by decide)))
      have g11TT_q := g10TT_q.fr (r37TT q (jn hnd 10 [3] rfl rfl (by decide)))
      refine jr_if_eq (tgt := 197) hE dX2_plus_178 (by decide) (fun c178 => ?_) (fun c178 => ?_)
      · refine jr_aload_n hE dX2_plus_197 0 rfl ?_
        refine jr_get hE dX2_plus_198 f40 g11TT_cv rfl ?_
        obtain ⟨lw41TTT, w41TTT⟩ := p37TT.cell
        refine jr_kVi (ci := 1) (n := 0) (As := []) (rest := []) hE dX2_plus_201 (fun l => c_X1_isZero l G h (fs (fm Q.2.1 (fm P.2.2.2 P.2.2.2)) (fm P.2.1 (fm Q.2.2.2 Q.2.2.2)))) gX2_plus_X1_isZero rfl w41TTT rfl (by decide +kernel) ⟨rfl, rfl, by decide, by decide⟩ (by decide) rfl rfl (Nat.le_of_ble_eq_true rfl) (p37TT) (fun r45 F43 q44 => ?_)
        have l42TTT := co_lt p37TT
        obtain ⟨d42TTT, r42TTT, rfl⟩ := q44
        have p42TTT := d42TTT.co' l42TTT
        have h12TTT_px := h11TT_px.fr (r42TTT px (jn hnd 7 [3] rfl rfl (by decide)))
        have h12TTT_py := h11TT_py.fr (r42TTT py (jn hnd 8 [3] rfl rfl (by decide)))
        have h12TTT_pz := h11TT_pz.fr (r42TTT pz (jn hnd 9 [3] rfl rfl (by decide)))
        have h12TTT_qx := h11TT_qx.fr (r42TTT qx (jn hnd 11 [3] rfl rfl (by decide)))
        have h12TTT_qy := h11TT_qy.fr (r42TTT qy (jn hnd 12 [3] rfl rfl (by decide)))
        have h12TTT_qz := h11TT_qz.fr (r42TTT qz (jn hnd 13 [3] rfl rfl (by decide)))
        have h12TTT_u := h11TT_u.fr (r42TTT u (jn hnd 1 [3] rfl rfl (by decide)))
        have h12TTT_s := h11TT_s.fr (r42TTT s (jn hnd 2 [3] rfl rfl (by decide)))
        have h12TTT_t := h11TT_t.fr (r42TTT t (jn hnd 5 [3] rfl rfl (by decide)))
        have h12TTT_r := h11TT_r.fr (r42TTT r (jn hnd 4 [3] rfl rfl (by decide)))
        have g12TTT_cv := g11TT_cv.fr (r42TTT cv (jn hnd 0 [3] rfl rfl (by decide)))
        have g12TTT_p := g11TT_p.fr (r42TTT p (jn hnd 6 [3] rfl rfl (by decide)))
        have g12TTT_q := g11TT_q.fr (r42TTT q (jn hnd 10 [3] rfl rfl (by decide)))
        refine jr_if_eq (tgt := 213) hE dX2_plus_204 (by decide) (fun c204 => ?_) (fun c204 => absurd (b2i_f (b2i_0 c178)) c204)
        refine jr_aload_n hE dX2_plus_213 1 rfl ?_
        refine jr_get hE dX2_plus_214 f75 g12TTT_p rfl ?_
        refine jr_aload_n hE dX2_plus_217 1 rfl ?_
        refine jr_get hE dX2_plus_218 f75 g12TTT_p rfl ?_
        refine jr_aload_n hE dX2_plus_221 2 rfl ?_
        refine jr_get hE dX2_plus_222 f75 g12TTT_q rfl ?_
        obtain ⟨lw46TTT, w46TTT⟩ := h12TTT_pz.cell
        refine jr_kVv (ci := 1) (n := 2) (As := [.ref pz, .ref qz]) (rest := []) hE dX2_plus_225 (fun l => c_X1_product l G pz pz qz P.2.2.2 Q.2.2.2 _) gX2_plus_X1_product rfl w46TTT rfl (by decide +kernel) ⟨rfl, rfl, by decide, by decide⟩ (by decide) rfl rfl (Nat.le_of_ble_eq_true rfl) (⟨w46TTT, h12TTT_pz, h12TTT_qz⟩) (fun F48 q49 => ?_)
        obtain ⟨p47TTT, r47TTT⟩ := q49
        have p47TTT : jCo L F48 pz (fm P.2.2.2 Q.2.2.2) := p47TTT
        have h13TTT_px := h12TTT_px.fr (r47TTT px (jn hnd 7 [9] rfl rfl (by decide)))
        have h13TTT_py := h12TTT_py.fr (r47TTT py (jn hnd 8 [9] rfl rfl (by decide)))
        have h13TTT_qx := h12TTT_qx.fr (r47TTT qx (jn hnd 11 [9] rfl rfl (by decide)))
        have h13TTT_qy := h12TTT_qy.fr (r47TTT qy (jn hnd 12 [9] rfl rfl (by decide)))
        have h13TTT_qz := h12TTT_qz.fr (r47TTT qz (jn hnd 13 [9] rfl rfl (by decide)))
        have h13TTT_u := h12TTT_u.fr (r47TTT u (jn hnd 1 [9] rfl rfl (by decide)))
        have h13TTT_s := h12TTT_s.fr (r47TTT s (jn hnd 2 [9] rfl rfl (by decide)))
        have h13TTT_t := h12TTT_t.fr (r47TTT t (jn hnd 5 [9] rfl rfl (by decide)))
        have h13TTT_r := h12TTT_r.fr (r47TTT r (jn hnd 4 [9] rfl rfl (by decide)))
        have h13TTT_h := p42TTT.fr (r47TTT h (jn hnd 3 [9] rfl rfl (by decide)))
        have g13TTT_cv := g12TTT_cv.fr (r47TTT cv (jn hnd 0 [9] rfl rfl (by decide)))
        have g13TTT_p := g12TTT_p.fr (r47TTT p (jn hnd 6 [9] rfl rfl (by decide)))
        have g13TTT_q := g12TTT_q.fr (r47TTT q (jn hnd 10 [9] rfl rfl (by decide)))
        refine jr_aload_n hE dX2_plus_228 1 rfl ?_
        refine jr_get hE dX2_plus_229 f75 g13TTT_p rfl ?_
        refine jr_aload_n hE dX2_plus_232 1 rfl ?_
        refine jr_get hE dX2_plus_233 f75 g13TTT_p rfl ?_
        refine jr_aload_n hE dX2_plus_236 0 rfl ?_
        refine jr_get hE dX2_plus_237 f40 g13TTT_cv rfl ?_
        obtain ⟨lw50TTT, w50TTT⟩ := p47TTT.cell
        refine jr_kVv (ci := 1) (n := 2) (As := [.ref pz, .ref h]) (rest := []) hE dX2_plus_240 (fun l => c_X1_product l G pz pz h (fm P.2.2.2 Q.2.2.2) (fs (fm Q.2.1 (fm P.2.2.2 P.2.2.2)) (fm P.2.1 (fm Q.2.2.2 Q.2.2.2))) _) gX2_plus_X1_product rfl w50TTT rfl (by decide +kernel) ⟨rfl, rfl, by decide, by decide⟩ (by decide) rfl rfl (Nat.le_of_ble_eq_true rfl) (⟨w50TTT, p47TTT, h13TTT_h⟩) (fun F52 q53 => ?_)
        obtain ⟨p51TTT, r51TTT⟩ := q53
        have p51TTT : jCo L F52 pz (fm (fm P.2.2.2 Q.2.2.2) (fs (fm Q.2.1 (fm P.2.2.2 P.2.2.2)) (fm P.2.1 (fm Q.2.2.2 Q.2.2.2)))) := p51TTT
        have h14TTT_px := h13TTT_px.fr (r51TTT px (jn hnd 7 [9] rfl rfl (by decide)))
        have h14TTT_py := h13TTT_py.fr (r51TTT py (jn hnd 8 [9] rfl rfl (by decide)))
        have h14TTT_qx := h13TTT_qx.fr (r51TTT qx (jn hnd 11 [9] rfl rfl (by decide)))
        have h14TTT_qy := h13TTT_qy.fr (r51TTT qy (jn hnd 12 [9] rfl rfl (by decide)))
        have h14TTT_qz := h13TTT_qz.fr (r51TTT qz (jn hnd 13 [9] rfl rfl (by decide)))
        have h14TTT_u := h13TTT_u.fr (r51TTT u (jn hnd 1 [9] rfl rfl (by decide)))
        have h14TTT_s := h13TTT_s.fr (r51TTT s (jn hnd 2 [9] rfl rfl (by decide)))
        have h14TTT_t := h13TTT_t.fr (r51TTT t (jn hnd 5 [9] rfl rfl (by decide)))
        have h14TTT_r := h13TTT_r.fr (r51TTT r (jn hnd 4 [9] rfl rfl (by decide)))
        have h14TTT_h := h13TTT_h.fr (r51TTT h (jn hnd 3 [9] rfl rfl (by decide)))
        have g14TTT_cv := g13TTT_cv.fr (r51TTT cv (jn hnd 0 [9] rfl rfl (by decide)))
        have g14TTT_p := g13TTT_p.fr (r51TTT p (jn hnd 6 [9] rfl rfl (by decide)))
        have g14TTT_q := g13TTT_q.fr (r51TTT q (jn hnd 10 [9] rfl rfl (by decide)))
        refine jr_aload_n hE dX2_plus_243 0 rfl ?_
        refine jr_get hE dX2_plus_244 f46 g14TTT_cv rfl ?_
        refine jr_aload_n hE dX2_plus_247 0 rfl ?_
        refine jr_get hE dX2_plus_248 f40 g14TTT_cv rfl ?_
        refine jr_aload_n hE dX2_plus_251 0 rfl ?_
        refine jr_get hE dX2_plus_252 f40 g14TTT_cv rfl ?_
        obtain ⟨lw54TTT, w54TTT⟩ := h14TTT_t.cell
        refine jr_kVv (ci := 1) (n := 2) (As := [.ref h, .ref h]) (rest := []) hE dX2_plus_255 (fun l => c_X1_product l G t h h (fs (fm Q.2.1 (fm P.2.2.2 P.2.2.2)) (fm P.2.1 (fm Q.2.2.2 Q.2.2.2))) (fs (fm Q.2.1 (fm P.2.2.2 P.2.2.2)) (fm P.2.1 (fm Q.2.2.2 Q.2.2.2))) _) gX2_plus_X1_product rfl w54TTT rfl (by decide +kernel) ⟨rfl, rfl, by decide, by decide⟩ (by decide) rfl rfl (Nat.le_of_ble_eq_true rfl) (⟨w54TTT, h14TTT_h, h14TTT_h⟩) (fun F56 q57 => ?_)
        obtain ⟨p55TTT, r55TTT⟩ := q57
        have p55TTT : jCo L F56 t (fm (fs (fm Q.2.1 (fm P.2.2.2 P.2.2.2)) (fm P.2.1 (fm Q.2.2.2 Q.2.2.2))) (fs (fm Q.2.1 (fm P.2.2.2 P.2.2.2)) (fm P.2.1 (fm Q.2.2.2 Q.2.2.2)))) := p55TTT
        have h15TTT_px := h14TTT_px.fr (r55TTT px (jn hnd 7 [5] rfl rfl (by decide)))
        have h15TTT_py := h14TTT_py.fr (r55TTT py (jn hnd 8 [5] rfl rfl (by decide)))
        have h15TTT_qx := h14TTT_qx.fr (r55TTT qx (jn hnd 11 [5] rfl rfl (by decide)))
        have h15TTT_qy := h14TTT_qy.fr (r55TTT qy (jn hnd 12 [5] rfl rfl (by decide)))
        have h15TTT_qz := h14TTT_qz.fr (r55TTT qz (jn hnd 13 [5] rfl rfl (by decide)))
        have h15TTT_u := h14TTT_u.fr (r55TTT u (jn hnd 1 [5] rfl rfl (by decide)))
        have h15TTT_s := h14TTT_s.fr (r55TTT s (jn hnd 2 [5] rfl rfl (by decide)))
        have h15TTT_r := h14TTT_r.fr (r55TTT r (jn hnd 4 [5] rfl rfl (by decide)))
        have h15TTT_h := h14TTT_h.fr (r55TTT h (jn hnd 3 [5] rfl rfl (by decide)))
        have h15TTT_pz := p51TTT.fr (r55TTT pz (jn hnd 9 [5] rfl rfl (by decide)))
        have g15TTT_cv := g14TTT_cv.fr (r55TTT cv (jn hnd 0 [5] rfl rfl (by decide)))
        have g15TTT_p := g14TTT_p.fr (r55TTT p (jn hnd 6 [5] rfl rfl (by decide)))
        have g15TTT_q := g14TTT_q.fr (r55TTT q (jn hnd 10 [5] rfl rfl (by decide)))
        refine jr_aload_n hE dX2_plus_258 0 rfl ?_
        refine jr_get hE dX2_plus_259 f34 g15TTT_cv rfl ?_
        refine jr_aload_n hE dX2_plus_262 0 rfl ?_
        refine jr_get hE dX2_plus_263 f34 g15TTT_cv rfl ?_
        refine jr_aload_n hE dX2_plus_266 0 rfl ?_
        refine jr_get hE dX2_plus_267 f46 g15TTT_cv rfl ?_
        obtain ⟨lw58TTT, w58TTT⟩ := h15TTT_u.cell
        refine jr_kVv (ci := 1) (n := 2) (As := [.ref u, .ref t]) (rest := []) hE dX2_plus_270 (fun l => c_X1_product l G u u t (fm P.2.1 (fm Q.2.2.2 Q.2.2.2)) (fm (fs (fm Q.2.1 (fm P.2.2.2 P.2.2.2)) (fm P.2.1 (fm Q.2.2.2 Q.2.2.2))) (fs (fm Q.2.1 (fm P.2.2.2 P.2.2.2)) (fm P.2.1 (fm Q.2.2.2 Q.2.2.2)))) _) gX2_plus_X1_product rfl w58TTT rfl (by decide +kernel) ⟨rfl, rfl, by decide, by decide⟩ (by decide) rfl rfl (Nat.le_of_ble_eq_true rfl) (⟨w58TTT, h15TTT_u, p55TTT⟩) (fun F60 q61 => ?_)
        obtain ⟨p59TTT, r59TTT⟩ := q61
        have p59TTT : jCo L F60 u (fm (fm P.2.1 (fm Q.2.2.2 Q.2.2.2)) (fm (fs (fm Q.2.1 (fm P.2.2.2 P.2.2.2)) (fm P.2.1 (fm Q.2.2.2 Q.2.2.2))) (fs (fm Q.2.1 (fm P.2.2.2 P.2.2.2)) (fm P.2.1 (fm Q.2.2.2 Q.2.2.2))))) := p59TTT
        have h16TTT_px := h15TTT_px.fr (r59TTT px (jn hnd 7 [1] rfl rfl (by decide)))
        have h16TTT_py := h15TTT_py.fr (r59TTT py (jn hnd 8 [1] rfl rfl (by decide)))
        have h16TTT_qx := h15TTT_qx.fr (r59TTT qx (jn hnd 11 [1] rfl rfl (by decide)))
        have h16TTT_qy := h15TTT_qy.fr (r59TTT qy (jn hnd 12 [1] rfl rfl (by decide)))
        have h16TTT_qz := h15TTT_qz.fr (r59TTT qz (jn hnd 13 [1] rfl rfl (by decide)))
        have h16TTT_s := h15TTT_s.fr (r59TTT s (jn hnd 2 [1] rfl rfl (by decide)))
        have h16TTT_r := h15TTT_r.fr (r59TTT r (jn hnd 4 [1] rfl rfl (by decide)))
        have h16TTT_h := h15TTT_h.fr (r59TTT h (jn hnd 3 [1] rfl rfl (by decide)))
        have h16TTT_pz := h15TTT_pz.fr (r59TTT pz (jn hnd 9 [1] rfl rfl (by decide)))
        have h16TTT_t := p55TTT.fr (r59TTT t (jn hnd 5 [1] rfl rfl (by decide)))
        have g16TTT_cv := g15TTT_cv.fr (r59TTT cv (jn hnd 0 [1] rfl rfl (by decide)))
        have g16TTT_p := g15TTT_p.fr (r59TTT p (jn hnd 6 [1] rfl rfl (by decide)))
        have g16TTT_q := g15TTT_q.fr (r59TTT q (jn hnd 10 [1] rfl rfl (by decide)))
        refine jr_aload_n hE dX2_plus_273 0 rfl ?_
        refine jr_get hE dX2_plus_274 f40 g16TTT_cv rfl ?_
        refine jr_aload_n hE dX2_plus_277 0 rfl ?_
        refine jr_get hE dX2_plus_278 f40 g16TTT_cv rfl ?_
        refine jr_aload_n hE dX2_plus_281 0 rfl ?_
        refine jr_get hE dX2_plus_282 f46 g16TTT_cv rfl ?_
        obtain ⟨lw62TTT, w62TTT⟩ := h16TTT_h.cell
        refine jr_kVv (ci := 1) (n := 2) (As := [.ref h, .ref t]) (rest := []) hE dX2_plus_285 (fun l => c_X1_product l G h h t (fs (fm Q.2.1 (fm P.2.2.2 P.2.2.2)) (fm P.2.1 (fm Q.2.2.2 Q.2.2.2))) (fm (fs (fm Q.2.1 (fm P.2.2.2 P.2.2.2)) (fm P.2.1 (fm Q.2.2.2 Q.2.2.2))) (fs (fm Q.2.1 (fm P.2.2.2 P.2.2.2)) (fm P.2.1 (fm Q.2.2.2 Q.2.2.2)))) _) gX2_plus_X1_product rfl w62TTT rfl (by decide +kernel) ⟨rfl, rfl, by decide, by decide⟩ (by decide) rfl rfl (Nat.le_of_ble_eq_true rfl) (⟨w62TTT, h16TTT_h, h16TTT_t⟩) (fun F64 q65 => ?_)
        obtain ⟨p63TTT, r63TTT⟩ := q65
        have p63TTT : jCo L F64 h (fm (fs (fm Q.2.1 (fm P.2.2.2 P.2.2.2)) (fm P.2.1 (fm Q.2.2.2 Q.2.2.2))) (fm (fs (fm Q.2.1 (fm P.2.2.2 P.2.2.2)) (fm P.2.1 (fm Q.2.2.2 Q.2.2.2))) (fs (fm Q.2.1 (fm P.2.2.2 P.2.2.2)) (fm P.2.1 (fm Q.2.2.2 Q.2.2.2))))) := p63TTT
        have h17TTT_px := h16TTT_px.fr (r63TTT px (jn hnd 7 [3] rfl rfl (by decide)))
        have h17TTT_py := h16TTT_py.fr (r63TTT py (jn hnd 8 [3] rfl rfl (by decide)))
        have h17TTT_qx := h16TTT_qx.fr (r63TTT qx (jn hnd 11 [3] rfl rfl (by decide)))
        have h17TTT_qy := h16TTT_qy.fr (r63TTT qy (jn hnd 12 [3] rfl rfl (by decide)))
        have h17TTT_qz := h16TTT_qz.fr (r63TTT qz (jn hnd 13 [3] rfl rfl (by decide)))
        have h17TTT_s := h16TTT_s.fr (r63TTT s (jn hnd 2 [3] rfl rfl (by decide)))
        have h17TTT_r := h16TTT_r.fr (r63TTT r (jn hnd 4 [3] rfl rfl (by decide)))
        have h17TTT_pz := h16TTT_pz.fr (r63TTT pz (jn hnd 9 [3] rfl rfl (by decide)))
        have h17TTT_t := h16TTT_t.fr (r63TTT t (jn hnd 5 [3] rfl rfl (by decide)))
        have h17TTT_u := p59TTT.fr (r63TTT u (jn hnd 1 [3] rfl rfl (by decide)))
        have g17TTT_cv := g16TTT_cv.fr (r63TTT cv (jn hnd 0 [3] rfl rfl (by decide)))
        have g17TTT_p := g16TTT_p.fr (r63TTT p (jn hnd 6 [3] rfl rfl (by decide)))
        have g17TTT_q := g16TTT_q.fr (r63TTT q (jn hnd 10 [3] rfl rfl (by decide)))
        refine jr_aload_n hE dX2_plus_288 1 rfl ?_
        refine jr_get hE dX2_plus_289 f53 g17TTT_p rfl ?_
        refine jr_aload_n hE dX2_plus_292 0 rfl ?_
        refine jr_get hE dX2_plus_293 f43 g17TTT_cv rfl ?_
        refine jr_aload_n hE dX2_plus_296 0 rfl ?_
        refine jr_get hE dX2_plus_297 f43 g17TTT_cv rfl ?_
        obtain ⟨lw66TTT, w66TTT⟩ := h17TTT_px.cell
        refine jr_kVv (ci := 1) (n := 2) (As := [.ref r, .ref r]) (rest := []) hE dX2_plus_300 (fun l => c_X1_product l G px r r (fs (fm (fm Q.2.2.1 (fm P.2.2.2 P.2.2.2)) P.2.2.2) (fm (fm P.2.2.1 (fm Q.2.2.2 Q.2.2.2)) Q.2.2.2)) (fs (fm (fm Q.2.2.1 (fm P.2.2.2 P.2.2.2)) P.2.2.2) (fm (fm P.2.2.1 (fm Q.2.2.2 Q.2.2.2)) Q.2.2.2)) _) gX2_plus_X1_product rfl w66TTT rfl (by decide +kernel) ⟨rfl, rfl, by decide, by decide⟩ (by decide) rfl rfl (Nat.le_of_ble_eq_true rfl) (⟨w66TTT, h17TTT_r, h17TTT_r⟩) (fun F68 q69 => ?_)
        obtain ⟨p67TTT, r67TTT⟩ := q69
        have p67TTT : jCo L F68 px (fm (fs (fm (fm Q.2.2.1 (fm P.2.2.2 P.2.2.2)) P.2.2.2) (fm (fm P.2.2.1 (fm Q.2.2.2 Q.2.2.2)) Q.2.2.2)) (fs (fm (fm Q.2.2.1 (fm P.2.2.2 P.2.2.2)) P.2.2.2) (fm (fm P.2.2.1 (fm Q.2.2.2 Q.2.2.2)) Q.2.2.2))) := p67TTT
        have h18TTT_py := h17TTT_py.fr (r67TTT py (jn hnd 8 [7] rfl rfl (by decide)))
        have h18TTT_qx := h17TTT_qx.fr (r67TTT qx (jn hnd 11 [7] rfl rfl (by decide)))
        have h18TTT_qy := h17TTT_qy.fr (r67TTT qy (jn hnd 12 [7] rfl rfl (by decide)))
        have h18TTT_qz := h17TTT_qz.fr (r67TTT qz (jn hnd 13 [7] rfl rfl (by decide)))
        have h18TTT_s := h17TTT_s.fr (r67TTT s (jn hnd 2 [7] rfl rfl (by decide)))
        have h18TTT_r := h17TTT_r.fr (r67TTT r (jn hnd 4 [7] rfl rfl (by decide)))
        have h18TTT_pz := h17TTT_pz.fr (r67TTT pz (jn hnd 9 [7] rfl rfl (by decide)))
        have h18TTT_t := h17TTT_t.fr (r67TTT t (jn hnd 5 [7] rfl rfl (by decide)))
        have h18TTT_u := h17TTT_u.fr (r67TTT u (jn hnd 1 [7] rfl rfl (by decide)))
        have h18TTT_h := p63TTT.fr (r67TTT h (jn hnd 3 [7] rfl rfl (by decide)))
        have g18TTT_cv := g17TTT_cv.fr (r67TTT cv (jn hnd 0 [7] rfl rfl (by decide)))
        have g18TTT_p := g17TTT_p.fr (r67TTT p (jn hnd 6 [7] rfl rfl (by decide)))
        have g18TTT_q := g17TTT_q.fr (r67TTT q (jn hnd 10 [7] rfl rfl (by decide)))
        refine jr_aload_n hE dX2_plus_303 1 rfl ?_
        refine jr_get hE dX2_plus_304 f53 g18TTT_p rfl ?_
        refine jr_aload_n hE dX2_plus_307 1 rfl ?_
        refine jr_get hE dX2_plus_308 f53 g18TTT_p rfl ?_
        refine jr_aload_n hE dX2_plus_311 0 rfl ?_
        refine jr_get hE dX2_plus_312 f40 g18TTT_cv rfl ?_
        obtain ⟨lw70TTT, w70TTT⟩ := p67TTT.cell
        refine jr_kVv (ci := 1) (n := 2) (As := [.ref px, .ref h]) (rest := []) hE dX2_plus_315 (fun l => c_X1_difference_s l G px h (fm (fs (fm (fm Q.2.2.1 (fm P.2.2.2 P.2.2.2)) P.2.2.2) (fm (fm P.2.2.1 (fm Q.2.2.2 Q.2.2.2)) Q.2.2.2)) (fs (fm (fm Q.2.2.1 (fm P.2.2.2 P.2.2.2)) P.2.2.2) (fm (fm P.2.2.1 (fm Q.2.2.2 Q.2.2.2)) Q.2.2.2))) (fm (fs (fm Q.2.1 (fm P.2.2.2 P.2.2.2)) (fm P.2.1 (fm Q.2.2.2 Q.2.2.2))) (fm (fs (fm Q.2.1 (fm P.2.2.2 P.2.2.2)) (fm P.2.1 (fm Q.2.2.2 Q.2.2.2))) (fs (fm Q.2.1 (fm P.2.2.2 P.2.2.2)) (fm P.2.1 (fm Q.2.2.2 Q.2.2.2)))))) gX2_plus_X1_difference rfl w70TTT rfl (by decide +kernel) ⟨rfl, rfl, by decide, by decide⟩ (by decide) rfl rfl (Nat.le_of_ble_eq_true rfl) (⟨p67TTT, h18TTT_h, jnd hnd [7, 3] rfl (by decide)⟩) (fun F72 q73 => ?_)
        obtain ⟨p71TTT, r71TTT⟩ := q73
        have p71TTT : jCo L F72 px (fs (fm (fs (fm (fm Q.2.2.1 (fm P.2.2.2 P.2.2.2)) P.2.2.2) (fm (fm P.2.2.1 (fm Q.2.2.2 Q.2.2.2)) Q.2.2.2)) (fs (fm (fm Q.2.2.1 (fm P.2.2.2 P.2.2.2)) P.2.2.2) (fm (fm P.2.2.1 (fm Q.2.2.2 Q.2.2.2)) Q.2.2.2))) (fm (fs (fm Q.2.1 (fm P.2.2.2 P.2.2.2)) (fm P.2.1 (fm Q.2.2.2 Q.2.2.2))) (fm (fs (fm Q.2.1 (fm P.2.2.2 P.2.2.2)) (fm P.2.1 (fm Q.2.2.2 Q.2.2.2))) (fs (fm Q.2.1 (fm P.2.2.2 P.2.2.2)) (fm P.2.1 (fm Q.2.2.2 Q.2.2.2)))))) := p71TTT
        have h19TTT_py := h18TTT_py.fr (r71TTT py (jn hnd 8 [7] rfl rfl (by decide)))
        have h19TTT_qx := h18TTT_qx.fr (r71TTT qx (jn hnd 11 [7] rfl rfl (by decide)))
        have h19TTT_qy := h18TTT_qy.fr (r71TTT qy (jn hnd 12 [7] rfl rfl (by decide)))
        have h19TTT_qz := h18TTT_qz.fr (r71TTT qz (jn hnd 13 [7] rfl rfl (by decide)))
        have h19TTT_s := h18TTT_s.fr (r71TTT s (jn hnd 2 [7] rfl rfl (by decide)))
        have h19TTT_r := h18TTT_r.fr (r71TTT r (jn hnd 4 [7] rfl rfl (by decide)))
        have h19TTT_pz := h18TTT_pz.fr (r71TTT pz (jn hnd 9 [7] rfl rfl (by decide)))
        have h19TTT_t := h18TTT_t.fr (r71TTT t (jn hnd 5 [7] rfl rfl (by decide)))
        have h19TTT_u := h18TTT_u.fr (r71TTT u (jn hnd 1 [7] rfl rfl (by decide)))
        have h19TTT_h := h18TTT_h.fr (r71TTT h (jn hnd 3 [7] rfl rfl (by decide)))
        have g19TTT_cv := g18TTT_cv.fr (r71TTT cv (jn hnd 0 [7] rfl rfl (by decide)))
        have g19TTT_p := g18TTT_p.fr (r71TTT p (jn hnd 6 [7] rfl rfl (by decide)))
        have g19TTT_q := g18TTT_q.fr (r71TTT q (jn hnd 10 [7] rfl rfl (by decide)))
        refine jr_aload_n hE dX2_plus_318 1 rfl ?_
        refine jr_get hE dX2_plus_319 f53 g19TTT_p rfl ?_
        refine jr_aload_n hE dX2_plus_322 1 rfl ?_
        refine jr_get hE dX2_plus_323 f53 g19TTT_p rfl ?_
        refine jr_aload_n hE dX2_plus_326 0 rfl ?_
        refine jr_get hE dX2_plus_327 f34 g19TTT_cv rfl ?_
        obtain ⟨lw74TTT, w74TTT⟩ := p71TTT.cell
        refine jr_kVv (ci := 1) (n := 2) (As := [.ref px, .ref u]) (rest := []) hE dX2_plus_330 (fun l => c_X1_difference_s l G px u (fs (fm (fs (fm (fm Q.2.2.1 (fm P.2.2.2 P.2.2.2)) P.2.2.2) (fm (fm P.2.2.1 (fm Q.2.2.2 Q.2.2.2)) Q.2.2.2)) (fs (fm (fm Q.2.2.1 (fm P.2.2.2 P.2.2.2)) P.2.2.2) (fm (fm P.2.2.1 (fm Q.2.2.2 Q.2.2.2)) Q.2.2.2))) (fm (fs (fm Q.2.1 (fm P.2.2.2 P.2.2.2)) (fm P.2.1 (fm Q.2.2.2 Q.2.2.2))) (fm (fs (fm Q.2.1 (fm P.2.2.2 P.2.2.2)) (fm P.2.1 (fm Q.2.2.2 Q.2.2.2))) (fs (fm Q.2.1 (fm P.2.2.2 P.2.2.2)) (fm P.2.1 (fm Q.2.2.2 Q.2.2.2)))))) (fm (fm P.2.1 (fm Q.2.2.2 Q.2.2.2)) (fm (fs (fm Q.2.1 (fm P.2.2.2 P.2.2.2)) (fm P.2.1 (fm Q.2.2.2 Q.2.2.2))) (fs (fm Q.2.1 (fm P.2.2.2 P.2.2.2)) (fm P.2.1 (fm Q.2.2.2 Q.2.2.2)))))) gX2_plus_X1_difference rfl w74TTT rfl (by decide +kernel) ⟨rfl, rfl, by decide, by decide⟩ (by decide) rfl rfl (Nat.le_of_ble_eq_true rfl) (⟨p71TTT, h19TTT_u, jnd hnd [7, 1] rfl (by decide)⟩) (fun F76 q77 => ?_)
        obtain ⟨p75TTT, r75TTT⟩ := q77
        have p75TTT : jCo L F76 px (fs (fs (fm (fs (fm (fm Q.2.2.1 (fm P.2.2.2 P.2.2.2)) P.2.2.2) (fm (fm P.2.2.1 (fm Q.2.2.2 Q.2.2.2)) Q.2.2.2)) (fs (fm (fm Q.2.2.1 (fm P.2.2.2 P.2.2.2)) P.2.2.2) (fm (fm P.2.2.1 (fm Q.2.2.2 Q.2.2.2)) Q.2.2.2))) (fm (fs (fm Q.2.1 (fm P.2.2.2 P.2.2.2)) (fm P.2.1 (fm Q.2.2.2 Q.2.2.2))) (fm (fs (fm Q.2.1 (fm P.2.2.2 P.2.2.2)) (fm P.2.1 (fm Q.2.2.2 Q.2.2.2))) (fs (fm Q.2.1 (fm P.2.2.2 P.2.2.2)) (fm P.2.1 (fm Q.2.2.2 Q.2.2.2)))))) (fm (fm P.2.1 (fm Q.2.2.2 Q.2.2.2)) (fm (fs (fm Q.2.1 (fm P.2.2.2 P.2.2.2)) (fm P.2.1 (fm Q.2.2.2 Q.2.2.2))) (fs (fm Q.2.1 (fm P.2.2.2 P.2.2.2)) (fm P.2.1 (fm Q.2.2.2 Q.2.2.2)))))) := p75TTT
        have h20TTT_py := h19TTT_py.fr (r75TTT py (jn hnd 8 [7] rfl rfl (by decide)))
        have h20TTT_qx := h19TTT_qx.fr (r75TTT qx (jn hnd 11 [7] rfl rfl (by decide)))
        have h20TTT_qy := h19TTT_qy.fr (r75TTT qy (jn hnd 12 [7] rfl rfl (by decide)))
        have h20TTT_qz := h19TTT_qz.fr (r75TTT qz (jn hnd 13 [7] rfl rfl (by decide)))
        have h20TTT_s := h19TTT_s.fr (r75TTT s (jn hnd 2 [7] rfl rfl (by decide)))
        have h20TTT_r := h19TTT_r.fr (r75TTT r (jn hnd 4 [7] rfl rfl (by decide)))
        have h20TTT_pz := h19TTT_pz.fr (r75TTT pz (jn hnd 9 [7] rfl rfl (by decide)))
        have h20TTT_t := h19TTT_t.fr (r75TTT t (jn hnd 5 [7] rfl rfl (by decide)))
        have h20TTT_u := h19TTT_u.fr (r75TTT u (jn hnd 1 [7] rfl rfl (by decide)))
        have h20TTT_h := h19TTT_h.fr (r75TTT h (jn hnd 3 [7] rfl rfl (by decide)))
        have g20TTT_cv := g19TTT_cv.fr (r75TTT cv (jn hnd 0 [7] rfl rfl (by decide)))
        have g20TTT_p := g19TTT_p.fr (r75TTT p (jn hnd 6 [7] rfl rfl (by decide)))
        have g20TTT_q := g19TTT_q.fr (r75TTT q (jn hnd 10 [7] rfl rfl (by decide)))
        refine jr_aload_n hE dX2_plus_333 1 rfl ?_
        refine jr_get hE dX2_plus_334 f53 g20TTT_p rfl ?_
        refine jr_aload_n hE dX2_plus_337 1 rfl ?_
        refine jr_get hE dX2_plus_338 f53 g20TTT_p rfl ?_
        refine jr_aload_n hE dX2_plus_341 0 rfl ?_
        refine jr_get hE dX2_plus_342 f34 g20TTT_cv rfl ?_
        obtain ⟨lw78TTT, w78TTT⟩ := p75TTT.cell
        refine jr_kVv (ci := 1) (n := 2) (As := [.ref px, .ref u]) (rest := []) hE dX2_plus_345 (fun l => c_X1_difference_s l G px u (fs (fs (fm (fs (fm (fm Q.2.2.1 (fm P.2.2.2 P.2.2.2)) P.2.2.2) (fm (fm P.2.2.1 (fm Q.2.2.2 Q.2.2.2)) Q.2.2.2)) (fs (fm (fm Q.2.2.1 (fm P.2.2.2 P.2.2.2)) P.2.2.2) (fm (fm P.2.2.1 (fm Q.2.2.2 Q.2.2.2)) Q.2.2.2))) (fm (fs (fm Q.2.1 (fm P.2.2.2 P.2.2.2)) (fm P.2.1 (fm Q.2.2.2 Q.2.2.2))) (fm (fs (fm Q.2.1 (fm P.2.2.2 P.2.2.2)) (fm P.2.1 (fm Q.2.2.2 Q.2.2.2))) (fs (fm Q.2.1 (fm P.2.2.2 P.2.2.2)) (fm P.2.1 (fm Q.2.2.2 Q.2.2.2)))))) (fm (fm P.2.1 (fm Q.2.2.2 Q.2.2.2)) (fm (fs (fm Q.2.1 (fm P.2.2.2 P.2.2.2)) (fm P.2.1 (fm Q.2.2.2 Q.2.2.2))) (fs (fm Q.2.1 (fm P.2.2.2 P.2.2.2)) (fm P.2.1 (fm Q.2.2.2 Q.2.2.2)))))) (fm (fm P.2.1 (fm Q.2.2.2 Q.2.2.2)) (fm (fs (fm Q.2.1 (fm P.2.2.2 P.2.2.2)) (fm P.2.1 (fm Q.2.2.2 Q.2.2.2))) (fs (fm Q.2.1 (fm P.2.2.2 P.2.2.2)) (fm P.2.1 (fm Q.2.2.2 Q.2.2.2)))))) gX2_plus_X1_difference rfl w78TTT rfl (by decide +kernel) ⟨rfl, rfl, by decide, by decide⟩ (by decide) rfl rfl (Nat.le_of_ble_eq_true rfl) (⟨p75TTT, h20TTT_u, jnd hnd [7, 1] rfl (by decide)⟩) (fun F80 q81 => ?_)
        obtain ⟨p79TTT, r79TTT⟩ := q81
        have p79TTT : jCo L F80 px (fs (fs (fs (fm (fs (fm (fm Q.2.2.1 (fm P.2.2.2 P.2.2.2)) P.2.2.2) (fm (fm P.2.2.1 (fm Q.2.2.2 Q.2.2.2)) Q.2.2.2)) (fs (fm (fm Q.2.2.1 (fm P.2.2.2 P.2.2.2)) P.2.2.2) (fm (fm P.2.2.1 (fm Q.2.2.2 Q.2.2.2)) Q.2.2.2))) (fm (fs (fm Q.2.1 (fm P.2.2.2 P.2.2.2)) (fm P.2.1 (fm Q.2.2.2 Q.2.2.2))) (fm (fs (fm Q.2.1 (fm P.2.2.2 P.2.2.2)) (fm P.2.1 (fm Q.2.2.2 Q.2.2.2))) (fs (fm Q.2.1 (fm P.2.2.2 P.2.2.2)) (fm P.2.1 (fm Q.2.2.2 Q.2.2.2)))))) (fm (fm P.2.1 (fm Q.2.2.2 Q.2.2.2)) (fm (fs (fm Q.2.1 (fm P.2.2.2 P.2.2.2)) (fm P.2.1 (fm Q.2.2.2 Q.2.2.2))) (fs (fm Q.2.1 (fm P.2.2.2 P.2.2.2)) (fm P.2.1 (fm Q.2.2.2 Q.2.2.2)))))) (fm (fm P.2.1 (fm Q.2.2.2 Q.2.2.2)) (fm (fs (fm Q.2.1 (fm P.2.2.2 P.2.2.2)) (fm P.2.1 (fm Q.2.2.2 Q.2.2.2))) (fs (fm Q.2.1 (fm P.2.2.2 P.2.2.2)) (fm P.2.1 (fm Q.2.2.2 Q.2.2.2)))))) := p79TTT
        have h21TTT_py := h20TTT_py.fr (r79TTT py (jn hnd 8 [7] rfl rfl (by decide)))
        have h21TTT_qx := h20TTT_qx.fr (r79TTT qx (jn hnd 11 [7] rfl rfl (by decide)))
        have h21TTT_qy := h20TTT_qy.fr (r79TTT qy (jn hnd 12 [7] rfl rfl (by decide)))
        have h21TTT_qz := h20TTT_qz.fr (r79TTT qz (jn hnd 13 [7] rfl rfl (by decide)))
        have h21TTT_s := h20TTT_s.fr (r79TTT s (jn hnd 2 [7] rfl rfl (by decide)))
        have h21TTT_r := h20TTT_r.fr (r79TTT r (jn hnd 4 [7] rfl rfl (by decide)))
        have h21TTT_pz := h20TTT_pz.fr (r79TTT pz (jn hnd 9 [7] rfl rfl (by decide)))
        have h21TTT_t := h20TTT_t.fr (r79TTT t (jn hnd 5 [7] rfl rfl (by decide)))
        have h21TTT_u := h20TTT_u.fr (r79TTT u (jn hnd 1 [7] rfl rfl (by decide)))
        have h21TTT_h := h20TTT_h.fr (r79TTT h (jn hnd 3 [7] rfl rfl (by decide)))
        have g21TTT_cv := g20TTT_cv.fr (r79TTT cv (jn hnd 0 [7] rfl rfl (by decide)))
        have g21TTT_p := g20TTT_p.fr (r79TTT p (jn hnd 6 [7] rfl rfl (by decide)))
        have g21TTT_q := g20TTT_q.fr (r79TTT q (jn hnd 10 [7] rfl rfl (by decide)))
        refine jr_aload_n hE dX2_plus_348 0 rfl ?_
        refine jr_get hE dX2_plus_349 f34 g21TTT_cv rfl ?_
        refine jr_aload_n hE dX2_plus_352 0 rfl ?_
        refine jr_get hE dX2_plus_353 f34 g21TTT_cv rfl ?_
        refine jr_aload_n hE dX2_plus_356 1 rfl ?_
        refine jr_get hE dX2_plus_357 f53 g21TTT_p rfl ?_
        obtain ⟨lw82TTT, w82TTT⟩ := h21TTT_u.cell
        refine jr_kVv (ci := 1) (n := 2) (As := [.ref u, .ref px]) (rest := []) hE dX2_plus_360 (fun l => c_X1_difference_s l G u px (fm (fm P.2.1 (fm Q.2.2.2 Q.2.2.2)) (fm (fs (fm Q.2.1 (fm P.2.2.2 P.2.2.2)) (fm P.2.1 (fm Q.2.2.2 Q.2.2.2))) (fs (fm Q.2.1 (fm P.2.2.2 P.2.2.2)) (fm P.2.1 (fm Q.2.2.2 Q.2.2.2))))) (fs (fs (fs (fm (fs (fm (fm Q.2.2.1 (fm P.2.2.2 P.2.2.2)) P.2.2.2) (fm (fm P.2.2.1 (fm Q.2.2.2 Q.2.2.2)) Q.2.2.2)) (fs (fm (fm Q.2.2.1 (fm P.2.2.2 P.2.2.2)) P.2.2.2) (fm (fm P.2.2.1 (fm Q.2.2.2 Q.2.2.2)) Q.2.2.2))) (fm (fs (fm Q.2.1 (fm P.2.2.2 P.2.2.2)) (fm P.2.1 (fm Q.2.2.2 Q.2.2.2))) (fm (fs (fm Q.2.1 (fm P.2.2.2 P.2.2.2)) (fm P.2.1 (fm Q.2.2.2 Q.2.2.2))) (fs (fm Q.2.1 (fm P.2.2.2 P.2.2.2)) (fm P.2.1 (fm Q.2.2.2 Q.2.2.2)))))) (fm (fm P.2.1 (fm Q.2.2.2 Q.2.2.2)) (fm (fs (fm Q.2.1 (fm P.2.2.2 P.2.2.2)) (fm P.2.1 (fm Q.2.2.2 Q.2.2.2))) (fs (fm Q.2.1 (fm P.2.2.2 P.2.2.2)) (fm P.2.1 (fm Q.2.2.2 Q.2.2.2)))))) (fm (fm P.2.1 (fm Q.2.2.2 Q.2.2.2)) (fm (fs (fm Q.2.1 (fm P.2.2.2 P.2.2.2)) (fm P.2.1 (fm Q.2.2.2 Q.2.2.2))) (fs (fm Q.2.1 (fm P.2.2.2 P.2.2.2)) (fm P.2.1 (fm Q.2.2.2 Q.2.2.2))))))) gX2_plus_X1_difference rfl w82TTT rfl (by decide +kernel) ⟨rfl, rfl, by decide, by decide⟩ (by decide) rfl rfl (Nat.le_of_ble_eq_true rfl) (⟨h21TTT_u, p79TTT, jnd hnd [1, 7] rfl (by decide)⟩) (fun F84 q85 => ?_)
        obtain ⟨p83TTT, r83TTT⟩ := q85
        have p83TTT : jCo L F84 u (fs (fm (fm P.2.1 (fm Q.2.2.2 Q.2.2.2)) (fm (fs (fm Q.2.1 (fm P.2.2.2 P.2.2.2)) (fm P.2.1 (fm Q.2.2.2 Q.2.2.2))) (fs (fm Q.2.1 (fm P.2.2.2 P.2.2.2)) (fm P.2.1 (fm Q.2.2.2 Q.2.2.2))))) (fs (fs (fs (fm (fs (fm (fm Q.2.2.1 (fm P.2.2.2 P.2.2.2)) P.2.2.2) (fm (fm P.2.2.1 (fm Q.2.2.2 Q.2.2.2)) Q.2.2.2)) (fs (fm (fm Q.2.2.1 (fm P.2.2.2 P.2.2.2)) P.2.2.2) (fm (fm P.2.2.1 (fm Q.2.2.2 Q.2.2.2)) Q.2.2.2))) (fm (fs (fm Q.2.1 (fm P.2.2.2 P.2.2.2)) (fm P.2.1 (fm Q.2.2.2 Q.2.2.2))) (fm (fs (fm Q.2.1 (fm P.2.2.2 P.2.2.2)) (fm P.2.1 (fm Q.2.2.2 Q.2.2.2))) (fs (fm Q.2.1 (fm P.2.2.2 P.2.2.2)) (fm P.2.1 (fm Q.2.2.2 Q.2.2.2)))))) (fm (fm P.2.1 (fm Q.2.2.2 Q.2.2.2)) (fm (fs (fm Q.2.1 (fm P.2.2.2 P.2.2.2)) (fm P.2.1 (fm Q.2.2.2 Q.2.2.2))) (fs (fm Q.2.1 (fm P.2.2.2 P.2.2.2)) (fm P.2.1 (fm Q.2.2.2 Q.2.2.2)))))) (fm (fm P.2.1 (fm Q.2.2.2 Q.2.2.2)) (fm (fs (fm Q.2.1 (fm P.2.2.2 P.2.2.2)) (fm P.2.1 (fm Q.2.2.2 Q.2.2.2))) (fs (fm Q.2.1 (fm P.2.2.2 P.2.2.2)) (fm P.2.1 (fm Q.2.2.2 Q.2.2.2))))))) := p83TTT
        have h22TTT_py := h21TTT_py.fr (r83TTT py (jn hnd 8 [1] rfl rfl (by decide)))
        have h22TTT_qx := h21TTT_qx.fr (r83TTT qx (jn hnd 11 [1] rfl rfl (by decide)))
        have h22TTT_qy := h21TTT_qy.fr (r83TTT qy (jn hnd 12 [1] rfl rfl (by decide)))
        have h22TTT_qz := h21TTT_qz.fr (r83TTT qz (jn hnd 13 [1] rfl rfl (by decide)))
        have h22TTT_s := h21TTT_s.fr (r83TTT s (jn hnd 2 [1] rfl rfl (by decide)))
        have h22TTT_r := h21TTT_r.fr (r83TTT r (jn hnd 4 [1] rfl rfl (by decide)))
        have h22TTT_pz := h21TTT_pz.fr (r83TTT pz (jn hnd 9 [1] rfl rfl (by decide)))
        have h22TTT_t := h21TTT_t.fr (r83TTT t (jn hnd 5 [1] rfl rfl (by decide)))
        have h22TTT_h := h21TTT_h.fr (r83TTT h (jn hnd 3 [1] rfl rfl (by decide)))
        have h22TTT_px := p79TTT.fr (r83TTT px (jn hnd 7 [1] rfl rfl (by decide)))
        have g22TTT_cv := g21TTT_cv.fr (r83TTT cv (jn hnd 0 [1] rfl rfl (by decide)))
        have g22TTT_p := g21TTT_p.fr (r83TTT p (jn hnd 6 [1] rfl rfl (by decide)))
        have g22TTT_q := g21TTT_q.fr (r83TTT q (jn hnd 10 [1] rfl rfl (by decide)))
        refine jr_aload_n hE dX2_plus_363 0 rfl ?_
        refine jr_get hE dX2_plus_364 f34 g22TTT_cv rfl ?_
        refine jr_aload_n hE dX2_plus_367 0 rfl ?_
        refine jr_get hE dX2_plus_368 f34 g22TTT_cv rfl ?_
        refine jr_aload_n hE dX2_plus_371 0 rfl ?_
        refine jr_get hE dX2_plus_372 f43 g22TTT_cv rfl ?_
        obtain ⟨lw86TTT, w86TTT⟩ := p83TTT.cell
        refine jr_kVv (ci := 1) (n := 2) (As := [.ref u, .ref r]) (rest := []) hE dX2_plus_375 (fun l => c_X1_product l G u u r (fs (fm (fm P.2.1 (fm Q.2.2.2 Q.2.2.2)) (fm (fs (fm Q.2.1 (fm P.2.2.2 P.2.2.2)) (fm P.2.1 (fm Q.2.2.2 Q.2.2.2))) (fs (fm Q.2.1 (fm P.2.2.2 P.2.2.2)) (fm P.2.1 (fm Q.2.2.2 Q.2.2.2))))) (fs (fs (fs (fm (fs (fm (fm Q.2.2.1 (fm P.2.2.2 P.2.2.2)) P.2.2.2) (fm (fm P.2.2.1 (fm Q.2.2.2 Q.2.2.2)) Q.2.2.2)) (fs (fm (fm Q.2.2.1 (fm P.2.2.2 P.2.2.2)) P.2.2.2) (fm (fm P.2.2.1 (fm Q.2.2.2 Q.2.2.2)) Q.2.2.2))) (fm (fs (fm Q.2.1 (fm P.2.2.2 P.2.2.2)) (fm P.2.1 (fm Q.2.2.2 Q.2.2.2))) (fm (fs (fm Q.2.1 (fm P.2.2.2 P.2.2.2)) (fm P.2.1 (fm Q.2.2.2 Q.2.2.2))) (fs (fm Q.2.1 (fm P.2.2.2 P.2.2.2)) (fm P.2.1 (fm Q.2.2.2 Q.2.2.2)))))) (fm (fm P.2.1 (fm Q.2.2.2 Q.2.2.2)) (fm (fs (fm Q.2.1 (fm P.2.2.2 P.2.2.2)) (fm P.2.1 (fm Q.2.2.2 Q.2.2.2))) (fs (fm Q.2.1 (fm P.2.2.2 P.2.2.2)) (fm P.2.1 (fm Q.2.2.2 Q.2.2.2)))))) (fm (fm P.2.1 (fm Q.2.2.2 Q.2.2.2)) (fm (fs (fm Q.2.1 (fm P.2.2.2 P.2.2.2)) (fm P.2.1 (fm Q.2.2.2 Q.2.2.2))) (fs (fm Q.2.1 (fm P.2.2.2 P.2.2.2)) (fm P.2.1 (fm Q.2.2.2 Q.2.2.2))))))) (fs (fm (fm Q.2.2.1 (fm P.2.2.2 P.2.2.2)) P.2.2.2) (fm (fm P.2.2.1 (fm Q.2.2.2 Q.2.2.2)) Q.2.2.2)) _) gX2_plus_X1_product rfl w86TTT rfl (by decide +kernel) ⟨rfl, rfl, by decide, by decide⟩ (by decide) rfl rfl (Nat.le_of_ble_eq_true rfl) (⟨w86TTT, p83TTT, h22TTT_r⟩) (fun F88 q89 => ?_)
        obtain ⟨p87TTT, r87TTT⟩ := q89
        have p87TTT : jCo L F88 u (fm (fs (fm (fm P.2.1 (fm Q.2.2.2 Q.2.2.2)) (fm (fs (fm Q.2.1 (fm P.2.2.2 P.2.2.2)) (fm P.2.1 (fm Q.2.2.2 Q.2.2.2))) (fs (fm Q.2.1 (fm P.2.2.2 P.2.2.2)) (fm P.2.1 (fm Q.2.2.2 Q.2.2.2))))) (fs (fs (fs (fm (fs (fm (fm Q.2.2.1 (fm P.2.2.2 P.2.2.2)) P.2.2.2) (fm (fm P.2.2.1 (fm Q.2.2.2 Q.2.2.2)) Q.2.2.2)) (fs (fm (fm Q.2.2.1 (fm P.2.2.2 P.2.2.2)) P.2.2.2) (fm (fm P.2.2.1 (fm Q.2.2.2 Q.2.2.2)) Q.2.2.2))) (fm (fs (fm Q.2.1 (fm P.2.2.2 P.2.2.2)) (fm P.2.1 (fm Q.2.2.2 Q.2.2.2))) (fm (fs (fm Q.2.1 (fm P.2.2.2 P.2.2.2)) (fm P.2.1 (fm Q.2.2.2 Q.2.2.2))) (fs (fm Q.2.1 (fm P.2.2.2 P.2.2.2)) (fm P.2.1 (fm Q.2.2.2 Q.2.2.2)))))) (fm (fm P.2.1 (fm Q.2.2.2 Q.2.2.2)) (fm (fs (fm Q.2.1 (fm P.2.2.2 P.2.2.2)) (fm P.2.1 (fm Q.2.2.2 Q.2.2.2))) (fs (fm Q.2.1 (fm P.2.2.2 P.2.2.2)) (fm P.2.1 (fm Q.2.2.2 Q.2.2.2)))))) (fm (fm P.2.1 (fm Q.2.2.2 Q.2.2.2)) (fm (fs (fm Q.2.1 (fm P.2.2.2 P.2.2.2)) (fm P.2.1 (fm Q.2.2.2 Q.2.2.2))) (fs (fm Q.2.1 (fm P.2.2.2 P.2.2.2)) (fm P.2.1 (fm Q.2.2.2 Q.2.2.2))))))) (fs (fm (fm Q.2.2.1 (fm P.2.2.2 P.2.2.2)) P.2.2.2) (fm (fm P.2.2.1 (fm Q.2.2.2 Q.2.2.2)) Q.2.2.2))) := p87TTT
        have h23TTT_py := h22TTT_py.fr (r87TTT py (jn hnd 8 [1] rfl rfl (by decide)))
        have h23TTT_qx := h22TTT_qx.fr (r87TTT qx (jn hnd 11 [1] rfl rfl (by decide)))
        have h23TTT_qy := h22TTT_qy.fr (r87TTT qy (jn hnd 12 [1] rfl rfl (by decide)))
        have h23TTT_qz := h22TTT_qz.fr (r87TTT qz (jn hnd 13 [1] rfl rfl (by decide)))
        have h23TTT_s := h22TTT_s.fr (r87TTT s (jn hnd 2 [1] rfl rfl (by decide)))
        have h23TTT_r := h22TTT_r.fr (r87TTT r (jn hnd 4 [1] rfl rfl (by decide)))
        have h23TTT_pz := h22TTT_pz.fr (r87TTT pz (jn hnd 9 [1] rfl rfl (by decide)))
        have h23TTT_t := h22TTT_t.fr (r87TTT t (jn hnd 5 [1] rfl rfl (by decide)))
        have h23TTT_h := h22TTT_h.fr (r87TTT h (jn hnd 3 [1] rfl rfl (by decide)))
        have h23TTT_px := h22TTT_px.fr (r87TTT px (jn hnd 7 [1] rfl rfl (by decide)))
        have g23TTT_cv := g22TTT_cv.fr (r87TTT cv (jn hnd 0 [1] rfl rfl (by decide)))
        have g23TTT_p := g22TTT_p.fr (r87TTT p (jn hnd 6 [1] rfl rfl (by decide)))
        have g23TTT_q := g22TTT_q.fr (r87TTT q (jn hnd 10 [1] rfl rfl (by decide)))
        refine jr_aload_n hE dX2_plus_378 0 rfl ?_
        refine jr_get hE dX2_plus_379 f37 g23TTT_cv rfl ?_
        refine jr_aload_n hE dX2_plus_382 0 rfl ?_
        refine jr_get hE dX2_plus_383 f37 g23TTT_cv rfl ?_
        refine jr_aload_n hE dX2_plus_386 0 rfl ?_
        refine jr_get hE dX2_plus_387 f40 g23TTT_cv rfl ?_
        obtain ⟨lw90TTT, w90TTT⟩ := h23TTT_s.cell
        refine jr_kVv (ci := 1) (n := 2) (As := [.ref s, .ref h]) (rest := []) hE dX2_plus_390 (fun l => c_X1_product l G s s h (fm (fm P.2.2.1 (fm Q.2.2.2 Q.2.2.2)) Q.2.2.2) (fm (fs (fm Q.2.1 (fm P.2.2.2 P.2.2.2)) (fm P.2.1 (fm Q.2.2.2 Q.2.2.2))) (fm (fs (fm Q.2.1 (fm P.2.2.2 P.2.2.2)) (fm P.2.1 (fm Q.2.2.2 Q.2.2.2))) (fs (fm Q.2.1 (fm P.2.2.2 P.2.2.2)) (fm P.2.1 (fm Q.2.2.2 Q.2.2.2))))) _) gX2_plus_X1_product rfl w90TTT rfl (by decide +kernel) ⟨rfl, rfl, by decide, by decide⟩ (by decide) rfl rfl (Nat.le_of_ble_eq_true rfl) (⟨w90TTT, h23TTT_s, h23TTT_h⟩) (fun F92 q93 => ?_)
        obtain ⟨p91TTT, r91TTT⟩ := q93
        have p91TTT : jCo L F92 s (fm (fm (fm P.2.2.1 (fm Q.2.2.2 Q.2.2.2)) Q.2.2.2) (fm (fs (fm Q.2.1 (fm P.2.2.2 P.2.2.2)) (fm P.2.1 (fm Q.2.2.2 Q.2.2.2))) (fm (fs (fm Q.2.1 (fm P.2.2.2 P.2.2.2)) (fm P.2.1 (fm Q.2.2.2 Q.2.2.2))) (fs (fm Q.2.1 (fm P.2.2.2 P.2.2.2)) (fm P.2.1 (fm Q.2.2.2 Q.2.2.2)))))) := p91TTT
        have h24TTT_py := h23TTT_py.fr (r91TTT py (jn hnd 8 [2] rfl rfl (by decide)))
        have h24TTT_qx := h23TTT_qx.fr (r91TTT qx (jn hnd 11 [2] rfl rfl (by decide)))
        have h24TTT_qy := h23TTT_qy.fr (r91TTT qy (jn hnd 12 [2] rfl rfl (by decide)))
        have h24TTT_qz := h23TTT_qz.fr (r91TTT qz (jn hnd 13 [2] rfl rfl (by decide)))
        have h24TTT_r := h23TTT_r.fr (r91TTT r (jn hnd 4 [2] rfl rfl (by decide)))
        have h24TTT_pz := h23TTT_pz.fr (r91TTT pz (jn hnd 9 [2] rfl rfl (by decide)))
        have h24TTT_t := h23TTT_t.fr (r91TTT t (jn hnd 5 [2] rfl rfl (by decide)))
        have h24TTT_h := h23TTT_h.fr (r91TTT h (jn hnd 3 [2] rfl rfl (by decide)))
        have h24TTT_px := h23TTT_px.fr (r91TTT px (jn hnd 7 [2] rfl rfl (by decide)))
        have h24TTT_u := p87TTT.fr (r91TTT u (jn hnd 1 [2] rfl rfl (by decide)))
        have g24TTT_cv := g23TTT_cv.fr (r91TTT cv (jn hnd 0 [2] rfl rfl (by decide)))
        have g24TTT_p := g23TTT_p.fr (r91TTT p (jn hnd 6 [2] rfl rfl (by decide)))
        have g24TTT_q := g23TTT_q.fr (r91TTT q (jn hnd 10 [2] rfl rfl (by decide)))
        refine jr_aload_n hE dX2_plus_393 1 rfl ?_
        refine jr_get hE dX2_plus_394 f64 g24TTT_p rfl ?_
        refine jr_aload_n hE dX2_plus_397 0 rfl ?_
        refine jr_get hE dX2_plus_398 f34 g24TTT_cv rfl ?_
        refine jr_aload_n hE dX2_plus_401 0 rfl ?_
        refine jr_get hE dX2_plus_402 f37 g24TTT_cv rfl ?_
        obtain ⟨lw94TTT, w94TTT⟩ := h24TTT_py.cell
        refine jr_kVv (ci := 1) (n := 2) (As := [.ref u, .ref s]) (rest := []) hE dX2_plus_405 (fun l => c_X1_difference_o l G py u s (fm (fs (fm (fm P.2.1 (fm Q.2.2.2 Q.2.2.2)) (fm (fs (fm Q.2.1 (fm P.2.2.2 P.2.2.2)) (fm P.2.1 (fm Q.2.2.2 Q.2.2.2))) (fs (fm Q.2.1 (fm P.2.2.2 P.2.2.2)) (fm P.2.1 (fm Q.2.2.2 Q.2.2.2))))) (fs (fs (fs (fm (fs (fm (fm Q.2.2.1 (fm P.2.2.2 P.2.2.2)) P.2.2.2) (fm (fm P.2.2.1 (fm Q.2.2.2 Q.2.2.2)) Q.2.2.2)) (fs (fm (fm Q.2.2.1 (fm P.2.2.2 P.2.2.2)) P.2.2.2) (fm (fm P.2.2.1 (fm Q.2.2.2 Q.2.2.2)) Q.2.2.2))) (fm (fs (fm Q.2.1 (fm P.2.2.2 P.2.2.2)) (fm P.2.1 (fm Q.2.2.2 Q.2.2.2))) (fm (fs (fm Q.2.1 (fm P.2.2.2 P.2.2.2)) (fm P.2.1 (fm Q.2.2.2 Q.2.2.2))) (fs (fm Q.2.1 (fm P.2.2.2 P.2.2.2)) (fm P.2.1 (fm Q.2.2.2 Q.2.2.2)))))) (fm (fm P.2.1 (fm Q.2.2.2 Q.2.2.2)) (fm (fs (fm Q.2.1 (fm P.2.2.2 P.2.2.2)) (fm P.2.1 (fm Q.2.2.2 Q.2.2.2))) (fs (fm Q.2.1 (fm P.2.2.2 P.2.2.2)) (fm P.2.1 (fm Q.2.2.2 Q.2.2.2)))))) (fm (fm P.2.1 (fm Q.2.2.2 Q.2.2.2)) (fm (fs (fm Q.2.1 (fm P.2.2.2 P.2.2.2)) (fm P.2.1 (fm Q.2.2.2 Q.2.2.2))) (fs (fm Q.2.1 (fm P.2.2.2 P.2.2.2)) (fm P.2.1 (fm Q.2.2.2 Q.2.2.2))))))) (fs (fm (fm Q.2.2.1 (fm P.2.2.2 P.2.2.2)) P.2.2.2) (fm (fm P.2.2.1 (fm Q.2.2.2 Q.2.2.2)) Q.2.2.2))) (fm (fm (fm P.2.2.1 (fm Q.2.2.2 Q.2.2.2)) Q.2.2.2) (fm (fs (fm Q.2.1 (fm P.2.2.2 P.2.2.2)) (fm P.2.1 (fm Q.2.2.2 Q.2.2.2))) (fm (fs (fm Q.2.1 (fm P.2.2.2 P.2.2.2)) (fm P.2.1 (fm Q.2.2.2 Q.2.2.2))) (fs (fm Q.2.1 (fm P.2.2.2 P.2.2.2)) (fm P.2.1 (fm Q.2.2.2 Q.2.2.2)))))) _) gX2_plus_X1_difference rfl w94TTT rfl (by decide +kernel) ⟨rfl, rfl, by decide, by decide⟩ (by decide) rfl rfl (Nat.le_of_ble_eq_true rfl) (⟨w94TTT, h24TTT_u, p91TTT, jnd hnd [8, 1, 2] rfl (by decide)⟩) (fun F96 q97 => ?_)
        obtain ⟨p95TTT, r95TTT⟩ := q97
        have p95TTT : jCo L F96 py (fs (fm (fs (fm (fm P.2.1 (fm Q.2.2.2 Q.2.2.2)) (fm (fs (fm Q.2.1 (fm P.2.2.2 P.2.2.2)) (fm P.2.1 (fm Q.2.2.2 Q.2.2.2))) (fs (fm Q.2.1 (fm P.2.2.2 P.2.2.2)) (fm P.2.1 (fm Q.2.2.2 Q.2.2.2))))) (fs (fs (fs (fm (fs (fm (fm Q.2.2.1 (fm P.2.2.2 P.2.2.2)) P.2.2.2) (fm (fm P.2.2.1 (fm Q.2.2.2 Q.2.2.2)) Q.2.2.2)) (fs (fm (fm Q.2.2.1 (fm P.2.2.2 P.2.2.2)) P.2.2.2) (fm (fm P.2.2.1 (fm Q.2.2.2 Q.2.2.2)) Q.2.2.2))) (fm (fs (fm Q.2.1 (fm P.2.2.2 P.2.2.2)) (fm P.2.1 (fm Q.2.2.2 Q.2.2.2))) (fm (fs (fm Q.2.1 (fm P.2.2.2 P.2.2.2)) (fm P.2.1 (fm Q.2.2.2 Q.2.2.2))) (fs (fm Q.2.1 (fm P.2.2.2 P.2.2.2)) (fm P.2.1 (fm Q.2.2.2 Q.2.2.2)))))) (fm (fm P.2.1 (fm Q.2.2.2 Q.2.2.2)) (fm (fs (fm Q.2.1 (fm P.2.2.2 P.2.2.2)) (fm P.2.1 (fm Q.2.2.2 Q.2.2.2))) (fs (fm Q.2.1 (fm P.2.2.2 P.2.2.2)) (fm P.2.1 (fm Q.2.2.2 Q.2.2.2)))))) (fm (fm P.2.1 (fm Q.2.2.2 Q.2.2.2)) (fm (fs (fm Q.2.1 (fm P.2.2.2 P.2.2.2)) (fm P.2.1 (fm Q.2.2.2 Q.2.2.2))) (fs (fm Q.2.1 (fm P.2.2.2 P.2.2.2)) (fm P.2.1 (fm Q.2.2.2 Q.2.2.2))))))) (fs (fm (fm Q.2.2.1 (fm P.2.2.2 P.2.2.2)) P.2.2.2) (fm (fm P.2.2.1 (fm Q.2.2.2 Q.2.2.2)) Q.2.2.2))) (fm (fm (fm P.2.2.1 (fm Q.2.2.2 Q.2.2.2)) Q.2.2.2) (fm (fs (fm Q.2.1 (fm P.2.2.2 P.2.2.2)) (fm P.2.1 (fm Q.2.2.2 Q.2.2.2))) (fm (fs (fm Q.2.1 (fm P.2.2.2 P.2.2.2)) (fm P.2.1 (fm Q.2.2.2 Q.2.2.2))) (fs (fm Q.2.1 (fm P.2.2.2 P.2.2.2)) (fm P.2.1 (fm Q.2.2.2 Q.2.2.2))))))) := p95TTT
        have h25TTT_qx := h24TTT_qx.fr (r95TTT qx (jn hnd 11 [8] rfl rfl (by decide)))
        have h25TTT_qy := h24TTT_qy.fr (r95TTT qy (jn hnd 12 [8] rfl rfl (by decide)))
        have h25TTT_qz := h24TTT_qz.fr (r95TTT qz (jn hnd 13 [8] rfl rfl (by decide)))
        have h25TTT_r := h24TTT_r.fr (r95TTT r (jn hnd 4 [8] rfl rfl (by decide)))
        have h25TTT_pz := h24TTT_pz.fr (r95TTT pz (jn hnd 9 [8] rfl rfl (by decide)))
        have h25TTT_t := h24TTT_t.fr (r95TTT t (jn hnd 5 [8] rfl rfl (by decide)))
        have h25TTT_h := h24TTT_h.fr (r95TTT h (jn hnd 3 [8] rfl rfl (by decide)))
        have h25TTT_px := h24TTT_px.fr (r95TTT px (jn hnd 7 [8] rfl rfl (by decide)))
        have h25TTT_u := h24TTT_u.fr (r95TTT u (jn hnd 1 [8] rfl rfl (by decide)))
        have h25TTT_s := p91TTT.fr (r95TTT s (jn hnd 2 [8] rfl rfl (by decide)))
        have g25TTT_cv := g24TTT_cv.fr (r95TTT cv (jn hnd 0 [8] rfl rfl (by decide)))
        have g25TTT_p := g24TTT_p.fr (r95TTT p (jn hnd 6 [8] rfl rfl (by decide)))
        have g25TTT_q := g24TTT_q.fr (r95TTT q (jn hnd 10 [8] rfl rfl (by decide)))
        have e := plJ_e hq hp (b2i_0 c204)
        exact hR F96 _ _ dX2_plus_408 ⟨⟨g25TTT_cv, h25TTT_u.cell, h25TTT_s.cell, h25TTT_h.cell, h25TTT_r.cell, h25TTT_t.cell⟩, by rw [e, ← hp]; exact ⟨g25TTT_p, h25TTT_px, p95TTT, h25TTT_pz⟩, fun z hz => (r95TTT z (jnsub (V := [py]) hz [7] rfl)).trans ((r91TTT z (jnsub (V := [s]) hz [1] rfl)).trans ((r87TTT z (jnsub (V := [u]) hz [0] rfl)).trans ((r83TTT z (jnsub (V := [u]) hz [0] rfl)).trans ((r79TTT z (jnsub (V := [px]) hz [6] rfl)).trans ((r75TTT z (jnsub (V := [px]) hz [6] rfl)).trans ((r71TTT z (jnsub (V := [px]) hz [6] rfl)).trans ((r67TTT z (jnsub (V := [px]) hz [6] rfl)).trans ((r63TTT z (jnsub (V := [h]) hz [2] rfl)).trans ((r59TTT z (jnsub (V := [u]) hz [0] rfl)).trans ((r55TTT z (jnsub (V := [t]) hz [4] rfl)).trans ((r51TTT z (jnsub (V := [pz]) hz [8] rfl)).trans ((r47TTT z (jnsub (V := [pz]) hz [8] rfl)).trans ((r42TTT z (jnsub (V := [h]) hz [2] rfl)).trans ((r37TT z (jnsub (V := [h]) hz [2] rfl)).trans ((r33TT z (jnsub (V := [r]) hz [3] rfl)).trans ((r29TT z (jnsub (V := [r]) hz [3] rfl)).trans ((r25TT z (jnsub (V := [r]) hz [3] rfl)).trans ((r22TT z (jnsub (V := [h]) hz [2] rfl)).trans ((r18TT z (jnsub (V := [h]) hz [2] rfl)).trans ((r15TT z (jnsub (V := [t]) hz [4] rfl)).trans ((r11TT z (jnsub (V := [s]) hz [1] rfl)).trans ((r7TT z (jnsub (V := [s]) hz [1] rfl)).trans ((r4TT z (jnsub (V := [u]) hz [0] rfl)).trans (r1TT z (jnsub (V := [t]) hz [4] rfl)))))))))))))))))))))))))⟩
      · refine jr_aload_n hE dX2_plus_181 0 rfl ?_
        refine jr_get hE dX2_plus_182 f43 g11TT_cv rfl ?_
        obtain ⟨lw98TTF, w98TTF⟩ := h11TT_r.cell
        refine jr_kVi (ci := 1) (n := 0) (As := []) (rest := []) hE dX2_plus_185 (fun l => c_X1_isZero l G r (fs (fm (fm Q.2.2.1 (fm P.2.2.2 P.2.2.2)) P.2.2.2) (fm (fm P.2.2.1 (fm Q.2.2.2 Q.2.2.2)) Q.2.2.2))) gX2_plus_X1_isZero rfl w98TTF rfl (by decide +kernel) ⟨rfl, rfl, by decide, by decide⟩ (by decide) rfl rfl (Nat.le_of_ble_eq_true rfl) (h11TT_r) (fun r102 F100 q101 => ?_)
        have l99TTF := co_lt h11TT_r
        obtain ⟨d99TTF, r99TTF, rfl⟩ := q101
        have p99TTF := d99TTF.co' l99TTF
        have h12TTF_px := h11TT_px.fr (r99TTF px (jn hnd 7 [4] rfl rfl (by decide)))
        have h12TTF_py := h11TT_py.fr (r99TTF py (jn hnd 8 [4] rfl rfl (by decide)))
        have h12TTF_pz := h11TT_pz.fr (r99TTF pz (jn hnd 9 [4] rfl rfl (by decide)))
        have h12TTF_qx := h11TT_qx.fr (r99TTF qx (jn hnd 11 [4] rfl rfl (by decide)))
        have h12TTF_qy := h11TT_qy.fr (r99TTF qy (jn hnd 12 [4] rfl rfl (by decide)))
        have h12TTF_qz := h11TT_qz.fr (r99TTF qz (jn hnd 13 [4] rfl rfl (by decide)))
        have h12TTF_u := h11TT_u.fr (r99TTF u (jn hnd 1 [4] rfl rfl (by decide)))
        have h12TTF_s := h11TT_s.fr (r99TTF s (jn hnd 2 [4] rfl rfl (by decide)))
        have h12TTF_t := h11TT_t.fr (r99TTF t (jn hnd 5 [4] rfl rfl (by decide)))
        have h12TTF_h := p37TT.fr (r99TTF h (jn hnd 3 [4] rfl rfl (by decide)))
        have g12TTF_cv := g11TT_cv.fr (r99TTF cv (jn hnd 0 [4] rfl rfl (by decide)))
        have g12TTF_p := g11TT_p.fr (r99TTF p (jn hnd 6 [4] rfl rfl (by decide)))
        have g12TTF_q := g11TT_q.fr (r99TTF q (jn hnd 10 [4] rfl rfl (by decide)))
        refine jr_if_eq (tgt := 197) hE dX2_plus_188 (by decide) (fun c188 => ?_) (fun c188 => ?_)
        · refine jr_aload_n hE dX2_plus_197 0 rfl ?_
          refine jr_get hE dX2_plus_198 f40 g12TTF_cv rfl ?_
          obtain ⟨lw103TTFT, w103TTFT⟩ := h12TTF_h.cell
          refine jr_kVi (ci := 1) (n := 0) (As := []) (rest := []) hE dX2_plus_201 (fun l => c_X1_isZero l G h (fs (fm Q.2.1 (fm P.2.2.2 P.2.2.2)) (fm P.2.1 (fm Q.2.2.2 Q.2.2.2)))) gX2_plus_X1_isZero rfl w103TTFT rfl (by decide +kernel) ⟨rfl, rfl, by decide, by decide⟩ (by decide) rfl rfl (Nat.le_of_ble_eq_true rfl) (h12TTF_h) (fun r107 F105 q106 => ?_)
          have l104TTFT := co_lt h12TTF_h
          obtain ⟨d104TTFT, r104TTFT, rfl⟩ := q106
          have p104TTFT := d104TTFT.co' l104TTFT
          have h13TTFT_px := h12TTF_px.fr (r104TTFT px (jn hnd 7 [3] rfl rfl (by decide)))
          have h13TTFT_py := h12TTF_py.fr (r104TTFT py (jn hnd 8 [3] rfl rfl (by decide)))
          have h13TTFT_pz := h12TTF_pz.fr (r104TTFT pz (jn hnd 9 [3] rfl rfl (by decide)))
          have h13TTFT_qx := h12TTF_qx.fr (r104TTFT qx (jn hnd 11 [3] rfl rfl (by decide)))
          have h13TTFT_qy := h12TTF_qy.fr (r104TTFT qy (jn hnd 12 [3] rfl rfl (by decide)))
          have h13TTFT_qz := h12TTF_qz.fr (r104TTFT qz (jn hnd 13 [3] rfl rfl (by decide)))
          have h13TTFT_u := h12TTF_u.fr (r104TTFT u (jn hnd 1 [3] rfl rfl (by decide)))
          have h13TTFT_s := h12TTF_s.fr (r104TTFT s (jn hnd 2 [3] rfl rfl (by decide)))
          have h13TTFT_t := h12TTF_t.fr (r104TTFT t (jn hnd 5 [3] rfl rfl (by decide)))
          have h13TTFT_r := p99TTF.fr (r104TTFT r (jn hnd 4 [3] rfl rfl (by decide)))
          have g13TTFT_cv := g12TTF_cv.fr (r104TTFT cv (jn hnd 0 [3] rfl rfl (by decide)))
          have g13TTFT_p := g12TTF_p.fr (r104TTFT p (jn hnd 6 [3] rfl rfl (by decide)))
          have g13TTFT_q := g12TTF_q.fr (r104TTFT q (jn hnd 10 [3] rfl rfl (by decide)))
          refine jr_if_eq (tgt := 213) hE dX2_plus_204 (by decide) (fun c204 => absurd c204 (fun q => (b2i_0 q) (b2i_1 c178))) (fun c204 => ?_)
          refine jr_aload_n hE dX2_plus_207 1 rfl ?_
          refine jr_iconst (v := (1 : Int32)) hE dX2_plus_208 (by decide) ?_
          refine jr_put (ty := .boolean) hE dX2_plus_209 f82 g13TTFT_p rfl (by decide +kernel) (bi_nar true) (bi_fit true) (Nat.le_of_ble_eq_true rfl) (fun F108 g109 u110 => ?_)
          have g109 : jF L F108 p (.inr (6, [.ref px, .ref py, .ref pz, .int (1 : Int32)])) := g109
          have g111 := g13TTFT_cv.upk u110 g13TTFT_p (Nat.ne_of_beq_eq_false rfl)
          have g112 := g13TTFT_q.up u110 (jn2 hnd 10 6 rfl rfl (by decide))
          exact hR F108 _ _ dX2_plus_212 ⟨⟨g111, (h13TTFT_u.fr (u110 u (jn2 hnd 1 6 rfl rfl (by decide)))).cell, (h13TTFT_s.fr (u110 s (jn2 hnd 2 6 rfl rfl (by decide)))).cell, (p104TTFT.fr (u110 h (jn2 hnd 3 6 rfl rfl (by decide)))).cell, (h13TTFT_r.fr (u110 r (jn2 hnd 4 6 rfl rfl (by decide)))).cell, (h13TTFT_t.fr (u110 t (jn2 hnd 5 6 rfl rfl (by decide)))).cell⟩, by rw [plJ_d hq hp (b2i_1 c178) (b2i_0 c188)]; exact ⟨g109, (h13TTFT_px.fr (u110 px (jn2 hnd 7 6 rfl rfl (by decide)))), (h13TTFT_py.fr (u110 py (jn2 hnd 8 6 rfl rfl (by decide)))), (h13TTFT_pz.fr (u110 pz (jn2 hnd 9 6 rfl rfl (by decide))))⟩, fun z hz => (u110 z (jne hz 5 rfl)).trans ((r104TTFT z (jnsub (V := [h]) hz [2] rfl)).trans ((r99TTF z (jnsub (V := [r]) hz [3] rfl)).trans ((r37TT z (jnsub (V := [h]) hz [2] rfl)).trans ((r33TT z (jnsub (V := [r]) hz [3] rfl)).trans ((r29TT z (jnsub (V := [r]) hz [3] rfl)).trans ((r25TT z (jnsub (V := [r]) hz [3] rfl)).trans ((r22TT z (jnsub (V := [h]) hz [2] rfl)).trans ((r18TT z (jnsub (V := [h]) hz [2] rfl)).trans ((r15TT z (jnsub (V := [t]) hz [4] rfl)).trans ((r11TT z (jnsub (V := [s]) hz [1] rfl)).trans ((r7TT z (jnsub (V := [s]) hz [1] rfl)).trans ((r4TT z (jnsub (V := [u]) hz [0] rfl)).trans (r1TT z (jnsub (V := [t]) hz [4] rfl))))))))))))))⟩
        · refine jr_aload_n hE dX2_plus_191 0 rfl ?_
          refine jr_aload_n hE dX2_plus_192 1 rfl ?_
          refine jr_kVv (ci := 2) (n := 1) (As := [.ref p]) (rest := []) hE dX2_plus_193 (fun l => c_X2_twice l G cv g ms pw one u s h r t p px py pz P) gX2_plus_X2_twice rfl g12TTF_cv rfl (by decide +kernel) ⟨rfl, rfl, by decide, by decide⟩ (by decide) rfl rfl (Nat.le_of_ble_eq_true rfl) (⟨⟨g12TTF_cv, h12TTF_u.cell, h12TTF_s.cell, h12TTF_h.cell, p99TTF.cell, h12TTF_t.cell⟩, ⟨g12TTF_p, h12TTF_px, h12TTF_py, h12TTF_pz⟩, jnd hnd [0, 1, 2, 3, 4, 5, 6, 7, 8, 9] rfl (by decide)⟩) (fun F114 q115 => ?_)
          obtain ⟨c113TTFF, p113TTFF, r113TTFF⟩ := q115
          have h13TTFF_qx := h12TTF_qx.fr (r113TTFF qx (jn hnd 11 [1, 2, 4, 7, 8, 9] rfl rfl (by decide)))
          have h13TTFF_qy := h12TTF_qy.fr (r113TTFF qy (jn hnd 12 [1, 2, 4, 7, 8, 9] rfl rfl (by decide)))
          have h13TTFF_qz := h12TTF_qz.fr (r113TTFF qz (jn hnd 13 [1, 2, 4, 7, 8, 9] rfl rfl (by decide)))
          have h13TTFF_t := h12TTF_t.fr (r113TTFF t (jn hnd 5 [1, 2, 4, 7, 8, 9] rfl rfl (by decide)))
          have h13TTFF_h := h12TTF_h.fr (r113TTFF h (jn hnd 3 [1, 2, 4, 7, 8, 9] rfl rfl (by decide)))
          have g13TTFF_cv := g12TTF_cv.fr (r113TTFF cv (jn hnd 0 [1, 2, 4, 7, 8, 9] rfl rfl (by decide)))
          have g13TTFF_p := g12TTF_p.fr (r113TTFF p (jn hnd 6 [1, 2, 4, 7, 8, 9] rfl rfl (by decide)))
          have g13TTFF_q := g12TTF_q.fr (r113TTFF q (jn hnd 10 [1, 2, 4, 7, 8, 9] rfl rfl (by decide)))
          obtain ⟨_, ⟨_, c113TTFF_u⟩, ⟨_, c113TTFF_s⟩, ⟨_, c113TTFF_h⟩, ⟨_, c113TTFF_r⟩, ⟨_, c113TTFF_t⟩⟩ := c113TTFF
          exact hR F114 _ _ dX2_plus_196 ⟨⟨g13TTFF_cv, ⟨_, c113TTFF_u⟩, ⟨_, c113TTFF_s⟩, ⟨_, c113TTFF_h⟩, ⟨_, c113TTFF_r⟩, ⟨_, c113TTFF_t⟩⟩, by rw [plJ_c hq hp (b2i_1 c178) (b2i_1 c188)]; exact ⟨p113TTFF.1, p113TTFF.2.1, p113TTFF.2.2.1, p113TTFF.2.2.2⟩, fun z hz => (r113TTFF z (jnsub (V := [u, s, r, px, py, pz]) hz [0, 1, 3, 6, 7, 8] rfl)).trans ((r99TTF z (jnsub (V := [r]) hz [3] rfl)).trans ((r37TT z (jnsub (V := [h]) hz [2] rfl)).trans ((r33TT z (jnsub (V := [r]) hz [3] rfl)).trans ((r29TT z (jnsub (V := [r]) hz [3] rfl)).trans ((r25TT z (jnsub (V := [r]) hz [3] rfl)).trans ((r22TT z (jnsub (V := [h]) hz [2] rfl)).trans ((r18TT z (jnsub (V := [h]) hz [2] rfl)).trans ((r15TT z (jnsub (V := [t]) hz [4] rfl)).trans ((r11TT z (jnsub (V := [s]) hz [1] rfl)).trans ((r7TT z (jnsub (V := [s]) hz [1] rfl)).trans ((r4TT z (jnsub (V := [u]) hz [0] rfl)).trans (r1TT z (jnsub (V := [t]) hz [4] rfl)))))))))))))⟩
    · refine jr_aload_n hE dX2_plus_15 1 rfl ?_
      refine jr_aload_n hE dX2_plus_16 2 rfl ?_
      refine jr_kVv (ci := 6) (n := 1) (As := [.ref q]) (rest := []) hE dX2_plus_17 (fun l => c_X6_become l G p px py pz q qx qy qz P Q) gX2_plus_X6_become rfl hp0 rfl (by decide +kernel) ⟨rfl, rfl, by decide, by decide⟩ (by decide) rfl rfl (Nat.le_of_ble_eq_true rfl) (⟨⟨hp0, hp1, hp2, hp3⟩, ⟨hq0, hq1, hq2, hq3⟩, jnd hnd [6, 7, 8, 9, 10, 11, 12, 13] rfl (by decide)⟩) (fun F117 q118 => ?_)
      obtain ⟨p116TF, r116TF⟩ := q118
      have h1TF_u := hcu.fr (r116TF u (jn hnd 1 [6, 7, 8, 9] rfl rfl (by decide)))
      have h1TF_s := hcs.fr (r116TF s (jn hnd 2 [6, 7, 8, 9] rfl rfl (by decide)))
      have h1TF_h := hch.fr (r116TF h (jn hnd 3 [6, 7, 8, 9] rfl rfl (by decide)))
      have h1TF_r := hcr.fr (r116TF r (jn hnd 4 [6, 7, 8, 9] rfl rfl (by decide)))
      have h1TF_t := hct.fr (r116TF t (jn hnd 5 [6, 7, 8, 9] rfl rfl (by decide)))
      have h1TF_qx := hq1.fr (r116TF qx (jn hnd 11 [6, 7, 8, 9] rfl rfl (by decide)))
      have h1TF_qy := hq2.fr (r116TF qy (jn hnd 12 [6, 7, 8, 9] rfl rfl (by decide)))
      have h1TF_qz := hq3.fr (r116TF qz (jn hnd 13 [6, 7, 8, 9] rfl rfl (by decide)))
      have g1TF_cv := hc0.fr (r116TF cv (jn hnd 0 [6, 7, 8, 9] rfl rfl (by decide)))
      have g1TF_q := hq0.fr (r116TF q (jn hnd 10 [6, 7, 8, 9] rfl rfl (by decide)))
      exact hR F117 _ _ dX2_plus_20 ⟨⟨g1TF_cv, ⟨_, h1TF_u⟩, ⟨_, h1TF_s⟩, ⟨_, h1TF_h⟩, ⟨_, h1TF_r⟩, ⟨_, h1TF_t⟩⟩, by rw [plJ_b hq (bi_ne c12)]; exact ⟨p116TF.1, p116TF.2.1, p116TF.2.2.1, p116TF.2.2.2⟩, fun z hz => r116TF z (jnsub (V := [p, px, py, pz]) hz [5, 6, 7, 8] rfl)⟩
  · exact hR F _ _ dX2_plus_7 ⟨⟨hc0, ⟨_, hcu⟩, ⟨_, hcs⟩, ⟨_, hch⟩, ⟨_, hcr⟩, ⟨_, hct⟩⟩, by rw [plJ_a (bi_ne c4)]; exact ⟨hp0, hp1, hp2, hp3⟩, fun z hz => rfl⟩

