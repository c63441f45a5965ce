def stJ (P : JP) : JP :=
  if P.1 = true then P else
  let t := fm (sqn (stemv P.2.2.2) 2) P.2.2.2
  let u := fm t t
  (false, fm P.2.1 u, fm P.2.2.1 (fm u t), 1)
def rhsJ (V : Nat) : Nat := (fm (fm V V) V + 7) % PP
def rtJ (V : Nat) : Nat := fm (stemv (rhsJ V)) (rhsJ V)
/-- the number is the x of a point -/
abbrev isX (V : Nat) : Prop := V < PP ∧ fm (rtJ V) (rtJ V) = rhsJ V
def evJ (V : Nat) : JP := (false, V, if rtJ V % 2 = 1 then fk (-1) (rtJ V) else rtJ V, 1)

theorem evJ_a {V : Nat} (h : ¬ rtJ V % 2 = 1) : evJ V = (false, V, rtJ V, 1) := by
  unfold evJ
  rw [if_neg h]
theorem evJ_b {V : Nat} (h : rtJ V % 2 = 1) : evJ V = (false, V, fk (-1) (rtJ V), 1) := by
  unfold evJ
  rw [if_pos h]

set_option maxHeartbeats 4000000 in
set_option maxRecDepth 100000 in
theorem c_X2_settle (l : Launch) (G : Nat → ClassId) (cv g ms pw one u s h r t x2 x3 x22 x44 x88 run p px py pz : Nat) (P : JP) : jKv l yX2_settle wsX2_settle ({ frames := 3, cells := 0, slots := 0, locals := 126 }) G [.ref cv, .ref p] (fun L F => jCu L F cv g ms pw one u s h r t ∧ jPw L F pw x2 x3 x22 x44 x88 run ∧ jCo L F one 1 ∧ jPt L F p px py pz P ∧ [cv, u, s, h, r, t, pw, x2, x3, x22, x44, x88, run, one, p, px, py, pz].Nodup) (fun L F F1 => jCu L F1 cv g ms pw one u s h r t ∧ jPw L F1 pw x2 x3 x22 x44 x88 run ∧ jCo L F1 one 1 ∧ jPt L F1 p px py pz (stJ P) ∧ ∀ z, z ∉ [u, t, x2, x3, x22, x44, x88, run, px, py, pz] → F1 z = F z) := by
  refine jm_kv (cc := cX2_settle) (maxL := 2) (by decide) rfl (Nat.le_of_ble_eq_true rfl) ?_
  intro E L F hE hR hpre
  have hE : jOk E G _ cX2_settle 2 RX2 wsX2_settle := hE
  obtain ⟨⟨hc0, ⟨lu, hcu⟩, ⟨ls, hcs⟩, ⟨lh, hch⟩, ⟨lr, hcr⟩, ⟨lt, hct⟩⟩, ⟨hpw, ⟨w1, hw_x2⟩, ⟨w2, hw_x3⟩, ⟨w3, hw_x22⟩, ⟨w4, hw_x44⟩, ⟨w5, hw_x88⟩, ⟨w6, hw_run⟩⟩, hone, ⟨hp0, hp1, hp2, hp3⟩, hnd⟩ := hpre

  have f82 : jFl RX2 wsX2_settle 82 6 3 := ⟨rfl, by decide, by decide +kernel, by decide +kernel⟩
  have f23 : jFl RX2 wsX2_settle 23 2 2 := ⟨rfl, by decide, by decide +kernel, by decide +kernel⟩
  have f46 : jFl RX2 wsX2_settle 46 2 8 := ⟨rfl, by decide, by decide +kernel, by decide +kernel⟩
  have f75 : jFl RX2 wsX2_settle 75 6 2 := ⟨rfl, by decide, by decide +kernel, by decide +kernel⟩
  have f34 : jFl RX2 wsX2_settle 34 2 4 := ⟨rfl, by decide, by decide +kernel, by decide +kernel⟩
  have f53 : jFl RX2 wsX2_settle 53 6 0 := ⟨rfl, by decide, by decide +kernel, by decide +kernel⟩
  have f64 : jFl RX2 wsX2_settle 64 6 1 := ⟨rfl, by decide, by decide +kernel, by decide +kernel⟩
  have f30 : jFl RX2 wsX2_settle 30 2 3 := ⟨rfl, by decide, by decide +kernel, by decide +kernel⟩
  refine jr_aload_n hE dX2_settle_0 1 rfl ?_
  refine jr_get hE dX2_settle_1 f82 hp0 rfl ?_
  refine jr_if_eq (tgt := 8) hE dX2_settle_4 (by decide) (fun c1 => ?_) (fun c1 => ?_)
  · refine jr_aload_n hE dX2_settle_8 0 rfl ?_
    refine jr_get hE dX2_settle_9 f23 hc0 rfl ?_
    refine jr_aload_n hE dX2_settle_12 0 rfl ?_
    refine jr_get hE dX2_settle_13 f46 hc0 rfl ?_
    refine jr_aload_n hE dX2_settle_16 1 rfl ?_
    refine jr_get hE dX2_settle_17 f75 hp0 rfl ?_
    refine jr_kVv (ci := 7) (n := 2) (As := [.ref t, .ref pz]) (rest := []) hE dX2_settle_20 (fun l => c_X7_stem l G pw t pz x2 x3 x22 x44 x88 run P.2.2.2) gX2_settle_X7_stem rfl hpw rfl (by decide +kernel) ⟨rfl, rfl, by decide, by decide⟩ (by decide) rfl rfl (Nat.le_of_ble_eq_true rfl) (⟨⟨hpw, ⟨_, hw_x2⟩, ⟨_, hw_x3⟩, ⟨_, hw_x22⟩, ⟨_, hw_x44⟩, ⟨_, hw_x88⟩, ⟨_, hw_run⟩⟩, ⟨_, hct⟩, hp3, jnd hnd [5, 17, 7, 8, 9, 10, 11, 12] rfl (by decide)⟩) (fun F2 q3 => ?_)
    obtain ⟨⟨p1T, ⟨w1T, ⟨_, s1T_x2⟩, ⟨_, s1T_x3⟩, ⟨_, s1T_x22⟩, ⟨_, s1T_x44⟩, ⟨_, s1T_x88⟩, ⟨_, s1T_run⟩⟩⟩, r1T⟩ := q3
    have h1T_u := hcu.fr (r1T u (jn hnd 1 [5, 7, 8, 9, 10, 11, 12] rfl rfl (by decide)))
    have h1T_s := hcs.fr (r1T s (jn hnd 2 [5, 7, 8, 9, 10, 11, 12] rfl rfl (by decide)))
    have h1T_h := hch.fr (r1T h (jn hnd 3 [5, 7, 8, 9, 10, 11, 12] rfl rfl (by decide)))
    have h1T_r := hcr.fr (r1T r (jn hnd 4 [5, 7, 8, 9, 10, 11, 12] rfl rfl (by decide)))
    have h1T_one := hone.fr (r1T one (jn hnd 13 [5, 7, 8, 9, 10, 11, 12] rfl rfl (by decide)))
    have h1T_px := hp1.fr (r1T px (jn hnd 15 [5, 7, 8, 9, 10, 11, 12] rfl rfl (by decide)))
    have h1T_py := hp2.fr (r1T py (jn hnd 16 [5, 7, 8, 9, 10, 11, 12] rfl rfl (by decide)))
    have h1T_pz := hp3.fr (r1T pz (jn hnd 17 [5, 7, 8, 9, 10, 11, 12] rfl rfl (by decide)))
    have g1T_cv := hc0.fr (r1T cv (jn hnd 0 [5, 7, 8, 9, 10, 11, 12] rfl rfl (by decide)))
    have g1T_pw := hpw.fr (r1T pw (jn hnd 6 [5, 7, 8, 9, 10, 11, 12] rfl rfl (by decide)))
    have g1T_p := hp0.fr (r1T p (jn hnd 14 [5, 7, 8, 9, 10, 11, 12] rfl rfl (by decide)))
    refine jr_aload_n hE dX2_settle_23 0 rfl ?_
    refine jr_get hE dX2_settle_24 f46 g1T_cv rfl ?_
    refine jr_aload_n hE dX2_settle_27 0 rfl ?_
    refine jr_get hE dX2_settle_28 f46 g1T_cv rfl ?_
    refine jr_iconst (v := (2 : Int32)) hE dX2_settle_31 (by decide) ?_
    refine jr_aload_n hE dX2_settle_32 1 rfl ?_
    refine jr_get hE dX2_settle_33 f75 g1T_p rfl ?_
    obtain ⟨lw4T, w4T⟩ := p1T.cell
    refine jr_kVv (ci := 1) (n := 3) (As := [.ref t, .int (2 : Int32), .ref pz]) (rest := []) hE dX2_settle_36 (fun l => c_X1_raise l G t t pz 2 (stemv P.2.2.2) P.2.2.2 _) gX2_settle_X1_raise rfl w4T rfl (by decide +kernel) ⟨rfl, rfl, by decide, by decide⟩ (by decide) rfl rfl (Nat.le_of_ble_eq_true rfl) (⟨w4T, p1T, h1T_pz, jnd hnd [5, 17] rfl (by decide), by decide⟩) (fun F6 q7 => ?_)
    obtain ⟨p5T, r5T⟩ := q7
    have p5T : jCo L F6 t (fm (sqn (stemv P.2.2.2) 2) P.2.2.2) := p5T
    have h2T_u := h1T_u.fr (r5T u (jn hnd 1 [5] rfl rfl (by decide)))
    have h2T_s := h1T_s.fr (r5T s (jn hnd 2 [5] rfl rfl (by decide)))
    have h2T_h := h1T_h.fr (r5T h (jn hnd 3 [5] rfl rfl (by decide)))
    have h2T_r := h1T_r.fr (r5T r (jn hnd 4 [5] rfl rfl (by decide)))
    have h2T_one := h1T_one.fr (r5T one (jn hnd 13 [5] rfl rfl (by decide)))
    have h2T_px := h1T_px.fr (r5T px (jn hnd 15 [5] rfl rfl (by decide)))
    have h2T_py := h1T_py.fr (r5T py (jn hnd 16 [5] rfl rfl (by decide)))
    have h2T_pz := h1T_pz.fr (r5T pz (jn hnd 17 [5] rfl rfl (by decide)))
    have h2T_x2 := s1T_x2.fr (r5T x2 (jn hnd 7 [5] rfl rfl (by decide)))
    have h2T_x3 := s1T_x3.fr (r5T x3 (jn hnd 8 [5] rfl rfl (by decide)))
    have h2T_x22 := s1T_x22.fr (r5T x22 (jn hnd 9 [5] rfl rfl (by decide)))
    have h2T_x44 := s1T_x44.fr (r5T x44 (jn hnd 10 [5] rfl rfl (by decide)))
    have h2T_x88 := s1T_x88.fr (r5T x88 (jn hnd 11 [5] rfl rfl (by decide)))
    have h2T_run := s1T_run.fr (r5T run (jn hnd 12 [5] rfl rfl (by decide)))
    have g2T_cv := g1T_cv.fr (r5T cv (jn hnd 0 [5] rfl rfl (by decide)))
    have g2T_pw := g1T_pw.fr (r5T pw (jn hnd 6 [5] rfl rfl (by decide)))
    have g2T_p := g1T_p.fr (r5T p (jn hnd 14 [5] rfl rfl (by decide)))
    refine jr_aload_n hE dX2_settle_39 0 rfl ?_
    refine jr_get hE dX2_settle_40 f34 g2T_cv rfl ?_
    refine jr_aload_n hE dX2_settle_43 0 rfl ?_
    refine jr_get hE dX2_settle_44 f46 g2T_cv rfl ?_
    refine jr_aload_n hE dX2_settle_47 0 rfl ?_
    refine jr_get hE dX2_settle_48 f46 g2T_cv rfl ?_
    refine jr_kVv (ci := 1) (n := 2) (As := [.ref t, .ref t]) (rest := []) hE dX2_settle_51 (fun l => c_X1_product l G u t t (fm (sqn (stemv P.2.2.2) 2) P.2.2.2) (fm (sqn (stemv P.2.2.2) 2) P.2.2.2) _) gX2_settle_X1_product rfl h2T_u rfl (by decide +kernel) ⟨rfl, rfl, by decide, by decide⟩ (by decide) rfl rfl (Nat.le_of_ble_eq_true rfl) (⟨h2T_u, p5T, p5T⟩) (fun F9 q10 => ?_)
    obtain ⟨p8T, r8T⟩ := q10
    have p8T : jCo L F9 u (fm (fm (sqn (stemv P.2.2.2) 2) P.2.2.2) (fm (sqn (stemv P.2.2.2) 2) P.2.2.2)) := p8T
    have h3T_s := h2T_s.fr (r8T s (jn hnd 2 [1] rfl rfl (by decide)))
    have h3T_h := h2T_h.fr (r8T h (jn hnd 3 [1] rfl rfl (by decide)))
    have h3T_r := h2T_r.fr (r8T r (jn hnd 4 [1] rfl rfl (by decide)))
    have h3T_one := h2T_one.fr (r8T one (jn hnd 13 [1] rfl rfl (by decide)))
    have h3T_px := h2T_px.fr (r8T px (jn hnd 15 [1] rfl rfl (by decide)))
    have h3T_py := h2T_py.fr (r8T py (jn hnd 16 [1] rfl rfl (by decide)))
    have h3T_pz := h2T_pz.fr (r8T pz (jn hnd 17 [1] rfl rfl (by decide)))
    have h3T_x2 := h2T_x2.fr (r8T x2 (jn hnd 7 [1] rfl rfl (by decide)))
    have h3T_x3 := h2T_x3.fr (r8T x3 (jn hnd 8 [1] rfl rfl (by decide)))
    have h3T_x22 := h2T_x22.fr (r8T x22 (jn hnd 9 [1] rfl rfl (by decide)))
    have h3T_x44 := h2T_x44.fr (r8T x44 (jn hnd 10 [1] rfl rfl (by decide)))
    have h3T_x88 := h2T_x88.fr (r8T x88 (jn hnd 11 [1] rfl rfl (by decide)))
    have h3T_run := h2T_run.fr (r8T run (jn hnd 12 [1] rfl rfl (by decide)))
    have h3T_t := p5T.fr (r8T t (jn hnd 5 [1] rfl rfl (by decide)))
    have g3T_cv := g2T_cv.fr (r8T cv (jn hnd 0 [1] rfl rfl (by decide)))
    have g3T_pw := g2T_pw.fr (r8T pw (jn hnd 6 [1] rfl rfl (by decide)))
    have g3T_p := g2T_p.fr (r8T p (jn hnd 14 [1] rfl rfl (by decide)))
    refine jr_aload_n hE dX2_settle_54 1 rfl ?_
    refine jr_get hE dX2_settle_55 f53 g3T_p rfl ?_
    refine jr_aload_n hE dX2_settle_58 1 rfl ?_
    refine jr_get hE dX2_settle_59 f53 g3T_p rfl ?_
    refine jr_aload_n hE dX2_settle_62 0 rfl ?_
    refine jr_get hE dX2_settle_63 f34 g3T_cv rfl ?_
    obtain ⟨lw11T, w11T⟩ := h3T_px.cell
    refine jr_kVv (ci := 1) (n := 2) (As := [.ref px, .ref u]) (rest := []) hE dX2_settle_66 (fun l => c_X1_product l G px px u P.2.1 (fm (fm (sqn (stemv P.2.2.2) 2) P.2.2.2) (fm (sqn (stemv P.2.2.2) 2) P.2.2.2)) _) gX2_settle_X1_product rfl w11T rfl (by decide +kernel) ⟨rfl, rfl, by decide, by decide⟩ (by decide) rfl rfl (Nat.le_of_ble_eq_true rfl) (⟨w11T, h3T_px, p8T⟩) (fun F13 q14 => ?_)
    obtain ⟨p12T, r12T⟩ := q14
    have p12T : jCo L F13 px (fm P.2.1 (fm (fm (sqn (stemv P.2.2.2) 2) P.2.2.2) (fm (sqn (stemv P.2.2.2) 2) P.2.2.2))) := p12T
    have h4T_s := h3T_s.fr (r12T s (jn hnd 2 [15] rfl rfl (by decide)))
    have h4T_h := h3T_h.fr (r12T h (jn hnd 3 [15] rfl rfl (by decide)))
    have h4T_r := h3T_r.fr (r12T r (jn hnd 4 [15] rfl rfl (by decide)))
    have h4T_one := h3T_one.fr (r12T one (jn hnd 13 [15] rfl rfl (by decide)))
    have h4T_py := h3T_py.fr (r12T py (jn hnd 16 [15] rfl rfl (by decide)))
    have h4T_pz := h3T_pz.fr (r12T pz (jn hnd 17 [15] rfl rfl (by decide)))
    have h4T_x2 := h3T_x2.fr (r12T x2 (jn hnd 7 [15] rfl rfl (by decide)))
    have h4T_x3 := h3T_x3.fr (r12T x3 (jn hnd 8 [15] rfl rfl (by decide)))
    have h4T_x22 := h3T_x22.fr (r12T x22 (jn hnd 9 [15] rfl rfl (by decide)))
    have h4T_x44 := h3T_x44.fr (r12T x44 (jn hnd 10 [15] rfl rfl (by decide)))
    have h4T_x88 := h3T_x88.fr (r12T x88 (jn hnd 11 [15] rfl rfl (by decide)))
    have h4T_run := h3T_run.fr (r12T run (jn hnd 12 [15] rfl rfl (by decide)))
    have h4T_t := h3T_t.fr (r12T t (jn hnd 5 [15] rfl rfl (by decide)))
    have h4T_u := p8T.fr (r12T u (jn hnd 1 [15] rfl rfl (by decide)))
    have g4T_cv := g3T_cv.fr (r12T cv (jn hnd 0 [15] rfl rfl (by decide)))
    have g4T_pw := g3T_pw.fr (r12T pw (jn hnd 6 [15] rfl rfl (by decide)))
    have g4T_p := g3T_p.fr (r12T p (jn hnd 14 [15] rfl rfl (by decide)))
    refine jr_aload_n hE dX2_settle_69 0 rfl ?_
    refine jr_get hE dX2_settle_70 f34 g4T_cv rfl ?_
    refine jr_aload_n hE dX2_settle_73 0 rfl ?_
    refine jr_get hE dX2_settle_74 f34 g4T_cv rfl ?_
    refine jr_aload_n hE dX2_settle_77 0 rfl ?_
    refine jr_get hE dX2_settle_78 f46 g4T_cv rfl ?_
    obtain ⟨lw15T, w15T⟩ := h4T_u.cell
    refine jr_kVv (ci := 1) (n := 2) (As := [.ref u, .ref t]) (rest := []) hE dX2_settle_81 (fun l => c_X1_product l G u u t (fm (fm (sqn (stemv P.2.2.2) 2) P.2.2.2) (fm (sqn (stemv P.2.2.2) 2) P.2.2.2)) (fm (sqn (stemv P.2.2.2) 2) P.2.2.2) _) gX2_settle_X1_product rfl w15T rfl (by decide +kernel) ⟨rfl, rfl, by decide, by decide⟩ (by decide) rfl rfl (Nat.le_of_ble_eq_true rfl) (⟨w15T, h4T_u, h4T_t⟩) (fun F17 q18 => ?_)
    obtain ⟨p16T, r16T⟩ := q18
    have p16T : jCo L F17 u (fm (fm (fm (sqn (stemv P.2.2.2) 2) P.2.2.2) (fm (sqn (stemv P.2.2.2) 2) P.2.2.2)) (fm (sqn (stemv P.2.2.2) 2) P.2.2.2)) := p16T
    have h5T_s := h4T_s.fr (r16T s (jn hnd 2 [1] rfl rfl (by decide)))
    have h5T_h := h4T_h.fr (r16T h (jn hnd 3 [1] rfl rfl (by decide)))
    have h5T_r := h4T_r.fr (r16T r (jn hnd 4 [1] rfl rfl (by decide)))
    have h5T_one := h4T_one.fr (r16T one (jn hnd 13 [1] rfl rfl (by decide)))
    have h5T_py := h4T_py.fr (r16T py (jn hnd 16 [1] rfl rfl (by decide)))
    have h5T_pz := h4T_pz.fr (r16T pz (jn hnd 17 [1] rfl rfl (by decide)))
    have h5T_x2 := h4T_x2.fr (r16T x2 (jn hnd 7 [1] rfl rfl (by decide)))
    have h5T_x3 := h4T_x3.fr (r16T x3 (jn hnd 8 [1] rfl rfl (by decide)))
    have h5T_x22 := h4T_x22.fr (r16T x22 (jn hnd 9 [1] rfl rfl (by decide)))
    have h5T_x44 := h4T_x44.fr (r16T x44 (jn hnd 10 [1] rfl rfl (by decide)))
    have h5T_x88 := h4T_x88.fr (r16T x88 (jn hnd 11 [1] rfl rfl (by decide)))
    have h5T_run := h4T_run.fr (r16T run (jn hnd 12 [1] rfl rfl (by decide)))
    have h5T_t := h4T_t.fr (r16T t (jn hnd 5 [1] rfl rfl (by decide)))
    have h5T_px := p12T.fr (r16T px (jn hnd 15 [1] rfl rfl (by decide)))
    have g5T_cv := g4T_cv.fr (r16T cv (jn hnd 0 [1] rfl rfl (by decide)))
    have g5T_pw := g4T_pw.fr (r16T pw (jn hnd 6 [1] rfl rfl (by decide)))
    have g5T_p := g4T_p.fr (r16T p (jn hnd 14 [1] rfl rfl (by decide)))
    refine jr_aload_n hE dX2_settle_84 1 rfl ?_
    refine jr_get hE dX2_settle_85 f64 g5T_p rfl ?_
    refine jr_aload_n hE dX2_settle_88 1 rfl ?_
    refine jr_get hE dX2_settle_89 f64 g5T_p rfl ?_
    refine jr_aload_n hE dX2_settle_92 0 rfl ?_
    refine jr_get hE dX2_settle_93 f34 g5T_cv rfl ?_
    obtain ⟨lw19T, w19T⟩ := h5T_py.cell
    refine jr_kVv (ci := 1) (n := 2) (As := [.ref py, .ref u]) (rest := []) hE dX2_settle_96 (fun l => c_X1_product l G py py u P.2.2.1 (fm (fm (fm (sqn (stemv P.2.2.2) 2) P.2.2.2) (fm (sqn (stemv P.2.2.2) 2) P.2.2.2)) (fm (sqn (stemv P.2.2.2) 2) P.2.2.2)) _) gX2_settle_X1_product rfl w19T rfl (by decide +kernel) ⟨rfl, rfl, by decide, by decide⟩ (by decide) rfl rfl (Nat.le_of_ble_eq_true rfl) (⟨w19T, h5T_py, p16T⟩) (fun F21 q22 => ?_)
    obtain ⟨p20T, r20T⟩ := q22
    have p20T : jCo L F21 py (fm P.2.2.1 (fm (fm (fm (sqn (stemv P.2.2.2) 2) P.2.2.2) (fm (sqn (stemv P.2.2.2) 2) P.2.2.2)) (fm (sqn (stemv P.2.2.2) 2) P.2.2.2))) := p20T
    have h6T_s := h5T_s.fr (r20T s (jn hnd 2 [16] rfl rfl (by decide)))
    have h6T_h := h5T_h.fr (r20T h (jn hnd 3 [16] rfl rfl (by decide)))
    have h6T_r := h5T_r.fr (r20T r (jn hnd 4 [16] rfl rfl (by decide)))
    have h6T_one := h5T_one.fr (r20T one (jn hnd 13 [16] rfl rfl (by decide)))
    have h6T_pz := h5T_pz.fr (r20T pz (jn hnd 17 [16] rfl rfl (by decide)))
    have h6T_x2 := h5T_x2.fr (r20T x2 (jn hnd 7 [16] rfl rfl (by decide)))
    have h6T_x3 := h5T_x3.fr (r20T x3 (jn hnd 8 [16] rfl rfl (by decide)))
    have h6T_x22 := h5T_x22.fr (r20T x22 (jn hnd 9 [16] rfl rfl (by decide)))
    have h6T_x44 := h5T_x44.fr (r20T x44 (jn hnd 10 [16] rfl rfl (by decide)))
    have h6T_x88 := h5T_x88.fr (r20T x88 (jn hnd 11 [16] rfl rfl (by decide)))
    have h6T_run := h5T_run.fr (r20T run (jn hnd 12 [16] rfl rfl (by decide)))
    have h6T_t := h5T_t.fr (r20T t (jn hnd 5 [16] rfl rfl (by decide)))
    have h6T_px := h5T_px.fr (r20T px (jn hnd 15 [16] rfl rfl (by decide)))
    have h6T_u := p16T.fr (r20T u (jn hnd 1 [16] rfl rfl (by decide)))
    have g6T_cv := g5T_cv.fr (r20T cv (jn hnd 0 [16] rfl rfl (by decide)))
    have g6T_pw := g5T_pw.fr (r20T pw (jn hnd 6 [16] rfl rfl (by decide)))
    have g6T_p := g5T_p.fr (r20T p (jn hnd 14 [16] rfl rfl (by decide)))
    refine jr_aload_n hE dX2_settle_99 1 rfl ?_
    refine jr_get hE dX2_settle_100 f75 g6T_p rfl ?_
    refine jr_aload_n hE dX2_settle_103 0 rfl ?_
    refine jr_get hE dX2_settle_104 f30 g6T_cv rfl ?_
    obtain ⟨lw23T, w23T⟩ := h6T_pz.cell
    refine jr_kVv (ci := 1) (n := 1) (As := [.ref one]) (rest := []) hE dX2_settle_107 (fun l => c_X1_become l G pz one 1 _) gX2_settle_X1_become rfl w23T rfl (by decide +kernel) ⟨rfl, rfl, by decide, by decide⟩ (by decide) rfl rfl (Nat.le_of_ble_eq_true rfl) (⟨w23T, h6T_one⟩) (fun F25 q26 => ?_)
    obtain ⟨p24T, r24T⟩ := q26
    have h7T_s := h6T_s.fr (r24T s (jn hnd 2 [17] rfl rfl (by decide)))
    have h7T_h := h6T_h.fr (r24T h (jn hnd 3 [17] rfl rfl (by decide)))
    have h7T_r := h6T_r.fr (r24T r (jn hnd 4 [17] rfl rfl (by decide)))
    have h7T_one := h6T_one.fr (r24T one (jn hnd 13 [17] rfl rfl (by decide)))
    have h7T_x2 := h6T_x2.fr (r24T x2 (jn hnd 7 [17] rfl rfl (by decide)))
    have h7T_x3 := h6T_x3.fr (r24T x3 (jn hnd 8 [17] rfl rfl (by decide)))
    have h7T_x22 := h6T_x22.fr (r24T x22 (jn hnd 9 [17] rfl rfl (by decide)))
    have h7T_x44 := h6T_x44.fr (r24T x44 (jn hnd 10 [17] rfl rfl (by decide)))
    have h7T_x88 := h6T_x88.fr (r24T x88 (jn hnd 11 [17] rfl rfl (by decide)))
    have h7T_run := h6T_run.fr (r24T run (jn hnd 12 [17] rfl rfl (by decide)))
    have h7T_t := h6T_t.fr (r24T t (jn hnd 5 [17] rfl rfl (by decide)))
    have h7T_px := h6T_px.fr (r24T px (jn hnd 15 [17] rfl rfl (by decide)))
    have h7T_u := h6T_u.fr (r24T u (jn hnd 1 [17] rfl rfl (by decide)))
    have h7T_py := p20T.fr (r24T py (jn hnd 16 [17] rfl rfl (by decide)))
    have g7T_cv := g6T_cv.fr (r24T cv (jn hnd 0 [17] rfl rfl (by decide)))
    have g7T_pw := g6T_pw.fr (r24T pw (jn hnd 6 [17] rfl rfl (by decide)))
    have g7T_p := g6T_p.fr (r24T p (jn hnd 14 [17] rfl rfl (by decide)))
    have hn := bi_eq c1
    have e : stJ P = (false, _, _, _) := if_neg (by rw [hn]; decide)
    exact hR F25 _ _ dX2_settle_110 ⟨⟨g7T_cv, h7T_u.cell, ⟨_, h7T_s⟩, ⟨_, h7T_h⟩, ⟨_, h7T_r⟩, h7T_t.cell⟩, ⟨g7T_pw, ⟨_, h7T_x2⟩, ⟨_, h7T_x3⟩, ⟨_, h7T_x22⟩, ⟨_, h7T_x44⟩, ⟨_, h7T_x88⟩, ⟨_, h7T_run⟩⟩, h7T_one, by rw [e, ← hn]; exact ⟨g7T_p, h7T_px, h7T_py, p24T⟩, fun z hz => (r24T z (jnsub (V := [pz]) hz [10] rfl)).trans ((r20T z (jnsub (V := [py]) hz [9] rfl)).trans ((r16T z (jnsub (V := [u]) hz [0] rfl)).trans ((r12T z (jnsub (V := [px]) hz [8] rfl)).trans ((r8T z (jnsub (V := [u]) hz [0] rfl)).trans ((r5T z (jnsub (V := [t]) hz [1] rfl)).trans (r1T z (jnsub (V := [t, x2, x3, x22, x44, x88, run]) hz [1, 2, 3, 4, 5, 6, 7] rfl)))))))⟩
  · exact hR F _ _ dX2_settle_7 ⟨⟨hc0, ⟨_, hcu⟩, ⟨_, hcs⟩, ⟨_, hch⟩, ⟨_, hcr⟩, ⟨_, hct⟩⟩, ⟨hpw, ⟨_, hw_x2⟩, ⟨_, hw_x3⟩, ⟨_, hw_x22⟩, ⟨_, hw_x44⟩, ⟨_, hw_x88⟩, ⟨_, hw_run⟩⟩, hone, by rw [show stJ P = P from if_pos (bi_ne c1)]; exact ⟨hp0, hp1, hp2, hp3⟩, fun z hz => rfl⟩

set_option maxHeartbeats 4000000 in
set_option maxRecDepth 100000 in
theorem c_X2_lift (l : Launch) (G : Nat → ClassId) (cv g ms pw one u s h r t x2 x3 x22 x44 x88 run p px py pz ob hb cap st V : Nat) (P : JP) (bs : List Nat) : jKi l yX2_lift wsX2_lift ({ frames := 3, cells := 0, slots := 0, locals := 126 }) G [.ref cv, .ref p, .ref ob, .int (nI st)] (fun L F => jCu L F cv g ms pw one u s h r t ∧ jPw L F pw x2 x3 x22 x44 x88 run ∧ jCo L F one 1 ∧ jPt L F p px py pz P ∧ [cv, u, s, h, r, t, pw, x2, x3, x22, x44, x88, run, one, p, px, py, pz].Nodup ∧ jBy G L F ob hb cap bs ∧ st + 32 ≤ bs.length ∧ V = bnum ((bs.drop st).take 32)) (fun L F r1 F1 => jCu L F1 cv g ms pw one u s h r t ∧ jPw L F1 pw x2 x3 x22 x44 x88 run ∧ jCo L F1 one 1 ∧ (∃ Pn : JP, jPt L F1 p px py pz Pn ∧ (isX V → Pn = evJ V)) ∧ (∀ z, z ∉ [u, t, x2, x3, x22, x44, x88, run, p, px, py, pz] → F1 z = F z) ∧ r1 = b2i (isX V)) := by
  refine jm_ki (cc := cX2_lift) (maxL := 4) (rt := .boolean) (by decide) rfl (Nat.le_of_ble_eq_true rfl) ?_
  intro E L F hE hR hpre
  have hE : jOk E G _ cX2_lift 4 RX2 wsX2_lift := hE
  obtain ⟨⟨hc0, ⟨lu, hcu⟩, ⟨ls, hcs⟩, ⟨lh, hch⟩, ⟨lr, hcr⟩, ⟨lt, hct⟩⟩, ⟨hpw, ⟨w1, hw_x2⟩, ⟨w2, hw_x3⟩, ⟨w3, hw_x22⟩, ⟨w4, hw_x44⟩, ⟨w5, hw_x88⟩, ⟨w6, hw_run⟩⟩, hone, ⟨hp0, hp1, hp2, hp3⟩, hnd, hB, hlen, hVd⟩ := hpre

  have f53 : jFl RX2 wsX2_lift 53 6 0 := ⟨rfl, by decide, by decide +kernel, by decide +kernel⟩
  have f46 : jFl RX2 wsX2_lift 46 2 8 := ⟨rfl, by decide, by decide +kernel, by decide +kernel⟩
  have f23 : jFl RX2 wsX2_lift 23 2 2 := ⟨rfl, by decide, by decide +kernel, by decide +kernel⟩
  have f64 : jFl RX2 wsX2_lift 64 6 1 := ⟨rfl, by decide, by decide +kernel, by decide +kernel⟩
  have f34 : jFl RX2 wsX2_lift 34 2 4 := ⟨rfl, by decide, by decide +kernel, by decide +kernel⟩
  have f75 : jFl RX2 wsX2_lift 75 6 2 := ⟨rfl, by decide, by decide +kernel, by decide +kernel⟩
  have f30 : jFl RX2 wsX2_lift 30 2 3 := ⟨rfl, by decide, by decide +kernel, by decide +kernel⟩
  have f82 : jFl RX2 wsX2_lift 82 6 3 := ⟨rfl, by decide, by decide +kernel, by decide +kernel⟩
  refine jr_aload_n hE dX2_lift_0 1 rfl ?_
  refine jr_get hE dX2_lift_1 f53 hp0 rfl ?_
  refine jr_aload_n hE dX2_lift_4 2 rfl ?_
  refine jr_iload_n hE dX2_lift_5 3 rfl ?_
  obtain ⟨lw1, w1⟩ := hp1.cell
  refine jr_kVi (ci := 1) (n := 2) (As := [.ref ob, .int (nI st)]) (rest := []) hE dX2_lift_6 (fun l => c_X1_take l G px ob hb cap st _ bs) gX2_lift_X1_take rfl w1 rfl (by decide +kernel) ⟨rfl, rfl, by decide, by decide⟩ (by decide) rfl rfl (Nat.le_of_ble_eq_true rfl) (⟨w1, hB, hlen⟩) (fun r4 F2 q3 => ?_)
  obtain ⟨td, rt0, hr0⟩ := q3
  rw [← hVd] at td hr0
  subst hr0
  have tc := td.co
  have h1_u := hcu.fr (rt0 u (jn hnd 1 [15] rfl rfl (by decide)))
  have h1_s := hcs.fr (rt0 s (jn hnd 2 [15] rfl rfl (by decide)))
  have h1_h := hch.fr (rt0 h (jn hnd 3 [15] rfl rfl (by decide)))
  have h1_r := hcr.fr (rt0 r (jn hnd 4 [15] rfl rfl (by decide)))
  have h1_t := hct.fr (rt0 t (jn hnd 5 [15] rfl rfl (by decide)))
  have h1_x2 := hw_x2.fr (rt0 x2 (jn hnd 7 [15] rfl rfl (by decide)))
  have h1_x3 := hw_x3.fr (rt0 x3 (jn hnd 8 [15] rfl rfl (by decide)))
  have h1_x22 := hw_x22.fr (rt0 x22 (jn hnd 9 [15] rfl rfl (by decide)))
  have h1_x44 := hw_x44.fr (rt0 x44 (jn hnd 10 [15] rfl rfl (by decide)))
  have h1_x88 := hw_x88.fr (rt0 x88 (jn hnd 11 [15] rfl rfl (by decide)))
  have h1_run := hw_run.fr (rt0 run (jn hnd 12 [15] rfl rfl (by decide)))
  have h1_one := hone.fr (rt0 one (jn hnd 13 [15] rfl rfl (by decide)))
  have h1_py := hp2.fr (rt0 py (jn hnd 16 [15] rfl rfl (by decide)))
  have h1_pz := hp3.fr (rt0 pz (jn hnd 17 [15] rfl rfl (by decide)))
  have g1_cv := hc0.fr (rt0 cv (jn hnd 0 [15] rfl rfl (by decide)))
  have g1_pw := hpw.fr (rt0 pw (jn hnd 6 [15] rfl rfl (by decide)))
  have g1_p := hp0.fr (rt0 p (jn hnd 14 [15] rfl rfl (by decide)))
  refine jr_if_ne (tgt := 14) hE dX2_lift_9 (by decide) (fun c9 => ?_) (fun c9 => ?_)
  · have hVl : V % PP = V := Nat.mod_eq_of_lt (b2i_1 c9)
    rw [hVl] at tc
    refine jr_aload_n hE dX2_lift_14 0 rfl ?_
    refine jr_get hE dX2_lift_15 f46 g1_cv rfl ?_
    refine jr_aload_n hE dX2_lift_18 1 rfl ?_
    refine jr_get hE dX2_lift_19 f53 g1_p rfl ?_
    refine jr_aload_n hE dX2_lift_22 1 rfl ?_
    refine jr_get hE dX2_lift_23 f53 g1_p rfl ?_
    refine jr_kVv (ci := 1) (n := 2) (As := [.ref px, .ref px]) (rest := []) hE dX2_lift_26 (fun l => c_X1_product l G t px px V V _) gX2_lift_X1_product rfl h1_t rfl (by decide +kernel) ⟨rfl, rfl, by decide, by decide⟩ (by decide) rfl rfl (Nat.le_of_ble_eq_true rfl) (⟨h1_t, tc, tc⟩) (fun F6 q7 => ?_)
    obtain ⟨p5T, r5T⟩ := q7
    have p5T : jCo L F6 t (fm V V) := p5T
    have h2T_u := h1_u.fr (r5T u (jn hnd 1 [5] rfl rfl (by decide)))
    have h2T_s := h1_s.fr (r5T s (jn hnd 2 [5] rfl rfl (by decide)))
    have h2T_h := h1_h.fr (r5T h (jn hnd 3 [5] rfl rfl (by decide)))
    have h2T_r := h1_r.fr (r5T r (jn hnd 4 [5] rfl rfl (by decide)))
    have h2T_x2 := h1_x2.fr (r5T x2 (jn hnd 7 [5] rfl rfl (by decide)))
    have h2T_x3 := h1_x3.fr (r5T x3 (jn hnd 8 [5] rfl rfl (by decide)))
    have h2T_x22 := h1_x22.fr (r5T x22 (jn hnd 9 [5] rfl rfl (by decide)))
    have h2T_x44 := h1_x44.fr (r5T x44 (jn hnd 10 [5] rfl rfl (by decide)))
    have h2T_x88 := h1_x88.fr (r5T x88 (jn hnd 11 [5] rfl rfl (by decide)))
    have h2T_run := h1_run.fr (r5T run (jn hnd 12 [5] rfl rfl (by decide)))
    have h2T_one := h1_one.fr (r5T one (jn hnd 13 [5] rfl rfl (by decide)))
    have h2T_py := h1_py.fr (r5T py (jn hnd 16 [5] rfl rfl (by decide)))
    have h2T_pz := h1_pz.fr (r5T pz (jn hnd 17 [5] rfl rfl (by decide)))
    have h2T_px := tc.fr (r5T px (jn hnd 15 [5] rfl rfl (by decide)))
    have g2T_cv := g1_cv.fr (r5T cv (jn hnd 0 [5] rfl rfl (by decide)))
    have g2T_pw := g1_pw.fr (r5T pw (jn hnd 6 [5] rfl rfl (by decide)))
    have g2T_p := g1_p.fr (r5T p (jn hnd 14 [5] rfl rfl (by decide)))
    refine jr_aload_n hE dX2_lift_29 0 rfl ?_
    refine jr_get hE dX2_lift_30 f46 g2T_cv rfl ?_
    refine jr_aload_n hE dX2_lift_33 0 rfl ?_
    refine jr_get hE dX2_lift_34 f46 g2T_cv rfl ?_
    refine jr_aload_n hE dX2_lift_37 1 rfl ?_
    refine jr_get hE dX2_lift_38 f53 g2T_p rfl ?_
    obtain ⟨lw8T, w8T⟩ := p5T.cell
    refine jr_kVv (ci := 1) (n := 2) (As := [.ref t, .ref px]) (rest := []) hE dX2_lift_41 (fun l => c_X1_product l G t t px (fm V V) V _) gX2_lift_X1_product rfl w8T rfl (by decide +kernel) ⟨rfl, rfl, by decide, by decide⟩ (by decide) rfl rfl (Nat.le_of_ble_eq_true rfl) (⟨w8T, p5T, h2T_px⟩) (fun F10 q11 => ?_)
    obtain ⟨p9T, r9T⟩ := q11
    have p9T : jCo L F10 t (fm (fm V V) V) := p9T
    have h3T_u := h2T_u.fr (r9T u (jn hnd 1 [5] rfl rfl (by decide)))
    have h3T_s := h2T_s.fr (r9T s (jn hnd 2 [5] rfl rfl (by decide)))
    have h3T_h := h2T_h.fr (r9T h (jn hnd 3 [5] rfl rfl (by decide)))
    have h3T_r := h2T_r.fr (r9T r (jn hnd 4 [5] rfl rfl (by decide)))
    have h3T_x2 := h2T_x2.fr (r9T x2 (jn hnd 7 [5] rfl rfl (by decide)))
    have h3T_x3 := h2T_x3.fr (r9T x3 (jn hnd 8 [5] rfl rfl (by decide)))
    have h3T_x22 := h2T_x22.fr (r9T x22 (jn hnd 9 [5] rfl rfl (by decide)))
    have h3T_x44 := h2T_x44.fr (r9T x44 (jn hnd 10 [5] rfl rfl (by decide)))
    have h3T_x88 := h2T_x88.fr (r9T x88 (jn hnd 11 [5] rfl rfl (by decide)))
    have h3T_run := h2T_run.fr (r9T run (jn hnd 12 [5] rfl rfl (by decide)))
    have h3T_one := h2T_one.fr (r9T one (jn hnd 13 [5] rfl rfl (by decide)))
    have h3T_py := h2T_py.fr (r9T py (jn hnd 16 [5] rfl rfl (by decide)))
    have h3T_pz := h2T_pz.fr (r9T pz (jn hnd 17 [5] rfl rfl (by decide)))
    have h3T_px := h2T_px.fr (r9T px (jn hnd 15 [5] rfl rfl (by decide)))
    have g3T_cv := g2T_cv.fr (r9T cv (jn hnd 0 [5] rfl rfl (by decide)))
    have g3T_pw := g2T_pw.fr (r9T pw (jn hnd 6 [5] rfl rfl (by decide)))
    have g3T_p := g2T_p.fr (r9T p (jn hnd 14 [5] rfl rfl (by decide)))
    refine jr_aload_n hE dX2_lift_44 0 rfl ?_
    refine jr_get hE dX2_lift_45 f46 g3T_cv rfl ?_
    refine jr_bipush (v := (7 : Int32)) hE dX2_lift_48 (by decide) ?_
    obtain ⟨lw12T, w12T⟩ := p9T.cell
    refine jr_kVv (ci := 1) (n := 1) (As := [.int (7 : Int32)]) (rest := []) hE dX2_lift_50 (fun l => c_X1_addSmall l G t (fm (fm V V) V) 7) gX2_lift_X1_addSmall rfl w12T rfl (by decide +kernel) ⟨rfl, rfl, by decide, by decide⟩ (by decide) rfl rfl (Nat.le_of_ble_eq_true rfl) (⟨p9T, by decide⟩) (fun F14 q15 => ?_)
    obtain ⟨p13T, r13T⟩ := q15
    have h4T_u := h3T_u.fr (r13T u (jn hnd 1 [5] rfl rfl (by decide)))
    have h4T_s := h3T_s.fr (r13T s (jn hnd 2 [5] rfl rfl (by decide)))
    have h4T_h := h3T_h.fr (r13T h (jn hnd 3 [5] rfl rfl (by decide)))
    have h4T_r := h3T_r.fr (r13T r (jn hnd 4 [5] rfl rfl (by decide)))
    have h4T_x2 := h3T_x2.fr (r13T x2 (jn hnd 7 [5] rfl rfl (by decide)))
    have h4T_x3 := h3T_x3.fr (r13T x3 (jn hnd 8 [5] rfl rfl (by decide)))
    have h4T_x22 := h3T_x22.fr (r13T x22 (jn hnd 9 [5] rfl rfl (by decide)))
    have h4T_x44 := h3T_x44.fr (r13T x44 (jn hnd 10 [5] rfl rfl (by decide)))
    have h4T_x88 := h3T_x88.fr (r13T x88 (jn hnd 11 [5] rfl rfl (by decide)))
    have h4T_run := h3T_run.fr (r13T run (jn hnd 12 [5] rfl rfl (by decide)))
    have h4T_one := h3T_one.fr (r13T one (jn hnd 13 [5] rfl rfl (by decide)))
    have h4T_py := h3T_py.fr (r13T py (jn hnd 16 [5] rfl rfl (by decide)))
    have h4T_pz := h3T_pz.fr (r13T pz (jn hnd 17 [5] rfl rfl (by decide)))
    have h4T_px := h3T_px.fr (r13T px (jn hnd 15 [5] rfl rfl (by decide)))
    have g4T_cv := g3T_cv.fr (r13T cv (jn hnd 0 [5] rfl rfl (by decide)))
    have g4T_pw := g3T_pw.fr (r13T pw (jn hnd 6 [5] rfl rfl (by decide)))
    have g4T_p := g3T_p.fr (r13T p (jn hnd 14 [5] rfl rfl (by decide)))
    obtain ⟨R, hRv⟩ : ∃ R, R = rhsJ V := ⟨_, rfl⟩
    have tR : jCo L F14 t R := by rw [hRv]; exact p13T
    refine jr_aload_n hE dX2_lift_53 0 rfl ?_
    refine jr_get hE dX2_lift_54 f23 g4T_cv rfl ?_
    refine jr_aload_n hE dX2_lift_57 1 rfl ?_
    refine jr_get hE dX2_lift_58 f64 g4T_p rfl ?_
    refine jr_aload_n hE dX2_lift_61 0 rfl ?_
    refine jr_get hE dX2_lift_62 f46 g4T_cv rfl ?_
    obtain ⟨lw16T, w16T⟩ := h4T_py.cell
    refine jr_kVv (ci := 7) (n := 2) (As := [.ref py, .ref t]) (rest := []) hE dX2_lift_65 (fun l => c_X7_stem l G pw py t x2 x3 x22 x44 x88 run R) gX2_lift_X7_stem rfl g4T_pw rfl (by decide +kernel) ⟨rfl, rfl, by decide, by decide⟩ (by decide) rfl rfl (Nat.le_of_ble_eq_true rfl) (⟨⟨g4T_pw, ⟨_, h4T_x2⟩, ⟨_, h4T_x3⟩, ⟨_, h4T_x22⟩, ⟨_, h4T_x44⟩, ⟨_, h4T_x88⟩, ⟨_, h4T_run⟩⟩, ⟨_, w16T⟩, tR, jnd hnd [16, 5, 7, 8, 9, 10, 11, 12] rfl (by decide)⟩) (fun F18 q19 => ?_)
    obtain ⟨⟨p17T, ⟨w17T, ⟨_, s17T_x2⟩, ⟨_, s17T_x3⟩, ⟨_, s17T_x22⟩, ⟨_, s17T_x44⟩, ⟨_, s17T_x88⟩, ⟨_, s17T_run⟩⟩⟩, r17T⟩ := q19
    have h5T_u := h4T_u.fr (r17T u (jn hnd 1 [16, 7, 8, 9, 10, 11, 12] rfl rfl (by decide)))
    have h5T_s := h4T_s.fr (r17T s (jn hnd 2 [16, 7, 8, 9, 10, 11, 12] rfl rfl (by decide)))
    have h5T_h := h4T_h.fr (r17T h (jn hnd 3 [16, 7, 8, 9, 10, 11, 12] rfl rfl (by decide)))
    have h5T_r := h4T_r.fr (r17T r (jn hnd 4 [16, 7, 8, 9, 10, 11, 12] rfl rfl (by decide)))
    have h5T_one := h4T_one.fr (r17T one (jn hnd 13 [16, 7, 8, 9, 10, 11, 12] rfl rfl (by decide)))
    have h5T_pz := h4T_pz.fr (r17T pz (jn hnd 17 [16, 7, 8, 9, 10, 11, 12] rfl rfl (by decide)))
    have h5T_px := h4T_px.fr (r17T px (jn hnd 15 [16, 7, 8, 9, 10, 11, 12] rfl rfl (by decide)))
    have h5T_t := tR.fr (r17T t (jn hnd 5 [16, 7, 8, 9, 10, 11, 12] rfl rfl (by decide)))
    have g5T_cv := g4T_cv.fr (r17T cv (jn hnd 0 [16, 7, 8, 9, 10, 11, 12] rfl rfl (by decide)))
    have g5T_pw := g4T_pw.fr (r17T pw (jn hnd 6 [16, 7, 8, 9, 10, 11, 12] rfl rfl (by decide)))
    have g5T_p := g4T_p.fr (r17T p (jn hnd 14 [16, 7, 8, 9, 10, 11, 12] rfl rfl (by decide)))
    refine jr_aload_n hE dX2_lift_68 1 rfl ?_
    refine jr_get hE dX2_lift_69 f64 g5T_p rfl ?_
    refine jr_aload_n hE dX2_lift_72 1 rfl ?_
    refine jr_get hE dX2_lift_73 f64 g5T_p rfl ?_
    refine jr_aload_n hE dX2_lift_76 0 rfl ?_
    refine jr_get hE dX2_lift_77 f46 g5T_cv rfl ?_
    obtain ⟨lw20T, w20T⟩ := p17T.cell
    refine jr_kVv (ci := 1) (n := 2) (As := [.ref py, .ref t]) (rest := []) hE dX2_lift_80 (fun l => c_X1_product l G py py t (stemv R) R _) gX2_lift_X1_product rfl w20T rfl (by decide +kernel) ⟨rfl, rfl, by decide, by decide⟩ (by decide) rfl rfl (Nat.le_of_ble_eq_true rfl) (⟨w20T, p17T, h5T_t⟩) (fun F22 q23 => ?_)
    obtain ⟨p21T, r21T⟩ := q23
    have p21T : jCo L F22 py (fm (stemv R) R) := p21T
    have h6T_u := h5T_u.fr (r21T u (jn hnd 1 [16] rfl rfl (by decide)))
    have h6T_s := h5T_s.fr (r21T s (jn hnd 2 [16] rfl rfl (by decide)))
    have h6T_h := h5T_h.fr (r21T h (jn hnd 3 [16] rfl rfl (by decide)))
    have h6T_r := h5T_r.fr (r21T r (jn hnd 4 [16] rfl rfl (by decide)))
    have h6T_one := h5T_one.fr (r21T one (jn hnd 13 [16] rfl rfl (by decide)))
    have h6T_pz := h5T_pz.fr (r21T pz (jn hnd 17 [16] rfl rfl (by decide)))
    have h6T_px := h5T_px.fr (r21T px (jn hnd 15 [16] rfl rfl (by decide)))
    have h6T_t := h5T_t.fr (r21T t (jn hnd 5 [16] rfl rfl (by decide)))
    have h6T_x2 := s17T_x2.fr (r21T x2 (jn hnd 7 [16] rfl rfl (by decide)))
    have h6T_x3 := s17T_x3.fr (r21T x3 (jn hnd 8 [16] rfl rfl (by decide)))
    have h6T_x22 := s17T_x22.fr (r21T x22 (jn hnd 9 [16] rfl rfl (by decide)))
    have h6T_x44 := s17T_x44.fr (r21T x44 (jn hnd 10 [16] rfl rfl (by decide)))
    have h6T_x88 := s17T_x88.fr (r21T x88 (jn hnd 11 [16] rfl rfl (by decide)))
    have h6T_run := s17T_run.fr (r21T run (jn hnd 12 [16] rfl rfl (by decide)))
    have g6T_cv := g5T_cv.fr (r21T cv (jn hnd 0 [16] rfl rfl (by decide)))
    have g6T_pw := g5T_pw.fr (r21T pw (jn hnd 6 [16] rfl rfl (by decide)))
    have g6T_p := g5T_p.fr (r21T p (jn hnd 14 [16] rfl rfl (by decide)))
    obtain ⟨Y, hYv⟩ : ∃ Y, Y = rtJ V := ⟨_, rfl⟩
    have yY : jCo L F22 py Y := by rw [hYv]; unfold rtJ; rw [← hRv]; exact p21T
    refine jr_aload_n hE dX2_lift_83 0 rfl ?_
    refine jr_get hE dX2_lift_84 f34 g6T_cv rfl ?_
    refine jr_aload_n hE dX2_lift_87 1 rfl ?_
    refine jr_get hE dX2_lift_88 f64 g6T_p rfl ?_
    refine jr_aload_n hE dX2_lift_91 1 rfl ?_
    refine jr_get hE dX2_lift_92 f64 g6T_p rfl ?_
    refine jr_kVv (ci := 1) (n := 2) (As := [.ref py, .ref py]) (rest := []) hE dX2_lift_95 (fun l => c_X1_product l G u py py Y Y _) gX2_lift_X1_product rfl h6T_u rfl (by decide +kernel) ⟨rfl, rfl, by decide, by decide⟩ (by decide) rfl rfl (Nat.le_of_ble_eq_true rfl) (⟨h6T_u, yY, yY⟩) (fun F25 q26 => ?_)
    obtain ⟨p24T, r24T⟩ := q26
    have p24T : jCo L F25 u (fm Y Y) := p24T
    have h7T_s := h6T_s.fr (r24T s (jn hnd 2 [1] rfl rfl (by decide)))
    have h7T_h := h6T_h.fr (r24T h (jn hnd 3 [1] rfl rfl (by decide)))
    have h7T_r := h6T_r.fr (r24T r (jn hnd 4 [1] rfl rfl (by decide)))
    have h7T_one := h6T_one.fr (r24T one (jn hnd 13 [1] rfl rfl (by decide)))
    have h7T_pz := h6T_pz.fr (r24T pz (jn hnd 17 [1] rfl rfl (by decide)))
    have h7T_px := h6T_px.fr (r24T px (jn hnd 15 [1] rfl rfl (by decide)))
    have h7T_t := h6T_t.fr (r24T t (jn hnd 5 [1] rfl rfl (by decide)))
    have h7T_x2 := h6T_x2.fr (r24T x2 (jn hnd 7 [1] rfl rfl (by decide)))
    have h7T_x3 := h6T_x3.fr (r24T x3 (jn hnd 8 [1] rfl rfl (by decide)))
    have h7T_x22 := h6T_x22.fr (r24T x22 (jn hnd 9 [1] rfl rfl (by decide)))
    have h7T_x44 := h6T_x44.fr (r24T x44 (jn hnd 10 [1] rfl rfl (by decide)))
    have h7T_x88 := h6T_x88.fr (r24T x88 (jn hnd 11 [1] rfl rfl (by decide)))
    have h7T_run := h6T_run.fr (r24T run (jn hnd 12 [1] rfl rfl (by decide)))
    have h7T_py := yY.fr (r24T py (jn hnd 16 [1] rfl rfl (by decide)))
    have g7T_cv := g6T_cv.fr (r24T cv (jn hnd 0 [1] rfl rfl (by decide)))
    have g7T_pw := g6T_pw.fr (r24T pw (jn hnd 6 [1] rfl rfl (by decide)))
    have g7T_p := g6T_p.fr (r24T p (jn hnd 14 [1] rfl rfl (by decide)))
    refine jr_aload_n hE dX2_lift_98 0 rfl ?_
    refine jr_get hE dX2_lift_99 f34 g7T_cv rfl ?_
    refine jr_aload_n hE dX2_lift_102 0 rfl ?_
    refine jr_get hE dX2_lift_103 f46 g7T_cv rfl ?_
    obtain ⟨lw27T, w27T⟩ := p24T.cell
    refine jr_kVi (ci := 1) (n := 1) (As := [.ref t]) (rest := []) hE dX2_lift_106 (fun l => c_X1_isLike l G u t (fm Y Y) R) gX2_lift_X1_isLike rfl w27T rfl (by decide +kernel) ⟨rfl, rfl, by decide, by decide⟩ (by decide) rfl rfl (Nat.le_of_ble_eq_true rfl) (⟨p24T, h7T_t, jnd hnd [1, 5] rfl (by decide)⟩) (fun r31 F29 q30 => ?_)
    have l28T := co_lt p24T
    have m28T := co_lt h7T_t
    obtain ⟨d28T, e28T, r28T, rfl⟩ := q30
    have p28T := d28T.co' l28T
    have q28T := e28T.co' m28T
    have h8T_s := h7T_s.fr (r28T s (jn hnd 2 [1, 5] rfl rfl (by decide)))
    have h8T_h := h7T_h.fr (r28T h (jn hnd 3 [1, 5] rfl rfl (by decide)))
    have h8T_r := h7T_r.fr (r28T r (jn hnd 4 [1, 5] rfl rfl (by decide)))
    have h8T_one := h7T_one.fr (r28T one (jn hnd 13 [1, 5] rfl rfl (by decide)))
    have h8T_pz := h7T_pz.fr (r28T pz (jn hnd 17 [1, 5] rfl rfl (by decide)))
    have h8T_px := h7T_px.fr (r28T px (jn hnd 15 [1, 5] rfl rfl (by decide)))
    have h8T_x2 := h7T_x2.fr (r28T x2 (jn hnd 7 [1, 5] rfl rfl (by decide)))
    have h8T_x3 := h7T_x3.fr (r28T x3 (jn hnd 8 [1, 5] rfl rfl (by decide)))
    have h8T_x22 := h7T_x22.fr (r28T x22 (jn hnd 9 [1, 5] rfl rfl (by decide)))
    have h8T_x44 := h7T_x44.fr (r28T x44 (jn hnd 10 [1, 5] rfl rfl (by decide)))
    have h8T_x88 := h7T_x88.fr (r28T x88 (jn hnd 11 [1, 5] rfl rfl (by decide)))
    have h8T_run := h7T_run.fr (r28T run (jn hnd 12 [1, 5] rfl rfl (by decide)))
    have h8T_py := h7T_py.fr (r28T py (jn hnd 16 [1, 5] rfl rfl (by decide)))
    have g8T_cv := g7T_cv.fr (r28T cv (jn hnd 0 [1, 5] rfl rfl (by decide)))
    have g8T_pw := g7T_pw.fr (r28T pw (jn hnd 6 [1, 5] rfl rfl (by decide)))
    have g8T_p := g7T_p.fr (r28T p (jn hnd 14 [1, 5] rfl rfl (by decide)))
    refine jr_if_ne (tgt := 114) hE dX2_lift_109 (by decide) (fun c109 => ?_) (fun c109 => ?_)
    · have hX : isX V := ⟨b2i_1 c9, by rw [← hYv, ← hRv]; exact b2i_1 c109⟩
      refine jr_aload_n hE dX2_lift_114 1 rfl ?_
      refine jr_get hE dX2_lift_115 f64 g8T_p rfl ?_
      obtain ⟨lw32TT, w32TT⟩ := h8T_py.cell
      refine jr_kVi (ci := 1) (n := 0) (As := []) (rest := []) hE dX2_lift_118 (fun l => c_X1_isOdd l G py Y) gX2_lift_X1_isOdd rfl w32TT rfl (by decide +kernel) ⟨rfl, rfl, by decide, by decide⟩ (by decide) rfl rfl (Nat.le_of_ble_eq_true rfl) (h8T_py) (fun r36 F34 q35 => ?_)
      have l33TT := co_lt h8T_py
      obtain ⟨d33TT, r33TT, rfl⟩ := q35
      have p33TT := d33TT.co' l33TT
      have h9TT_s := h8T_s.fr (r33TT s (jn hnd 2 [16] rfl rfl (by decide)))
      have h9TT_h := h8T_h.fr (r33TT h (jn hnd 3 [16] rfl rfl (by decide)))
      have h9TT_r := h8T_r.fr (r33TT r (jn hnd 4 [16] rfl rfl (by decide)))
      have h9TT_one := h8T_one.fr (r33TT one (jn hnd 13 [16] rfl rfl (by decide)))
      have h9TT_pz := h8T_pz.fr (r33TT pz (jn hnd 17 [16] rfl rfl (by decide)))
      have h9TT_px := h8T_px.fr (r33TT px (jn hnd 15 [16] rfl rfl (by decide)))
      have h9TT_x2 := h8T_x2.fr (r33TT x2 (jn hnd 7 [16] rfl rfl (by decide)))
      have h9TT_x3 := h8T_x3.fr (r33TT x3 (jn hnd 8 [16] rfl rfl (by decide)))
      have h9TT_x22 := h8T_x22.fr (r33TT x22 (jn hnd 9 [16] rfl rfl (by decide)))
      have h9TT_x44 := h8T_x44.fr (r33TT x44 (jn hnd 10 [16] rfl rfl (by decide)))
      have h9TT_x88 := h8T_x88.fr (r33TT x88 (jn hnd 11 [16] rfl rfl (by decide)))
      have h9TT_run := h8T_run.fr (r33TT run (jn hnd 12 [16] rfl rfl (by decide)))
      have h9TT_u := p28T.fr (r33TT u (jn hnd 1 [16] rfl rfl (by decide)))
      have h9TT_t := q28T.fr (r33TT t (jn hnd 5 [16] rfl rfl (by decide)))
      have g9TT_cv := g8T_cv.fr (r33TT cv (jn hnd 0 [16] rfl rfl (by decide)))
      have g9TT_pw := g8T_pw.fr (r33TT pw (jn hnd 6 [16] rfl rfl (by decide)))
      have g9TT_p := g8T_p.fr (r33TT p (jn hnd 14 [16] rfl rfl (by decide)))
      refine jr_if_eq (tgt := 128) hE dX2_lift_121 (by decide) (fun c121 => ?_) (fun c121 => ?_)
      · refine jr_aload_n hE dX2_lift_128 1 rfl ?_
        refine jr_get hE dX2_lift_129 f75 g9TT_p rfl ?_
        refine jr_aload_n hE dX2_lift_132 0 rfl ?_
        refine jr_get hE dX2_lift_133 f30 g9TT_cv rfl ?_
        obtain ⟨lw37TTT, w37TTT⟩ := h9TT_pz.cell
        refine jr_kVv (ci := 1) (n := 1) (As := [.ref one]) (rest := []) hE dX2_lift_136 (fun l => c_X1_become l G pz one 1 _) gX2_lift_X1_become rfl w37TTT rfl (by decide +kernel) ⟨rfl, rfl, by decide, by decide⟩ (by decide) rfl rfl (Nat.le_of_ble_eq_true rfl) (⟨w37TTT, h9TT_one⟩) (fun F39 q40 => ?_)
        obtain ⟨p38TTT, r38TTT⟩ := q40
        have h10TTT_s := h9TT_s.fr (r38TTT s (jn hnd 2 [17] rfl rfl (by decide)))
        have h10TTT_h := h9TT_h.fr (r38TTT h (jn hnd 3 [17] rfl rfl (by decide)))
        have h10TTT_r := h9TT_r.fr (r38TTT r (jn hnd 4 [17] rfl rfl (by decide)))
        have h10TTT_one := h9TT_one.fr (r38TTT one (jn hnd 13 [17] rfl rfl (by decide)))
        have h10TTT_px := h9TT_px.fr (r38TTT px (jn hnd 15 [17] rfl rfl (by decide)))
        have h10TTT_x2 := h9TT_x2.fr (r38TTT x2 (jn hnd 7 [17] rfl rfl (by decide)))
        have h10TTT_x3 := h9TT_x3.fr (r38TTT x3 (jn hnd 8 [17] rfl rfl (by decide)))
        have h10TTT_x22 := h9TT_x22.fr (r38TTT x22 (jn hnd 9 [17] rfl rfl (by decide)))
        have h10TTT_x44 := h9TT_x44.fr (r38TTT x44 (jn hnd 10 [17] rfl rfl (by decide)))
        have h10TTT_x88 := h9TT_x88.fr (r38TTT x88 (jn hnd 11 [17] rfl rfl (by decide)))
        have h10TTT_run := h9TT_run.fr (r38TTT run (jn hnd 12 [17] rfl rfl (by decide)))
        have h10TTT_u := h9TT_u.fr (r38TTT u (jn hnd 1 [17] rfl rfl (by decide)))
        have h10TTT_t := h9TT_t.fr (r38TTT t (jn hnd 5 [17] rfl rfl (by decide)))
        have h10TTT_py := p33TT.fr (r38TTT py (jn hnd 16 [17] rfl rfl (by decide)))
        have g10TTT_cv := g9TT_cv.fr (r38TTT cv (jn hnd 0 [17] rfl rfl (by decide)))
        have g10TTT_pw := g9TT_pw.fr (r38TTT pw (jn hnd 6 [17] rfl rfl (by decide)))
        have g10TTT_p := g9TT_p.fr (r38TTT p (jn hnd 14 [17] rfl rfl (by decide)))
        refine jr_aload_n hE dX2_lift_139 1 rfl ?_
        refine jr_iconst (v := (0 : Int32)) hE dX2_lift_140 (by decide) ?_
        refine jr_put (ty := .boolean) hE dX2_lift_141 f82 g10TTT_p rfl (by decide +kernel) (bi_nar false) (bi_fit false) (Nat.le_of_ble_eq_true rfl) (fun F41 g42 u43 => ?_)
        have g42 : jF L F41 p (.inr (6, [.ref px, .ref py, .ref pz, .int (0 : Int32)])) := g42
        have g44 := g10TTT_cv.upk u43 g10TTT_p (Nat.ne_of_beq_eq_false rfl)
        have g45 := g10TTT_pw.upk u43 g10TTT_p (Nat.ne_of_beq_eq_false rfl)
        refine jr_iconst (v := (1 : Int32)) hE dX2_lift_144 (by decide) ?_
        exact hR F41 1 _ _ dX2_lift_145 rfl ⟨⟨g44, (h10TTT_u.fr (u43 u (jn2 hnd 1 14 rfl rfl (by decide)))).cell, ⟨_, (h10TTT_s.fr (u43 s (jn2 hnd 2 14 rfl rfl (by decide))))⟩, ⟨_, (h10TTT_h.fr (u43 h (jn2 hnd 3 14 rfl rfl (by decide))))⟩, ⟨_, (h10TTT_r.fr (u43 r (jn2 hnd 4 14 rfl rfl (by decide))))⟩, (h10TTT_t.fr (u43 t (jn2 hnd 5 14 rfl rfl (by decide)))).cell⟩, ⟨g45, ⟨_, (h10TTT_x2.fr (u43 x2 (jn2 hnd 7 14 rfl rfl (by decide))))⟩, ⟨_, (h10TTT_x3.fr (u43 x3 (jn2 hnd 8 14 rfl rfl (by decide))))⟩, ⟨_, (h10TTT_x22.fr (u43 x22 (jn2 hnd 9 14 rfl rfl (by decide))))⟩, ⟨_, (h10TTT_x44.fr (u43 x44 (jn2 hnd 10 14 rfl rfl (by decide))))⟩, ⟨_, (h10TTT_x88.fr (u43 x88 (jn2 hnd 11 14 rfl rfl (by decide))))⟩, ⟨_, (h10TTT_run.fr (u43 run (jn2 hnd 12 14 rfl rfl (by decide))))⟩⟩, (h10TTT_one.fr (u43 one (jn2 hnd 13 14 rfl rfl (by decide)))), ⟨(false, V, Y, 1), ⟨g42, (h10TTT_px.fr (u43 px (jn2 hnd 15 14 rfl rfl (by decide)))), (h10TTT_py.fr (u43 py (jn2 hnd 16 14 rfl rfl (by decide)))), (p38TTT.fr (u43 pz (jn2 hnd 17 14 rfl rfl (by decide))))⟩, fun _ => by rw [hYv]; exact (evJ_a (by rw [← hYv]; exact b2i_0 c121)).symm⟩, fun z hz => (u43 z (jne hz 8 rfl)).trans ((r38TTT z (jnsub (V := [pz]) hz [11] rfl)).trans ((r33TT z (jnsub (V := [py]) hz [10] rfl)).trans ((r28T z (jnsub (V := [u, t]) hz [0, 1] rfl)).trans ((r24T z (jnsub (V := [u]) hz [0] rfl)).trans ((r21T z (jnsub (V := [py]) hz [10] rfl)).trans ((r17T z (jnsub (V := [py, x2, x3, x22, x44, x88, run]) hz [10, 2, 3, 4, 5, 6, 7] rfl)).trans ((r13T z (jnsub (V := [t]) hz [1] rfl)).trans ((r9T z (jnsub (V := [t]) hz [1] rfl)).trans ((r5T z (jnsub (V := [t]) hz [1] rfl)).trans (rt0 z (jnsub (V := [px]) hz [9] rfl))))))))))), (b2i_t hX).symm⟩
      · refine jr_aload_n hE dX2_lift_124 1 rfl ?_
        refine jr_kVv (ci := 6) (n := 0) (As := []) (rest := []) hE dX2_lift_125 (fun l => c_X6_negate l G p px py pz (P.1, V, Y, P.2.2.2)) gX2_lift_X6_negate rfl g9TT_p rfl (by decide +kernel) ⟨rfl, rfl, by decide, by decide⟩ (by decide) rfl rfl (Nat.le_of_ble_eq_true rfl) (⟨⟨g9TT_p, h9TT_px, p33TT, h9TT_pz⟩, jnd hnd [14, 15, 16, 17] rfl (by decide)⟩) (fun F47 q48 => ?_)
        obtain ⟨p46TTF, r46TTF⟩ := q48
        have h10TTF_s := h9TT_s.fr (r46TTF s (jn hnd 2 [16] rfl rfl (by decide)))
        have h10TTF_h := h9TT_h.fr (r46TTF h (jn hnd 3 [16] rfl rfl (by decide)))
        have h10TTF_r := h9TT_r.fr (r46TTF r (jn hnd 4 [16] rfl rfl (by decide)))
        have h10TTF_one := h9TT_one.fr (r46TTF one (jn hnd 13 [16] rfl rfl (by decide)))
        have h10TTF_pz := h9TT_pz.fr (r46TTF pz (jn hnd 17 [16] rfl rfl (by decide)))
        have h10TTF_px := h9TT_px.fr (r46TTF px (jn hnd 15 [16] rfl rfl (by decide)))
        have h10TTF_x2 := h9TT_x2.fr (r46TTF x2 (jn hnd 7 [16] rfl rfl (by decide)))
        have h10TTF_x3 := h9TT_x3.fr (r46TTF x3 (jn hnd 8 [16] rfl rfl (by decide)))
        have h10TTF_x22 := h9TT_x22.fr (r46TTF x22 (jn hnd 9 [16] rfl rfl (by decide)))
        have h10TTF_x44 := h9TT_x44.fr (r46TTF x44 (jn hnd 10 [16] rfl rfl (by decide)))
        have h10TTF_x88 := h9TT_x88.fr (r46TTF x88 (jn hnd 11 [16] rfl rfl (by decide)))
        have h10TTF_run := h9TT_run.fr (r46TTF run (jn hnd 12 [16] rfl rfl (by decide)))
        have h10TTF_u := h9TT_u.fr (r46TTF u (jn hnd 1 [16] rfl rfl (by decide)))
        have h10TTF_t := h9TT_t.fr (r46TTF t (jn hnd 5 [16] rfl rfl (by decide)))
        have g10TTF_cv := g9TT_cv.fr (r46TTF cv (jn hnd 0 [16] rfl rfl (by decide)))
        have g10TTF_pw := g9TT_pw.fr (r46TTF pw (jn hnd 6 [16] rfl rfl (by decide)))
        have g10TTF_p := g9TT_p.fr (r46TTF p (jn hnd 14 [16] rfl rfl (by decide)))
        refine jr_aload_n hE dX2_lift_128 1 rfl ?_
        refine jr_get hE dX2_lift_129 f75 p46TTF.1 rfl ?_
        refine jr_aload_n hE dX2_lift_132 0 rfl ?_
        refine jr_get hE dX2_lift_133 f30 g10TTF_cv rfl ?_
        obtain ⟨lw49TTF, w49TTF⟩ := p46TTF.2.2.2.cell
        refine jr_kVv (ci := 1) (n := 1) (As := [.ref one]) (rest := []) hE dX2_lift_136 (fun l => c_X1_become l G pz one 1 _) gX2_lift_X1_become rfl w49TTF rfl (by decide +kernel) ⟨rfl, rfl, by decide, by decide⟩ (by decide) rfl rfl (Nat.le_of_ble_eq_true rfl) (⟨w49TTF, h10TTF_one⟩) (fun F51 q52 => ?_)
        obtain ⟨p50TTF, r50TTF⟩ := q52
        have h11TTF_s := h10TTF_s.fr (r50TTF s (jn hnd 2 [17] rfl rfl (by decide)))
        have h11TTF_h := h10TTF_h.fr (r50TTF h (jn hnd 3 [17] rfl rfl (by decide)))
        have h11TTF_r := h10TTF_r.fr (r50TTF r (jn hnd 4 [17] rfl rfl (by decide)))
        have h11TTF_one := h10TTF_one.fr (r50TTF one (jn hnd 13 [17] rfl rfl (by decide)))
        have h11TTF_px := p46TTF.2.1.fr (r50TTF px (jn hnd 15 [17] rfl rfl (by decide)))
        have h11TTF_x2 := h10TTF_x2.fr (r50TTF x2 (jn hnd 7 [17] rfl rfl (by decide)))
        have h11TTF_x3 := h10TTF_x3.fr (r50TTF x3 (jn hnd 8 [17] rfl rfl (by decide)))
        have h11TTF_x22 := h10TTF_x22.fr (r50TTF x22 (jn hnd 9 [17] rfl rfl (by decide)))
        have h11TTF_x44 := h10TTF_x44.fr (r50TTF x44 (jn hnd 10 [17] rfl rfl (by decide)))
        have h11TTF_x88 := h10TTF_x88.fr (r50TTF x88 (jn hnd 11 [17] rfl rfl (by decide)))
        have h11TTF_run := h10TTF_run.fr (r50TTF run (jn hnd 12 [17] rfl rfl (by decide)))
        have h11TTF_u := h10TTF_u.fr (r50TTF u (jn hnd 1 [17] rfl rfl (by decide)))
        have h11TTF_t := h10TTF_t.fr (r50TTF t (jn hnd 5 [17] rfl rfl (by decide)))
        have h11TTF_py := p46TTF.2.2.1.fr (r50TTF py (jn hnd 16 [17] rfl rfl (by decide)))
        have g11TTF_cv := g10TTF_cv.fr (r50TTF cv (jn hnd 0 [17] rfl rfl (by decide)))
        have g11TTF_pw := g10TTF_pw.fr (r50TTF pw (jn hnd 6 [17] rfl rfl (by decide)))
        have g11TTF_p := p46TTF.1.fr (r50TTF p (jn hnd 14 [17] rfl rfl (by decide)))
        refine jr_aload_n hE dX2_lift_139 1 rfl ?_
        refine jr_iconst (v := (0 : Int32)) hE dX2_lift_140 (by decide) ?_
        refine jr_put (ty := .boolean) hE dX2_lift_141 f82 g11TTF_p rfl (by decide +kernel) (bi_nar false) (bi_fit false) (Nat.le_of_ble_eq_true rfl) (fun F53 g54 u55 => ?_)
        have g54 : jF L F53 p (.inr (6, [.ref px, .ref py, .ref pz, .int (0 : Int32)])) := g54
        have g56 := g11TTF_cv.upk u55 g11TTF_p (Nat.ne_of_beq_eq_false rfl)
        have g57 := g11TTF_pw.upk u55 g11TTF_p (Nat.ne_of_beq_eq_false rfl)
        refine jr_iconst (v := (1 : Int32)) hE dX2_lift_144 (by decide) ?_
        exact hR F53 1 _ _ dX2_lift_145 rfl ⟨⟨g56, (h11TTF_u.fr (u55 u (jn2 hnd 1 14 rfl rfl (by decide)))).cell, ⟨_, (h11TTF_s.fr (u55 s (jn2 hnd 2 14 rfl rfl (by decide))))⟩, ⟨_, (h11TTF_h.fr (u55 h (jn2 hnd 3 14 rfl rfl (by decide))))⟩, ⟨_, (h11TTF_r.fr (u55 r (jn2 hnd 4 14 rfl rfl (by decide))))⟩, (h11TTF_t.fr (u55 t (jn2 hnd 5 14 rfl rfl (by decide)))).cell⟩, ⟨g57, ⟨_, (h11TTF_x2.fr (u55 x2 (jn2 hnd 7 14 rfl rfl (by decide))))⟩, ⟨_, (h11TTF_x3.fr (u55 x3 (jn2 hnd 8 14 rfl rfl (by decide))))⟩, ⟨_, (h11TTF_x22.fr (u55 x22 (jn2 hnd 9 14 rfl rfl (by decide))))⟩, ⟨_, (h11TTF_x44.fr (u55 x44 (jn2 hnd 10 14 rfl rfl (by decide))))⟩, ⟨_, (h11TTF_x88.fr (u55 x88 (jn2 hnd 11 14 rfl rfl (by decide))))⟩, ⟨_, (h11TTF_run.fr (u55 run (jn2 hnd 12 14 rfl rfl (by decide))))⟩⟩, (h11TTF_one.fr (u55 one (jn2 hnd 13 14 rfl rfl (by decide)))), ⟨(false, V, fk (-1) Y, 1), ⟨g54, (h11TTF_px.fr (u55 px (jn2 hnd 15 14 rfl rfl (by decide)))), (h11TTF_py.fr (u55 py (jn2 hnd 16 14 rfl rfl (by decide)))), (p50TTF.fr (u55 pz (jn2 hnd 17 14 rfl rfl (by decide))))⟩, fun _ => by rw [hYv]; exact (evJ_b (by rw [← hYv]; exact b2i_1 c121)).symm⟩, fun z hz => (u55 z (jne hz 8 rfl)).trans ((r50TTF z (jnsub (V := [pz]) hz [11] rfl)).trans ((r46TTF z (jnsub (V := [py]) hz [10] rfl)).trans ((r33TT z (jnsub (V := [py]) hz [10] rfl)).trans ((r28T z (jnsub (V := [u, t]) hz [0, 1] rfl)).trans ((r24T z (jnsub (V := [u]) hz [0] rfl)).trans ((r21T z (jnsub (V := [py]) hz [10] rfl)).trans ((r17T z (jnsub (V := [py, x2, x3, x22, x44, x88, run]) hz [10, 2, 3, 4, 5, 6, 7] rfl)).trans ((r13T z (jnsub (V := [t]) hz [1] rfl)).trans ((r9T z (jnsub (V := [t]) hz [1] rfl)).trans ((r5T z (jnsub (V := [t]) hz [1] rfl)).trans (rt0 z (jnsub (V := [px]) hz [9] rfl)))))))))))), (b2i_t hX).symm⟩
    · refine jr_iconst (v := (0 : Int32)) hE dX2_lift_112 (by decide) ?_
      exact hR F29 0 _ _ dX2_lift_113 rfl ⟨⟨g8T_cv, p28T.cell, ⟨_, h8T_s⟩, ⟨_, h8T_h⟩, ⟨_, h8T_r⟩, q28T.cell⟩, ⟨g8T_pw, ⟨_, h8T_x2⟩, ⟨_, h8T_x3⟩, ⟨_, h8T_x22⟩, ⟨_, h8T_x44⟩, ⟨_, h8T_x88⟩, ⟨_, h8T_run⟩⟩, h8T_one, ⟨(P.1, V, Y, P.2.2.2), ⟨g8T_p, h8T_px, h8T_py, h8T_pz⟩, fun q => absurd q (fun q => b2i_0 c109 (by rw [hYv, hRv]; exact q.2))⟩, fun z hz => (r28T z (jnsub (V := [u, t]) hz [0, 1] rfl)).trans ((r24T z (jnsub (V := [u]) hz [0] rfl)).trans ((r21T z (jnsub (V := [py]) hz [10] rfl)).trans ((r17T z (jnsub (V := [py, x2, x3, x22, x44, x88, run]) hz [10, 2, 3, 4, 5, 6, 7] rfl)).trans ((r13T z (jnsub (V := [t]) hz [1] rfl)).trans ((r9T z (jnsub (V := [t]) hz [1] rfl)).trans ((r5T z (jnsub (V := [t]) hz [1] rfl)).trans (rt0 z (jnsub (V := [px]) hz [9] rfl)))))))), (b2i_f (fun q => b2i_0 c109 (by rw [hYv, hRv]; exact q.2))).symm⟩
  · refine jr_iconst (v := (0 : Int32)) hE dX2_lift_12 (by decide) ?_
    exact hR F2 0 _ _ dX2_lift_13 rfl ⟨⟨g1_cv, ⟨_, h1_u⟩, ⟨_, h1_s⟩, ⟨_, h1_h⟩, ⟨_, h1_r⟩, ⟨_, h1_t⟩⟩, ⟨g1_pw, ⟨_, h1_x2⟩, ⟨_, h1_x3⟩, ⟨_, h1_x22⟩, ⟨_, h1_x44⟩, ⟨_, h1_x88⟩, ⟨_, h1_run⟩⟩, h1_one, ⟨(P.1, (V % PP), P.2.2.1, P.2.2.2), ⟨g1_p, tc, h1_py, h1_pz⟩, fun q => absurd q (fun q => b2i_0 c9 q.1)⟩, fun z hz => rt0 z (jnsub (V := [px]) hz [9] rfl), (b2i_f (fun q => b2i_0 c9 q.1)).symm⟩

