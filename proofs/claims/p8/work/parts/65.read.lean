abbrev rdX (f V : Nat) : Prop := (f = 2 ∨ f = 3) ∧ isX V
def rdJ (f V : Nat) : JP := if f = 3 then ngJ (evJ V) else evJ V
theorem rdJ_3 {f V : Nat} (h : f = 3) : rdJ f V = ngJ (evJ V) := if_pos h
theorem rdJ_2 {f V : Nat} (h : ¬ f = 3) : rdJ f V = evJ V := if_neg h

set_option maxHeartbeats 4000000 in
set_option maxRecDepth 100000 in
theorem c_X2_read (l : Launch) (G : Nat → ClassId) (cv g ms pw one u s h r t x2 x3 x22 x44 x88 run p px py pz ob hb cap st V fb : Nat) (P : JP) (bs : List Nat) : jKi l yX2_read wsX2_read ({ frames := 4, cells := 0, slots := 0, locals := 149 }) G [.ref cv, .ref p, .ref ob, .int (nI st)] (fun L F => jCu L F cv g ms pw one u s h r t ∧ jPw L F pw x2 x3 x22 x44 x88 run ∧ jCo L F one 1 ∧ jPt L F p px py pz P ∧ [cv, u, s, h, r, t, pw, x2, x3, x22, x44, x88, run, one, p, px, py, pz].Nodup ∧ jBy G L F ob hb cap bs ∧ st + 33 ≤ bs.length ∧ V = bnum ((bs.drop (st + 1)).take 32) ∧ fb = bs.getD st 0) (fun L F r1 F1 => jCu L F1 cv g ms pw one u s h r t ∧ jPw L F1 pw x2 x3 x22 x44 x88 run ∧ jCo L F1 one 1 ∧ (∃ Pn : JP, jPt L F1 p px py pz Pn ∧ (rdX fb V → Pn = rdJ fb V)) ∧ (∀ z, z ∉ [u, t, x2, x3, x22, x44, x88, run, p, px, py, pz] → F1 z = F z) ∧ r1 = b2i (rdX fb V)) := by
  refine jm_ki (cc := cX2_read) (maxL := 5) (rt := .boolean) (by decide) rfl (Nat.le_of_ble_eq_true rfl) ?_
  intro E L F hE hR hpre
  have hE : jOk E G _ cX2_read 5 RX2 wsX2_read := hE
  obtain ⟨⟨hc0, ⟨lu, hcu⟩, ⟨ls, hcs⟩, ⟨lh, hch⟩, ⟨lr, hcr⟩, ⟨lt, hct⟩⟩, ⟨hpw, ⟨w1, hw_x2⟩, ⟨w2, hw_x3⟩, ⟨w3, hw_x22⟩, ⟨w4, hw_x44⟩, ⟨w5, hw_x88⟩, ⟨w6, hw_run⟩⟩, hone, ⟨hp0, hp1, hp2, hp3⟩, hnd, hB, hlen, hVd, hfb⟩ := hpre
  have hcp := hB.cap
  have hfl := hB.lt (show st < bs.length by omega)
  rw [← hfb] at hfl

  refine jr_aload_n hE dX2_read_0 2 rfl ?_
  refine jr_iload_n hE dX2_read_1 3 rfl ?_
  refine jr_kVi (ci := 0) (n := 1) (As := [.int (nI st)]) (rest := []) hE dX2_read_2 (fun l => c_X0_get l G ob hb cap st bs) gX2_read_X0_get rfl hB.ob rfl (by decide +kernel) ⟨rfl, rfl, by decide, by decide⟩ (by decide) rfl rfl (Nat.le_of_ble_eq_true rfl) (⟨hB, by omega⟩) (fun r3 F1 q2 => ?_)
  obtain ⟨e, hr0⟩ := q2
  subst e
  rw [← hfb] at hr0
  subst hr0
  refine jr_istore (lv' := [(4, .int (nI fb)), (0, .ref cv), (1, .ref p), (2, .ref ob), (3, .int (nI st))]) hE dX2_read_5 (by decide) rfl ?_
  refine jr_iload hE dX2_read_7 0 rfl ?_
  refine jr_iconst (v := (2 : Int32)) hE dX2_read_9 (by decide) ?_
  refine jr_icmp_eq (tgt := 19) hE dX2_read_10 (by decide) (fun c10 => ?_) (fun c10 => ?_)
  · refine jr_aload_n hE dX2_read_19 1 rfl ?_
    refine jr_aload_n hE dX2_read_20 2 rfl ?_
    refine jr_aload_n hE dX2_read_21 3 rfl ?_
    refine jr_iload_n hE dX2_read_22 4 rfl ?_
    refine jr_iconst (v := (1 : Int32)) hE dX2_read_23 (by decide) ?_
    refine jr_iadd (z := nI (st + 1)) hE dX2_read_24 (nI_1 st) ?_
    refine jr_kVi (ci := 2) (n := 3) (As := [.ref p, .ref ob, .int (nI (st + 1))]) (rest := []) hE dX2_read_25 (fun l => c_X2_lift l G cv g ms pw one u s h r t x2 x3 x22 x44 x88 run p px py pz ob hb cap (st + 1) V P bs) gX2_read_X2_lift rfl hc0 rfl (by decide +kernel) ⟨rfl, rfl, by decide, by decide⟩ (by decide) rfl rfl (Nat.le_of_ble_eq_true rfl) (⟨⟨hc0, ⟨_, hcu⟩, ⟨_, hcs⟩, ⟨_, hch⟩, ⟨_, hcr⟩, ⟨_, hct⟩⟩, ⟨hpw, ⟨_, hw_x2⟩, ⟨_, hw_x3⟩, ⟨_, hw_x22⟩, ⟨_, hw_x44⟩, ⟨_, hw_x88⟩, ⟨_, hw_run⟩⟩, hone, ⟨hp0, hp1, hp2, hp3⟩, hnd, hB, by omega, hVd⟩) (fun r7 F5 q6 => ?_)
    obtain ⟨c4T, w4T, o4T, ⟨Pn, p4T, hev⟩, r4T, rfl⟩ := q6
    have h1T_s := hcs.fr (r4T s (jn hnd 2 [1, 5, 7, 8, 9, 10, 11, 12, 14, 15, 16, 17] rfl rfl (by decide)))
    have h1T_h := hch.fr (r4T h (jn hnd 3 [1, 5, 7, 8, 9, 10, 11, 12, 14, 15, 16, 17] rfl rfl (by decide)))
    have h1T_r := hcr.fr (r4T r (jn hnd 4 [1, 5, 7, 8, 9, 10, 11, 12, 14, 15, 16, 17] rfl rfl (by decide)))
    have h1T_one := hone.fr (r4T one (jn hnd 13 [1, 5, 7, 8, 9, 10, 11, 12, 14, 15, 16, 17] rfl rfl (by decide)))
    have g1T_cv := hc0.fr (r4T cv (jn hnd 0 [1, 5, 7, 8, 9, 10, 11, 12, 14, 15, 16, 17] rfl rfl (by decide)))
    have g1T_pw := hpw.fr (r4T pw (jn hnd 6 [1, 5, 7, 8, 9, 10, 11, 12, 14, 15, 16, 17] rfl rfl (by decide)))
    obtain ⟨_, ⟨_, c4T_u⟩, ⟨_, c4T_s⟩, ⟨_, c4T_h⟩, ⟨_, c4T_r⟩, ⟨_, c4T_t⟩⟩ := c4T
    obtain ⟨_, ⟨_, w4T_x2⟩, ⟨_, w4T_x3⟩, ⟨_, w4T_x22⟩, ⟨_, w4T_x44⟩, ⟨_, w4T_x88⟩, ⟨_, w4T_run⟩⟩ := w4T
    refine jr_if_ne (tgt := 33) hE dX2_read_28 (by decide) (fun c28 => ?_) (fun c28 => ?_)
    · refine jr_iload hE dX2_read_33 0 rfl ?_
      refine jr_iconst (v := (3 : Int32)) hE dX2_read_35 (by decide) ?_
      refine jr_icmp_ne (tgt := 43) hE dX2_read_36 (by decide) (fun c36 => ?_) (fun c36 => ?_)
      · refine jr_iconst (v := (1 : Int32)) hE dX2_read_43 (by decide) ?_
        exact hR F5 1 _ _ dX2_read_44 rfl ⟨⟨g1T_cv, ⟨_, c4T_u⟩, ⟨_, c4T_s⟩, ⟨_, c4T_h⟩, ⟨_, c4T_r⟩, ⟨_, c4T_t⟩⟩, ⟨g1T_pw, ⟨_, w4T_x2⟩, ⟨_, w4T_x3⟩, ⟨_, w4T_x22⟩, ⟨_, w4T_x44⟩, ⟨_, w4T_x88⟩, ⟨_, w4T_run⟩⟩, h1T_one, ⟨Pn, ⟨p4T.1, p4T.2.1, p4T.2.2.1, p4T.2.2.2⟩, fun q => by rw [hev q.2, rdJ_2 (fun e => c36 (by rw [e]; rfl))]⟩, fun z hz => r4T z (jnsub (V := [u, t, x2, x3, x22, x44, x88, run, p, px, py, pz]) hz [0, 1, 2, 3, 4, 5, 6, 7, 8, 9, 10, 11] rfl), (b2i_t (⟨Or.inl ((nI_eq (b := 2) (by omega) (by decide)).mp c10), b2i_1 c28⟩)).symm⟩
      · refine jr_aload_n hE dX2_read_39 2 rfl ?_
        refine jr_kVv (ci := 6) (n := 0) (As := []) (rest := []) hE dX2_read_40 (fun l => c_X6_negate l G p px py pz Pn) gX2_read_X6_negate rfl p4T.1 rfl (by decide +kernel) ⟨rfl, rfl, by decide, by decide⟩ (by decide) rfl rfl (Nat.le_of_ble_eq_true rfl) (⟨⟨p4T.1, p4T.2.1, p4T.2.2.1, p4T.2.2.2⟩, jnd hnd [14, 15, 16, 17] rfl (by decide)⟩) (fun F9 q10 => ?_)
        obtain ⟨p8TTF, r8TTF⟩ := q10
        have h2TTF_s := c4T_s.fr (r8TTF s (jn hnd 2 [16] rfl rfl (by decide)))
        have h2TTF_h := c4T_h.fr (r8TTF h (jn hnd 3 [16] rfl rfl (by decide)))
        have h2TTF_r := c4T_r.fr (r8TTF r (jn hnd 4 [16] rfl rfl (by decide)))
        have h2TTF_one := h1T_one.fr (r8TTF one (jn hnd 13 [16] rfl rfl (by decide)))
        have h2TTF_px := p4T.2.1.fr (r8TTF px (jn hnd 15 [16] rfl rfl (by decide)))
        have h2TTF_pz := p4T.2.2.2.fr (r8TTF pz (jn hnd 17 [16] rfl rfl (by decide)))
        have h2TTF_u := c4T_u.fr (r8TTF u (jn hnd 1 [16] rfl rfl (by decide)))
        have h2TTF_t := c4T_t.fr (r8TTF t (jn hnd 5 [16] rfl rfl (by decide)))
        have h2TTF_x2 := w4T_x2.fr (r8TTF x2 (jn hnd 7 [16] rfl rfl (by decide)))
        have h2TTF_x3 := w4T_x3.fr (r8TTF x3 (jn hnd 8 [16] rfl rfl (by decide)))
        have h2TTF_x22 := w4T_x22.fr (r8TTF x22 (jn hnd 9 [16] rfl rfl (by decide)))
        have h2TTF_x44 := w4T_x44.fr (r8TTF x44 (jn hnd 10 [16] rfl rfl (by decide)))
        have h2TTF_x88 := w4T_x88.fr (r8TTF x88 (jn hnd 11 [16] rfl rfl (by decide)))
        have h2TTF_run := w4T_run.fr (r8TTF run (jn hnd 12 [16] rfl rfl (by decide)))
        have g2TTF_cv := g1T_cv.fr (r8TTF cv (jn hnd 0 [16] rfl rfl (by decide)))
        have g2TTF_pw := g1T_pw.fr (r8TTF pw (jn hnd 6 [16] rfl rfl (by decide)))
        have g2TTF_p := p4T.1.fr (r8TTF p (jn hnd 14 [16] rfl rfl (by decide)))
        refine jr_iconst (v := (1 : Int32)) hE dX2_read_43 (by decide) ?_
        exact hR F9 1 _ _ dX2_read_44 rfl ⟨⟨g2TTF_cv, ⟨_, h2TTF_u⟩, ⟨_, h2TTF_s⟩, ⟨_, h2TTF_h⟩, ⟨_, h2TTF_r⟩, ⟨_, h2TTF_t⟩⟩, ⟨g2TTF_pw, ⟨_, h2TTF_x2⟩, ⟨_, h2TTF_x3⟩, ⟨_, h2TTF_x22⟩, ⟨_, h2TTF_x44⟩, ⟨_, h2TTF_x88⟩, ⟨_, h2TTF_run⟩⟩, h2TTF_one, ⟨(ngJ Pn), ⟨p8TTF.1, p8TTF.2.1, p8TTF.2.2.1, p8TTF.2.2.2⟩, fun q => by rw [hev q.2, rdJ_3 ((nI_eq (by omega) (by decide)).mp c36)]⟩, fun z hz => (r8TTF z (jnsub (V := [py]) hz [10] rfl)).trans (r4T z (jnsub (V := [u, t, x2, x3, x22, x44, x88, run, p, px, py, pz]) hz [0, 1, 2, 3, 4, 5, 6, 7, 8, 9, 10, 11] rfl)), (b2i_t (⟨Or.inl ((nI_eq (b := 2) (by omega) (by decide)).mp c10), b2i_1 c28⟩)).symm⟩
    · refine jr_iconst (v := (0 : Int32)) hE dX2_read_31 (by decide) ?_
      exact hR F5 0 _ _ dX2_read_32 rfl ⟨⟨g1T_cv, ⟨_, c4T_u⟩, ⟨_, c4T_s⟩, ⟨_, c4T_h⟩, ⟨_, c4T_r⟩, ⟨_, c4T_t⟩⟩, ⟨g1T_pw, ⟨_, w4T_x2⟩, ⟨_, w4T_x3⟩, ⟨_, w4T_x22⟩, ⟨_, w4T_x44⟩, ⟨_, w4T_x88⟩, ⟨_, w4T_run⟩⟩, h1T_one, ⟨Pn, ⟨p4T.1, p4T.2.1, p4T.2.2.1, p4T.2.2.2⟩, fun q => absurd q (fun q => b2i_0 c28 q.2)⟩, fun z hz => r4T z (jnsub (V := [u, t, x2, x3, x22, x44, x88, run, p, px, py, pz]) hz [0, 1, 2, 3, 4, 5, 6, 7, 8, 9, 10, 11] rfl), (b2i_f (fun q => b2i_0 c28 q.2)).symm⟩
  · refine jr_iload hE dX2_read_13 0 rfl ?_
    refine jr_iconst (v := (3 : Int32)) hE dX2_read_15 (by decide) ?_
    refine jr_icmp_ne (tgt := 31) hE dX2_read_16 (by decide) (fun c16 => ?_) (fun c16 => ?_)
    · have hno : ¬ rdX fb V := fun q => by
        rcases q.1 with e | e
        · exact c10 (by rw [e]; rfl)
        · exact c16 (by rw [e]; rfl)
      refine jr_iconst (v := (0 : Int32)) hE dX2_read_31 (by decide) ?_
      exact hR F 0 _ _ dX2_read_32 rfl ⟨⟨hc0, ⟨_, hcu⟩, ⟨_, hcs⟩, ⟨_, hch⟩, ⟨_, hcr⟩, ⟨_, hct⟩⟩, ⟨hpw, ⟨_, hw_x2⟩, ⟨_, hw_x3⟩, ⟨_, hw_x22⟩, ⟨_, hw_x44⟩, ⟨_, hw_x88⟩, ⟨_, hw_run⟩⟩, hone, ⟨P, ⟨hp0, hp1, hp2, hp3⟩, fun q => absurd q hno⟩, fun z hz => rfl, (b2i_f (hno)).symm⟩
    · refine jr_aload_n hE dX2_read_19 1 rfl ?_
      refine jr_aload_n hE dX2_read_20 2 rfl ?_
      refine jr_aload_n hE dX2_read_21 3 rfl ?_
      refine jr_iload_n hE dX2_read_22 4 rfl ?_
      refine jr_iconst (v := (1 : Int32)) hE dX2_read_23 (by decide) ?_
      refine jr_iadd (z := nI (st + 1)) hE dX2_read_24 (nI_1 st) ?_
      refine jr_kVi (ci := 2) (n := 3) (As := [.ref p, .ref ob, .int (nI (st + 1))]) (rest := []) hE dX2_read_25 (fun l => c_X2_lift l G cv g ms pw one u s h r t x2 x3 x22 x44 x88 run p px py pz ob hb cap (st + 1) V P bs) gX2_read_X2_lift rfl hc0 rfl (by decide +kernel) ⟨rfl, rfl, by decide, by decide⟩ (by decide) rfl rfl (Nat.le_of_ble_eq_true rfl) (⟨⟨hc0, ⟨_, hcu⟩, ⟨_, hcs⟩, ⟨_, hch⟩, ⟨_, hcr⟩, ⟨_, hct⟩⟩, ⟨hpw, ⟨_, hw_x2⟩, ⟨_, hw_x3⟩, ⟨_, hw_x22⟩, ⟨_, hw_x44⟩, ⟨_, hw_x88⟩, ⟨_, hw_run⟩⟩, hone, ⟨hp0, hp1, hp2, hp3⟩, hnd, hB, by omega, hVd⟩) (fun r14 F12 q13 => ?_)
      obtain ⟨c11FF, w11FF, o11FF, ⟨Pn, p11FF, hev⟩, r11FF, rfl⟩ := q13
      have h1FF_s := hcs.fr (r11FF s (jn hnd 2 [1, 5, 7, 8, 9, 10, 11, 12, 14, 15, 16, 17] rfl rfl (by decide)))
      have h1FF_h := hch.fr (r11FF h (jn hnd 3 [1, 5, 7, 8, 9, 10, 11, 12, 14, 15, 16, 17] rfl rfl (by decide)))
      have h1FF_r := hcr.fr (r11FF r (jn hnd 4 [1, 5, 7, 8, 9, 10, 11, 12, 14, 15, 16, 17] rfl rfl (by decide)))
      have h1FF_one := hone.fr (r11FF one (jn hnd 13 [1, 5, 7, 8, 9, 10, 11, 12, 14, 15, 16, 17] rfl rfl (by decide)))
      have g1FF_cv := hc0.fr (r11FF cv (jn hnd 0 [1, 5, 7, 8, 9, 10, 11, 12, 14, 15, 16, 17] rfl rfl (by decide)))
      have g1FF_pw := hpw.fr (r11FF pw (jn hnd 6 [1, 5, 7, 8, 9, 10, 11, 12, 14, 15, 16, 17] rfl rfl (by decide)))
      obtain ⟨_, ⟨_, c11FF_u⟩, ⟨_, c11FF_s⟩, ⟨_, c11FF_h⟩, ⟨_, c11FF_r⟩, ⟨_, c11FF_t⟩⟩ := c11FF
      obtain ⟨_, ⟨_, w11FF_x2⟩, ⟨_, w11FF_x3⟩, ⟨_, w11FF_x22⟩, ⟨_, w11FF_x44⟩, ⟨_, w11FF_x88⟩, ⟨_, w11FF_run⟩⟩ := w11FF
      refine jr_if_ne (tgt := 33) hE dX2_read_28 (by decide) (fun c28 => ?_) (fun c28 => ?_)
      · refine jr_iload hE dX2_read_33 0 rfl ?_
        refine jr_iconst (v := (3 : Int32)) hE dX2_read_35 (by decide) ?_
        refine jr_icmp_ne (tgt := 43) hE dX2_read_36 (by decide) (fun c36 => ?_) (fun c36 => ?_)
        · refine jr_iconst (v := (1 : Int32)) hE dX2_read_43 (by decide) ?_
          exact hR F12 1 _ _ dX2_read_44 rfl ⟨⟨g1FF_cv, ⟨_, c11FF_u⟩, ⟨_, c11FF_s⟩, ⟨_, c11FF_h⟩, ⟨_, c11FF_r⟩, ⟨_, c11FF_t⟩⟩, ⟨g1FF_pw, ⟨_, w11FF_x2⟩, ⟨_, w11FF_x3⟩, ⟨_, w11FF_x22⟩, ⟨_, w11FF_x44⟩, ⟨_, w11FF_x88⟩, ⟨_, w11FF_run⟩⟩, h1FF_one, ⟨Pn, ⟨p11FF.1, p11FF.2.1, p11FF.2.2.1, p11FF.2.2.2⟩, fun q => by rw [hev q.2, rdJ_2 (fun e => c36 (by rw [e]; rfl))]⟩, fun z hz => r11FF z (jnsub (V := [u, t, x2, x3, x22, x44, x88, run, p, px, py, pz]) hz [0, 1, 2, 3, 4, 5, 6, 7, 8, 9, 10, 11] rfl), (b2i_t (⟨Or.inr ((nI_eq (b := 3) (by omega) (by decide)).mp c16), b2i_1 c28⟩)).symm⟩
        · refine jr_aload_n hE dX2_read_39 2 rfl ?_
          refine jr_kVv (ci := 6) (n := 0) (As := []) (rest := []) hE dX2_read_40 (fun l => c_X6_negate l G p px py pz Pn) gX2_read_X6_negate rfl p11FF.1 rfl (by decide +kernel) ⟨rfl, rfl, by decide, by decide⟩ (by decide) rfl rfl (Nat.le_of_ble_eq_true rfl) (⟨⟨p11FF.1, p11FF.2.1, p11FF.2.2.1, p11FF.2.2.2⟩, jnd hnd [14, 15, 16, 17] rfl (by decide)⟩) (fun F16 q17 => ?_)
          obtain ⟨p15FFTF, r15FFTF⟩ := q17
          have h2FFTF_s := c11FF_s.fr (r15FFTF s (jn hnd 2 [16] rfl rfl (by decide)))
          have h2FFTF_h := c11FF_h.fr (r15FFTF h (jn hnd 3 [16] rfl rfl (by decide)))
          have h2FFTF_r := c11FF_r.fr (r15FFTF r (jn hnd 4 [16] rfl rfl (by decide)))
          have h2FFTF_one := h1FF_one.fr (r15FFTF one (jn hnd 13 [16] rfl rfl (by decide)))
          have h2FFTF_px := p11FF.2.1.fr (r15FFTF px (jn hnd 15 [16] rfl rfl (by decide)))
          have h2FFTF_pz := p11FF.2.2.2.fr (r15FFTF pz (jn hnd 17 [16] rfl rfl (by decide)))
          have h2FFTF_u := c11FF_u.fr (r15FFTF u (jn hnd 1 [16] rfl rfl (by decide)))
          have h2FFTF_t := c11FF_t.fr (r15FFTF t (jn hnd 5 [16] rfl rfl (by decide)))
          have h2FFTF_x2 := w11FF_x2.fr (r15FFTF x2 (jn hnd 7 [16] rfl rfl (by decide)))
          have h2FFTF_x3 := w11FF_x3.fr (r15FFTF x3 (jn hnd 8 [16] rfl rfl (by decide)))
          have h2FFTF_x22 := w11FF_x22.fr (r15FFTF x22 (jn hnd 9 [16] rfl rfl (by decide)))
          have h2FFTF_x44 := w11FF_x44.fr (r15FFTF x44 (jn hnd 10 [16] rfl rfl (by decide)))
          have h2FFTF_x88 := w11FF_x88.fr (r15FFTF x88 (jn hnd 11 [16] rfl rfl (by decide)))
          have h2FFTF_run := w11FF_run.fr (r15FFTF run (jn hnd 12 [16] rfl rfl (by decide)))
          have g2FFTF_cv := g1FF_cv.fr (r15FFTF cv (jn hnd 0 [16] rfl rfl (by decide)))
          have g2FFTF_pw := g1FF_pw.fr (r15FFTF pw (jn hnd 6 [16] rfl rfl (by decide)))
          have g2FFTF_p := p11FF.1.fr (r15FFTF p (jn hnd 14 [16] rfl rfl (by decide)))
          refine jr_iconst (v := (1 : Int32)) hE dX2_read_43 (by decide) ?_
          exact hR F16 1 _ _ dX2_read_44 rfl ⟨⟨g2FFTF_cv, ⟨_, h2FFTF_u⟩, ⟨_, h2FFTF_s⟩, ⟨_, h2FFTF_h⟩, ⟨_, h2FFTF_r⟩, ⟨_, h2FFTF_t⟩⟩, ⟨g2FFTF_pw, ⟨_, h2FFTF_x2⟩, ⟨_, h2FFTF_x3⟩, ⟨_, h2FFTF_x22⟩, ⟨_, h2FFTF_x44⟩, ⟨_, h2FFTF_x88⟩, ⟨_, h2FFTF_run⟩⟩, h2FFTF_one, ⟨(ngJ Pn), ⟨p15FFTF.1, p15FFTF.2.1, p15FFTF.2.2.1, p15FFTF.2.2.2⟩, fun q => by rw [hev q.2, rdJ_3 ((nI_eq (by omega) (by decide)).mp c36)]⟩, fun z hz => (r15FFTF z (jnsub (V := [py]) hz [10] rfl)).trans (r11FF z (jnsub (V := [u, t, x2, x3, x22, x44, x88, run, p, px, py, pz]) hz [0, 1, 2, 3, 4, 5, 6, 7, 8, 9, 10, 11] rfl)), (b2i_t (⟨Or.inr ((nI_eq (b := 3) (by omega) (by decide)).mp c16), b2i_1 c28⟩)).symm⟩
      · refine jr_iconst (v := (0 : Int32)) hE dX2_read_31 (by decide) ?_
        exact hR F12 0 _ _ dX2_read_32 rfl ⟨⟨g1FF_cv, ⟨_, c11FF_u⟩, ⟨_, c11FF_s⟩, ⟨_, c11FF_h⟩, ⟨_, c11FF_r⟩, ⟨_, c11FF_t⟩⟩, ⟨g1FF_pw, ⟨_, w11FF_x2⟩, ⟨_, w11FF_x3⟩, ⟨_, w11FF_x22⟩, ⟨_, w11FF_x44⟩, ⟨_, w11FF_x88⟩, ⟨_, w11FF_run⟩⟩, h1FF_one, ⟨Pn, ⟨p11FF.1, p11FF.2.1, p11FF.2.2.1, p11FF.2.2.2⟩, fun q => absurd q (fun q => b2i_0 c28 q.2)⟩, fun z hz => r11FF z (jnsub (V := [u, t, x2, x3, x22, x44, x88, run, p, px, py, pz]) hz [0, 1, 2, 3, 4, 5, 6, 7, 8, 9, 10, 11] rfl), (b2i_f (fun q => b2i_0 c28 q.2)).symm⟩

