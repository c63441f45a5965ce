theorem jr_callTSi {E : jE} {G : Nat → ClassId} {rm rm' : Room} {cc bytes : ByteArray} {nL maxL mc ms n index cs ss pc : Nat} {own : String} {Ts ws ws' : List Cond} {y : MethodName} {ret : Option FieldType} {L : List Nat} {F : Nat → va_E} {lv : List (Nat × Value)} {As rest st : List Value} {pre : List Nat → (Nat → va_E) → Prop} {po : List Nat → (Nat → va_E) → Int32 → List Nat → (Nat → va_E) → Prop}
    (hE : jOk E G rm cc nL own Ts) (hdg : decode cc pc = .ok (.invokestatic index, 3)) (hM : ∀ l, jCi l y ws rm' mc ms G As pre po) (hg : GoodIn Ts (va_wsS own index y ws)) (hw : ws = Cond.code y bytes maxL ret :: ws') (hd : y.cls ≠ "java/lang/invoke/MethodHandle" ∧ y.cls ≠ "java/lang/invoke/VarHandle" ∧ (parseMethodDescriptor y.desc).map (fun d => d.parameters.length) = some n)
    (hrm : rm'.cells = mc ∧ rm'.slots = ms ∧ rm'.frames + 1 ≤ rm.frames ∧ 8 + (maxL + 11) + rm'.locals ≤ rm.locals) (hcap : cs + mc ≤ rm.cells ∧ ss + ms ≤ rm.slots) (hn : As.length = n) (hst : st = As.reverse ++ rest) (hW : (rest.map fun v => v.category).sum ≤ 8) (hpre : pre L F)
    (kk : ∀ (r : Int32) (L1 : List Nat) (F1 : Nat → va_E), po L F r L1 F1 → J E L1 F1 (cs + mc) (ss + ms) (pc + 3) lv (.int r :: rest)) : J E L F cs ss pc lv st := by
  obtain ⟨p, l, e, R, s, m, args, below, meth, c, Q, D, A, nL0⟩ := E
  obtain ⟨rfl, rfl, hx, hb, hml, hown, hts, hK, hT, hA, hlk⟩ := hE
  intro H locs ls hP hD hS hl
  refine va_calli (va_runS (As := As) (rest := rest) ⟨hx, hb, hml, hown, hts⟩ (hM l D L F H.size hpre) (va_cwS n hts hg hw hrm.1 hrm.2.1 hd hrm.2.2) ⟨jblind _ _ _ _ _ _, jpre hK hT hA hP hD hS⟩ rfl hn hl.1 hst (lv_room hW) hdg hcap) hS (fun q _ h => jfree hA hD hS q h) (jfree hA hD hS) (fun r u t H1 locs1 ht hvm hw1 hB hz1 hk1 hS1 => ?_)
  obtain ⟨L1, F1⟩ := u
  obtain ⟨hP1, hD1⟩ := hB
  rw [ht] at hP1
  exact kk r L1 F1 hw1 H1 locs1 ls hP1 (hD1.weaken (fun _ q _ h => jfree hA hD hS _ h)) hS1 hl
theorem jr_kTSi {E : jE} {G : Nat → ClassId} {rm rm' : Room} {cc bytes : ByteArray} {nL maxL n index cs ss pc : Nat} {own : String} {Ts ws ws' : List Cond} {y : MethodName} {ret : Option FieldType} {L : List Nat} {F : Nat → va_E} {lv : List (Nat × Value)} {As rest st : List Value} {pre : List Nat → (Nat → va_E) → Prop} {po : List Nat → (Nat → va_E) → Int32 → (Nat → va_E) → Prop}
    (hE : jOk E G rm cc nL own Ts) (hdg : decode cc pc = .ok (.invokestatic index, 3)) (hM : ∀ l, jKi l y ws rm' G As pre po) (hg : GoodIn Ts (va_wsS own index y ws)) (hw : ws = Cond.code y bytes maxL ret :: ws') (hd : y.cls ≠ "java/lang/invoke/MethodHandle" ∧ y.cls ≠ "java/lang/invoke/VarHandle" ∧ (parseMethodDescriptor y.desc).map (fun d => d.parameters.length) = some n)
    (hrm : rm'.cells = 0 ∧ rm'.slots = 0 ∧ rm'.frames + 1 ≤ rm.frames ∧ 8 + (maxL + 11) + rm'.locals ≤ rm.locals) (hcap : cs ≤ rm.cells ∧ ss ≤ rm.slots) (hn : As.length = n) (hst : st = As.reverse ++ rest) (hW : (rest.map fun v => v.category).sum ≤ 8) (hpre : pre L F)
    (kk : ∀ (r : Int32) (F1 : Nat → va_E), po L F r F1 → J E L F1 cs ss (pc + 3) lv (.int r :: rest)) : J E L F cs ss pc lv st :=
  jr_callTSi (mc := 0) (ms := 0) hE hdg hM hg hw hd hrm hcap hn hst hW hpre (fun r L1 F1 h => by
    obtain ⟨h1, h2⟩ := h
    subst h1
    exact kk r F1 h2)

theorem jr_callTSv {E : jE} {G : Nat → ClassId} {rm rm' : Room} {cc bytes : ByteArray} {nL maxL mc ms n index cs ss pc : Nat} {own : String} {Ts ws ws' : List Cond} {y : MethodName} {ret : Option FieldType} {L : List Nat} {F : Nat → va_E} {lv : List (Nat × Value)} {As rest st : List Value} {pre : List Nat → (Nat → va_E) → Prop} {po : List Nat → (Nat → va_E) → List Nat → (Nat → va_E) → Prop}
    (hE : jOk E G rm cc nL own Ts) (hdg : decode cc pc = .ok (.invokestatic index, 3)) (hM : ∀ l, jCv l y ws rm' mc ms G As pre po) (hg : GoodIn Ts (va_wsS own index y ws)) (hw : ws = Cond.code y bytes maxL ret :: ws') (hd : y.cls ≠ "java/lang/invoke/MethodHandle" ∧ y.cls ≠ "java/lang/invoke/VarHandle" ∧ (parseMethodDescriptor y.desc).map (fun d => d.parameters.length) = some n)
    (hrm : rm'.cells = mc ∧ rm'.slots = ms ∧ rm'.frames + 1 ≤ rm.frames ∧ 8 + (maxL + 11) + rm'.locals ≤ rm.locals) (hcap : cs + mc ≤ rm.cells ∧ ss + ms ≤ rm.slots) (hn : As.length = n) (hst : st = As.reverse ++ rest) (hW : (rest.map fun v => v.category).sum ≤ 8) (hpre : pre L F)
    (kk : ∀ (L1 : List Nat) (F1 : Nat → va_E), po L F L1 F1 → J E L1 F1 (cs + mc) (ss + ms) (pc + 3) lv (rest)) : J E L F cs ss pc lv st := by
  obtain ⟨p, l, e, R, s, m, args, below, meth, c, Q, D, A, nL0⟩ := E
  obtain ⟨rfl, rfl, hx, hb, hml, hown, hts, hK, hT, hA, hlk⟩ := hE
  intro H locs ls hP hD hS hl
  refine va_callv (va_runS (As := As) (rest := rest) ⟨hx, hb, hml, hown, hts⟩ (hM l D L F H.size hpre) (va_cwS n hts hg hw hrm.1 hrm.2.1 hd hrm.2.2) ⟨jblind _ _ _ _ _ _, jpre hK hT hA hP hD hS⟩ rfl hn hl.1 hst (lv_room hW) hdg hcap) hS (fun q _ h => jfree hA hD hS q h) (jfree hA hD hS) (fun u t H1 locs1 ht hvm hw1 hB hz1 hk1 hS1 => ?_)
  obtain ⟨L1, F1⟩ := u
  obtain ⟨hP1, hD1⟩ := hB
  rw [ht] at hP1
  exact kk L1 F1 hw1 H1 locs1 ls hP1 (hD1.weaken (fun _ q _ h => jfree hA hD hS _ h)) hS1 hl
theorem jr_kTSv {E : jE} {G : Nat → ClassId} {rm rm' : Room} {cc bytes : ByteArray} {nL maxL n index cs ss pc : Nat} {own : String} {Ts ws ws' : List Cond} {y : MethodName} {ret : Option FieldType} {L : List Nat} {F : Nat → va_E} {lv : List (Nat × Value)} {As rest st : List Value} {pre : List Nat → (Nat → va_E) → Prop} {po : List Nat → (Nat → va_E) → (Nat → va_E) → Prop}
    (hE : jOk E G rm cc nL own Ts) (hdg : decode cc pc = .ok (.invokestatic index, 3)) (hM : ∀ l, jKv l y ws rm' G As pre po) (hg : GoodIn Ts (va_wsS own index y ws)) (hw : ws = Cond.code y bytes maxL ret :: ws') (hd : y.cls ≠ "java/lang/invoke/MethodHandle" ∧ y.cls ≠ "java/lang/invoke/VarHandle" ∧ (parseMethodDescriptor y.desc).map (fun d => d.parameters.length) = some n)
    (hrm : rm'.cells = 0 ∧ rm'.slots = 0 ∧ rm'.frames + 1 ≤ rm.frames ∧ 8 + (maxL + 11) + rm'.locals ≤ rm.locals) (hcap : cs ≤ rm.cells ∧ ss ≤ rm.slots) (hn : As.length = n) (hst : st = As.reverse ++ rest) (hW : (rest.map fun v => v.category).sum ≤ 8) (hpre : pre L F)
    (kk : ∀ (F1 : Nat → va_E), po L F F1 → J E L F1 cs ss (pc + 3) lv (rest)) : J E L F cs ss pc lv st :=
  jr_callTSv (mc := 0) (ms := 0) hE hdg hM hg hw hd hrm hcap hn hst hW hpre (fun L1 F1 h => by
    obtain ⟨h1, h2⟩ := h
    subst h1
    exact kk F1 h2)

set_option maxHeartbeats 4000000 in
set_option maxRecDepth 100000 in
theorem c_chk0 (l : Launch) (G : Nat → ClassId) (a n : Nat) : jKv l yJ0_checkIndex_df160 wsJ0_checkIndex_df160 ({ frames := 1, cells := 0, slots := 0, locals := 22 }) G [.int (nI a), .int (nI n)] (fun L F => a < n ∧ n < 1000) (fun L F F1 => F = F1) := by
  refine jm_kv (cc := cJ0_checkIndex_df160) (maxL := 2) (by decide) rfl (Nat.le_of_ble_eq_true rfl) ?_
  intro E L F hE hR hpre
  have hE : jOk E G _ cJ0_checkIndex_df160 2 RJ0 wsJ0_checkIndex_df160 := hE

  have hp := hpre
  refine jr_iload_n hE dJ0_checkIndex_df160_0 0 rfl ?_
  refine jr_iload_n hE dJ0_checkIndex_df160_1 1 rfl ?_
  refine jr_gsFM hE dJ0_checkIndex_df160_2 (by decide +kernel) (fun rf => ?_)
  cases rf with
  | none =>
    refine jr_kTSi (n := 3) (As := [.int (nI a), .int (nI n), .null]) (rest := []) hE dJ0_checkIndex_df160_5 (fun l => c_chk3_n l G a n) gJ0_checkIndex_df160_J3_checkIndex_8e157 rfl (by decide +kernel) ⟨rfl, rfl, by decide, by decide⟩ (by decide) rfl rfl (Nat.le_of_ble_eq_true rfl) (hp) (fun r3 F1 q2 => ?_)
    obtain ⟨e, rfl⟩ := q2
    subst e
    refine jr_pop hE dJ0_checkIndex_df160_8 rfl ?_
    exact hR F _ _ dJ0_checkIndex_df160_9 rfl
  | some fq =>
    refine jr_kTSi (n := 3) (As := [.int (nI a), .int (nI n), .ref fq]) (rest := []) hE dJ0_checkIndex_df160_5 (fun l => c_chk3_r l G a n fq) gJ0_checkIndex_df160_J3_checkIndex_8e157 rfl (by decide +kernel) ⟨rfl, rfl, by decide, by decide⟩ (by decide) rfl rfl (Nat.le_of_ble_eq_true rfl) (hp) (fun r3 F1 q2 => ?_)
    obtain ⟨e, rfl⟩ := q2
    subst e
    refine jr_pop hE dJ0_checkIndex_df160_8 rfl ?_
    exact hR F _ _ dJ0_checkIndex_df160_9 rfl

theorem jTb_v : ∀ i, i < 9 → ∀ a, a < jTn.getD i 0 → ((jTb.getD i []).getD a 0) &&& 255 = (jTb.getD i []).getD a 0 ∧ (((jTb.getD i []).getD a 0).toUInt32 % 65536).toInt32 = (jTb.getD i []).getD a 0 := by decide +kernel

set_option maxHeartbeats 4000000 in
set_option maxRecDepth 100000 in
theorem c_char1 (l : Launch) (G : Nat → ClassId) (i a : Nat) : jKi l yJ1_charAt_3b067 wsJ1_charAt_3b067 ({ frames := 2, cells := 0, slots := 0, locals := 43 }) G [.ref (jT G (20 + i)), .int (nI a)] (fun L F => i < 9 ∧ a < jTn.getD i 0) (fun L F r F1 => F = F1 ∧ r = ((jTb.getD i []).getD a 0)) := by
  refine jm_ki (cc := cJ1_charAt_3b067) (maxL := 2) (rt := .char) (by decide) rfl (Nat.le_of_ble_eq_true rfl) ?_
  intro E L F hE hR hpre
  have hE : jOk E G _ cJ1_charAt_3b067 2 RJ1 wsJ1_charAt_3b067 := hE
  obtain ⟨hi, ha⟩ := hpre
  refine jr_iload_n hE dJ1_charAt_3b067_0 1 rfl ?_
  refine jr_aload_n hE dJ1_charAt_3b067_1 0 rfl ?_
  refine jr_strN (v := nI (jTn.getD i 0)) hE dJ1_charAt_3b067_2 hi rfl ?_
  refine jr_kTSv (n := 2) (As := [.int (nI a), .int (nI (jTn.getD i 0))]) (rest := []) hE dJ1_charAt_3b067_3 (fun l => c_chk0 l G a (jTn.getD i 0)) gJ1_charAt_3b067_J0_checkIndex_df160 rfl (by decide +kernel) ⟨rfl, rfl, by decide, by decide⟩ (by decide) rfl rfl (Nat.le_of_ble_eq_true rfl) (⟨ha, Nat.lt_trans (jTn_lt i hi) (by decide)⟩) (fun F1 q2 => ?_)
  subst q2
  refine jr_aload_n hE dJ1_charAt_3b067_6 0 rfl ?_
  refine jr_iload_n hE dJ1_charAt_3b067_7 1 rfl ?_
  refine jr_strB (v := ((jTb.getD i []).getD a 0)) hE dJ1_charAt_3b067_8 hi (vp_in_nI ha (Nat.lt_trans (jTn_lt i hi) (by decide))) (by rw [nI_clamp (Nat.lt_trans ha (Nat.lt_trans (jTn_lt i hi) (by decide)))]) ?_
  refine jr_sipush (v := (255 : Int32)) hE dJ1_charAt_3b067_9 (by decide) ?_
  refine jr_iand (z := ((jTb.getD i []).getD a 0)) hE dJ1_charAt_3b067_12 ((jTb_v i hi a ha).1) ?_
  refine jr_i2c (z := ((jTb.getD i []).getD a 0)) hE dJ1_charAt_3b067_13 ((jTb_v i hi a ha).2) ?_
  exact hR F _ _ _ dJ1_charAt_3b067_14 (congrArg Value.int (jTb_v i hi a ha).2) ⟨rfl, rfl⟩

set_option maxHeartbeats 4000000 in
set_option maxRecDepth 100000 in
theorem c_charAt (l : Launch) (G : Nat → ClassId) (i a : Nat) : jKi l yJ0_charAt_5068e wsJ0_charAt_5068e ({ frames := 3, cells := 0, slots := 0, locals := 64 }) G [.ref (jT G (10 + i)), .int (nI a)] (fun L F => i < 9 ∧ a < jTn.getD i 0) (fun L F r F1 => F = F1 ∧ r = ((jTb.getD i []).getD a 0)) := by
  refine jm_ki (cc := cJ0_charAt_5068e) (maxL := 2) (rt := .char) (by decide) rfl (Nat.le_of_ble_eq_true rfl) ?_
  intro E L F hE hR hpre
  have hE : jOk E G _ cJ0_charAt_5068e 2 RJ0 wsJ0_charAt_5068e := hE
  obtain ⟨hi, ha⟩ := hpre
  refine jr_aload_n hE dJ0_charAt_5068e_0 0 rfl ?_
  refine jr_kTi (n := 0) (As := []) (rest := []) hE dJ0_charAt_5068e_1 (fun l => c_isLatin1 l G i) gJ0_charAt_5068e_J0_isLatin1_aae02 rfl hi (by decide +kernel) ⟨rfl, rfl, by decide, by decide⟩ (by decide) rfl rfl (Nat.le_of_ble_eq_true rfl) (hi) (fun r3 F1 q2 => ?_)
  obtain ⟨e, rfl⟩ := q2
  subst e
  refine jr_if_eq (tgt := 16) hE dJ0_charAt_5068e_4 (by decide) (fun c_4 => absurd c_4 (by decide)) (fun c_4 => ?_)
  refine jr_aload_n hE dJ0_charAt_5068e_7 0 rfl ?_
  refine jr_strV hE dJ0_charAt_5068e_8 hi (by decide +kernel) ?_
  refine jr_iload_n hE dJ0_charAt_5068e_11 1 rfl ?_
  refine jr_kTSi (n := 2) (As := [.ref (jT G (20 + i)), .int (nI a)]) (rest := []) hE dJ0_charAt_5068e_12 (fun l => c_char1 l G i a) gJ0_charAt_5068e_J1_charAt_3b067 rfl (by decide +kernel) ⟨rfl, rfl, by decide, by decide⟩ (by decide) rfl rfl (Nat.le_of_ble_eq_true rfl) (⟨hi, ha⟩) (fun r6 F4 q5 => ?_)
  obtain ⟨e, rfl⟩ := q5
  subst e
  exact hR F _ _ _ dJ0_charAt_5068e_15 (congrArg Value.int (jTb_v i hi a ha).2) ⟨rfl, rfl⟩

