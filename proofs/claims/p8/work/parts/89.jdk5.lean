def jKr (l : Launch) (y : MethodName) (ws : List Cond) (rm : Room) (G : Nat → ClassId) (av : List Value) (ra : Nat) (pre : List Nat → (Nat → va_E) → Prop) : Prop :=
  ∀ (D : va_G) (L : List Nat) (F : Nat → va_E) (sz : Nat), pre L F → Met l y ws rm (jPc G av D L F sz) (va_Qr (S := List Nat × (Nat → va_E)) (fun u => u = (L, F)) (fun u a t => jB D L sz u t ∧ a = ra) (jX L sz)) 0 0 (jX L sz)
theorem jm_kr {l : Launch} {y : MethodName} {ws ws' : List Cond} {rm : Room} {G : Nat → ClassId} {av : List Value} {ra : Nat} {pre : List Nat → (Nat → va_E) → Prop} {cc : ByteArray} {maxL : Nat} {rt : FieldType} (hy : plainName y.cls = true) (hw : ws = Cond.code y cc maxL (some rt) :: ws') (hrt : (∃ n, rt = FieldType.object n) ∨ ∃ t, rt = FieldType.array t) (hlen : (lg_sl av).length ≤ maxL)
    (body : ∀ (E : jE) (L : List Nat) (F : Nat → va_E), jOk E G rm cc maxL y.cls ws → (∀ (pc : Nat) (lv : List (Nat × Value)), decode cc pc = .ok (.areturn, 1) → J E L F 0 0 pc lv [.ref ra]) → pre L F → J E L F 0 0 0 (lv_args 0 av) []) : jKr l y ws rm G av ra pre := by
  intro D L F sz hpre
  refine Met.ofW (cc := cc) (maxL := maxL) (ret := (some rt)) hy hw ?_
  intro p e s m args below meth c s₁ B hml hv
  obtain ⟨rfl, hsz, hP, hK, hT, hD0⟩ := hv
  have hx := B.exec
  have hb := B.bytes
  have hr := B.returns
  have hts := atoms_spec (ws := ws) B.pre
  have hown : s.vm.findClass y.cls = some m.cls := findClass_of_methodNamed B.named
  have hlocks := B.notSynchronized
  subst hsz
  have hD : va_D (jX L s.heap.size) (va_pl L F) := jD_to hD0 (fun a ha => Or.inl ha)
  rw [lg_entry_eq]
  have hl := lv_entry av (n := maxL) hlen
  exact body (p, l, e, (headSpec ws rm).room, s, m, av.toArray, below, meth, c, MQ below (va_Qr (S := List Nat × (Nat → va_E)) (fun u => u = (L, F)) (fun u a t => jB D L s.heap.size u t ∧ a = ra) (jX L s.heap.size)) av.toArray s 0 0 (jX L s.heap.size), D, jX L s.heap.size, maxL) L F
    ⟨rfl, rfl, hx, hb, hml, hown, hts, hK, hT, (fun q h => Or.inr h), hlocks⟩
    (fun pc lv hdg H locs ls hP hD hS hl => W.aret (v := .ref ra) hx hb hr hrt (Or.inr ⟨_, rfl⟩) (fun t ht hW => ⟨⟨(L, F), ra, rfl, rfl, ⟨by rw [ht]; exact hP, hD⟩, rfl⟩, hS.F ht⟩) hS.2.2 hdg hlocks) hpre s.heap [] _ hP hD va_S.rf hl

theorem jr_kSr {E : jE} {G : Nat → ClassId} {rm rm' : Room} {cc bytes : ByteArray} {nL maxL n index cs ss pc : Nat} {own : String} {Ts ws ws' : List Cond} {y : MethodName} {ret : Option FieldType} {L : List Nat} {F : Nat → va_E} {lv : List (Nat × Value)} {As rest st : List Value} {ra : Nat} {pre : List Nat → (Nat → va_E) → Prop}
    (hE : jOk E G rm cc nL own Ts) (hdg : decode cc pc = .ok (.invokestatic index, 3)) (hM : ∀ l, jKr l y ws rm' G As ra pre) (hg : GoodIn Ts (wsS own index y ws)) (hw : ws = Cond.code y bytes maxL ret :: ws') (hd : y.cls = own ∧ y.cls ≠ "java/lang/invoke/MethodHandle" ∧ y.cls ≠ "java/lang/invoke/VarHandle" ∧ (parseMethodDescriptor y.desc).map (fun d => d.parameters.length) = some n)
    (hrm : rm'.cells = 0 ∧ rm'.slots = 0 ∧ rm'.frames + 1 ≤ rm.frames ∧ 8 + (maxL + 11) + rm'.locals ≤ rm.locals) (hcap : cs ≤ rm.cells ∧ ss ≤ rm.slots) (hn : As.length = n) (hst : st = As.reverse ++ rest) (hW : (rest.map fun v => v.category).sum ≤ 8) (hpre : pre L F)
    (kk : J E L F cs ss (pc + 3) lv (.ref ra :: rest)) : J E L F cs ss pc lv st := by
  obtain ⟨p, l, e, R, s, m, args, below, meth, c, Q, D, A, nL0⟩ := E
  obtain ⟨rfl, rfl, hx, hb, hml, hown, hts, hK, hT, hA, hlk⟩ := hE
  intro H locs ls hP hD hS hl
  refine va_callr (va_runS (As := As) (rest := rest) ⟨hx, hb, hml, hown, hts⟩ (hM l D L F H.size hpre) (cwS n hts hg hw hrm.1 hrm.2.1 hd hrm.2.2) ⟨jblind _ _ _ _ _ _, jpre hK hT hA hP hD hS⟩ rfl hn hl.1 hst (lv_room hW) hdg hcap) hS (fun q _ h => jfree hA hD hS q h) (jfree hA hD hS) (fun u a t H1 locs1 ht hvm hw1 hB hz1 hk1 hS1 => ?_)
  obtain ⟨hB, rfl⟩ := hB
  subst hw1
  obtain ⟨hP1, hD1⟩ := hB
  rw [ht] at hP1
  exact kk H1 locs1 ls hP1 (hD1.weaken (fun _ q _ h => jfree hA hD hS _ h)) hS1 hl

theorem jr_tabIn {E : jE} {G : Nat → ClassId} {rm : Room} {cc : ByteArray} {nL cs ss pc : Nat} {own : String} {Ts : List Cond} {L : List Nat} {F : Nat → va_E} {lv : List (Nat × Value)} {rest : List Value} {dflt lo hi : Int} {offs : Array Int} {len : Nat} {x : Int32} {off : Int} (tgt : Nat) (hE : jOk E G rm cc nL own Ts) (hdg : decode cc pc = .ok (.tableswitch dflt lo hi offs, len)) (h1 : ¬ x.toInt < lo) (h2 : ¬ hi < x.toInt) (ho : offs[(x.toInt - lo).toNat]? = some off) (ht : (pc : Int) + off = (tgt : Int)) (k : J E L F cs ss tgt lv rest) : J E L F cs ss pc lv (.int x :: rest) := by
  obtain ⟨p, l, e, R, s, m, args, below, meth, c, Q, D, A, nL0⟩ := E
  obtain ⟨rfl, rfl, hx, hb, hml, hown, hts, hK, hT, hA, hlk⟩ := hE
  exact fun H locs ls hP hD hS hl => lv_tableIn hx hb hdg h1 h2 ho ht (k H locs ls hP hD hS hl)
theorem jr_tabOut {E : jE} {G : Nat → ClassId} {rm : Room} {cc : ByteArray} {nL cs ss pc : Nat} {own : String} {Ts : List Cond} {L : List Nat} {F : Nat → va_E} {lv : List (Nat × Value)} {rest : List Value} {dflt lo hi : Int} {offs : Array Int} {len : Nat} {x : Int32} (tgt : Nat) (hE : jOk E G rm cc nL own Ts) (hdg : decode cc pc = .ok (.tableswitch dflt lo hi offs, len)) (h : x.toInt < lo ∨ hi < x.toInt) (ht : (pc : Int) + dflt = (tgt : Int)) (k : J E L F cs ss tgt lv rest) : J E L F cs ss pc lv (.int x :: rest) := by
  obtain ⟨p, l, e, R, s, m, args, below, meth, c, Q, D, A, nL0⟩ := E
  obtain ⟨rfl, rfl, hx, hb, hml, hown, hts, hK, hT, hA, hlk⟩ := hE
  exact fun H locs ls hP hD hS hl => lv_tableOut hx hb hdg h ht (k H locs ls hP hD hS hl)

theorem c_tag0 (l : Launch) (G : Nat → ClassId) : jKr l yX9_tagName wsX9_tagName ({ frames := 0, cells := 0, slots := 0, locals := 0 }) G [.int (nI 0)] (jT G (10 + 0)) (fun _ _ => True) := by
  refine jm_kr (cc := cX9_tagName) (maxL := 1) (rt := .object "java/lang/String") (by decide) rfl (Or.inl ⟨_, rfl⟩) (Nat.le_of_ble_eq_true rfl) ?_
  intro E L F hE hR hpre
  have hE : jOk E G _ cX9_tagName 1 RX9 wsX9_tagName := hE
  refine jr_iload_n hE dX9_tagName_0 0 rfl ?_
  refine jr_tabIn 48 hE dX9_tagName_1 (by decide) (by decide) (off := 47) (by decide) (by decide) ?_
  refine jr_ldcS (i := 0) hE dX9_tagName_48 (by decide) rfl rfl ?_
  exact hR _ _ dX9_tagName_50

theorem c_tag1 (l : Launch) (G : Nat → ClassId) : jKr l yX9_tagName wsX9_tagName ({ frames := 0, cells := 0, slots := 0, locals := 0 }) G [.int (nI 1)] (jT G (10 + 1)) (fun _ _ => True) := by
  refine jm_kr (cc := cX9_tagName) (maxL := 1) (rt := .object "java/lang/String") (by decide) rfl (Or.inl ⟨_, rfl⟩) (Nat.le_of_ble_eq_true rfl) ?_
  intro E L F hE hR hpre
  have hE : jOk E G _ cX9_tagName 1 RX9 wsX9_tagName := hE
  refine jr_iload_n hE dX9_tagName_0 0 rfl ?_
  refine jr_tabIn 51 hE dX9_tagName_1 (by decide) (by decide) (off := 50) (by decide) (by decide) ?_
  refine jr_ldcS (i := 1) hE dX9_tagName_51 (by decide) rfl rfl ?_
  exact hR _ _ dX9_tagName_53

theorem c_tag2 (l : Launch) (G : Nat → ClassId) : jKr l yX9_tagName wsX9_tagName ({ frames := 0, cells := 0, slots := 0, locals := 0 }) G [.int (nI 2)] (jT G (10 + 2)) (fun _ _ => True) := by
  refine jm_kr (cc := cX9_tagName) (maxL := 1) (rt := .object "java/lang/String") (by decide) rfl (Or.inl ⟨_, rfl⟩) (Nat.le_of_ble_eq_true rfl) ?_
  intro E L F hE hR hpre
  have hE : jOk E G _ cX9_tagName 1 RX9 wsX9_tagName := hE
  refine jr_iload_n hE dX9_tagName_0 0 rfl ?_
  refine jr_tabIn 54 hE dX9_tagName_1 (by decide) (by decide) (off := 53) (by decide) (by decide) ?_
  refine jr_ldcS (i := 2) hE dX9_tagName_54 (by decide) rfl rfl ?_
  exact hR _ _ dX9_tagName_56

theorem c_tag3 (l : Launch) (G : Nat → ClassId) : jKr l yX9_tagName wsX9_tagName ({ frames := 0, cells := 0, slots := 0, locals := 0 }) G [.int (nI 3)] (jT G (10 + 3)) (fun _ _ => True) := by
  refine jm_kr (cc := cX9_tagName) (maxL := 1) (rt := .object "java/lang/String") (by decide) rfl (Or.inl ⟨_, rfl⟩) (Nat.le_of_ble_eq_true rfl) ?_
  intro E L F hE hR hpre
  have hE : jOk E G _ cX9_tagName 1 RX9 wsX9_tagName := hE
  refine jr_iload_n hE dX9_tagName_0 0 rfl ?_
  refine jr_tabIn 57 hE dX9_tagName_1 (by decide) (by decide) (off := 56) (by decide) (by decide) ?_
  refine jr_ldcS (i := 3) hE dX9_tagName_57 (by decide) rfl rfl ?_
  exact hR _ _ dX9_tagName_59

theorem c_tag4 (l : Launch) (G : Nat → ClassId) : jKr l yX9_tagName wsX9_tagName ({ frames := 0, cells := 0, slots := 0, locals := 0 }) G [.int (nI 4)] (jT G (10 + 4)) (fun _ _ => True) := by
  refine jm_kr (cc := cX9_tagName) (maxL := 1) (rt := .object "java/lang/String") (by decide) rfl (Or.inl ⟨_, rfl⟩) (Nat.le_of_ble_eq_true rfl) ?_
  intro E L F hE hR hpre
  have hE : jOk E G _ cX9_tagName 1 RX9 wsX9_tagName := hE
  refine jr_iload_n hE dX9_tagName_0 0 rfl ?_
  refine jr_tabIn 60 hE dX9_tagName_1 (by decide) (by decide) (off := 59) (by decide) (by decide) ?_
  refine jr_ldcS (i := 4) hE dX9_tagName_60 (by decide) rfl rfl ?_
  exact hR _ _ dX9_tagName_62

theorem c_tag5 (l : Launch) (G : Nat → ClassId) : jKr l yX9_tagName wsX9_tagName ({ frames := 0, cells := 0, slots := 0, locals := 0 }) G [.int (nI 5)] (jT G (10 + 5)) (fun _ _ => True) := by
  refine jm_kr (cc := cX9_tagName) (maxL := 1) (rt := .object "java/lang/String") (by decide) rfl (Or.inl ⟨_, rfl⟩) (Nat.le_of_ble_eq_true rfl) ?_
  intro E L F hE hR hpre
  have hE : jOk E G _ cX9_tagName 1 RX9 wsX9_tagName := hE
  refine jr_iload_n hE dX9_tagName_0 0 rfl ?_
  refine jr_tabIn 63 hE dX9_tagName_1 (by decide) (by decide) (off := 62) (by decide) (by decide) ?_
  refine jr_ldcS (i := 5) hE dX9_tagName_63 (by decide) rfl rfl ?_
  exact hR _ _ dX9_tagName_65

theorem c_tag6 (l : Launch) (G : Nat → ClassId) : jKr l yX9_tagName wsX9_tagName ({ frames := 0, cells := 0, slots := 0, locals := 0 }) G [.int (nI 6)] (jT G (10 + 6)) (fun _ _ => True) := by
  refine jm_kr (cc := cX9_tagName) (maxL := 1) (rt := .object "java/lang/String") (by decide) rfl (Or.inl ⟨_, rfl⟩) (Nat.le_of_ble_eq_true rfl) ?_
  intro E L F hE hR hpre
  have hE : jOk E G _ cX9_tagName 1 RX9 wsX9_tagName := hE
  refine jr_iload_n hE dX9_tagName_0 0 rfl ?_
  refine jr_tabIn 66 hE dX9_tagName_1 (by decide) (by decide) (off := 65) (by decide) (by decide) ?_
  refine jr_ldcS (i := 6) hE dX9_tagName_66 (by decide) rfl rfl ?_
  exact hR _ _ dX9_tagName_68

theorem c_tag7 (l : Launch) (G : Nat → ClassId) : jKr l yX9_tagName wsX9_tagName ({ frames := 0, cells := 0, slots := 0, locals := 0 }) G [.int (nI 7)] (jT G (10 + 7)) (fun _ _ => True) := by
  refine jm_kr (cc := cX9_tagName) (maxL := 1) (rt := .object "java/lang/String") (by decide) rfl (Or.inl ⟨_, rfl⟩) (Nat.le_of_ble_eq_true rfl) ?_
  intro E L F hE hR hpre
  have hE : jOk E G _ cX9_tagName 1 RX9 wsX9_tagName := hE
  refine jr_iload_n hE dX9_tagName_0 0 rfl ?_
  refine jr_tabIn 69 hE dX9_tagName_1 (by decide) (by decide) (off := 68) (by decide) (by decide) ?_
  refine jr_ldcS (i := 7) hE dX9_tagName_69 (by decide) rfl rfl ?_
  exact hR _ _ dX9_tagName_71

theorem c_tag8 (l : Launch) (G : Nat → ClassId) : jKr l yX9_tagName wsX9_tagName ({ frames := 0, cells := 0, slots := 0, locals := 0 }) G [.int (nI 8)] (jT G (10 + 8)) (fun _ _ => True) := by
  refine jm_kr (cc := cX9_tagName) (maxL := 1) (rt := .object "java/lang/String") (by decide) rfl (Or.inl ⟨_, rfl⟩) (Nat.le_of_ble_eq_true rfl) ?_
  intro E L F hE hR hpre
  have hE : jOk E G _ cX9_tagName 1 RX9 wsX9_tagName := hE
  refine jr_iload_n hE dX9_tagName_0 0 rfl ?_
  refine jr_tabOut 72 hE dX9_tagName_1 (by decide) (by decide) ?_
  refine jr_ldcS (i := 8) hE dX9_tagName_72 (by decide) rfl rfl ?_
  exact hR _ _ dX9_tagName_74

theorem c_tag (l : Launch) (G : Nat → ClassId) : ∀ i, i < 9 → jKr l yX9_tagName wsX9_tagName ({ frames := 0, cells := 0, slots := 0, locals := 0 }) G [.int (nI i)] (jT G (10 + i)) (fun _ _ => True)
  | 0, _ => c_tag0 l G
  | 1, _ => c_tag1 l G
  | 2, _ => c_tag2 l G
  | 3, _ => c_tag3 l G
  | 4, _ => c_tag4 l G
  | 5, _ => c_tag5 l G
  | 6, _ => c_tag6 l G
  | 7, _ => c_tag7 l G
  | 8, _ => c_tag8 l G
  | n + 9, h => absurd h (by omega)

