/-! THE JDK's roads over the tags' texts -/
theorem jr_gsCS {E : jE} {G : Nat → ClassId} {rm : Room} {cc : ByteArray} {nL cs ss pc : Nat} {own : String} {Ts : List Cond} {L : List Nat} {F : Nat → va_E} {lv : List (Nat × Value)} {rest : List Value} {index : Nat} (hE : jOk E G rm cc nL own Ts) (hdg : decode cc pc = .ok (.getstatic index, 3)) (h1 : Cond.fieldLink own index "java/lang/String" "COMPACT_STRINGS" "Z" ∈ Ts) (k : J E L F cs ss (pc + 3) lv (.int 1 :: rest)) : J E L F cs ss pc lv rest := by
  obtain ⟨p, l, e, R, s, m, args, below, meth, c, Q, D, A, nL0⟩ := E
  obtain ⟨rfl, rfl, hx, hb, hml, hown, hts, hK, hT, hA, hlk⟩ := hE
  exact fun H locs ls hP hD hS hl => va_gets hx hb hT.2.2.2.2.2.2.2.2.1 hS hown (hts _ h1) (fun _ h9 => h9) hdg (k H locs ls hP hD hS hl)
theorem jr_gsFM {E : jE} {G : Nat → ClassId} {rm : Room} {cc : ByteArray} {nL cs ss pc : Nat} {own : String} {Ts : List Cond} {L : List Nat} {F : Nat → va_E} {lv : List (Nat × Value)} {rest : List Value} {index : Nat} (hE : jOk E G rm cc nL own Ts) (hdg : decode cc pc = .ok (.getstatic index, 3)) (h1 : Cond.fieldLink own index "jdk/internal/util/Preconditions" "SIOOBE_FORMATTER" "Ljava/util/function/BiFunction;" ∈ Ts) (k : ∀ rf : Option Nat, J E L F cs ss (pc + 3) lv (va_rf rf :: rest)) : J E L F cs ss pc lv rest := by
  obtain ⟨p, l, e, R, s, m, args, below, meth, c, Q, D, A, nL0⟩ := E
  obtain ⟨rfl, rfl, hx, hb, hml, hown, hts, hK, hT, hA, hlk⟩ := hE
  obtain ⟨rf, hF⟩ := hT.2.2.2.2.2.2.2.2.2.2.2.2
  exact fun H locs ls hP hD hS hl => va_gets hx hb hF hS hown (hts _ h1) (fun _ h9 => h9) hdg (k rf H locs ls hP hD hS hl)
theorem jr_strC {E : jE} {G : Nat → ClassId} {rm : Room} {cc : ByteArray} {nL cs ss pc : Nat} {own : String} {Ts : List Cond} {L : List Nat} {F : Nat → va_E} {lv : List (Nat × Value)} {rest : List Value} {index i : Nat} (hE : jOk E G rm cc nL own Ts) (hdg : decode cc pc = .ok (.getfield index, 3)) (hi : i < 9) (h1 : Cond.fieldLink own index "java/lang/String" "coder" "B" ∈ Ts) (k : J E L F cs ss (pc + 3) lv (.int 0 :: rest)) : J E L F cs ss pc lv (.ref (jT G (10 + i)) :: rest) := by
  obtain ⟨p, l, e, R, s, m, args, below, meth, c, Q, D, A, nL0⟩ := E
  obtain ⟨rfl, rfl, hx, hb, hml, hown, hts, hK, hT, hA, hlk⟩ := hE
  exact fun H locs ls hP hD hS hl => vk_getf hx hb (hT.2.2.2.2.2.2.2.2.2.1.1 i hi).2.1 hS hown (hts _ h1) (fun _ h9 => h9) hdg (k H locs ls hP hD hS hl)
theorem jr_strV {E : jE} {G : Nat → ClassId} {rm : Room} {cc : ByteArray} {nL cs ss pc : Nat} {own : String} {Ts : List Cond} {L : List Nat} {F : Nat → va_E} {lv : List (Nat × Value)} {rest : List Value} {index i : Nat} (hE : jOk E G rm cc nL own Ts) (hdg : decode cc pc = .ok (.getfield index, 3)) (hi : i < 9) (h1 : Cond.fieldLink own index "java/lang/String" "value" "[B" ∈ Ts) (k : J E L F cs ss (pc + 3) lv (.ref (jT G (20 + i)) :: rest)) : J E L F cs ss pc lv (.ref (jT G (10 + i)) :: rest) := by
  obtain ⟨p, l, e, R, s, m, args, below, meth, c, Q, D, A, nL0⟩ := E
  obtain ⟨rfl, rfl, hx, hb, hml, hown, hts, hK, hT, hA, hlk⟩ := hE
  exact fun H locs ls hP hD hS hl => vk_getf hx hb (hT.2.2.2.2.2.2.2.2.2.1.1 i hi).2.2.1 hS hown (hts _ h1) (fun _ h9 => h9) hdg (k H locs ls hP hD hS hl)
theorem jr_strN {E : jE} {G : Nat → ClassId} {rm : Room} {cc : ByteArray} {nL cs ss pc : Nat} {own : String} {Ts : List Cond} {L : List Nat} {F : Nat → va_E} {lv : List (Nat × Value)} {rest : List Value} {i : Nat} {v : Int32} (hE : jOk E G rm cc nL own Ts) (hdg : decode cc pc = .ok (.arraylength, 1)) (hi : i < 9) (hv : Int32.ofNat (jTn.getD i 0) = v) (k : J E L F cs ss (pc + 1) lv (.int v :: rest)) : J E L F cs ss pc lv (.ref (jT G (20 + i)) :: rest) := by
  obtain ⟨p, l, e, R, s, m, args, below, meth, c, Q, D, A, nL0⟩ := E
  obtain ⟨rfl, rfl, hx, hb, hml, hown, hts, hK, hT, hA, hlk⟩ := hE
  exact fun H locs ls hP hD hS hl => va_tlen hx hb (hT.2.2.2.2.2.2.2.2.2.1.1 i hi).2.2.2 hS hv hdg (k H locs ls hP hD hS hl)
theorem jr_strB {E : jE} {G : Nat → ClassId} {rm : Room} {cc : ByteArray} {nL cs ss pc : Nat} {own : String} {Ts : List Cond} {L : List Nat} {F : Nat → va_E} {lv : List (Nat × Value)} {rest : List Value} {i : Nat} {j v : Int32} (hE : jOk E G rm cc nL own Ts) (hdg : decode cc pc = .ok (.baload, 1)) (hi : i < 9) (hin : vp_in j (jTn.getD i 0)) (hv : (jTb.getD i []).getD j.toNatClampNeg 0 = v) (k : J E L F cs ss (pc + 1) lv (.int v :: rest)) : J E L F cs ss pc lv (.int j :: .ref (jT G (20 + i)) :: rest) := by
  obtain ⟨p, l, e, R, s, m, args, below, meth, c, Q, D, A, nL0⟩ := E
  obtain ⟨rfl, rfl, hx, hb, hml, hown, hts, hK, hT, hA, hlk⟩ := hE
  exact fun H locs ls hP hD hS hl => va_tb hx hb (hT.2.2.2.2.2.2.2.2.2.1.1 i hi).2.2.2 hS hin (by rw [hv]) hdg (k H locs ls hP hD hS hl)
theorem jr_ldcS {E : jE} {G : Nat → ClassId} {rm : Room} {cc : ByteArray} {nL cs ss pc : Nat} {own : String} {Ts : List Cond} {L : List Nat} {F : Nat → va_E} {lv : List (Nat × Value)} {rest : List Value} {index i : Nat} (hE : jOk E G rm cc nL own Ts) (hdg : decode cc pc = .ok (.ldc index, 2)) (hi : i < 9) (ho : own = RX9) (hx0 : index = 29 + 2 * i) (k : J E L F cs ss (pc + 2) lv (.ref (jT G (10 + i)) :: rest)) : J E L F cs ss pc lv rest := by
  obtain ⟨p, l, e, R, s, m, args, below, meth, c, Q, D, A, nL0⟩ := E
  obtain ⟨rfl, rfl, hx, hb, hml, hown, hts, hK, hT, hA, hlk⟩ := hE
  subst ho
  subst hx0
  exact fun H locs ls hP hD hS hl => va_ldcS hx hb hown (hT.2.2.2.2.2.2.2.2.2.2.1 i hi) hdg (k H locs ls hP hD hS hl)

theorem jr_i2c {E : jE} {G : Nat → ClassId} {rm : Room} {cc : ByteArray} {nL cs ss pc : Nat} {own : String} {Ts : List Cond} {L : List Nat} {F : Nat → va_E} {lv : List (Nat × Value)} {rest : List Value} {x z : Int32} (hE : jOk E G rm cc nL own Ts) (hdg : decode cc pc = .ok (.i2c, 1)) (hz : (x.toUInt32 % 65536).toInt32 = z) (k : J E L F cs ss (pc + 1) lv (.int z :: rest)) : J E L F cs ss pc lv (.int x :: rest) := by
  obtain ⟨p, l, e, R, s, m, args, below, meth, c, Q, D, A, nL0⟩ := E
  obtain ⟨rfl, rfl, hx, hb, hml, hown, hts, hK, hT, hA, hlk⟩ := hE
  exact fun H locs ls hP hD hS hl => lv_i2c hx hb hdg hz (k H locs ls hP hD hS hl)

theorem jr_kTi {E : jE} {G : Nat → ClassId} {rm rm' : Room} {cc bytes : ByteArray} {nL maxL n index cs ss pc i : Nat} {own : String} {Ts ws ws' : List Cond} {y : MethodName} {ret : Option FieldType} {L : List Nat} {F : Nat → va_E} {lv : List (Nat × Value)} {As rest st : List Value} {pre : List Nat → (Nat → va_E) → Prop} {po : List Nat → (Nat → va_E) → Int32 → (Nat → va_E) → Prop}
    (hE : jOk E G rm cc nL own Ts) (hdg : decode cc pc = .ok (.invokevirtual index, 3)) (hM : ∀ l, jKi l y ws rm' G (.ref (jT G (10 + i)) :: As) pre po) (hg : GoodIn Ts (wsV own index "java/lang/String" y ws)) (hw : ws = Cond.code y bytes maxL ret :: ws') (hi : i < 9) (hd : y.cls = "java/lang/String" ∧ y.cls ≠ "java/lang/invoke/MethodHandle" ∧ y.cls ≠ "java/lang/invoke/VarHandle" ∧ (parseMethodDescriptor y.desc).map (fun d => d.parameters.length) = some n)
    (hrm : rm'.cells = 0 ∧ rm'.slots = 0 ∧ rm'.frames + 1 ≤ rm.frames ∧ 8 + (maxL + 11) + rm'.locals ≤ rm.locals) (hcap : cs ≤ rm.cells ∧ ss ≤ rm.slots) (hn : As.length = n) (hst : st = As.reverse ++ .ref (jT G (10 + i)) :: rest) (hW : (rest.map fun v => v.category).sum ≤ 8) (hpre : pre L F)
    (kk : ∀ (r : Int32) (F1 : Nat → va_E), po L F r F1 → J E L F1 cs ss (pc + 3) lv (.int r :: rest)) : J E L F cs ss pc lv st := by
  obtain ⟨p, l, e, R, s, m, args, below, meth, c, Q, D, A, nL0⟩ := E
  obtain ⟨rfl, rfl, hx, hb, hml, hown, hts, hK, hT, hA, hlk⟩ := hE
  intro H locs ls hP hD hS hl
  refine va_calli (va_runV (As := As) (rest := rest) ⟨hx, hb, hml, hown, hts⟩ (hM l D L F H.size hpre) (cwV n hts hg hw hrm.1 hrm.2.1 hd hrm.2.2) ⟨jblind _ _ _ _ _ _, vk_recv hT.2.2.2.2.2.2.2.2.2.1 hi hS, jpre hK hT hA hP hD hS⟩ rfl hn hl.1 hst (lv_room hW) hdg hcap) hS (fun q _ h => jfree hA hD hS q h) (jfree hA hD hS) (fun r u t H1 locs1 ht hvm hw1 hB hz1 hk1 hS1 => ?_)
  obtain ⟨L1, F1⟩ := u
  obtain ⟨hP1, hD1⟩ := hB
  rw [ht] at hP1
  obtain ⟨h1, h2⟩ := hw1
  subst h1
  exact kk r F1 h2 H1 locs1 ls hP1 (hD1.weaken (fun _ q _ h => jfree hA hD hS _ h)) hS1 hl
