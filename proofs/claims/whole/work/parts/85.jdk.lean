/-! THE JDK's roads over the tags' texts -/
theorem jr_gsCS {E : jE} {G : Nat → ClassId} {rm : Room} {cc : ByteArray} {nL cs ss pc : Nat} {own : String} {Ts : List Cond} {L : List Nat} {F : Nat → va_E} {lv : List (Nat × Value)} {rest : List Value} {index : Nat} (hE : jOk E G rm cc nL own Ts) (hdg : decode cc pc = .ok (.getstatic index, 3)) (h1 : Cond.fieldLink own index "java/lang/String" "COMPACT_STRINGS" "Z" ∈ Ts) (k : J E L F cs ss (pc + 3) lv (.int 1 :: rest)) : J E L F cs ss pc lv rest := by
  obtain ⟨p, l, e, R, s, m, args, below, meth, c, Q, D, A, nL0⟩ := E
  obtain ⟨rfl, rfl, hx, hb, hml, hown, hts, hK, hT, hA, hlk⟩ := hE
  exact fun H locs ls hP hD hS hl => va_gets hx hb hT.2.2.2.2.2.2.2.2.1 hS hown (hts _ h1) (fun _ h9 => h9) hdg (k H locs ls hP hD hS hl)
theorem jr_gsFM {E : jE} {G : Nat → ClassId} {rm : Room} {cc : ByteArray} {nL cs ss pc : Nat} {own : String} {Ts : List Cond} {L : List Nat} {F : Nat → va_E} {lv : List (Nat × Value)} {rest : List Value} {index : Nat} (hE : jOk E G rm cc nL own Ts) (hdg : decode cc pc = .ok (.getstatic index, 3)) (h1 : Cond.fieldLink own index "jdk/internal/util/Preconditions" "SIOOBE_FORMATTER" "Ljava/util/function/BiFunction;" ∈ Ts) (k : ∀ rf : Option Nat, J E L F cs ss (pc + 3) lv (va_rf rf :: rest)) : J E L F cs ss pc lv rest := by
  obtain ⟨p, l, e, R, s, m, args, below, meth, c, Q, D, A, nL0⟩ := E
  obtain ⟨rfl, rfl, hx, hb, hml, hown, hts, hK, hT, hA, hlk⟩ := hE
  obtain ⟨rf, hF⟩ := hT.2.2.2.2.2.2.2.2.2.2.2.2
  exact fun H locs ls hP hD hS hl => va_gets hx hb hF hS hown (hts _ h1) (fun _ h9 => h9) hdg (k rf H locs ls hP hD hS hl)
theorem jr_strC {E : jE} {G : Nat → ClassId} {rm : Room} {cc : ByteArray} {nL cs ss pc : Nat} {own : String} {Ts : List Cond} {L : List Nat} {F : Nat → va_E} {lv : List (Nat × Value)} {rest : List Value} {index i : Nat} (hE : jOk E G rm cc nL own Ts) (hdg : decode cc pc = .ok (.getfield index, 3)) (hi : i < 9) (h1 : Cond.fieldLink own index "java/lang/String" "coder" "B" ∈ Ts) (k : J E L F cs ss (pc + 3) lv (.int 0 :: rest)) : J E L F cs ss pc lv (.ref (jT G (10 + i)) :: rest) := by
  obtain ⟨p, l, e, R, s, m, args, below, meth, c, Q, D, A, nL0⟩ := E
  obtain ⟨rfl, rfl, hx, hb, hml, hown, hts, hK, hT, hA, hlk⟩ := hE
  exact fun H locs ls hP hD hS hl => vk_getf hx hb (hT.2.2.2.2.2.2.2.2.2.1.1 i hi).2.1 hS hown (hts _ h1) (fun _ h9 => h9) hdg (k H locs ls hP hD hS hl)
theorem jr_strV {E : jE} {G : Nat → ClassId} {rm : Room} {cc : ByteArray} {nL cs ss pc : Nat} {own : String} {Ts : List Cond} {L : List Nat} {F : Nat → va_E} {lv : List (Nat × Value)} {rest : List Value} {index i : Nat} (hE : jOk E G rm cc nL own Ts) (hdg : decode cc pc = .ok (.getfield index, 3)) (hi : i < 9) (h1 : Cond.fieldLink own index "java/lang/String" "value" "[B" ∈ Ts) (k : J E L F cs ss (pc + 3) lv (.ref (jT G (20 + i)) :: rest)) : J E L F cs ss pc lv (.ref (jT G (10 + i)) :: rest) := by
  obtain ⟨p, l, e, R, s, m, args, below, meth, c, Q, D, A, nL0⟩ := E
  obtain ⟨rfl, rfl, hx, hb, hml, hown, hts, hK, hT, hA, hlk⟩ := hE
  exact fun H locs ls hP hD hS hl => vk_getf hx hb (hT.2.2.2.2.2.2.2.2.2.1.1 i hi).2.2.1 hS hown (hts _ h1) (fun _ h9 => h9) hdg (k H locs ls hP hD hS hl)
theorem jr_strN {E : jE} {G : Nat → ClassId} {rm : Room} {cc : ByteArray} {nL cs ss pc : Nat} {own : String} {Ts : List Cond} {L : List Nat} {F : Nat → va_E} {lv : List (Nat × Value)} {rest : List Value} {i : Nat} {v : Int32} (hE : jOk E G rm cc nL own Ts) (hdg : decode cc pc = .ok (.arraylength, 1)) (hi : i < 9) (hv : Int32.ofNat (jTn.getD i 0) = v) (k : J E L F cs ss (pc + 1) lv (.int v :: rest)) : J E L F cs ss pc lv (.ref (jT G (20 + i)) :: rest) := by
  obtain ⟨p, l, e, R, s, m, args, below, meth, c, Q, D, A, nL0⟩ := E
  obtain ⟨rfl, rfl, hx, hb, hml, hown, hts, hK, hT, hA, hlk⟩ := hE
  exact fun H locs ls hP hD hS hl => va_tlen hx hb (hT.2.2.2.2.2.2.2.2.2.1.1 i hi).2.2.2 hS hv hdg (k H locs ls hP hD hS hl)
theorem jr_strB {E : jE} {G : Nat → ClassId} {rm : Room} {cc : ByteArray} {nL cs ss pc : Nat} {own : String} {Ts : List Cond} {L : List Nat} {F : Nat → va_E} {lv : List (Nat × Value)} {rest : List Value} {i : Nat} {j v : Int32} (hE : jOk E G rm cc nL own Ts) (hdg : decode cc pc = .ok (.baload, 1)) (hi : i < 9) (hin : vp_in j (jTn.getD i 0)) (hv : (jTb.getD i []).getD j.toNatClampNeg 0 = v) (k : J E L F cs ss (pc + 1) lv (.int v :: rest)) : J E L F cs ss pc lv (.int j :: .ref (jT G (20 + i)) :: rest) := by
  obtain ⟨p, l, e, R, s, m, args, below, meth, c, Q, D, A, nL0⟩ := E
  obtain ⟨rfl, rfl, hx, hb, hml, hown, hts, hK, hT, hA, hlk⟩ := hE
  exact fun H locs ls hP hD hS hl => va_tb hx hb (hT.2.2.2.2.2.2.2.2.2.1.1 i hi).2.2.2 hS hin (by rw [hv]) hdg (k H locs ls hP hD hS hl)
theorem jr_ldcS {E : jE} {G : Nat → ClassId} {rm : Room} {cc : ByteArray} {nL cs ss pc : Nat} {own : String} {Ts : List Cond} {L : List Nat} {F : Nat → va_E} {lv : List (Nat × Value)} {rest : List Value} {index i : Nat} (hE : jOk E G rm cc nL own Ts) (hdg : decode cc pc = .ok (.ldc index, 2)) (hi : i < 9) (ho : own = RX9) (hx0 : index = 29 + 2 * i) (k : J E L F cs ss (pc + 2) lv (.ref (jT G (10 + i)) :: rest)) : J E L F cs ss pc lv rest := by
  obtain ⟨p, l, e, R, s, m, args, below, meth, c, Q, D, A, nL0⟩ := E
  obtain ⟨rfl, rfl, hx, hb, hml, hown, hts, hK, hT, hA, hlk⟩ := hE
  subst ho
  subst hx0
  exact fun H locs ls hP hD hS hl => va_ldcS hx hb hown (hT.2.2.2.2.2.2.2.2.2.2.1 i hi) hdg (k H locs ls hP hD hS hl)

theorem jr_i2c {E : jE} {G : Nat → ClassId} {rm : Room} {cc : ByteArray} {nL cs ss pc : Nat} {own : String} {Ts : List Cond} {L : List Nat} {F : Nat → va_E} {lv : List (Nat × Value)} {rest : List Value} {x z : Int32} (hE : jOk E G rm cc nL own Ts) (hdg : decode cc pc = .ok (.i2c, 1)) (hz : (x.toUInt32 % 65536).toInt32 = z) (k : J E L F cs ss (pc + 1) lv (.int z :: rest)) : J E L F cs ss pc lv (.int x :: rest) := by
  obtain ⟨p, l, e, R, s, m, args, below, meth, c, Q, D, A, nL0⟩ := E
  obtain ⟨rfl, rfl, hx, hb, hml, hown, hts, hK, hT, hA, hlk⟩ := hE
  exact fun H locs ls hP hD hS hl => lv_i2c hx hb hdg hz (k H locs ls hP hD hS hl)
