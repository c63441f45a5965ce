/-! CONSTRUCTORS: the Curve, Single, Group, JointSigns -/
def tX2 (G : Nat → ClassId) (A : Nat → Nat) (lz : Nat → Int64) : Nat → va_E := (ext 41 (ext 21 (ext 11 (ext 6 (ext 3 (fun i => [(.inr (6, [.ref (A 1), .ref (A 2), .ref (A 3), .int (0 : Int32)])), (cC (cd 55066263022277343669578718895168534326250603453777594175500187360389116729240)), (cC (cd 32670510020758816978083085130507043184471273380659243275938904335757337482424))].getD i zC) (fun i => [(cC lz), (.inl (G 7, 16, .inr (.inr (.inr (.inr (va_up (va_up (va_up (va_up (va_up (va_up (va_up (va_up (va_up (va_up (va_up (va_up (va_up (va_up (va_up (va_up (fun _ => none) 0 (some (A 18))) 1 (some (A 22))) 2 (some (A 26))) 3 (some (A 30))) 4 (some (A 34))) 5 (some (A 38))) 6 (some (A 42))) 7 (some (A 46))) 8 (some (A 50))) 9 (some (A 54))) 10 (some (A 58))) 11 (some (A 62))) 12 (some (A 66))) 13 (some (A 70))) 14 (some (A 74))) 15 (some (A 78)))))))), (.inr (7, [.ref (A 6), .ref (A 7), .ref (A 8), .ref (A 9), .ref (A 10), .ref (A 11)]))].getD i zC)) (ext 3 (fun i => [zC, zC, zC].getD i zC) (fun i => [zC, zC].getD i zC))) (ext 5 (ext 3 (fun i => [zC, (cC (cd 1)), zC].getD i zC) (fun i => [zC, zC].getD i zC)) (ext 3 (fun i => [zC, zC, (.inr (6, [.ref (A 19), .ref (A 20), .ref (A 21), .int (1 : Int32)]))].getD i zC) (fun i => [zC, zC].getD i zC)))) (ext 10 (ext 5 (ext 3 (fun i => [zC, (.inr (6, [.ref (A 23), .ref (A 24), .ref (A 25), .int (1 : Int32)])), zC].getD i zC) (fun i => [zC, zC].getD i zC)) (ext 3 (fun i => [(.inr (6, [.ref (A 27), .ref (A 28), .ref (A 29), .int (1 : Int32)])), zC, zC].getD i zC) (fun i => [zC, (.inr (6, [.ref (A 31), .ref (A 32), .ref (A 33), .int (1 : Int32)]))].getD i zC))) (ext 5 (ext 3 (fun i => [zC, zC, zC].getD i zC) (fun i => [(.inr (6, [.ref (A 35), .ref (A 36), .ref (A 37), .int (1 : Int32)])), zC].getD i zC)) (ext 3 (fun i => [zC, zC, (.inr (6, [.ref (A 39), .ref (A 40), .ref (A 41), .int (1 : Int32)]))].getD i zC) (fun i => [zC, zC].getD i zC))))) (ext 21 (ext 11 (ext 6 (ext 3 (fun i => [zC, (.inr (6, [.ref (A 43), .ref (A 44), .ref (A 45), .int (1 : Int32)])), zC].getD i zC) (fun i => [zC, zC, (.inr (6, [.ref (A 47), .ref (A 48), .ref (A 49), .int (1 : Int32)]))].getD i zC)) (ext 3 (fun i => [zC, zC, zC].getD i zC) (fun i => [(.inr (6, [.ref (A 51), .ref (A 52), .ref (A 53), .int (1 : Int32)])), zC].getD i zC))) (ext 5 (ext 3 (fun i => [zC, zC, (.inr (6, [.ref (A 55), .ref (A 56), .ref (A 57), .int (1 : Int32)]))].getD i zC) (fun i => [zC, zC].getD i zC)) (ext 3 (fun i => [zC, (.inr (6, [.ref (A 59), .ref (A 60), .ref (A 61), .int (1 : Int32)])), zC].getD i zC) (fun i => [zC, zC].getD i zC)))) (ext 10 (ext 5 (ext 3 (fun i => [(.inr (6, [.ref (A 63), .ref (A 64), .ref (A 65), .int (1 : Int32)])), zC, zC].getD i zC) (fun i => [zC, (.inr (6, [.ref (A 67), .ref (A 68), .ref (A 69), .int (1 : Int32)]))].getD i zC)) (ext 3 (fun i => [zC, zC, zC].getD i zC) (fun i => [(.inr (6, [.ref (A 71), .ref (A 72), .ref (A 73), .int (1 : Int32)])), zC].getD i zC))) (ext 5 (ext 3 (fun i => [zC, zC, (.inr (6, [.ref (A 75), .ref (A 76), .ref (A 77), .int (1 : Int32)]))].getD i zC) (fun i => [zC, zC].getD i zC)) (ext 3 (fun i => [zC, (.inr (6, [.ref (A 79), .ref (A 80), .ref (A 81), .int (1 : Int32)])), zC].getD i zC) (fun i => [zC, zC].getD i zC))))))

set_option maxHeartbeats 4000000 in
set_option maxRecDepth 100000 in
theorem c_i2 (l : Launch) (G : Nat → ClassId) (o : Nat) : jCv l yX2_init wsX2_init ({ frames := 3, cells := 82, slots := 657, locals := 60 }) (82) (657) G [.ref o] (fun L F => jF L F o (.inr (2, [.null, .null, .null, .null, .null, .null, .null, .null, .null]))) (fun L F L1 F1 => ∃ A lz, gS L F o 82 A (tX2 G A lz) L1 F1 ∧ F1 o = (.inr (2, [.ref (A 0), .ref (A 4), .ref (A 5), .ref (A 12), .ref (A 13), .ref (A 14), .ref (A 15), .ref (A 16), .ref (A 17)])) ∧ cK 536887296 16793600 lz ∧ cV lz % (PP : Int) = ((1 % PP : Nat) : Int)) := by
  refine jm_vI (cc := cX2_init) (maxL := 2) (by decide) rfl (Nat.le_of_ble_eq_true rfl) rfl ?_
  intro E L F hE hinit hR hpre
  have hE : jOk E G _ cX2_init 2 RX2 wsX2_init := hE
  have ho := hpre
  have f10 : jFl RX2 wsX2_init 10 2 0 := ⟨rfl, by decide, by decide +kernel, by decide +kernel⟩
  have f16 : jFl RX2 wsX2_init 16 2 1 := ⟨rfl, by decide, by decide +kernel, by decide +kernel⟩
  have f23 : jFl RX2 wsX2_init 23 2 2 := ⟨rfl, by decide, by decide +kernel, by decide +kernel⟩
  have f30 : jFl RX2 wsX2_init 30 2 3 := ⟨rfl, by decide, by decide +kernel, by decide +kernel⟩
  have f34 : jFl RX2 wsX2_init 34 2 4 := ⟨rfl, by decide, by decide +kernel, by decide +kernel⟩
  have f37 : jFl RX2 wsX2_init 37 2 5 := ⟨rfl, by decide, by decide +kernel, by decide +kernel⟩
  have f40 : jFl RX2 wsX2_init 40 2 6 := ⟨rfl, by decide, by decide +kernel, by decide +kernel⟩
  have f43 : jFl RX2 wsX2_init 43 2 7 := ⟨rfl, by decide, by decide +kernel, by decide +kernel⟩
  have f46 : jFl RX2 wsX2_init 46 2 8 := ⟨rfl, by decide, by decide +kernel, by decide +kernel⟩
  have f53 : jFl RX2 wsX2_init 53 6 0 := ⟨rfl, by decide, by decide +kernel, by decide +kernel⟩
  have f64 : jFl RX2 wsX2_init 64 6 1 := ⟨rfl, by decide, by decide +kernel, by decide +kernel⟩
  have f75 : jFl RX2 wsX2_init 75 6 2 := ⟨rfl, by decide, by decide +kernel, by decide +kernel⟩
  have f82 : jFl RX2 wsX2_init 82 6 3 := ⟨rfl, by decide, by decide +kernel, by decide +kernel⟩
  refine jr_aload_n hE dX2_init_0 0 rfl ?_
  refine jr_objInit hE dX2_init_1 (by decide +kernel) (by decide +kernel) (by decide +kernel) ⟨Nat.le_of_ble_eq_true rfl, Nat.le_of_ble_eq_true rfl⟩ (Nat.le_of_ble_eq_true rfl) ?_
  refine jr_aload_n hE dX2_init_4 0 rfl ?_
  refine jr_new (ci := 6) (fs := [.null, .null, .null, .int 0]) hE dX2_init_5 rfl (by decide +kernel) (by decide +kernel) (by decide +kernel) (by decide +kernel) dfX6 ⟨by decide, by decide⟩ (fun q1 F2 n3 g4 u5 => ?_)
  have g6 := (gS.nil (fun _ => 0) (fun _ => zC) ho.1).new n3 g4 u5
  have g7 := ho.nw n3 u5
  refine jr_dup hE dX2_init_8 rfl ?_
  have e11 : jF (L ++ [q1]) F2 q1 (.inr (6, [.null, .null, .null, .int 0])) := g6.at 0 (by decide)
  refine jr_callNv (n := 0) (As := []) (rest := [.ref q1, .ref o]) hE dX2_init_9 (fun l => c_i6 l G q1) ggX2_init_X6_init (by decide +kernel) (by decide) (by decide +kernel) rfl rfl ⟨by decide, by decide, by decide +kernel⟩ ⟨rfl, rfl, by decide, by decide⟩ ⟨by decide, by decide⟩ rfl rfl (Nat.le_of_ble_eq_true rfl) (e11) (fun L8 F9 q10 => ?_)
  obtain ⟨B12, gB12, hB12⟩ := q10
  have g14 := g6.oC (k := 0) (by decide) gB12 g7
  have g13 := g6.call (k := 0) (by decide) gB12 hB12
  refine jr_putF (ty := .object RX6) hE dX2_init_12 f10 g14 rfl hinit rfl (by decide +kernel) rfl rfl (Nat.le_of_ble_eq_true rfl) (fun F15 g16 u17 => ?_)
  have g16 : jF L8 F15 o (.inr (2, [.ref q1, .null, .null, .null, .null, .null, .null, .null, .null])) := g16
  have g18 := g13.put u17
  refine jr_aload_n hE dX2_init_15 0 rfl ?_
  refine jr_bipush (v := (16 : Int32)) hE dX2_init_16 (by decide) ?_
  refine jr_newq (g := 7) (N := 16) (C := RX6) hE dX2_init_18 (by decide +kernel) (by decide) rfl (by decide) (by decide) (by decide) ⟨by decide, by decide⟩ (fun q19 F20 n21 g22 u23 => ?_)
  have g24 := g18.new n21 g22 u23
  have g25 := g16.nw n21 u23
  refine jr_putF (ty := .array (.object RX6)) hE dX2_init_21 f16 g25 rfl hinit rfl (by decide +kernel) rfl rfl (Nat.le_of_ble_eq_true rfl) (fun F26 g27 u28 => ?_)
  have g27 : jF (L8 ++ [q19]) F26 o (.inr (2, [.ref q1, .ref q19, .null, .null, .null, .null, .null, .null, .null])) := g27
  have g29 := g24.put u28
  refine jr_aload_n hE dX2_init_24 0 rfl ?_
  refine jr_new (ci := 7) (fs := [.null, .null, .null, .null, .null, .null]) hE dX2_init_25 rfl (by decide +kernel) (by decide +kernel) (by decide +kernel) (by decide +kernel) dfX7 ⟨by decide, by decide⟩ (fun q30 F31 n32 g33 u34 => ?_)
  have g35 := g29.new n32 g33 u34
  have g36 := g27.nw n32 u34
  refine jr_dup hE dX2_init_28 rfl ?_
  have e40 : jF ((L8 ++ [q19]) ++ [q30]) F31 q30 (.inr (7, [.null, .null, .null, .null, .null, .null])) := g35.at 5 (by decide)
  refine jr_callNv (n := 0) (As := []) (rest := [.ref q30, .ref o]) hE dX2_init_29 (fun l => c_i7 l G q30) ggX2_init_X7_init (by decide +kernel) (by decide) (by decide +kernel) rfl rfl ⟨by decide, by decide, by decide +kernel⟩ ⟨rfl, rfl, by decide, by decide⟩ ⟨by decide, by decide⟩ rfl rfl (Nat.le_of_ble_eq_true rfl) (e40) (fun L37 F38 q39 => ?_)
  obtain ⟨B41, gB41, hB41⟩ := q39
  have g43 := g35.oC (k := 5) (by decide) gB41 g36
  have g42 := g35.call (k := 5) (by decide) gB41 hB41
  refine jr_putF (ty := .object RX7) hE dX2_init_32 f23 g43 rfl hinit rfl (by decide +kernel) rfl rfl (Nat.le_of_ble_eq_true rfl) (fun F44 g45 u46 => ?_)
  have g45 : jF L37 F44 o (.inr (2, [.ref q1, .ref q19, .ref q30, .null, .null, .null, .null, .null, .null])) := g45
  have g47 := g42.put u46
  refine jr_aload_n hE dX2_init_35 0 rfl ?_
  refine jr_new (ci := 1) (fs := [.long 0, .long 0, .long 0, .long 0, .long 0, .long 0, .long 0, .long 0, .long 0]) hE dX2_init_36 rfl (by decide +kernel) (by decide +kernel) (by decide +kernel) (by decide +kernel) dfX1 ⟨by decide, by decide⟩ (fun q48 F49 n50 g51 u52 => ?_)
  have g53 := g47.new n50 g51 u52
  have g54 := g45.nw n50 u52
  refine jr_dup hE dX2_init_39 rfl ?_
  refine jr_callNv (n := 0) (As := []) (rest := [.ref q48, .ref o]) hE dX2_init_40 (fun l => c_X1_init l G q48) ggX2_init_X1_init (by decide +kernel) (by decide) (by decide +kernel) rfl rfl ⟨by decide, by decide, by decide +kernel⟩ ⟨rfl, rfl, by decide, by decide⟩ ⟨by decide, by decide⟩ rfl rfl (Nat.le_of_ble_eq_true rfl) (trivial) (fun L55 F56 q57 => ?_)
  obtain ⟨eL55, eF56⟩ := q57
  subst eL55
  subst eF56
  refine jr_putF (ty := .object RX1) hE dX2_init_43 f30 g54 rfl hinit rfl (by decide +kernel) rfl rfl (Nat.le_of_ble_eq_true rfl) (fun F58 g59 u60 => ?_)
  have g59 : jF (L37 ++ [q48]) F58 o (.inr (2, [.ref q1, .ref q19, .ref q30, .ref q48, .null, .null, .null, .null, .null])) := g59
  have g61 := g53.put u60
  refine jr_aload_n hE dX2_init_46 0 rfl ?_
  refine jr_new (ci := 1) (fs := [.long 0, .long 0, .long 0, .long 0, .long 0, .long 0, .long 0, .long 0, .long 0]) hE dX2_init_47 rfl (by decide +kernel) (by decide +kernel) (by decide +kernel) (by decide +kernel) dfX1 ⟨by decide, by decide⟩ (fun q62 F63 n64 g65 u66 => ?_)
  have g67 := g61.new n64 g65 u66
  have g68 := g59.nw n64 u66
  refine jr_dup hE dX2_init_50 rfl ?_
  refine jr_callNv (n := 0) (As := []) (rest := [.ref q62, .ref o]) hE dX2_init_51 (fun l => c_X1_init l G q62) ggX2_init_X1_init (by decide +kernel) (by decide) (by decide +kernel) rfl rfl ⟨by decide, by decide, by decide +kernel⟩ ⟨rfl, rfl, by decide, by decide⟩ ⟨by decide, by decide⟩ rfl rfl (Nat.le_of_ble_eq_true rfl) (trivial) (fun L69 F70 q71 => ?_)
  obtain ⟨eL69, eF70⟩ := q71
  subst eL69
  subst eF70
  refine jr_putF (ty := .object RX1) hE dX2_init_54 f34 g68 rfl hinit rfl (by decide +kernel) rfl rfl (Nat.le_of_ble_eq_true rfl) (fun F72 g73 u74 => ?_)
  have g73 : jF ((L37 ++ [q48]) ++ [q62]) F72 o (.inr (2, [.ref q1, .ref q19, .ref q30, .ref q48, .ref q62, .null, .null, .null, .null])) := g73
  have g75 := g67.put u74
  refine jr_aload_n hE dX2_init_57 0 rfl ?_
  refine jr_new (ci := 1) (fs := [.long 0, .long 0, .long 0, .long 0, .long 0, .long 0, .long 0, .long 0, .long 0]) hE dX2_init_58 rfl (by decide +kernel) (by decide +kernel) (by decide +kernel) (by decide +kernel) dfX1 ⟨by decide, by decide⟩ (fun q76 F77 n78 g79 u80 => ?_)
  have g81 := g75.new n78 g79 u80
  have g82 := g73.nw n78 u80
  refine jr_dup hE dX2_init_61 rfl ?_
  refine jr_callNv (n := 0) (As := []) (rest := [.ref q76, .ref o]) hE dX2_init_62 (fun l => c_X1_init l G q76) ggX2_init_X1_init (by decide +kernel) (by decide) (by decide +kernel) rfl rfl ⟨by decide, by decide, by decide +kernel⟩ ⟨rfl, rfl, by decide, by decide⟩ ⟨by decide, by decide⟩ rfl rfl (Nat.le_of_ble_eq_true rfl) (trivial) (fun L83 F84 q85 => ?_)
  obtain ⟨eL83, eF84⟩ := q85
  subst eL83
  subst eF84
  refine jr_putF (ty := .object RX1) hE dX2_init_65 f37 g82 rfl hinit rfl (by decide +kernel) rfl rfl (Nat.le_of_ble_eq_true rfl) (fun F86 g87 u88 => ?_)
  have g87 : jF (((L37 ++ [q48]) ++ [q62]) ++ [q76]) F86 o (.inr (2, [.ref q1, .ref q19, .ref q30, .ref q48, .ref q62, .ref q76, .null, .null, .null])) := g87
  have g89 := g81.put u88
  refine jr_aload_n hE dX2_init_68 0 rfl ?_
  refine jr_new (ci := 1) (fs := [.long 0, .long 0, .long 0, .long 0, .long 0, .long 0, .long 0, .long 0, .long 0]) hE dX2_init_69 rfl (by decide +kernel) (by decide +kernel) (by decide +kernel) (by decide +kernel) dfX1 ⟨by decide, by decide⟩ (fun q90 F91 n92 g93 u94 => ?_)
  have g95 := g89.new n92 g93 u94
  have g96 := g87.nw n92 u94
  refine jr_dup hE dX2_init_72 rfl ?_
  refine jr_callNv (n := 0) (As := []) (rest := [.ref q90, .ref o]) hE dX2_init_73 (fun l => c_X1_init l G q90) ggX2_init_X1_init (by decide +kernel) (by decide) (by decide +kernel) rfl rfl ⟨by decide, by decide, by decide +kernel⟩ ⟨rfl, rfl, by decide, by decide⟩ ⟨by decide, by decide⟩ rfl rfl (Nat.le_of_ble_eq_true rfl) (trivial) (fun L97 F98 q99 => ?_)
  obtain ⟨eL97, eF98⟩ := q99
  subst eL97
  subst eF98
  refine jr_putF (ty := .object RX1) hE dX2_init_76 f40 g96 rfl hinit rfl (by decide +kernel) rfl rfl (Nat.le_of_ble_eq_true rfl) (fun F100 g101 u102 => ?_)
  have g101 : jF ((((L37 ++ [q48]) ++ [q62]) ++ [q76]) ++ [q90]) F100 o (.inr (2, [.ref q1, .ref q19, .ref q30, .ref q48, .ref q62, .ref q76, .ref q90, .null, .null])) := g101
  have g103 := g95.put u102
  refine jr_aload_n hE dX2_init_79 0 rfl ?_
  refine jr_new (ci := 1) (fs := [.long 0, .long 0, .long 0, .long 0, .long 0, .long 0, .long 0, .long 0, .long 0]) hE dX2_init_80 rfl (by decide +kernel) (by decide +kernel) (by decide +kernel) (by decide +kernel) dfX1 ⟨by decide, by decide⟩ (fun q104 F105 n106 g107 u108 => ?_)
  have g109 := g103.new n106 g107 u108
  have g110 := g101.nw n106 u108
  refine jr_dup hE dX2_init_83 rfl ?_
  refine jr_callNv (n := 0) (As := []) (rest := [.ref q104, .ref o]) hE dX2_init_84 (fun l => c_X1_init l G q104) ggX2_init_X1_init (by decide +kernel) (by decide) (by decide +kernel) rfl rfl ⟨by decide, by decide, by decide +kernel⟩ ⟨rfl, rfl, by decide, by decide⟩ ⟨by decide, by decide⟩ rfl rfl (Nat.le_of_ble_eq_true rfl) (trivial) (fun L111 F112 q113 => ?_)
  obtain ⟨eL111, eF112⟩ := q113
  subst eL111
  subst eF112
  refine jr_putF (ty := .object RX1) hE dX2_init_87 f43 g110 rfl hinit rfl (by decide +kernel) rfl rfl (Nat.le_of_ble_eq_true rfl) (fun F114 g115 u116 => ?_)
  have g115 : jF (((((L37 ++ [q48]) ++ [q62]) ++ [q76]) ++ [q90]) ++ [q104]) F114 o (.inr (2, [.ref q1, .ref q19, .ref q30, .ref q48, .ref q62, .ref q76, .ref q90, .ref q104, .null])) := g115
  have g117 := g109.put u116
  refine jr_aload_n hE dX2_init_90 0 rfl ?_
  refine jr_new (ci := 1) (fs := [.long 0, .long 0, .long 0, .long 0, .long 0, .long 0, .long 0, .long 0, .long 0]) hE dX2_init_91 rfl (by decide +kernel) (by decide +kernel) (by decide +kernel) (by decide +kernel) dfX1 ⟨by decide, by decide⟩ (fun q118 F119 n120 g121 u122 => ?_)
  have g123 := g117.new n120 g121 u122
  have g124 := g115.nw n120 u122
  refine jr_dup hE dX2_init_94 rfl ?_
  refine jr_callNv (n := 0) (As := []) (rest := [.ref q118, .ref o]) hE dX2_init_95 (fun l => c_X1_init l G q118) ggX2_init_X1_init (by decide +kernel) (by decide) (by decide +kernel) rfl rfl ⟨by decide, by decide, by decide +kernel⟩ ⟨rfl, rfl, by decide, by decide⟩ ⟨by decide, by decide⟩ rfl rfl (Nat.le_of_ble_eq_true rfl) (trivial) (fun L125 F126 q127 => ?_)
  obtain ⟨eL125, eF126⟩ := q127
  subst eL125
  subst eF126
  refine jr_putF (ty := .object RX1) hE dX2_init_98 f46 g124 rfl hinit rfl (by decide +kernel) rfl rfl (Nat.le_of_ble_eq_true rfl) (fun F128 g129 u130 => ?_)
  have g129 : jF ((((((L37 ++ [q48]) ++ [q62]) ++ [q76]) ++ [q90]) ++ [q104]) ++ [q118]) F128 o (.inr (2, [.ref q1, .ref q19, .ref q30, .ref q48, .ref q62, .ref q76, .ref q90, .ref q104, .ref q118])) := g129
  have g131 := g123.put u130
  refine jr_aload_n hE dX2_init_101 0 rfl ?_
  refine jr_get hE dX2_init_102 f30 g129 rfl ?_
  refine jr_lconst (v := lN 0) hE dX2_init_105 (by decide) ?_
  refine jr_lconst (v := lN 0) hE dX2_init_106 (by decide) ?_
  refine jr_lconst (v := lN 0) hE dX2_init_107 (by decide) ?_
  refine jr_lconst (v := lN 1) hE dX2_init_108 (by decide) ?_
  have e132 : jF ((((((L37 ++ [q48]) ++ [q62]) ++ [q76]) ++ [q90]) ++ [q104]) ++ [q118]) F128 q48 zC := g131.at 12 (by decide)
  refine jr_kVv (ci := 1) (n := 4) (As := [.long (lN 0), .long (lN 0), .long (lN 0), .long (lN 1)]) (rest := []) hE dX2_init_109 (fun l => c_X1_becomeWords l G q48 1 1 0 0 0 (fun _ => 0)) gX2_init_X1_becomeWords rfl e132 rfl (by decide +kernel) ⟨rfl, rfl, by decide, by decide⟩ (by decide) rfl rfl (Nat.le_of_ble_eq_true rfl) (⟨e132, by decide, by decide, by decide, by decide, by decide⟩) (fun F133 q134 => ?_)
  obtain ⟨⟨h135, b136⟩, u137⟩ := q134
  have g138 := g131.set 12 (by decide) h135.2 (fun x hx => u137 x (fun e => hx (List.mem_singleton.mp e)))
  have g139 := g131.oS 12 (by decide) (fun x hx => u137 x (fun e => hx (List.mem_singleton.mp e))) g129
  refine jr_iconst (v := (0 : Int32)) hE dX2_init_112 (by decide) ?_
  refine jr_istore_n (lv' := [(1, .int (0 : Int32)), (0, .ref o)]) hE dX2_init_113 (by decide) rfl ?_
  refine jr_iload_n hE dX2_init_114 0 rfl ?_
  refine jr_bipush (v := (16 : Int32)) hE dX2_init_115 (by decide) ?_
  refine jr_icmp_ge (tgt := 139) hE dX2_init_117 (by decide) (fun c140 => absurd c140 (by decide)) (fun c140 => ?_)
  refine jr_aload_n hE dX2_init_120 1 rfl ?_
  refine jr_get hE dX2_init_121 f16 g139 rfl ?_
  refine jr_iload_n hE dX2_init_124 0 rfl ?_
  refine jr_new (ci := 6) (fs := [.null, .null, .null, .int 0]) hE dX2_init_125 rfl (by decide +kernel) (by decide +kernel) (by decide +kernel) (by decide +kernel) dfX6 ⟨by decide, by decide⟩ (fun q141 F142 n143 g144 u145 => ?_)
  have g146 := g138.new n143 g144 u145
  have g147 := g139.nw n143 u145
  refine jr_dup hE dX2_init_128 rfl ?_
  have e151 : jF (((((((L37 ++ [q48]) ++ [q62]) ++ [q76]) ++ [q90]) ++ [q104]) ++ [q118]) ++ [q141]) F142 q141 (.inr (6, [.null, .null, .null, .int 0])) := g146.at 18 (by decide)
  refine jr_callNv (n := 0) (As := []) (rest := [.ref q141, .int (0 : Int32), .ref q19]) hE dX2_init_129 (fun l => c_i6 l G q141) ggX2_init_X6_init (by decide +kernel) (by decide) (by decide +kernel) rfl rfl ⟨by decide, by decide, by decide +kernel⟩ ⟨rfl, rfl, by decide, by decide⟩ ⟨by decide, by decide⟩ rfl rfl (Nat.le_of_ble_eq_true rfl) (e151) (fun L148 F149 q150 => ?_)
  obtain ⟨B152, gB152, hB152⟩ := q150
  have g154 := g146.oC (k := 18) (by decide) gB152 g147
  have g153 := g146.call (k := 18) (by decide) gB152 hB152
  have e158 : jF L148 F149 q19 (.inl (G 7, 16, .inr (.inr (.inr (.inr (fun _ => none)))))) := g153.at 4 (by decide)
  have e159 : jF L148 F149 q141 (.inr (6, [.ref (B152 0), .ref (B152 1), .ref (B152 2), .int (1 : Int32)])) := g153.at 18 (by decide)
  refine jr_astq (C := RX6) hE dX2_init_132 e158 e159 rfl rfl (vp_lit (by decide)) (fun F155 g156 u157 => ?_)
  have g160 := g153.set 4 (by decide) g156.2 u157
  have g161 := g153.oS 4 (by decide) u157 g154
  refine jr_iinc (v := (1 : Int32)) (lv' := [(1, .int (1 : Int32)), (0, .ref o)]) hE dX2_init_133 0 rfl (by decide) (by decide) rfl ?_
  refine jr_goto (tgt := 114) hE dX2_init_136 (by decide) ?_
  refine jr_iload_n hE dX2_init_114 0 rfl ?_
  refine jr_bipush (v := (16 : Int32)) hE dX2_init_115 (by decide) ?_
  refine jr_icmp_ge (tgt := 139) hE dX2_init_117 (by decide) (fun c162 => absurd c162 (by decide)) (fun c162 => ?_)
  refine jr_aload_n hE dX2_init_120 1 rfl ?_
  refine jr_get hE dX2_init_121 f16 g161 rfl ?_
  refine jr_iload_n hE dX2_init_124 0 rfl ?_
  refine jr_new (ci := 6) (fs := [.null, .null, .null, .int 0]) hE dX2_init_125 rfl (by decide +kernel) (by decide +kernel) (by decide +kernel) (by decide +kernel) dfX6 ⟨by decide, by decide⟩ (fun q163 F164 n165 g166 u167 => ?_)
  have g168 := g160.new n165 g166 u167
  have g169 := g161.nw n165 u167
  refine jr_dup hE dX2_init_128 rfl ?_
  have e173 : jF (L148 ++ [q163]) F164 q163 (.inr (6, [.null, .null, .null, .int 0])) := g168.at 22 (by decide)
  refine jr_callNv (n := 0) (As := []) (rest := [.ref q163, .int (1 : Int32), .ref q19]) hE dX2_init_129 (fun l => c_i6 l G q163) ggX2_init_X6_init (by decide +kernel) (by decide) (by decide +kernel) rfl rfl ⟨by decide, by decide, by decide +kernel⟩ ⟨rfl, rfl, by decide, by decide⟩ ⟨by decide, by decide⟩ rfl rfl (Nat.le_of_ble_eq_true rfl) (e173) (fun L170 F171 q172 => ?_)
  obtain ⟨B174, gB174, hB174⟩ := q172
  have g176 := g168.oC (k := 22) (by decide) gB174 g169
  have g175 := g168.call (k := 22) (by decide) gB174 hB174
  have e180 : jF L170 F171 q19 (.inl (G 7, 16, .inr (.inr (.inr (.inr (va_up (fun _ => none) 0 (some q141))))))) := g175.at 4 (by decide)
  have e181 : jF L170 F171 q163 (.inr (6, [.ref (B174 0), .ref (B174 1), .ref (B174 2), .int (1 : Int32)])) := g175.at 22 (by decide)
  refine jr_astq (C := RX6) hE dX2_init_132 e180 e181 rfl rfl (vp_lit (by decide)) (fun F177 g178 u179 => ?_)
  have g182 := g175.set 4 (by decide) g178.2 u179
  have g183 := g175.oS 4 (by decide) u179 g176
  refine jr_iinc (v := (2 : Int32)) (lv' := [(1, .int (2 : Int32)), (0, .ref o)]) hE dX2_init_133 0 rfl (by decide) (by decide) rfl ?_
  refine jr_goto (tgt := 114) hE dX2_init_136 (by decide) ?_
  refine jr_iload_n hE dX2_init_114 0 rfl ?_
  refine jr_bipush (v := (16 : Int32)) hE dX2_init_115 (by decide) ?_
  refine jr_icmp_ge (tgt := 139) hE dX2_init_117 (by decide) (fun c184 => absurd c184 (by decide)) (fun c184 => ?_)
  refine jr_aload_n hE dX2_init_120 1 rfl ?_
  refine jr_get hE dX2_init_121 f16 g183 rfl ?_
  refine jr_iload_n hE dX2_init_124 0 rfl ?_
  refine jr_new (ci := 6) (fs := [.null, .null, .null, .int 0]) hE dX2_init_125 rfl (by decide +kernel) (by decide +kernel) (by decide +kernel) (by decide +kernel) dfX6 ⟨by decide, by decide⟩ (fun q185 F186 n187 g188 u189 => ?_)
  have g190 := g182.new n187 g188 u189
  have g191 := g183.nw n187 u189
  refine jr_dup hE dX2_init_128 rfl ?_
  have e195 : jF (L170 ++ [q185]) F186 q185 (.inr (6, [.null, .null, .null, .int 0])) := g190.at 26 (by decide)
  refine jr_callNv (n := 0) (As := []) (rest := [.ref q185, .int (2 : Int32), .ref q19]) hE dX2_init_129 (fun l => c_i6 l G q185) ggX2_init_X6_init (by decide +kernel) (by decide) (by decide +kernel) rfl rfl ⟨by decide, by decide, by decide +kernel⟩ ⟨rfl, rfl, by decide, by decide⟩ ⟨by decide, by decide⟩ rfl rfl (Nat.le_of_ble_eq_true rfl) (e195) (fun L192 F193 q194 => ?_)
  obtain ⟨B196, gB196, hB196⟩ := q194
  have g198 := g190.oC (k := 26) (by decide) gB196 g191
  have g197 := g190.call (k := 26) (by decide) gB196 hB196
  have e202 : jF L192 F193 q19 (.inl (G 7, 16, .inr (.inr (.inr (.inr (va_up (va_up (fun _ => none) 0 (some q141)) 1 (some q163))))))) := g197.at 4 (by decide)
  have e203 : jF L192 F193 q185 (.inr (6, [.ref (B196 0), .ref (B196 1), .ref (B196 2), .int (1 : Int32)])) := g197.at 26 (by decide)
  refine jr_astq (C := RX6) hE dX2_init_132 e202 e203 rfl rfl (vp_lit (by decide)) (fun F199 g200 u201 => ?_)
  have g204 := g197.set 4 (by decide) g200.2 u201
  have g205 := g197.oS 4 (by decide) u201 g198
  refine jr_iinc (v := (3 : Int32)) (lv' := [(1, .int (3 : Int32)), (0, .ref o)]) hE dX2_init_133 0 rfl (by decide) (by decide) rfl ?_
  refine jr_goto (tgt := 114) hE dX2_init_136 (by decide) ?_
  refine jr_iload_n hE dX2_init_114 0 rfl ?_
  refine jr_bipush (v := (16 : Int32)) hE dX2_init_115 (by decide) ?_
  refine jr_icmp_ge (tgt := 139) hE dX2_init_117 (by decide) (fun c206 => absurd c206 (by decide)) (fun c206 => ?_)
  refine jr_aload_n hE dX2_init_120 1 rfl ?_
  refine jr_get hE dX2_init_121 f16 g205 rfl ?_
  refine jr_iload_n hE dX2_init_124 0 rfl ?_
  refine jr_new (ci := 6) (fs := [.null, .null, .null, .int 0]) hE dX2_init_125 rfl (by decide +kernel) (by decide +kernel) (by decide +kernel) (by decide +kernel) dfX6 ⟨by decide, by decide⟩ (fun q207 F208 n209 g210 u211 => ?_)
  have g212 := g204.new n209 g210 u211
  have g213 := g205.nw n209 u211
  refine jr_dup hE dX2_init_128 rfl ?_
  have e217 : jF (L192 ++ [q207]) F208 q207 (.inr (6, [.null, .null, .null, .int 0])) := g212.at 30 (by decide)
  refine jr_callNv (n := 0) (As := []) (rest := [.ref q207, .int (3 : Int32), .ref q19]) hE dX2_init_129 (fun l => c_i6 l G q207) ggX2_init_X6_init (by decide +kernel) (by decide) (by decide +kernel) rfl rfl ⟨by decide, by decide, by decide +kernel⟩ ⟨rfl, rfl, by decide, by decide⟩ ⟨by decide, by decide⟩ rfl rfl (Nat.le_of_ble_eq_true rfl) (e217) (fun L214 F215 q216 => ?_)
  obtain ⟨B218, gB218, hB218⟩ := q216
  have g220 := g212.oC (k := 30) (by decide) gB218 g213
  have g219 := g212.call (k := 30) (by decide) gB218 hB218
  have e224 : jF L214 F215 q19 (.inl (G 7, 16, .inr (.inr (.inr (.inr (va_up (va_up (va_up (fun _ => none) 0 (some q141)) 1 (some q163)) 2 (some q185))))))) := g219.at 4 (by decide)
  have e225 : jF L214 F215 q207 (.inr (6, [.ref (B218 0), .ref (B218 1), .ref (B218 2), .int (1 : Int32)])) := g219.at 30 (by decide)
  refine jr_astq (C := RX6) hE dX2_init_132 e224 e225 rfl rfl (vp_lit (by decide)) (fun F221 g222 u223 => ?_)
  have g226 := g219.set 4 (by decide) g222.2 u223
  have g227 := g219.oS 4 (by decide) u223 g220
  refine jr_iinc (v := (4 : Int32)) (lv' := [(1, .int (4 : Int32)), (0, .ref o)]) hE dX2_init_133 0 rfl (by decide) (by decide) rfl ?_
  refine jr_goto (tgt := 114) hE dX2_init_136 (by decide) ?_
  refine jr_iload_n hE dX2_init_114 0 rfl ?_
  refine jr_bipush (v := (16 : Int32)) hE dX2_init_115 (by decide) ?_
  refine jr_icmp_ge (tgt := 139) hE dX2_init_117 (by decide) (fun c228 => absurd c228 (by decide)) (fun c228 => ?_)
  refine jr_aload_n hE dX2_init_120 1 rfl ?_
  refine jr_get hE dX2_init_121 f16 g227 rfl ?_
  refine jr_iload_n hE dX2_init_124 0 rfl ?_
  refine jr_new (ci := 6) (fs := [.null, .null, .null, .int 0]) hE dX2_init_125 rfl (by decide +kernel) (by decide +kernel) (by decide +kernel) (by decide +kernel) dfX6 ⟨by decide, by decide⟩ (fun q229 F230 n231 g232 u233 => ?_)
  have g234 := g226.new n231 g232 u233
  have g235 := g227.nw n231 u233
  refine jr_dup hE dX2_init_128 rfl ?_
  have e239 : jF (L214 ++ [q229]) F230 q229 (.inr (6, [.null, .null, .null, .int 0])) := g234.at 34 (by decide)
  refine jr_callNv (n := 0) (As := []) (rest := [.ref q229, .int (4 : Int32), .ref q19]) hE dX2_init_129 (fun l => c_i6 l G q229) ggX2_init_X6_init (by decide +kernel) (by decide) (by decide +kernel) rfl rfl ⟨by decide, by decide, by decide +kernel⟩ ⟨rfl, rfl, by decide, by decide⟩ ⟨by decide, by decide⟩ rfl rfl (Nat.le_of_ble_eq_true rfl) (e239) (fun L236 F237 q238 => ?_)
  obtain ⟨B240, gB240, hB240⟩ := q238
  have g242 := g234.oC (k := 34) (by decide) gB240 g235
  have g241 := g234.call (k := 34) (by decide) gB240 hB240
  have e246 : jF L236 F237 q19 (.inl (G 7, 16, .inr (.inr (.inr (.inr (va_up (va_up (va_up (va_up (fun _ => none) 0 (some q141)) 1 (some q163)) 2 (some q185)) 3 (some q207))))))) := g241.at 4 (by decide)
  have e247 : jF L236 F237 q229 (.inr (6, [.ref (B240 0), .ref (B240 1), .ref (B240 2), .int (1 : Int32)])) := g241.at 34 (by decide)
  refine jr_astq (C := RX6) hE dX2_init_132 e246 e247 rfl rfl (vp_lit (by decide)) (fun F243 g244 u245 => ?_)
  have g248 := g241.set 4 (by decide) g244.2 u245
  have g249 := g241.oS 4 (by decide) u245 g242
  refine jr_iinc (v := (5 : Int32)) (lv' := [(1, .int (5 : Int32)), (0, .ref o)]) hE dX2_init_133 0 rfl (by decide) (by decide) rfl ?_
  refine jr_goto (tgt := 114) hE dX2_init_136 (by decide) ?_
  refine jr_iload_n hE dX2_init_114 0 rfl ?_
  refine jr_bipush (v := (16 : Int32)) hE dX2_init_115 (by decide) ?_
  refine jr_icmp_ge (tgt := 139) hE dX2_init_117 (by decide) (fun c250 => absurd c250 (by decide)) (fun c250 => ?_)
  refine jr_aload_n hE dX2_init_120 1 rfl ?_
  refine jr_get hE dX2_init_121 f16 g249 rfl ?_
  refine jr_iload_n hE dX2_init_124 0 rfl ?_
  refine jr_new (ci := 6) (fs := [.null, .null, .null, .int 0]) hE dX2_init_125 rfl (by decide +kernel) (by decide +kernel) (by decide +kernel) (by decide +kernel) dfX6 ⟨by decide, by decide⟩ (fun q251 F252 n253 g254 u255 => ?_)
  have g256 := g248.new n253 g254 u255
  have g257 := g249.nw n253 u255
  refine jr_dup hE dX2_init_128 rfl ?_
  have e261 : jF (L236 ++ [q251]) F252 q251 (.inr (6, [.null, .null, .null, .int 0])) := g256.at 38 (by decide)
  refine jr_callNv (n := 0) (As := []) (rest := [.ref q251, .int (5 : Int32), .ref q19]) hE dX2_init_129 (fun l => c_i6 l G q251) ggX2_init_X6_init (by decide +kernel) (by decide) (by decide +kernel) rfl rfl ⟨by decide, by decide, by decide +kernel⟩ ⟨rfl, rfl, by decide, by decide⟩ ⟨by decide, by decide⟩ rfl rfl (Nat.le_of_ble_eq_true rfl) (e261) (fun L258 F259 q260 => ?_)
  obtain ⟨B262, gB262, hB262⟩ := q260
  have g264 := g256.oC (k := 38) (by decide) gB262 g257
  have g263 := g256.call (k := 38) (by decide) gB262 hB262
  have e268 : jF L258 F259 q19 (.inl (G 7, 16, .inr (.inr (.inr (.inr (va_up (va_up (va_up (va_up (va_up (fun _ => none) 0 (some q141)) 1 (some q163)) 2 (some q185)) 3 (some q207)) 4 (some q229))))))) := g263.at 4 (by decide)
  have e269 : jF L258 F259 q251 (.inr (6, [.ref (B262 0), .ref (B262 1), .ref (B262 2), .int (1 : Int32)])) := g263.at 38 (by decide)
  refine jr_astq (C := RX6) hE dX2_init_132 e268 e269 rfl rfl (vp_lit (by decide)) (fun F265 g266 u267 => ?_)
  have g270 := g263.set 4 (by decide) g266.2 u267
  have g271 := g263.oS 4 (by decide) u267 g264
  refine jr_iinc (v := (6 : Int32)) (lv' := [(1, .int (6 : Int32)), (0, .ref o)]) hE dX2_init_133 0 rfl (by decide) (by decide) rfl ?_
  refine jr_goto (tgt := 114) hE dX2_init_136 (by decide) ?_
  refine jr_iload_n hE dX2_init_114 0 rfl ?_
  refine jr_bipush (v := (16 : Int32)) hE dX2_init_115 (by decide) ?_
  refine jr_icmp_ge (tgt := 139) hE dX2_init_117 (by decide) (fun c272 => absurd c272 (by decide)) (fun c272 => ?_)
  refine jr_aload_n hE dX2_init_120 1 rfl ?_
  refine jr_get hE dX2_init_121 f16 g271 rfl ?_
  refine jr_iload_n hE dX2_init_124 0 rfl ?_
  refine jr_new (ci := 6) (fs := [.null, .null, .null, .int 0]) hE dX2_init_125 rfl (by decide +kernel) (by decide +kernel) (by decide +kernel) (by decide +kernel) dfX6 ⟨by decide, by decide⟩ (fun q273 F274 n275 g276 u277 => ?_)
  have g278 := g270.new n275 g276 u277
  have g279 := g271.nw n275 u277
  refine jr_dup hE dX2_init_128 rfl ?_
  have e283 : jF (L258 ++ [q273]) F274 q273 (.inr (6, [.null, .null, .null, .int 0])) := g278.at 42 (by decide)
  refine jr_callNv (n := 0) (As := []) (rest := [.ref q273, .int (6 : Int32), .ref q19]) hE dX2_init_129 (fun l => c_i6 l G q273) ggX2_init_X6_init (by decide +kernel) (by decide) (by decide +kernel) rfl rfl ⟨by decide, by decide, by decide +kernel⟩ ⟨rfl, rfl, by decide, by decide⟩ ⟨by decide, by decide⟩ rfl rfl (Nat.le_of_ble_eq_true rfl) (e283) (fun L280 F281 q282 => ?_)
  obtain ⟨B284, gB284, hB284⟩ := q282
  have g286 := g278.oC (k := 42) (by decide) gB284 g279
  have g285 := g278.call (k := 42) (by decide) gB284 hB284
  have e290 : jF L280 F281 q19 (.inl (G 7, 16, .inr (.inr (.inr (.inr (va_up (va_up (va_up (va_up (va_up (va_up (fun _ => none) 0 (some q141)) 1 (some q163)) 2 (some q185)) 3 (some q207)) 4 (some q229)) 5 (some q251))))))) := g285.at 4 (by decide)
  have e291 : jF L280 F281 q273 (.inr (6, [.ref (B284 0), .ref (B284 1), .ref (B284 2), .int (1 : Int32)])) := g285.at 42 (by decide)
  refine jr_astq (C := RX6) hE dX2_init_132 e290 e291 rfl rfl (vp_lit (by decide)) (fun F287 g288 u289 => ?_)
  have g292 := g285.set 4 (by decide) g288.2 u289
  have g293 := g285.oS 4 (by decide) u289 g286
  refine jr_iinc (v := (7 : Int32)) (lv' := [(1, .int (7 : Int32)), (0, .ref o)]) hE dX2_init_133 0 rfl (by decide) (by decide) rfl ?_
  refine jr_goto (tgt := 114) hE dX2_init_136 (by decide) ?_
  refine jr_iload_n hE dX2_init_114 0 rfl ?_
  refine jr_bipush (v := (16 : Int32)) hE dX2_init_115 (by decide) ?_
  refine jr_icmp_ge (tgt := 139) hE dX2_init_117 (by decide) (fun c294 => absurd c294 (by decide)) (fun c294 => ?_)
  refine jr_aload_n hE dX2_init_120 1 rfl ?_
  refine jr_get hE dX2_init_121 f16 g293 rfl ?_
  refine jr_iload_n hE dX2_init_124 0 rfl ?_
  refine jr_new (ci := 6) (fs := [.null, .null, .null, .int 0]) hE dX2_init_125 rfl (by decide +kernel) (by decide +kernel) (by decide +kernel) (by decide +kernel) dfX6 ⟨by decide, by decide⟩ (fun q295 F296 n297 g298 u299 => ?_)
  have g300 := g292.new n297 g298 u299
  have g301 := g293.nw n297 u299
  refine jr_dup hE dX2_init_128 rfl ?_
  have e305 : jF (L280 ++ [q295]) F296 q295 (.inr (6, [.null, .null, .null, .int 0])) := g300.at 46 (by decide)
  refine jr_callNv (n := 0) (As := []) (rest := [.ref q295, .int (7 : Int32), .ref q19]) hE dX2_init_129 (fun l => c_i6 l G q295) ggX2_init_X6_init (by decide +kernel) (by decide) (by decide +kernel) rfl rfl ⟨by decide, by decide, by decide +kernel⟩ ⟨rfl, rfl, by decide, by decide⟩ ⟨by decide, by decide⟩ rfl rfl (Nat.le_of_ble_eq_true rfl) (e305) (fun L302 F303 q304 => ?_)
  obtain ⟨B306, gB306, hB306⟩ := q304
  have g308 := g300.oC (k := 46) (by decide) gB306 g301
  have g307 := g300.call (k := 46) (by decide) gB306 hB306
  have e312 : jF L302 F303 q19 (.inl (G 7, 16, .inr (.inr (.inr (.inr (va_up (va_up (va_up (va_up (va_up (va_up (va_up (fun _ => none) 0 (some q141)) 1 (some q163)) 2 (some q185)) 3 (some q207)) 4 (some q229)) 5 (some q251)) 6 (some q273))))))) := g307.at 4 (by decide)
  have e313 : jF L302 F303 q295 (.inr (6, [.ref (B306 0), .ref (B306 1), .ref (B306 2), .int (1 : Int32)])) := g307.at 46 (by decide)
  refine jr_astq (C := RX6) hE dX2_init_132 e312 e313 rfl rfl (vp_lit (by decide)) (fun F309 g310 u311 => ?_)
  have g314 := g307.set 4 (by decide) g310.2 u311
  have g315 := g307.oS 4 (by decide) u311 g308
  refine jr_iinc (v := (8 : Int32)) (lv' := [(1, .int (8 : Int32)), (0, .ref o)]) hE dX2_init_133 0 rfl (by decide) (by decide) rfl ?_
  refine jr_goto (tgt := 114) hE dX2_init_136 (by decide) ?_
  refine jr_iload_n hE dX2_init_114 0 rfl ?_
  refine jr_bipush (v := (16 : Int32)) hE dX2_init_115 (by decide) ?_
  refine jr_icmp_ge (tgt := 139) hE dX2_init_117 (by decide) (fun c316 => absurd c316 (by decide)) (fun c316 => ?_)
  refine jr_aload_n hE dX2_init_120 1 rfl ?_
  refine jr_get hE dX2_init_121 f16 g315 rfl ?_
  refine jr_iload_n hE dX2_init_124 0 rfl ?_
  refine jr_new (ci := 6) (fs := [.null, .null, .null, .int 0]) hE dX2_init_125 rfl (by decide +kernel) (by decide +kernel) (by decide +kernel) (by decide +kernel) dfX6 ⟨by decide, by decide⟩ (fun q317 F318 n319 g320 u321 => ?_)
  have g322 := g314.new n319 g320 u321
  have g323 := g315.nw n319 u321
  refine jr_dup hE dX2_init_128 rfl ?_
  have e327 : jF (L302 ++ [q317]) F318 q317 (.inr (6, [.null, .null, .null, .int 0])) := g322.at 50 (by decide)
  refine jr_callNv (n := 0) (As := []) (rest := [.ref q317, .int (8 : Int32), .ref q19]) hE dX2_init_129 (fun l => c_i6 l G q317) ggX2_init_X6_init (by decide +kernel) (by decide) (by decide +kernel) rfl rfl ⟨by decide, by decide, by decide +kernel⟩ ⟨rfl, rfl, by decide, by decide⟩ ⟨by decide, by decide⟩ rfl rfl (Nat.le_of_ble_eq_true rfl) (e327) (fun L324 F325 q326 => ?_)
  obtain ⟨B328, gB328, hB328⟩ := q326
  have g330 := g322.oC (k := 50) (by decide) gB328 g323
  have g329 := g322.call (k := 50) (by decide) gB328 hB328
  have e334 : jF L324 F325 q19 (.inl (G 7, 16, .inr (.inr (.inr (.inr (va_up (va_up (va_up (va_up (va_up (va_up (va_up (va_up (fun _ => none) 0 (some q141)) 1 (some q163)) 2 (some q185)) 3 (some q207)) 4 (some q229)) 5 (some q251)) 6 (some q273)) 7 (some q295))))))) := g329.at 4 (by decide)
  have e335 : jF L324 F325 q317 (.inr (6, [.ref (B328 0), .ref (B328 1), .ref (B328 2), .int (1 : Int32)])) := g329.at 50 (by decide)
  refine jr_astq (C := RX6) hE dX2_init_132 e334 e335 rfl rfl (vp_lit (by decide)) (fun F331 g332 u333 => ?_)
  have g336 := g329.set 4 (by decide) g332.2 u333
  have g337 := g329.oS 4 (by decide) u333 g330
  refine jr_iinc (v := (9 : Int32)) (lv' := [(1, .int (9 : Int32)), (0, .ref o)]) hE dX2_init_133 0 rfl (by decide) (by decide) rfl ?_
  refine jr_goto (tgt := 114) hE dX2_init_136 (by decide) ?_
  refine jr_iload_n hE dX2_init_114 0 rfl ?_
  refine jr_bipush (v := (16 : Int32)) hE dX2_init_115 (by decide) ?_
  refine jr_icmp_ge (tgt := 139) hE dX2_init_117 (by decide) (fun c338 => absurd c338 (by decide)) (fun c338 => ?_)
  refine jr_aload_n hE dX2_init_120 1 rfl ?_
  refine jr_get hE dX2_init_121 f16 g337 rfl ?_
  refine jr_iload_n hE dX2_init_124 0 rfl ?_
  refine jr_new (ci := 6) (fs := [.null, .null, .null, .int 0]) hE dX2_init_125 rfl (by decide +kernel) (by decide +kernel) (by decide +kernel) (by decide +kernel) dfX6 ⟨by decide, by decide⟩ (fun q339 F340 n341 g342 u343 => ?_)
  have g344 := g336.new n341 g342 u343
  have g345 := g337.nw n341 u343
  refine jr_dup hE dX2_init_128 rfl ?_
  have e349 : jF (L324 ++ [q339]) F340 q339 (.inr (6, [.null, .null, .null, .int 0])) := g344.at 54 (by decide)
  refine jr_callNv (n := 0) (As := []) (rest := [.ref q339, .int (9 : Int32), .ref q19]) hE dX2_init_129 (fun l => c_i6 l G q339) ggX2_init_X6_init (by decide +kernel) (by decide) (by decide +kernel) rfl rfl ⟨by decide, by decide, by decide +kernel⟩ ⟨rfl, rfl, by decide, by decide⟩ ⟨by decide, by decide⟩ rfl rfl (Nat.le_of_ble_eq_true rfl) (e349) (fun L346 F347 q348 => ?_)
  obtain ⟨B350, gB350, hB350⟩ := q348
  have g352 := g344.oC (k := 54) (by decide) gB350 g345
  have g351 := g344.call (k := 54) (by decide) gB350 hB350
  have e356 : jF L346 F347 q19 (.inl (G 7, 16, .inr (.inr (.inr (.inr (va_up (va_up (va_up (va_up (va_up (va_up (va_up (va_up (va_up (fun _ => none) 0 (some q141)) 1 (some q163)) 2 (some q185)) 3 (some q207)) 4 (some q229)) 5 (some q251)) 6 (some q273)) 7 (some q295)) 8 (some q317))))))) := g351.at 4 (by decide)
  have e357 : jF L346 F347 q339 (.inr (6, [.ref (B350 0), .ref (B350 1), .ref (B350 2), .int (1 : Int32)])) := g351.at 54 (by decide)
  refine jr_astq (C := RX6) hE dX2_init_132 e356 e357 rfl rfl (vp_lit (by decide)) (fun F353 g354 u355 => ?_)
  have g358 := g351.set 4 (by decide) g354.2 u355
  have g359 := g351.oS 4 (by decide) u355 g352
  refine jr_iinc (v := (10 : Int32)) (lv' := [(1, .int (10 : Int32)), (0, .ref o)]) hE dX2_init_133 0 rfl (by decide) (by decide) rfl ?_
  refine jr_goto (tgt := 114) hE dX2_init_136 (by decide) ?_
  refine jr_iload_n hE dX2_init_114 0 rfl ?_
  refine jr_bipush (v := (16 : Int32)) hE dX2_init_115 (by decide) ?_
  refine jr_icmp_ge (tgt := 139) hE dX2_init_117 (by decide) (fun c360 => absurd c360 (by decide)) (fun c360 => ?_)
  refine jr_aload_n hE dX2_init_120 1 rfl ?_
  refine jr_get hE dX2_init_121 f16 g359 rfl ?_
  refine jr_iload_n hE dX2_init_124 0 rfl ?_
  refine jr_new (ci := 6) (fs := [.null, .null, .null, .int 0]) hE dX2_init_125 rfl (by decide +kernel) (by decide +kernel) (by decide +kernel) (by decide +kernel) dfX6 ⟨by decide, by decide⟩ (fun q361 F362 n363 g364 u365 => ?_)
  have g366 := g358.new n363 g364 u365
  have g367 := g359.nw n363 u365
  refine jr_dup hE dX2_init_128 rfl ?_
  have e371 : jF (L346 ++ [q361]) F362 q361 (.inr (6, [.null, .null, .null, .int 0])) := g366.at 58 (by decide)
  refine jr_callNv (n := 0) (As := []) (rest := [.ref q361, .int (10 : Int32), .ref q19]) hE dX2_init_129 (fun l => c_i6 l G q361) ggX2_init_X6_init (by decide +kernel) (by decide) (by decide +kernel) rfl rfl ⟨by decide, by decide, by decide +kernel⟩ ⟨rfl, rfl, by decide, by decide⟩ ⟨by decide, by decide⟩ rfl rfl (Nat.le_of_ble_eq_true rfl) (e371) (fun L368 F369 q370 => ?_)
  obtain ⟨B372, gB372, hB372⟩ := q370
  have g374 := g366.oC (k := 58) (by decide) gB372 g367
  have g373 := g366.call (k := 58) (by decide) gB372 hB372
  have e378 : jF L368 F369 q19 (.inl (G 7, 16, .inr (.inr (.inr (.inr (va_up (va_up (va_up (va_up (va_up (va_up (va_up (va_up (va_up (va_up (fun _ => none) 0 (some q141)) 1 (some q163)) 2 (some q185)) 3 (some q207)) 4 (some q229)) 5 (some q251)) 6 (some q273)) 7 (some q295)) 8 (some q317)) 9 (some q339))))))) := g373.at 4 (by decide)
  have e379 : jF L368 F369 q361 (.inr (6, [.ref (B372 0), .ref (B372 1), .ref (B372 2), .int (1 : Int32)])) := g373.at 58 (by decide)
  refine jr_astq (C := RX6) hE dX2_init_132 e378 e379 rfl rfl (vp_lit (by decide)) (fun F375 g376 u377 => ?_)
  have g380 := g373.set 4 (by decide) g376.2 u377
  have g381 := g373.oS 4 (by decide) u377 g374
  refine jr_iinc (v := (11 : Int32)) (lv' := [(1, .int (11 : Int32)), (0, .ref o)]) hE dX2_init_133 0 rfl (by decide) (by decide) rfl ?_
  refine jr_goto (tgt := 114) hE dX2_init_136 (by decide) ?_
  refine jr_iload_n hE dX2_init_114 0 rfl ?_
  refine jr_bipush (v := (16 : Int32)) hE dX2_init_115 (by decide) ?_
  refine jr_icmp_ge (tgt := 139) hE dX2_init_117 (by decide) (fun c382 => absurd c382 (by decide)) (fun c382 => ?_)
  refine jr_aload_n hE dX2_init_120 1 rfl ?_
  refine jr_get hE dX2_init_121 f16 g381 rfl ?_
  refine jr_iload_n hE dX2_init_124 0 rfl ?_
  refine jr_new (ci := 6) (fs := [.null, .null, .null, .int 0]) hE dX2_init_125 rfl (by decide +kernel) (by decide +kernel) (by decide +kernel) (by decide +kernel) dfX6 ⟨by decide, by decide⟩ (fun q383 F384 n385 g386 u387 => ?_)
  have g388 := g380.new n385 g386 u387
  have g389 := g381.nw n385 u387
  refine jr_dup hE dX2_init_128 rfl ?_
  have e393 : jF (L368 ++ [q383]) F384 q383 (.inr (6, [.null, .null, .null, .int 0])) := g388.at 62 (by decide)
  refine jr_callNv (n := 0) (As := []) (rest := [.ref q383, .int (11 : Int32), .ref q19]) hE dX2_init_129 (fun l => c_i6 l G q383) ggX2_init_X6_init (by decide +kernel) (by decide) (by decide +kernel) rfl rfl ⟨by decide, by decide, by decide +kernel⟩ ⟨rfl, rfl, by decide, by decide⟩ ⟨by decide, by decide⟩ rfl rfl (Nat.le_of_ble_eq_true rfl) (e393) (fun L390 F391 q392 => ?_)
  obtain ⟨B394, gB394, hB394⟩ := q392
  have g396 := g388.oC (k := 62) (by decide) gB394 g389
  have g395 := g388.call (k := 62) (by decide) gB394 hB394
  have e400 : jF L390 F391 q19 (.inl (G 7, 16, .inr (.inr (.inr (.inr (va_up (va_up (va_up (va_up (va_up (va_up (va_up (va_up (va_up (va_up (va_up (fun _ => none) 0 (some q141)) 1 (some q163)) 2 (some q185)) 3 (some q207)) 4 (some q229)) 5 (some q251)) 6 (some q273)) 7 (some q295)) 8 (some q317)) 9 (some q339)) 10 (some q361))))))) := g395.at 4 (by decide)
  have e401 : jF L390 F391 q383 (.inr (6, [.ref (B394 0), .ref (B394 1), .ref (B394 2), .int (1 : Int32)])) := g395.at 62 (by decide)
  refine jr_astq (C := RX6) hE dX2_init_132 e400 e401 rfl rfl (vp_lit (by decide)) (fun F397 g398 u399 => ?_)
  have g402 := g395.set 4 (by decide) g398.2 u399
  have g403 := g395.oS 4 (by decide) u399 g396
  refine jr_iinc (v := (12 : Int32)) (lv' := [(1, .int (12 : Int32)), (0, .ref o)]) hE dX2_init_133 0 rfl (by decide) (by decide) rfl ?_
  refine jr_goto (tgt := 114) hE dX2_init_136 (by decide) ?_
  refine jr_iload_n hE dX2_init_114 0 rfl ?_
  refine jr_bipush (v := (16 : Int32)) hE dX2_init_115 (by decide) ?_
  refine jr_icmp_ge (tgt := 139) hE dX2_init_117 (by decide) (fun c404 => absurd c404 (by decide)) (fun c404 => ?_)
  refine jr_aload_n hE dX2_init_120 1 rfl ?_
  refine jr_get hE dX2_init_121 f16 g403 rfl ?_
  refine jr_iload_n hE dX2_init_124 0 rfl ?_
  refine jr_new (ci := 6) (fs := [.null, .null, .null, .int 0]) hE dX2_init_125 rfl (by decide +kernel) (by decide +kernel) (by decide +kernel) (by decide +kernel) dfX6 ⟨by decide, by decide⟩ (fun q405 F406 n407 g408 u409 => ?_)
  have g410 := g402.new n407 g408 u409
  have g411 := g403.nw n407 u409
  refine jr_dup hE dX2_init_128 rfl ?_
  have e415 : jF (L390 ++ [q405]) F406 q405 (.inr (6, [.null, .null, .null, .int 0])) := g410.at 66 (by decide)
  refine jr_callNv (n := 0) (As := []) (rest := [.ref q405, .int (12 : Int32), .ref q19]) hE dX2_init_129 (fun l => c_i6 l G q405) ggX2_init_X6_init (by decide +kernel) (by decide) (by decide +kernel) rfl rfl ⟨by decide, by decide, by decide +kernel⟩ ⟨rfl, rfl, by decide, by decide⟩ ⟨by decide, by decide⟩ rfl rfl (Nat.le_of_ble_eq_true rfl) (e415) (fun L412 F413 q414 => ?_)
  obtain ⟨B416, gB416, hB416⟩ := q414
  have g418 := g410.oC (k := 66) (by decide) gB416 g411
  have g417 := g410.call (k := 66) (by decide) gB416 hB416
  have e422 : jF L412 F413 q19 (.inl (G 7, 16, .inr (.inr (.inr (.inr (va_up (va_up (va_up (va_up (va_up (va_up (va_up (va_up (va_up (va_up (va_up (va_up (fun _ => none) 0 (some q141)) 1 (some q163)) 2 (some q185)) 3 (some q207)) 4 (some q229)) 5 (some q251)) 6 (some q273)) 7 (some q295)) 8 (some q317)) 9 (some q339)) 10 (some q361)) 11 (some q383))))))) := g417.at 4 (by decide)
  have e423 : jF L412 F413 q405 (.inr (6, [.ref (B416 0), .ref (B416 1), .ref (B416 2), .int (1 : Int32)])) := g417.at 66 (by decide)
  refine jr_astq (C := RX6) hE dX2_init_132 e422 e423 rfl rfl (vp_lit (by decide)) (fun F419 g420 u421 => ?_)
  have g424 := g417.set 4 (by decide) g420.2 u421
  have g425 := g417.oS 4 (by decide) u421 g418
  refine jr_iinc (v := (13 : Int32)) (lv' := [(1, .int (13 : Int32)), (0, .ref o)]) hE dX2_init_133 0 rfl (by decide) (by decide) rfl ?_
  refine jr_goto (tgt := 114) hE dX2_init_136 (by decide) ?_
  refine jr_iload_n hE dX2_init_114 0 rfl ?_
  refine jr_bipush (v := (16 : Int32)) hE dX2_init_115 (by decide) ?_
  refine jr_icmp_ge (tgt := 139) hE dX2_init_117 (by decide) (fun c426 => absurd c426 (by decide)) (fun c426 => ?_)
  refine jr_aload_n hE dX2_init_120 1 rfl ?_
  refine jr_get hE dX2_init_121 f16 g425 rfl ?_
  refine jr_iload_n hE dX2_init_124 0 rfl ?_
  refine jr_new (ci := 6) (fs := [.null, .null, .null, .int 0]) hE dX2_init_125 rfl (by decide +kernel) (by decide +kernel) (by decide +kernel) (by decide +kernel) dfX6 ⟨by decide, by decide⟩ (fun q427 F428 n429 g430 u431 => ?_)
  have g432 := g424.new n429 g430 u431
  have g433 := g425.nw n429 u431
  refine jr_dup hE dX2_init_128 rfl ?_
  have e437 : jF (L412 ++ [q427]) F428 q427 (.inr (6, [.null, .null, .null, .int 0])) := g432.at 70 (by decide)
  refine jr_callNv (n := 0) (As := []) (rest := [.ref q427, .int (13 : Int32), .ref q19]) hE dX2_init_129 (fun l => c_i6 l G q427) ggX2_init_X6_init (by decide +kernel) (by decide) (by decide +kernel) rfl rfl ⟨by decide, by decide, by decide +kernel⟩ ⟨rfl, rfl, by decide, by decide⟩ ⟨by decide, by decide⟩ rfl rfl (Nat.le_of_ble_eq_true rfl) (e437) (fun L434 F435 q436 => ?_)
  obtain ⟨B438, gB438, hB438⟩ := q436
  have g440 := g432.oC (k := 70) (by decide) gB438 g433
  have g439 := g432.call (k := 70) (by decide) gB438 hB438
  have e444 : jF L434 F435 q19 (.inl (G 7, 16, .inr (.inr (.inr (.inr (va_up (va_up (va_up (va_up (va_up (va_up (va_up (va_up (va_up (va_up (va_up (va_up (va_up (fun _ => none) 0 (some q141)) 1 (some q163)) 2 (some q185)) 3 (some q207)) 4 (some q229)) 5 (some q251)) 6 (some q273)) 7 (some q295)) 8 (some q317)) 9 (some q339)) 10 (some q361)) 11 (some q383)) 12 (some q405))))))) := g439.at 4 (by decide)
  have e445 : jF L434 F435 q427 (.inr (6, [.ref (B438 0), .ref (B438 1), .ref (B438 2), .int (1 : Int32)])) := g439.at 70 (by decide)
  refine jr_astq (C := RX6) hE dX2_init_132 e444 e445 rfl rfl (vp_lit (by decide)) (fun F441 g442 u443 => ?_)
  have g446 := g439.set 4 (by decide) g442.2 u443
  have g447 := g439.oS 4 (by decide) u443 g440
  refine jr_iinc (v := (14 : Int32)) (lv' := [(1, .int (14 : Int32)), (0, .ref o)]) hE dX2_init_133 0 rfl (by decide) (by decide) rfl ?_
  refine jr_goto (tgt := 114) hE dX2_init_136 (by decide) ?_
  refine jr_iload_n hE dX2_init_114 0 rfl ?_
  refine jr_bipush (v := (16 : Int32)) hE dX2_init_115 (by decide) ?_
  refine jr_icmp_ge (tgt := 139) hE dX2_init_117 (by decide) (fun c448 => absurd c448 (by decide)) (fun c448 => ?_)
  refine jr_aload_n hE dX2_init_120 1 rfl ?_
  refine jr_get hE dX2_init_121 f16 g447 rfl ?_
  refine jr_iload_n hE dX2_init_124 0 rfl ?_
  refine jr_new (ci := 6) (fs := [.null, .null, .null, .int 0]) hE dX2_init_125 rfl (by decide +kernel) (by decide +kernel) (by decide +kernel) (by decide +kernel) dfX6 ⟨by decide, by decide⟩ (fun q449 F450 n451 g452 u453 => ?_)
  have g454 := g446.new n451 g452 u453
  have g455 := g447.nw n451 u453
  refine jr_dup hE dX2_init_128 rfl ?_
  have e459 : jF (L434 ++ [q449]) F450 q449 (.inr (6, [.null, .null, .null, .int 0])) := g454.at 74 (by decide)
  refine jr_callNv (n := 0) (As := []) (rest := [.ref q449, .int (14 : Int32), .ref q19]) hE dX2_init_129 (fun l => c_i6 l G q449) ggX2_init_X6_init (by decide +kernel) (by decide) (by decide +kernel) rfl rfl ⟨by decide, by decide, by decide +kernel⟩ ⟨rfl, rfl, by decide, by decide⟩ ⟨by decide, by decide⟩ rfl rfl (Nat.le_of_ble_eq_true rfl) (e459) (fun L456 F457 q458 => ?_)
  obtain ⟨B460, gB460, hB460⟩ := q458
  have g462 := g454.oC (k := 74) (by decide) gB460 g455
  have g461 := g454.call (k := 74) (by decide) gB460 hB460
  have e466 : jF L456 F457 q19 (.inl (G 7, 16, .inr (.inr (.inr (.inr (va_up (va_up (va_up (va_up (va_up (va_up (va_up (va_up (va_up (va_up (va_up (va_up (va_up (va_up (fun _ => none) 0 (some q141)) 1 (some q163)) 2 (some q185)) 3 (some q207)) 4 (some q229)) 5 (some q251)) 6 (some q273)) 7 (some q295)) 8 (some q317)) 9 (some q339)) 10 (some q361)) 11 (some q383)) 12 (some q405)) 13 (some q427))))))) := g461.at 4 (by decide)
  have e467 : jF L456 F457 q449 (.inr (6, [.ref (B460 0), .ref (B460 1), .ref (B460 2), .int (1 : Int32)])) := g461.at 74 (by decide)
  refine jr_astq (C := RX6) hE dX2_init_132 e466 e467 rfl rfl (vp_lit (by decide)) (fun F463 g464 u465 => ?_)
  have g468 := g461.set 4 (by decide) g464.2 u465
  have g469 := g461.oS 4 (by decide) u465 g462
  refine jr_iinc (v := (15 : Int32)) (lv' := [(1, .int (15 : Int32)), (0, .ref o)]) hE dX2_init_133 0 rfl (by decide) (by decide) rfl ?_
  refine jr_goto (tgt := 114) hE dX2_init_136 (by decide) ?_
  refine jr_iload_n hE dX2_init_114 0 rfl ?_
  refine jr_bipush (v := (16 : Int32)) hE dX2_init_115 (by decide) ?_
  refine jr_icmp_ge (tgt := 139) hE dX2_init_117 (by decide) (fun c470 => absurd c470 (by decide)) (fun c470 => ?_)
  refine jr_aload_n hE dX2_init_120 1 rfl ?_
  refine jr_get hE dX2_init_121 f16 g469 rfl ?_
  refine jr_iload_n hE dX2_init_124 0 rfl ?_
  refine jr_new (ci := 6) (fs := [.null, .null, .null, .int 0]) hE dX2_init_125 rfl (by decide +kernel) (by decide +kernel) (by decide +kernel) (by decide +kernel) dfX6 ⟨by decide, by decide⟩ (fun q471 F472 n473 g474 u475 => ?_)
  have g476 := g468.new n473 g474 u475
  have g477 := g469.nw n473 u475
  refine jr_dup hE dX2_init_128 rfl ?_
  have e481 : jF (L456 ++ [q471]) F472 q471 (.inr (6, [.null, .null, .null, .int 0])) := g476.at 78 (by decide)
  refine jr_callNv (n := 0) (As := []) (rest := [.ref q471, .int (15 : Int32), .ref q19]) hE dX2_init_129 (fun l => c_i6 l G q471) ggX2_init_X6_init (by decide +kernel) (by decide) (by decide +kernel) rfl rfl ⟨by decide, by decide, by decide +kernel⟩ ⟨rfl, rfl, by decide, by decide⟩ ⟨by decide, by decide⟩ rfl rfl (Nat.le_of_ble_eq_true rfl) (e481) (fun L478 F479 q480 => ?_)
  obtain ⟨B482, gB482, hB482⟩ := q480
  have g484 := g476.oC (k := 78) (by decide) gB482 g477
  have g483 := g476.call (k := 78) (by decide) gB482 hB482
  have e488 : jF L478 F479 q19 (.inl (G 7, 16, .inr (.inr (.inr (.inr (va_up (va_up (va_up (va_up (va_up (va_up (va_up (va_up (va_up (va_up (va_up (va_up (va_up (va_up (va_up (fun _ => none) 0 (some q141)) 1 (some q163)) 2 (some q185)) 3 (some q207)) 4 (some q229)) 5 (some q251)) 6 (some q273)) 7 (some q295)) 8 (some q317)) 9 (some q339)) 10 (some q361)) 11 (some q383)) 12 (some q405)) 13 (some q427)) 14 (some q449))))))) := g483.at 4 (by decide)
  have e489 : jF L478 F479 q471 (.inr (6, [.ref (B482 0), .ref (B482 1), .ref (B482 2), .int (1 : Int32)])) := g483.at 78 (by decide)
  refine jr_astq (C := RX6) hE dX2_init_132 e488 e489 rfl rfl (vp_lit (by decide)) (fun F485 g486 u487 => ?_)
  have g490 := g483.set 4 (by decide) g486.2 u487
  have g491 := g483.oS 4 (by decide) u487 g484
  refine jr_iinc (v := (16 : Int32)) (lv' := [(1, .int (16 : Int32)), (0, .ref o)]) hE dX2_init_133 0 rfl (by decide) (by decide) rfl ?_
  refine jr_goto (tgt := 114) hE dX2_init_136 (by decide) ?_
  refine jr_iload_n hE dX2_init_114 0 rfl ?_
  refine jr_bipush (v := (16 : Int32)) hE dX2_init_115 (by decide) ?_
  refine jr_icmp_ge (tgt := 139) hE dX2_init_117 (by decide) (fun c492 => ?_) (fun c492 => absurd (by decide) c492)
  refine jr_aload_n hE dX2_init_139 1 rfl ?_
  refine jr_get hE dX2_init_140 f10 g491 rfl ?_
  have e493 : jF L478 F485 q1 (.inr (6, [.ref (B12 0), .ref (B12 1), .ref (B12 2), .int (1 : Int32)])) := g490.at 0 (by decide)
  refine jr_get hE dX2_init_143 f53 e493 rfl ?_
  refine jr_ldc2 (v := lN 8772561819708210092) hE dX2_init_146 (by decide +kernel) ?_
  refine jr_ldc2 (v := lN 6170039885052185351) hE dX2_init_149 (by decide +kernel) ?_
  refine jr_ldc2 (v := lN 188021827762530521) hE dX2_init_152 (by decide +kernel) ?_
  refine jr_ldc2 (v := lN 6481385041966929816) hE dX2_init_155 (by decide +kernel) ?_
  have e494 : jF L478 F485 (B12 0) zC := g490.at 1 (by decide)
  refine jr_kVv (ci := 1) (n := 4) (As := [.long (lN 8772561819708210092), .long (lN 6170039885052185351), .long (lN 188021827762530521), .long (lN 6481385041966929816)]) (rest := []) hE dX2_init_158 (fun l => c_X1_becomeWords l G (B12 0) 55066263022277343669578718895168534326250603453777594175500187360389116729240 6481385041966929816 188021827762530521 6170039885052185351 8772561819708210092 (fun _ => 0)) gX2_init_X1_becomeWords rfl e494 rfl (by decide +kernel) ⟨rfl, rfl, by decide, by decide⟩ (by decide) rfl rfl (Nat.le_of_ble_eq_true rfl) (⟨e494, by decide, by decide, by decide, by decide, by decide⟩) (fun F495 q496 => ?_)
  obtain ⟨⟨h497, b498⟩, u499⟩ := q496
  have g500 := g490.set 1 (by decide) h497.2 (fun x hx => u499 x (fun e => hx (List.mem_singleton.mp e)))
  have g501 := g490.oS 1 (by decide) (fun x hx => u499 x (fun e => hx (List.mem_singleton.mp e))) g491
  refine jr_aload_n hE dX2_init_161 1 rfl ?_
  refine jr_get hE dX2_init_162 f10 g501 rfl ?_
  have e502 : jF L478 F495 q1 (.inr (6, [.ref (B12 0), .ref (B12 1), .ref (B12 2), .int (1 : Int32)])) := g500.at 0 (by decide)
  refine jr_get hE dX2_init_165 f64 e502 rfl ?_
  refine jr_ldc2 (v := lN 5204712524664259685) hE dX2_init_168 (by decide +kernel) ?_
  refine jr_ldc2 (v := lN 6747795201694173352) hE dX2_init_171 (by decide +kernel) ?_
  refine jr_ldc2 (v := lN 18237243440184513561) hE dX2_init_174 (by decide +kernel) ?_
  refine jr_ldc2 (v := lN 11261198710074299576) hE dX2_init_177 (by decide +kernel) ?_
  have e503 : jF L478 F495 (B12 1) zC := g500.at 2 (by decide)
  refine jr_kVv (ci := 1) (n := 4) (As := [.long (lN 5204712524664259685), .long (lN 6747795201694173352), .long (lN 18237243440184513561), .long (lN 11261198710074299576)]) (rest := []) hE dX2_init_180 (fun l => c_X1_becomeWords l G (B12 1) 32670510020758816978083085130507043184471273380659243275938904335757337482424 11261198710074299576 18237243440184513561 6747795201694173352 5204712524664259685 (fun _ => 0)) gX2_init_X1_becomeWords rfl e503 rfl (by decide +kernel) ⟨rfl, rfl, by decide, by decide⟩ (by decide) rfl rfl (Nat.le_of_ble_eq_true rfl) (⟨e503, by decide, by decide, by decide, by decide, by decide⟩) (fun F504 q505 => ?_)
  obtain ⟨⟨h506, b507⟩, u508⟩ := q505
  have g509 := g500.set 2 (by decide) h506.2 (fun x hx => u508 x (fun e => hx (List.mem_singleton.mp e)))
  have g510 := g500.oS 2 (by decide) (fun x hx => u508 x (fun e => hx (List.mem_singleton.mp e))) g501
  refine jr_aload_n hE dX2_init_183 1 rfl ?_
  refine jr_get hE dX2_init_184 f10 g510 rfl ?_
  have e511 : jF L478 F504 q1 (.inr (6, [.ref (B12 0), .ref (B12 1), .ref (B12 2), .int (1 : Int32)])) := g509.at 0 (by decide)
  refine jr_get hE dX2_init_187 f75 e511 rfl ?_
  refine jr_aload_n hE dX2_init_190 1 rfl ?_
  refine jr_get hE dX2_init_191 f30 g510 rfl ?_
  have e512 : jF L478 F504 (B12 2) zC := g509.at 3 (by decide)
  have e513 : jF L478 F504 q48 (cC (cd 1)) := g509.at 12 (by decide)
  refine jr_kVv (ci := 1) (n := 1) (As := [.ref q48]) (rest := []) hE dX2_init_194 (fun l => c_X1_become l G (B12 2) q48 (1 % PP) (fun _ => 0)) gX2_init_X1_become rfl e512 rfl (by decide +kernel) ⟨rfl, rfl, by decide, by decide⟩ (by decide) rfl rfl (Nat.le_of_ble_eq_true rfl) (⟨e512, jCd.co ⟨e513, by decide⟩⟩) (fun F514 q515 => ?_)
  obtain ⟨⟨lz, h516, hlz⟩, u517⟩ := q515
  have g518 := g509.set 3 (by decide) h516.2 (fun x hx => u517 x (fun e => hx (List.mem_singleton.mp e)))
  have g519 := g509.oS 3 (by decide) (fun x hx => u517 x (fun e => hx (List.mem_singleton.mp e))) g510
  refine jr_aload_n hE dX2_init_197 1 rfl ?_
  refine jr_get hE dX2_init_198 f10 g519 rfl ?_
  refine jr_iconst (v := (0 : Int32)) hE dX2_init_201 (by decide) ?_
  have e520 : jF L478 F514 q1 (.inr (6, [.ref (B12 0), .ref (B12 1), .ref (B12 2), .int (1 : Int32)])) := g518.at 0 (by decide)
  refine jr_put (ty := .boolean) hE dX2_init_202 f82 e520 rfl (by decide +kernel) rfl rfl (Nat.le_of_ble_eq_true rfl) (fun F521 g522 u523 => ?_)
  have g524 := g518.set 0 (by decide) g522.2 u523
  have g525 := g518.oS 0 (by decide) u523 g519
  exact hR L478 F521 _ _ dX2_init_205 ⟨_, lz, g524.fin (fls (fls (fls (fls (fls (fls (fls (fls (fls (fls (fls (fls (fls (fls (fls (fls (fls (fls (fls (fls (fls (fls (fls (fls (fls (fls (fls (fls (fls (fls (fls (fls (fls (fls (fls (fls (fls (fls (fls (fls (fls (fls (fls (fls (fls (fls (fls (fls (fls (fls (fls (fls (fls (fls (fls (fls (fls (fls (fls (fls (fls (fls (fls (fls (fls (fls (fls (fls (fls (fls (fls (fls (fls (fls (fls (fls (fls (fls (fls (fls (fls (fls fls0 rfl) rfl) rfl) rfl) rfl) rfl) rfl) rfl) rfl) rfl) rfl) rfl) rfl) rfl) rfl) rfl) rfl) rfl) rfl) rfl) rfl) rfl) rfl) rfl) rfl) rfl) rfl) rfl) rfl) rfl) rfl) rfl) rfl) rfl) rfl) rfl) rfl) rfl) rfl) rfl) rfl) rfl) rfl) rfl) rfl) rfl) rfl) rfl) rfl) rfl) rfl) rfl) rfl) rfl) rfl) rfl) rfl) rfl) rfl) rfl) rfl) rfl) rfl) rfl) rfl) rfl) rfl) rfl) rfl) rfl) rfl) rfl) rfl) rfl) rfl) rfl) rfl) rfl) rfl) rfl) rfl) rfl), g525.2, hlz⟩

