/-! CONSTRUCTORS: Single, Group -/
def tX10 (G : Nat → ClassId) (A : Nat → Nat) : Nat → va_E := (ext 13 (ext 7 (ext 4 (fun i => [(.inr (8, [.ref (A 1)])), (.inl (G 2, 9, .inr (.inl (fun _ => 0)))), (.inr (0, [.ref (A 3), .int 0])), (.inl (G 0, 33, .inl (fun _ => 0)))].getD i zC) (fun i => [(.inr (0, [.ref (A 5), .int 0])), (.inl (G 0, 32, .inl (fun _ => 0))), (.inr (8, [.ref (A 7)]))].getD i zC)) (ext 3 (fun i => [(.inl (G 2, 9, .inr (.inl (fun _ => 0)))), (.inr (8, [.ref (A 9)])), (.inl (G 2, 9, .inr (.inl (fun _ => 0))))].getD i zC) (fun i => [(.inr (8, [.ref (A 11)])), (.inl (G 2, 9, .inr (.inl (fun _ => 0)))), (.inr (8, [.ref (A 13)]))].getD i zC))) (ext 6 (ext 3 (fun i => [(.inl (G 2, 9, .inr (.inl (fun _ => 0)))), (.inr (6, [.ref (A 15), .ref (A 16), .ref (A 17), .int (1 : Int32)])), zC].getD i zC) (fun i => [zC, zC, (.inr (6, [.ref (A 19), .ref (A 20), .ref (A 21), .int (1 : Int32)]))].getD i zC)) (ext 3 (fun i => [zC, zC, zC].getD i zC) (fun i => [zC, (.inr (0, [.ref (A 24), .int 0])), (.inl (G 0, 32, .inl (fun _ => 0)))].getD i zC))))

set_option maxHeartbeats 4000000 in
set_option maxRecDepth 100000 in
theorem c_i10 (l : Launch) (G : Nat → ClassId) (o sh cu : Nat) : jCv l yX10_init wsX10_init ({ frames := 3, cells := 25, slots := 224, locals := 60 }) (25) (224) G [.ref o, .ref sh, .ref cu] (fun L F => jF L F o (.inr (10, [.null, .null, .null, .null, .null, .null, .null, .null, .null, .null, .null, .null, .null]))) (fun L F L1 F1 => ∃ A, gS L F o 25 A (tX10 G A) L1 F1 ∧ F1 o = (.inr (10, [.ref cu, .ref (A 0), .ref (A 2), .ref (A 4), .ref sh, .ref (A 6), .ref (A 8), .ref (A 10), .ref (A 12), .ref (A 14), .ref (A 18), .ref (A 22), .ref (A 23)]))) := by
  refine jm_vI (cc := cX10_init) (maxL := 3) (by decide) rfl (Nat.le_of_ble_eq_true rfl) rfl ?_
  intro E L F hE hinit hR hpre
  have hE : jOk E G _ cX10_init 3 RX10 wsX10_init := hE
  have ho := hpre
  have f10 : jFl RX10 wsX10_init 10 10 1 := ⟨rfl, by decide, by decide +kernel, by decide +kernel⟩
  have f21 : jFl RX10 wsX10_init 21 10 2 := ⟨rfl, by decide, by decide +kernel, by decide +kernel⟩
  have f25 : jFl RX10 wsX10_init 25 10 3 := ⟨rfl, by decide, by decide +kernel, by decide +kernel⟩
  have f28 : jFl RX10 wsX10_init 28 10 5 := ⟨rfl, by decide, by decide +kernel, by decide +kernel⟩
  have f31 : jFl RX10 wsX10_init 31 10 6 := ⟨rfl, by decide, by decide +kernel, by decide +kernel⟩
  have f34 : jFl RX10 wsX10_init 34 10 7 := ⟨rfl, by decide, by decide +kernel, by decide +kernel⟩
  have f37 : jFl RX10 wsX10_init 37 10 8 := ⟨rfl, by decide, by decide +kernel, by decide +kernel⟩
  have f43 : jFl RX10 wsX10_init 43 10 9 := ⟨rfl, by decide, by decide +kernel, by decide +kernel⟩
  have f47 : jFl RX10 wsX10_init 47 10 10 := ⟨rfl, by decide, by decide +kernel, by decide +kernel⟩
  have f53 : jFl RX10 wsX10_init 53 10 11 := ⟨rfl, by decide, by decide +kernel, by decide +kernel⟩
  have f57 : jFl RX10 wsX10_init 57 10 12 := ⟨rfl, by decide, by decide +kernel, by decide +kernel⟩
  have f60 : jFl RX10 wsX10_init 60 10 4 := ⟨rfl, by decide, by decide +kernel, by decide +kernel⟩
  have f64 : jFl RX10 wsX10_init 64 10 0 := ⟨rfl, by decide, by decide +kernel, by decide +kernel⟩
  refine jr_aload_n hE dX10_init_0 0 rfl ?_
  refine jr_objInit hE dX10_init_1 (by decide +kernel) (by decide +kernel) (by decide +kernel) ⟨Nat.le_of_ble_eq_true rfl, Nat.le_of_ble_eq_true rfl⟩ (Nat.le_of_ble_eq_true rfl) ?_
  refine jr_aload_n hE dX10_init_4 0 rfl ?_
  refine jr_new (ci := 8) (fs := [.null]) hE dX10_init_5 rfl (by decide +kernel) (by decide +kernel) (by decide +kernel) (by decide +kernel) dfX8 ⟨by decide, by decide⟩ (fun q1 F2 n3 g4 u5 => ?_)
  have g6 := (gS.nil (fun _ => 0) (fun _ => zC) ho.1).new n3 g4 u5
  have g7 := ho.nw n3 u5
  refine jr_dup hE dX10_init_8 rfl ?_
  have e11 : jF (L ++ [q1]) F2 q1 (.inr (8, [.null])) := g6.at 0 (by decide)
  refine jr_callNv (n := 0) (As := []) (rest := [.ref q1, .ref o]) hE dX10_init_9 (fun l => c_i8 l G q1) ggX10_init_X8_init (by decide +kernel) (by decide) (by decide +kernel) rfl rfl ⟨by decide, by decide, by decide +kernel⟩ ⟨rfl, rfl, by decide, by decide⟩ ⟨by decide, by decide⟩ rfl rfl (Nat.le_of_ble_eq_true rfl) (e11) (fun L8 F9 q10 => ?_)
  obtain ⟨B12, gB12, hB12⟩ := q10
  have g14 := g6.oC (k := 0) (by decide) gB12 g7
  have g13 := g6.call (k := 0) (by decide) gB12 hB12
  refine jr_putF (ty := .object RX8) hE dX10_init_12 f10 g14 rfl hinit rfl (by decide +kernel) rfl rfl (Nat.le_of_ble_eq_true rfl) (fun F15 g16 u17 => ?_)
  have g16 : jF L8 F15 o (.inr (10, [.null, .ref q1, .null, .null, .null, .null, .null, .null, .null, .null, .null, .null, .null])) := g16
  have g18 := g13.put u17
  refine jr_aload_n hE dX10_init_15 0 rfl ?_
  refine jr_new (ci := 0) (fs := [.null, .int 0]) hE dX10_init_16 rfl (by decide +kernel) (by decide +kernel) (by decide +kernel) (by decide +kernel) dfX0 ⟨by decide, by decide⟩ (fun q19 F20 n21 g22 u23 => ?_)
  have g24 := g18.new n21 g22 u23
  have g25 := g16.nw n21 u23
  refine jr_dup hE dX10_init_19 rfl ?_
  refine jr_bipush (v := (33 : Int32)) hE dX10_init_20 (by decide) ?_
  have e29 : jF (L8 ++ [q19]) F20 q19 (.inr (0, [.null, .int 0])) := g24.at 2 (by decide)
  refine jr_callIv (n := 1) (As := [.int (33 : Int32)]) (rest := [.ref q19, .ref o]) hE dX10_init_22 (fun l => c_i0 l G q19 33) ggX10_init_X0_init (by decide +kernel) (by decide +kernel) (by decide +kernel) rfl rfl ⟨by decide, by decide, by decide +kernel⟩ ⟨rfl, rfl, by decide, by decide⟩ ⟨by decide, by decide⟩ rfl rfl (Nat.le_of_ble_eq_true rfl) (⟨e29, by decide⟩) (fun L26 F27 q28 => ?_)
  obtain ⟨B30, gB30, hB30⟩ := q28
  have g32 := g24.oC (k := 2) (by decide) gB30 g25
  have g31 := g24.call (k := 2) (by decide) gB30 hB30
  refine jr_putF (ty := .object RX0) hE dX10_init_25 f21 g32 rfl hinit rfl (by decide +kernel) rfl rfl (Nat.le_of_ble_eq_true rfl) (fun F33 g34 u35 => ?_)
  have g34 : jF L26 F33 o (.inr (10, [.null, .ref q1, .ref q19, .null, .null, .null, .null, .null, .null, .null, .null, .null, .null])) := g34
  have g36 := g31.put u35
  refine jr_aload_n hE dX10_init_28 0 rfl ?_
  refine jr_new (ci := 0) (fs := [.null, .int 0]) hE dX10_init_29 rfl (by decide +kernel) (by decide +kernel) (by decide +kernel) (by decide +kernel) dfX0 ⟨by decide, by decide⟩ (fun q37 F38 n39 g40 u41 => ?_)
  have g42 := g36.new n39 g40 u41
  have g43 := g34.nw n39 u41
  refine jr_dup hE dX10_init_32 rfl ?_
  refine jr_bipush (v := (32 : Int32)) hE dX10_init_33 (by decide) ?_
  have e47 : jF (L26 ++ [q37]) F38 q37 (.inr (0, [.null, .int 0])) := g42.at 4 (by decide)
  refine jr_callIv (n := 1) (As := [.int (32 : Int32)]) (rest := [.ref q37, .ref o]) hE dX10_init_35 (fun l => c_i0 l G q37 32) ggX10_init_X0_init (by decide +kernel) (by decide +kernel) (by decide +kernel) rfl rfl ⟨by decide, by decide, by decide +kernel⟩ ⟨rfl, rfl, by decide, by decide⟩ ⟨by decide, by decide⟩ rfl rfl (Nat.le_of_ble_eq_true rfl) (⟨e47, by decide⟩) (fun L44 F45 q46 => ?_)
  obtain ⟨B48, gB48, hB48⟩ := q46
  have g50 := g42.oC (k := 4) (by decide) gB48 g43
  have g49 := g42.call (k := 4) (by decide) gB48 hB48
  refine jr_putF (ty := .object RX0) hE dX10_init_38 f25 g50 rfl hinit rfl (by decide +kernel) rfl rfl (Nat.le_of_ble_eq_true rfl) (fun F51 g52 u53 => ?_)
  have g52 : jF L44 F51 o (.inr (10, [.null, .ref q1, .ref q19, .ref q37, .null, .null, .null, .null, .null, .null, .null, .null, .null])) := g52
  have g54 := g49.put u53
  refine jr_aload_n hE dX10_init_41 0 rfl ?_
  refine jr_new (ci := 8) (fs := [.null]) hE dX10_init_42 rfl (by decide +kernel) (by decide +kernel) (by decide +kernel) (by decide +kernel) dfX8 ⟨by decide, by decide⟩ (fun q55 F56 n57 g58 u59 => ?_)
  have g60 := g54.new n57 g58 u59
  have g61 := g52.nw n57 u59
  refine jr_dup hE dX10_init_45 rfl ?_
  have e65 : jF (L44 ++ [q55]) F56 q55 (.inr (8, [.null])) := g60.at 6 (by decide)
  refine jr_callNv (n := 0) (As := []) (rest := [.ref q55, .ref o]) hE dX10_init_46 (fun l => c_i8 l G q55) ggX10_init_X8_init (by decide +kernel) (by decide) (by decide +kernel) rfl rfl ⟨by decide, by decide, by decide +kernel⟩ ⟨rfl, rfl, by decide, by decide⟩ ⟨by decide, by decide⟩ rfl rfl (Nat.le_of_ble_eq_true rfl) (e65) (fun L62 F63 q64 => ?_)
  obtain ⟨B66, gB66, hB66⟩ := q64
  have g68 := g60.oC (k := 6) (by decide) gB66 g61
  have g67 := g60.call (k := 6) (by decide) gB66 hB66
  refine jr_putF (ty := .object RX8) hE dX10_init_49 f28 g68 rfl hinit rfl (by decide +kernel) rfl rfl (Nat.le_of_ble_eq_true rfl) (fun F69 g70 u71 => ?_)
  have g70 : jF L62 F69 o (.inr (10, [.null, .ref q1, .ref q19, .ref q37, .null, .ref q55, .null, .null, .null, .null, .null, .null, .null])) := g70
  have g72 := g67.put u71
  refine jr_aload_n hE dX10_init_52 0 rfl ?_
  refine jr_new (ci := 8) (fs := [.null]) hE dX10_init_53 rfl (by decide +kernel) (by decide +kernel) (by decide +kernel) (by decide +kernel) dfX8 ⟨by decide, by decide⟩ (fun q73 F74 n75 g76 u77 => ?_)
  have g78 := g72.new n75 g76 u77
  have g79 := g70.nw n75 u77
  refine jr_dup hE dX10_init_56 rfl ?_
  have e83 : jF (L62 ++ [q73]) F74 q73 (.inr (8, [.null])) := g78.at 8 (by decide)
  refine jr_callNv (n := 0) (As := []) (rest := [.ref q73, .ref o]) hE dX10_init_57 (fun l => c_i8 l G q73) ggX10_init_X8_init (by decide +kernel) (by decide) (by decide +kernel) rfl rfl ⟨by decide, by decide, by decide +kernel⟩ ⟨rfl, rfl, by decide, by decide⟩ ⟨by decide, by decide⟩ rfl rfl (Nat.le_of_ble_eq_true rfl) (e83) (fun L80 F81 q82 => ?_)
  obtain ⟨B84, gB84, hB84⟩ := q82
  have g86 := g78.oC (k := 8) (by decide) gB84 g79
  have g85 := g78.call (k := 8) (by decide) gB84 hB84
  refine jr_putF (ty := .object RX8) hE dX10_init_60 f31 g86 rfl hinit rfl (by decide +kernel) rfl rfl (Nat.le_of_ble_eq_true rfl) (fun F87 g88 u89 => ?_)
  have g88 : jF L80 F87 o (.inr (10, [.null, .ref q1, .ref q19, .ref q37, .null, .ref q55, .ref q73, .null, .null, .null, .null, .null, .null])) := g88
  have g90 := g85.put u89
  refine jr_aload_n hE dX10_init_63 0 rfl ?_
  refine jr_new (ci := 8) (fs := [.null]) hE dX10_init_64 rfl (by decide +kernel) (by decide +kernel) (by decide +kernel) (by decide +kernel) dfX8 ⟨by decide, by decide⟩ (fun q91 F92 n93 g94 u95 => ?_)
  have g96 := g90.new n93 g94 u95
  have g97 := g88.nw n93 u95
  refine jr_dup hE dX10_init_67 rfl ?_
  have e101 : jF (L80 ++ [q91]) F92 q91 (.inr (8, [.null])) := g96.at 10 (by decide)
  refine jr_callNv (n := 0) (As := []) (rest := [.ref q91, .ref o]) hE dX10_init_68 (fun l => c_i8 l G q91) ggX10_init_X8_init (by decide +kernel) (by decide) (by decide +kernel) rfl rfl ⟨by decide, by decide, by decide +kernel⟩ ⟨rfl, rfl, by decide, by decide⟩ ⟨by decide, by decide⟩ rfl rfl (Nat.le_of_ble_eq_true rfl) (e101) (fun L98 F99 q100 => ?_)
  obtain ⟨B102, gB102, hB102⟩ := q100
  have g104 := g96.oC (k := 10) (by decide) gB102 g97
  have g103 := g96.call (k := 10) (by decide) gB102 hB102
  refine jr_putF (ty := .object RX8) hE dX10_init_71 f34 g104 rfl hinit rfl (by decide +kernel) rfl rfl (Nat.le_of_ble_eq_true rfl) (fun F105 g106 u107 => ?_)
  have g106 : jF L98 F105 o (.inr (10, [.null, .ref q1, .ref q19, .ref q37, .null, .ref q55, .ref q73, .ref q91, .null, .null, .null, .null, .null])) := g106
  have g108 := g103.put u107
  refine jr_aload_n hE dX10_init_74 0 rfl ?_
  refine jr_new (ci := 8) (fs := [.null]) hE dX10_init_75 rfl (by decide +kernel) (by decide +kernel) (by decide +kernel) (by decide +kernel) dfX8 ⟨by decide, by decide⟩ (fun q109 F110 n111 g112 u113 => ?_)
  have g114 := g108.new n111 g112 u113
  have g115 := g106.nw n111 u113
  refine jr_dup hE dX10_init_78 rfl ?_
  have e119 : jF (L98 ++ [q109]) F110 q109 (.inr (8, [.null])) := g114.at 12 (by decide)
  refine jr_callNv (n := 0) (As := []) (rest := [.ref q109, .ref o]) hE dX10_init_79 (fun l => c_i8 l G q109) ggX10_init_X8_init (by decide +kernel) (by decide) (by decide +kernel) rfl rfl ⟨by decide, by decide, by decide +kernel⟩ ⟨rfl, rfl, by decide, by decide⟩ ⟨by decide, by decide⟩ rfl rfl (Nat.le_of_ble_eq_true rfl) (e119) (fun L116 F117 q118 => ?_)
  obtain ⟨B120, gB120, hB120⟩ := q118
  have g122 := g114.oC (k := 12) (by decide) gB120 g115
  have g121 := g114.call (k := 12) (by decide) gB120 hB120
  refine jr_putF (ty := .object RX8) hE dX10_init_82 f37 g122 rfl hinit rfl (by decide +kernel) rfl rfl (Nat.le_of_ble_eq_true rfl) (fun F123 g124 u125 => ?_)
  have g124 : jF L116 F123 o (.inr (10, [.null, .ref q1, .ref q19, .ref q37, .null, .ref q55, .ref q73, .ref q91, .ref q109, .null, .null, .null, .null])) := g124
  have g126 := g121.put u125
  refine jr_aload_n hE dX10_init_85 0 rfl ?_
  refine jr_new (ci := 6) (fs := [.null, .null, .null, .int 0]) hE dX10_init_86 rfl (by decide +kernel) (by decide +kernel) (by decide +kernel) (by decide +kernel) dfX6 ⟨by decide, by decide⟩ (fun q127 F128 n129 g130 u131 => ?_)
  have g132 := g126.new n129 g130 u131
  have g133 := g124.nw n129 u131
  refine jr_dup hE dX10_init_89 rfl ?_
  have e137 : jF (L116 ++ [q127]) F128 q127 (.inr (6, [.null, .null, .null, .int 0])) := g132.at 14 (by decide)
  refine jr_callNv (n := 0) (As := []) (rest := [.ref q127, .ref o]) hE dX10_init_90 (fun l => c_i6 l G q127) ggX10_init_X6_init (by decide +kernel) (by decide) (by decide +kernel) rfl rfl ⟨by decide, by decide, by decide +kernel⟩ ⟨rfl, rfl, by decide, by decide⟩ ⟨by decide, by decide⟩ rfl rfl (Nat.le_of_ble_eq_true rfl) (e137) (fun L134 F135 q136 => ?_)
  obtain ⟨B138, gB138, hB138⟩ := q136
  have g140 := g132.oC (k := 14) (by decide) gB138 g133
  have g139 := g132.call (k := 14) (by decide) gB138 hB138
  refine jr_putF (ty := .object RX6) hE dX10_init_93 f43 g140 rfl hinit rfl (by decide +kernel) rfl rfl (Nat.le_of_ble_eq_true rfl) (fun F141 g142 u143 => ?_)
  have g142 : jF L134 F141 o (.inr (10, [.null, .ref q1, .ref q19, .ref q37, .null, .ref q55, .ref q73, .ref q91, .ref q109, .ref q127, .null, .null, .null])) := g142
  have g144 := g139.put u143
  refine jr_aload_n hE dX10_init_96 0 rfl ?_
  refine jr_new (ci := 6) (fs := [.null, .null, .null, .int 0]) hE dX10_init_97 rfl (by decide +kernel) (by decide +kernel) (by decide +kernel) (by decide +kernel) dfX6 ⟨by decide, by decide⟩ (fun q145 F146 n147 g148 u149 => ?_)
  have g150 := g144.new n147 g148 u149
  have g151 := g142.nw n147 u149
  refine jr_dup hE dX10_init_100 rfl ?_
  have e155 : jF (L134 ++ [q145]) F146 q145 (.inr (6, [.null, .null, .null, .int 0])) := g150.at 18 (by decide)
  refine jr_callNv (n := 0) (As := []) (rest := [.ref q145, .ref o]) hE dX10_init_101 (fun l => c_i6 l G q145) ggX10_init_X6_init (by decide +kernel) (by decide) (by decide +kernel) rfl rfl ⟨by decide, by decide, by decide +kernel⟩ ⟨rfl, rfl, by decide, by decide⟩ ⟨by decide, by decide⟩ rfl rfl (Nat.le_of_ble_eq_true rfl) (e155) (fun L152 F153 q154 => ?_)
  obtain ⟨B156, gB156, hB156⟩ := q154
  have g158 := g150.oC (k := 18) (by decide) gB156 g151
  have g157 := g150.call (k := 18) (by decide) gB156 hB156
  refine jr_putF (ty := .object RX6) hE dX10_init_104 f47 g158 rfl hinit rfl (by decide +kernel) rfl rfl (Nat.le_of_ble_eq_true rfl) (fun F159 g160 u161 => ?_)
  have g160 : jF L152 F159 o (.inr (10, [.null, .ref q1, .ref q19, .ref q37, .null, .ref q55, .ref q73, .ref q91, .ref q109, .ref q127, .ref q145, .null, .null])) := g160
  have g162 := g157.put u161
  refine jr_aload_n hE dX10_init_107 0 rfl ?_
  refine jr_new (ci := 1) (fs := [.long 0, .long 0, .long 0, .long 0, .long 0, .long 0, .long 0, .long 0, .long 0]) hE dX10_init_108 rfl (by decide +kernel) (by decide +kernel) (by decide +kernel) (by decide +kernel) dfX1 ⟨by decide, by decide⟩ (fun q163 F164 n165 g166 u167 => ?_)
  have g168 := g162.new n165 g166 u167
  have g169 := g160.nw n165 u167
  refine jr_dup hE dX10_init_111 rfl ?_
  refine jr_callNv (n := 0) (As := []) (rest := [.ref q163, .ref o]) hE dX10_init_112 (fun l => c_X1_init l G q163) ggX10_init_X1_init (by decide +kernel) (by decide) (by decide +kernel) rfl rfl ⟨by decide, by decide, by decide +kernel⟩ ⟨rfl, rfl, by decide, by decide⟩ ⟨by decide, by decide⟩ rfl rfl (Nat.le_of_ble_eq_true rfl) (trivial) (fun L170 F171 q172 => ?_)
  obtain ⟨eL170, eF171⟩ := q172
  subst eL170
  subst eF171
  refine jr_putF (ty := .object RX1) hE dX10_init_115 f53 g169 rfl hinit rfl (by decide +kernel) rfl rfl (Nat.le_of_ble_eq_true rfl) (fun F173 g174 u175 => ?_)
  have g174 : jF (L152 ++ [q163]) F173 o (.inr (10, [.null, .ref q1, .ref q19, .ref q37, .null, .ref q55, .ref q73, .ref q91, .ref q109, .ref q127, .ref q145, .ref q163, .null])) := g174
  have g176 := g168.put u175
  refine jr_aload_n hE dX10_init_118 0 rfl ?_
  refine jr_new (ci := 0) (fs := [.null, .int 0]) hE dX10_init_119 rfl (by decide +kernel) (by decide +kernel) (by decide +kernel) (by decide +kernel) dfX0 ⟨by decide, by decide⟩ (fun q177 F178 n179 g180 u181 => ?_)
  have g182 := g176.new n179 g180 u181
  have g183 := g174.nw n179 u181
  refine jr_dup hE dX10_init_122 rfl ?_
  refine jr_bipush (v := (32 : Int32)) hE dX10_init_123 (by decide) ?_
  have e187 : jF ((L152 ++ [q163]) ++ [q177]) F178 q177 (.inr (0, [.null, .int 0])) := g182.at 23 (by decide)
  refine jr_callIv (n := 1) (As := [.int (32 : Int32)]) (rest := [.ref q177, .ref o]) hE dX10_init_125 (fun l => c_i0 l G q177 32) ggX10_init_X0_init (by decide +kernel) (by decide +kernel) (by decide +kernel) rfl rfl ⟨by decide, by decide, by decide +kernel⟩ ⟨rfl, rfl, by decide, by decide⟩ ⟨by decide, by decide⟩ rfl rfl (Nat.le_of_ble_eq_true rfl) (⟨e187, by decide⟩) (fun L184 F185 q186 => ?_)
  obtain ⟨B188, gB188, hB188⟩ := q186
  have g190 := g182.oC (k := 23) (by decide) gB188 g183
  have g189 := g182.call (k := 23) (by decide) gB188 hB188
  refine jr_putF (ty := .object RX0) hE dX10_init_128 f57 g190 rfl hinit rfl (by decide +kernel) rfl rfl (Nat.le_of_ble_eq_true rfl) (fun F191 g192 u193 => ?_)
  have g192 : jF L184 F191 o (.inr (10, [.null, .ref q1, .ref q19, .ref q37, .null, .ref q55, .ref q73, .ref q91, .ref q109, .ref q127, .ref q145, .ref q163, .ref q177])) := g192
  have g194 := g189.put u193
  refine jr_aload_n hE dX10_init_131 0 rfl ?_
  refine jr_aload_n hE dX10_init_132 1 rfl ?_
  refine jr_putF (ty := .object RX9) hE dX10_init_133 f60 g192 rfl hinit rfl (by decide +kernel) rfl rfl (Nat.le_of_ble_eq_true rfl) (fun F195 g196 u197 => ?_)
  have g196 : jF L184 F195 o (.inr (10, [.null, .ref q1, .ref q19, .ref q37, .ref sh, .ref q55, .ref q73, .ref q91, .ref q109, .ref q127, .ref q145, .ref q163, .ref q177])) := g196
  have g198 := g194.put u197
  refine jr_aload_n hE dX10_init_136 0 rfl ?_
  refine jr_aload_n hE dX10_init_137 2 rfl ?_
  refine jr_putF (ty := .object RX2) hE dX10_init_138 f64 g196 rfl hinit rfl (by decide +kernel) rfl rfl (Nat.le_of_ble_eq_true rfl) (fun F199 g200 u201 => ?_)
  have g200 : jF L184 F199 o (.inr (10, [.ref cu, .ref q1, .ref q19, .ref q37, .ref sh, .ref q55, .ref q73, .ref q91, .ref q109, .ref q127, .ref q145, .ref q163, .ref q177])) := g200
  have g202 := g198.put u201
  exact hR L184 F199 _ _ dX10_init_141 ⟨_, g202.fin (fls (fls (fls (fls (fls (fls (fls (fls (fls (fls (fls (fls (fls (fls (fls (fls (fls (fls (fls (fls (fls (fls (fls (fls (fls fls0 rfl) rfl) rfl) rfl) rfl) rfl) rfl) rfl) rfl) rfl) rfl) rfl) rfl) rfl) rfl) rfl) rfl) rfl) rfl) rfl) rfl) rfl) rfl) rfl) rfl), g200.2⟩

def tX4 (G : Nat → ClassId) (A : Nat → Nat) : Nat → va_E := (ext 65 (ext 33 (ext 17 (ext 9 (ext 5 (ext 3 (fun i => [(.inr (0, [.ref (A 1), .int 0])), (.inl (G 0, 32, .inl (fun _ => 0))), (.inl (G 6, 4, .inr (.inr (.inr (.inr (va_up (va_up (va_up (va_up (fun _ => none) 0 (some (A 29))) 1 (some (A 54))) 2 (some (A 79))) 3 (some (A 104))))))))].getD i zC) (fun i => [(.inr (0, [.ref (A 4), .int 0])), (.inl (G 0, 32, .inl (fun _ => 0)))].getD i zC)) (fun i => [(.inr (0, [.ref (A 6), .int 0])), (.inl (G 0, 32, .inl (fun _ => 0))), (.inr (0, [.ref (A 8), .int 0])), (.inl (G 0, 66, .inl (fun _ => 0)))].getD i zC)) (ext 4 (fun i => [(.inr (0, [.ref (A 10), .int 0])), (.inl (G 0, 32, .inl (fun _ => 0))), (.inr (8, [.ref (A 12)])), (.inl (G 2, 9, .inr (.inl (fun _ => 0))))].getD i zC) (fun i => [(.inr (8, [.ref (A 14)])), (.inl (G 2, 9, .inr (.inl (fun _ => 0)))), (.inr (8, [.ref (A 16)])), (.inl (G 2, 9, .inr (.inl (fun _ => 0))))].getD i zC))) (ext 8 (ext 4 (fun i => [(.inr (8, [.ref (A 18)])), (.inl (G 2, 9, .inr (.inl (fun _ => 0)))), (.inr (8, [.ref (A 20)])), (.inl (G 2, 9, .inr (.inl (fun _ => 0))))].getD i zC) (fun i => [(.inr (6, [.ref (A 22), .ref (A 23), .ref (A 24), .int (1 : Int32)])), zC, zC, zC].getD i zC)) (ext 4 (fun i => [(.inr (6, [.ref (A 26), .ref (A 27), .ref (A 28), .int (1 : Int32)])), zC, zC, zC].getD i zC) (fun i => [(.inr (5, [.ref (A 30), .ref (A 32), .ref (A 36), .int (0 : Int32), .ref (A 38), .ref (A 40), .ref (A 42), .int (0 : Int32), .ref (A 44), .ref (A 46), .ref (A 50)])), (.inr (0, [.ref (A 31), .int 0])), (.inl (G 0, 33, .inl (fun _ => 0))), (.inr (6, [.ref (A 33), .ref (A 34), .ref (A 35), .int (1 : Int32)]))].getD i zC)))) (ext 16 (ext 8 (ext 4 (fun i => [zC, zC, zC, (.inr (8, [.ref (A 37)]))].getD i zC) (fun i => [(.inl (G 2, 9, .inr (.inl (fun _ => 0)))), (.inr (8, [.ref (A 39)])), (.inl (G 2, 9, .inr (.inl (fun _ => 0)))), (.inr (8, [.ref (A 41)]))].getD i zC)) (ext 4 (fun i => [(.inl (G 2, 9, .inr (.inl (fun _ => 0)))), (.inr (0, [.ref (A 43), .int 0])), (.inl (G 0, 66, .inl (fun _ => 0))), (.inr (0, [.ref (A 45), .int 0]))].getD i zC) (fun i => [(.inl (G 0, 66, .inl (fun _ => 0))), (.inr (6, [.ref (A 47), .ref (A 48), .ref (A 49), .int (1 : Int32)])), zC, zC].getD i zC))) (ext 8 (ext 4 (fun i => [zC, (.inr (6, [.ref (A 51), .ref (A 52), .ref (A 53), .int (1 : Int32)])), zC, zC].getD i zC) (fun i => [zC, (.inr (5, [.ref (A 55), .ref (A 57), .ref (A 61), .int (0 : Int32), .ref (A 63), .ref (A 65), .ref (A 67), .int (0 : Int32), .ref (A 69), .ref (A 71), .ref (A 75)])), (.inr (0, [.ref (A 56), .int 0])), (.inl (G 0, 33, .inl (fun _ => 0)))].getD i zC)) (ext 4 (fun i => [(.inr (6, [.ref (A 58), .ref (A 59), .ref (A 60), .int (1 : Int32)])), zC, zC, zC].getD i zC) (fun i => [(.inr (8, [.ref (A 62)])), (.inl (G 2, 9, .inr (.inl (fun _ => 0)))), (.inr (8, [.ref (A 64)])), (.inl (G 2, 9, .inr (.inl (fun _ => 0))))].getD i zC))))) (ext 32 (ext 16 (ext 8 (ext 4 (fun i => [(.inr (8, [.ref (A 66)])), (.inl (G 2, 9, .inr (.inl (fun _ => 0)))), (.inr (0, [.ref (A 68), .int 0])), (.inl (G 0, 66, .inl (fun _ => 0)))].getD i zC) (fun i => [(.inr (0, [.ref (A 70), .int 0])), (.inl (G 0, 66, .inl (fun _ => 0))), (.inr (6, [.ref (A 72), .ref (A 73), .ref (A 74), .int (1 : Int32)])), zC].getD i zC)) (ext 4 (fun i => [zC, zC, (.inr (6, [.ref (A 76), .ref (A 77), .ref (A 78), .int (1 : Int32)])), zC].getD i zC) (fun i => [zC, zC, (.inr (5, [.ref (A 80), .ref (A 82), .ref (A 86), .int (0 : Int32), .ref (A 88), .ref (A 90), .ref (A 92), .int (0 : Int32), .ref (A 94), .ref (A 96), .ref (A 100)])), (.inr (0, [.ref (A 81), .int 0]))].getD i zC))) (ext 8 (ext 4 (fun i => [(.inl (G 0, 33, .inl (fun _ => 0))), (.inr (6, [.ref (A 83), .ref (A 84), .ref (A 85), .int (1 : Int32)])), zC, zC].getD i zC) (fun i => [zC, (.inr (8, [.ref (A 87)])), (.inl (G 2, 9, .inr (.inl (fun _ => 0)))), (.inr (8, [.ref (A 89)]))].getD i zC)) (ext 4 (fun i => [(.inl (G 2, 9, .inr (.inl (fun _ => 0)))), (.inr (8, [.ref (A 91)])), (.inl (G 2, 9, .inr (.inl (fun _ => 0)))), (.inr (0, [.ref (A 93), .int 0]))].getD i zC) (fun i => [(.inl (G 0, 66, .inl (fun _ => 0))), (.inr (0, [.ref (A 95), .int 0])), (.inl (G 0, 66, .inl (fun _ => 0))), (.inr (6, [.ref (A 97), .ref (A 98), .ref (A 99), .int (1 : Int32)]))].getD i zC)))) (ext 16 (ext 8 (ext 4 (fun i => [zC, zC, zC, (.inr (6, [.ref (A 101), .ref (A 102), .ref (A 103), .int (1 : Int32)]))].getD i zC) (fun i => [zC, zC, zC, (.inr (5, [.ref (A 105), .ref (A 107), .ref (A 111), .int (0 : Int32), .ref (A 113), .ref (A 115), .ref (A 117), .int (0 : Int32), .ref (A 119), .ref (A 121), .ref (A 125)]))].getD i zC)) (ext 4 (fun i => [(.inr (0, [.ref (A 106), .int 0])), (.inl (G 0, 33, .inl (fun _ => 0))), (.inr (6, [.ref (A 108), .ref (A 109), .ref (A 110), .int (1 : Int32)])), zC].getD i zC) (fun i => [zC, zC, (.inr (8, [.ref (A 112)])), (.inl (G 2, 9, .inr (.inl (fun _ => 0))))].getD i zC))) (ext 8 (ext 4 (fun i => [(.inr (8, [.ref (A 114)])), (.inl (G 2, 9, .inr (.inl (fun _ => 0)))), (.inr (8, [.ref (A 116)])), (.inl (G 2, 9, .inr (.inl (fun _ => 0))))].getD i zC) (fun i => [(.inr (0, [.ref (A 118), .int 0])), (.inl (G 0, 66, .inl (fun _ => 0))), (.inr (0, [.ref (A 120), .int 0])), (.inl (G 0, 66, .inl (fun _ => 0)))].getD i zC)) (ext 4 (fun i => [(.inr (6, [.ref (A 122), .ref (A 123), .ref (A 124), .int (1 : Int32)])), zC, zC, zC].getD i zC) (fun i => [(.inr (6, [.ref (A 126), .ref (A 127), .ref (A 128), .int (1 : Int32)])), zC, zC, zC].getD i zC))))))

set_option maxHeartbeats 4000000 in
set_option maxRecDepth 100000 in
theorem c_i4 (l : Launch) (G : Nat → ClassId) (o sh si cu : Nat) (fs : List Value) : jCv l yX4_init wsX4_init ({ frames := 4, cells := 129, slots := 1540, locals := 80 }) (129) (1540) G [.ref o, .ref sh, .ref si] (fun L F => jF L F o (.inr (4, [.int 0, .int 0, .null, .null, .null, .null, .null, .null, .null, .null, .null, .null, .null, .null, .null, .null, .null, .null, .int 0, .int 0])) ∧ jF L F si (.inr (10, fs)) ∧ fs[0]? = some (.ref cu) ∧ si ≠ o) (fun L F L1 F1 => ∃ A, gS L F o 129 A (tX4 G A) L1 F1 ∧ F1 o = (.inr (4, [.int (0 : Int32), .int (0 : Int32), .ref (A 0), .ref sh, .ref si, .ref cu, .ref (A 2), .ref (A 3), .ref (A 5), .ref (A 7), .ref (A 9), .ref (A 11), .ref (A 13), .ref (A 15), .ref (A 17), .ref (A 19), .ref (A 21), .ref (A 25), .int (0 : Int32), .int (0 : Int32)]))) := by
  refine jm_vI (cc := cX4_init) (maxL := 4) (by decide) rfl (Nat.le_of_ble_eq_true rfl) rfl ?_
  intro E L F hE hinit hR hpre
  have hE : jOk E G _ cX4_init 4 RX4 wsX4_init := hE
  obtain ⟨ho, hs, hk, hne⟩ := hpre
  have f7 : jFl RX4 wsX4_init 7 4 0 := ⟨rfl, by decide, by decide +kernel, by decide +kernel⟩
  have f13 : jFl RX4 wsX4_init 13 4 1 := ⟨rfl, by decide, by decide +kernel, by decide +kernel⟩
  have f22 : jFl RX4 wsX4_init 22 4 2 := ⟨rfl, by decide, by decide +kernel, by decide +kernel⟩
  have f28 : jFl RX4 wsX4_init 28 4 6 := ⟨rfl, by decide, by decide +kernel, by decide +kernel⟩
  have f32 : jFl RX4 wsX4_init 32 4 7 := ⟨rfl, by decide, by decide +kernel, by decide +kernel⟩
  have f35 : jFl RX4 wsX4_init 35 4 8 := ⟨rfl, by decide, by decide +kernel, by decide +kernel⟩
  have f38 : jFl RX4 wsX4_init 38 4 9 := ⟨rfl, by decide, by decide +kernel, by decide +kernel⟩
  have f41 : jFl RX4 wsX4_init 41 4 10 := ⟨rfl, by decide, by decide +kernel, by decide +kernel⟩
  have f47 : jFl RX4 wsX4_init 47 4 11 := ⟨rfl, by decide, by decide +kernel, by decide +kernel⟩
  have f51 : jFl RX4 wsX4_init 51 4 12 := ⟨rfl, by decide, by decide +kernel, by decide +kernel⟩
  have f54 : jFl RX4 wsX4_init 54 4 13 := ⟨rfl, by decide, by decide +kernel, by decide +kernel⟩
  have f57 : jFl RX4 wsX4_init 57 4 14 := ⟨rfl, by decide, by decide +kernel, by decide +kernel⟩
  have f60 : jFl RX4 wsX4_init 60 4 15 := ⟨rfl, by decide, by decide +kernel, by decide +kernel⟩
  have f66 : jFl RX4 wsX4_init 66 4 16 := ⟨rfl, by decide, by decide +kernel, by decide +kernel⟩
  have f70 : jFl RX4 wsX4_init 70 4 17 := ⟨rfl, by decide, by decide +kernel, by decide +kernel⟩
  have f73 : jFl RX4 wsX4_init 73 4 18 := ⟨rfl, by decide, by decide +kernel, by decide +kernel⟩
  have f76 : jFl RX4 wsX4_init 76 4 19 := ⟨rfl, by decide, by decide +kernel, by decide +kernel⟩
  have f79 : jFl RX4 wsX4_init 79 4 3 := ⟨rfl, by decide, by decide +kernel, by decide +kernel⟩
  have f83 : jFl RX4 wsX4_init 83 4 4 := ⟨rfl, by decide, by decide +kernel, by decide +kernel⟩
  have f87 : jFl RX4 wsX4_init 87 10 0 := ⟨rfl, by decide, by decide +kernel, by decide +kernel⟩
  have f93 : jFl RX4 wsX4_init 93 4 5 := ⟨rfl, by decide, by decide +kernel, by decide +kernel⟩
  refine jr_aload_n hE dX4_init_0 0 rfl ?_
  refine jr_objInit hE dX4_init_1 (by decide +kernel) (by decide +kernel) (by decide +kernel) ⟨Nat.le_of_ble_eq_true rfl, Nat.le_of_ble_eq_true rfl⟩ (Nat.le_of_ble_eq_true rfl) ?_
  refine jr_aload_n hE dX4_init_4 0 rfl ?_
  refine jr_iconst (v := (0 : Int32)) hE dX4_init_5 (by decide) ?_
  refine jr_put (ty := .int) hE dX4_init_6 f7 ho rfl (by decide +kernel) rfl rfl (Nat.le_of_ble_eq_true rfl) (fun F1 g2 u3 => ?_)
  have g2 : jF L F1 o (.inr (4, [.int (0 : Int32), .int (0 : Int32), .null, .null, .null, .null, .null, .null, .null, .null, .null, .null, .null, .null, .null, .null, .null, .null, .int (0 : Int32), .int (0 : Int32)])) := g2
  have g4 := (gS.nil (fun _ => 0) (fun _ => zC) ho.1).put u3
  refine jr_aload_n hE dX4_init_9 0 rfl ?_
  refine jr_iconst (v := (0 : Int32)) hE dX4_init_10 (by decide) ?_
  refine jr_put (ty := .boolean) hE dX4_init_11 f13 g2 rfl (by decide +kernel) rfl rfl (Nat.le_of_ble_eq_true rfl) (fun F5 g6 u7 => ?_)
  have g6 : jF L F5 o (.inr (4, [.int (0 : Int32), .int (0 : Int32), .null, .null, .null, .null, .null, .null, .null, .null, .null, .null, .null, .null, .null, .null, .null, .null, .int (0 : Int32), .int (0 : Int32)])) := g6
  have g8 := g4.put u7
  refine jr_aload_n hE dX4_init_14 0 rfl ?_
  refine jr_new (ci := 0) (fs := [.null, .int 0]) hE dX4_init_15 rfl (by decide +kernel) (by decide +kernel) (by decide +kernel) (by decide +kernel) dfX0 ⟨by decide, by decide⟩ (fun q9 F10 n11 g12 u13 => ?_)
  have g14 := g8.new n11 g12 u13
  have g15 := g6.nw n11 u13
  refine jr_dup hE dX4_init_18 rfl ?_
  refine jr_bipush (v := (32 : Int32)) hE dX4_init_19 (by decide) ?_
  have e19 : jF (L ++ [q9]) F10 q9 (.inr (0, [.null, .int 0])) := g14.at 0 (by decide)
  refine jr_callIv (n := 1) (As := [.int (32 : Int32)]) (rest := [.ref q9, .ref o]) hE dX4_init_21 (fun l => c_i0 l G q9 32) ggX4_init_X0_init (by decide +kernel) (by decide +kernel) (by decide +kernel) rfl rfl ⟨by decide, by decide, by decide +kernel⟩ ⟨rfl, rfl, by decide, by decide⟩ ⟨by decide, by decide⟩ rfl rfl (Nat.le_of_ble_eq_true rfl) (⟨e19, by decide⟩) (fun L16 F17 q18 => ?_)
  obtain ⟨B20, gB20, hB20⟩ := q18
  have g22 := g14.oC (k := 0) (by decide) gB20 g15
  have g21 := g14.call (k := 0) (by decide) gB20 hB20
  refine jr_putF (ty := .object RX0) hE dX4_init_24 f22 g22 rfl hinit rfl (by decide +kernel) rfl rfl (Nat.le_of_ble_eq_true rfl) (fun F23 g24 u25 => ?_)
  have g24 : jF L16 F23 o (.inr (4, [.int (0 : Int32), .int (0 : Int32), .ref q9, .null, .null, .null, .null, .null, .null, .null, .null, .null, .null, .null, .null, .null, .null, .null, .int (0 : Int32), .int (0 : Int32)])) := g24
  have g26 := g21.put u25
  refine jr_aload_n hE dX4_init_27 0 rfl ?_
  refine jr_iconst (v := (4 : Int32)) hE dX4_init_28 (by decide) ?_
  refine jr_newq (g := 6) (N := 4) (C := RX5) hE dX4_init_29 (by decide +kernel) (by decide) rfl (by decide) (by decide) (by decide) ⟨by decide, by decide⟩ (fun q27 F28 n29 g30 u31 => ?_)
  have g32 := g26.new n29 g30 u31
  have g33 := g24.nw n29 u31
  refine jr_putF (ty := .array (.object RX5)) hE dX4_init_32 f28 g33 rfl hinit rfl (by decide +kernel) rfl rfl (Nat.le_of_ble_eq_true rfl) (fun F34 g35 u36 => ?_)
  have g35 : jF (L16 ++ [q27]) F34 o (.inr (4, [.int (0 : Int32), .int (0 : Int32), .ref q9, .null, .null, .null, .ref q27, .null, .null, .null, .null, .null, .null, .null, .null, .null, .null, .null, .int (0 : Int32), .int (0 : Int32)])) := g35
  have g37 := g32.put u36
  refine jr_aload_n hE dX4_init_35 0 rfl ?_
  refine jr_new (ci := 0) (fs := [.null, .int 0]) hE dX4_init_36 rfl (by decide +kernel) (by decide +kernel) (by decide +kernel) (by decide +kernel) dfX0 ⟨by decide, by decide⟩ (fun q38 F39 n40 g41 u42 => ?_)
  have g43 := g37.new n40 g41 u42
  have g44 := g35.nw n40 u42
  refine jr_dup hE dX4_init_39 rfl ?_
  refine jr_bipush (v := (32 : Int32)) hE dX4_init_40 (by decide) ?_
  have e48 : jF ((L16 ++ [q27]) ++ [q38]) F39 q38 (.inr (0, [.null, .int 0])) := g43.at 3 (by decide)
  refine jr_callIv (n := 1) (As := [.int (32 : Int32)]) (rest := [.ref q38, .ref o]) hE dX4_init_42 (fun l => c_i0 l G q38 32) ggX4_init_X0_init (by decide +kernel) (by decide +kernel) (by decide +kernel) rfl rfl ⟨by decide, by decide, by decide +kernel⟩ ⟨rfl, rfl, by decide, by decide⟩ ⟨by decide, by decide⟩ rfl rfl (Nat.le_of_ble_eq_true rfl) (⟨e48, by decide⟩) (fun L45 F46 q47 => ?_)
  obtain ⟨B49, gB49, hB49⟩ := q47
  have g51 := g43.oC (k := 3) (by decide) gB49 g44
  have g50 := g43.call (k := 3) (by decide) gB49 hB49
  refine jr_putF (ty := .object RX0) hE dX4_init_45 f32 g51 rfl hinit rfl (by decide +kernel) rfl rfl (Nat.le_of_ble_eq_true rfl) (fun F52 g53 u54 => ?_)
  have g53 : jF L45 F52 o (.inr (4, [.int (0 : Int32), .int (0 : Int32), .ref q9, .null, .null, .null, .ref q27, .ref q38, .null, .null, .null, .null, .null, .null, .null, .null, .null, .null, .int (0 : Int32), .int (0 : Int32)])) := g53
  have g55 := g50.put u54
  refine jr_aload_n hE dX4_init_48 0 rfl ?_
  refine jr_new (ci := 0) (fs := [.null, .int 0]) hE dX4_init_49 rfl (by decide +kernel) (by decide +kernel) (by decide +kernel) (by decide +kernel) dfX0 ⟨by decide, by decide⟩ (fun q56 F57 n58 g59 u60 => ?_)
  have g61 := g55.new n58 g59 u60
  have g62 := g53.nw n58 u60
  refine jr_dup hE dX4_init_52 rfl ?_
  refine jr_bipush (v := (32 : Int32)) hE dX4_init_53 (by decide) ?_
  have e66 : jF (L45 ++ [q56]) F57 q56 (.inr (0, [.null, .int 0])) := g61.at 5 (by decide)
  refine jr_callIv (n := 1) (As := [.int (32 : Int32)]) (rest := [.ref q56, .ref o]) hE dX4_init_55 (fun l => c_i0 l G q56 32) ggX4_init_X0_init (by decide +kernel) (by decide +kernel) (by decide +kernel) rfl rfl ⟨by decide, by decide, by decide +kernel⟩ ⟨rfl, rfl, by decide, by decide⟩ ⟨by decide, by decide⟩ rfl rfl (Nat.le_of_ble_eq_true rfl) (⟨e66, by decide⟩) (fun L63 F64 q65 => ?_)
  obtain ⟨B67, gB67, hB67⟩ := q65
  have g69 := g61.oC (k := 5) (by decide) gB67 g62
  have g68 := g61.call (k := 5) (by decide) gB67 hB67
  refine jr_putF (ty := .object RX0) hE dX4_init_58 f35 g69 rfl hinit rfl (by decide +kernel) rfl rfl (Nat.le_of_ble_eq_true rfl) (fun F70 g71 u72 => ?_)
  have g71 : jF L63 F70 o (.inr (4, [.int (0 : Int32), .int (0 : Int32), .ref q9, .null, .null, .null, .ref q27, .ref q38, .ref q56, .null, .null, .null, .null, .null, .null, .null, .null, .null, .int (0 : Int32), .int (0 : Int32)])) := g71
  have g73 := g68.put u72
  refine jr_aload_n hE dX4_init_61 0 rfl ?_
  refine jr_new (ci := 0) (fs := [.null, .int 0]) hE dX4_init_62 rfl (by decide +kernel) (by decide +kernel) (by decide +kernel) (by decide +kernel) dfX0 ⟨by decide, by decide⟩ (fun q74 F75 n76 g77 u78 => ?_)
  have g79 := g73.new n76 g77 u78
  have g80 := g71.nw n76 u78
  refine jr_dup hE dX4_init_65 rfl ?_
  refine jr_bipush (v := (66 : Int32)) hE dX4_init_66 (by decide) ?_
  have e84 : jF (L63 ++ [q74]) F75 q74 (.inr (0, [.null, .int 0])) := g79.at 7 (by decide)
  refine jr_callIv (n := 1) (As := [.int (66 : Int32)]) (rest := [.ref q74, .ref o]) hE dX4_init_68 (fun l => c_i0 l G q74 66) ggX4_init_X0_init (by decide +kernel) (by decide +kernel) (by decide +kernel) rfl rfl ⟨by decide, by decide, by decide +kernel⟩ ⟨rfl, rfl, by decide, by decide⟩ ⟨by decide, by decide⟩ rfl rfl (Nat.le_of_ble_eq_true rfl) (⟨e84, by decide⟩) (fun L81 F82 q83 => ?_)
  obtain ⟨B85, gB85, hB85⟩ := q83
  have g87 := g79.oC (k := 7) (by decide) gB85 g80
  have g86 := g79.call (k := 7) (by decide) gB85 hB85
  refine jr_putF (ty := .object RX0) hE dX4_init_71 f38 g87 rfl hinit rfl (by decide +kernel) rfl rfl (Nat.le_of_ble_eq_true rfl) (fun F88 g89 u90 => ?_)
  have g89 : jF L81 F88 o (.inr (4, [.int (0 : Int32), .int (0 : Int32), .ref q9, .null, .null, .null, .ref q27, .ref q38, .ref q56, .ref q74, .null, .null, .null, .null, .null, .null, .null, .null, .int (0 : Int32), .int (0 : Int32)])) := g89
  have g91 := g86.put u90
  refine jr_aload_n hE dX4_init_74 0 rfl ?_
  refine jr_new (ci := 0) (fs := [.null, .int 0]) hE dX4_init_75 rfl (by decide +kernel) (by decide +kernel) (by decide +kernel) (by decide +kernel) dfX0 ⟨by decide, by decide⟩ (fun q92 F93 n94 g95 u96 => ?_)
  have g97 := g91.new n94 g95 u96
  have g98 := g89.nw n94 u96
  refine jr_dup hE dX4_init_78 rfl ?_
  refine jr_bipush (v := (32 : Int32)) hE dX4_init_79 (by decide) ?_
  have e102 : jF (L81 ++ [q92]) F93 q92 (.inr (0, [.null, .int 0])) := g97.at 9 (by decide)
  refine jr_callIv (n := 1) (As := [.int (32 : Int32)]) (rest := [.ref q92, .ref o]) hE dX4_init_81 (fun l => c_i0 l G q92 32) ggX4_init_X0_init (by decide +kernel) (by decide +kernel) (by decide +kernel) rfl rfl ⟨by decide, by decide, by decide +kernel⟩ ⟨rfl, rfl, by decide, by decide⟩ ⟨by decide, by decide⟩ rfl rfl (Nat.le_of_ble_eq_true rfl) (⟨e102, by decide⟩) (fun L99 F100 q101 => ?_)
  obtain ⟨B103, gB103, hB103⟩ := q101
  have g105 := g97.oC (k := 9) (by decide) gB103 g98
  have g104 := g97.call (k := 9) (by decide) gB103 hB103
  refine jr_putF (ty := .object RX0) hE dX4_init_84 f41 g105 rfl hinit rfl (by decide +kernel) rfl rfl (Nat.le_of_ble_eq_true rfl) (fun F106 g107 u108 => ?_)
  have g107 : jF L99 F106 o (.inr (4, [.int (0 : Int32), .int (0 : Int32), .ref q9, .null, .null, .null, .ref q27, .ref q38, .ref q56, .ref q74, .ref q92, .null, .null, .null, .null, .null, .null, .null, .int (0 : Int32), .int (0 : Int32)])) := g107
  have g109 := g104.put u108
  refine jr_aload_n hE dX4_init_87 0 rfl ?_
  refine jr_new (ci := 8) (fs := [.null]) hE dX4_init_88 rfl (by decide +kernel) (by decide +kernel) (by decide +kernel) (by decide +kernel) dfX8 ⟨by decide, by decide⟩ (fun q110 F111 n112 g113 u114 => ?_)
  have g115 := g109.new n112 g113 u114
  have g116 := g107.nw n112 u114
  refine jr_dup hE dX4_init_91 rfl ?_
  have e120 : jF (L99 ++ [q110]) F111 q110 (.inr (8, [.null])) := g115.at 11 (by decide)
  refine jr_callNv (n := 0) (As := []) (rest := [.ref q110, .ref o]) hE dX4_init_92 (fun l => c_i8 l G q110) ggX4_init_X8_init (by decide +kernel) (by decide) (by decide +kernel) rfl rfl ⟨by decide, by decide, by decide +kernel⟩ ⟨rfl, rfl, by decide, by decide⟩ ⟨by decide, by decide⟩ rfl rfl (Nat.le_of_ble_eq_true rfl) (e120) (fun L117 F118 q119 => ?_)
  obtain ⟨B121, gB121, hB121⟩ := q119
  have g123 := g115.oC (k := 11) (by decide) gB121 g116
  have g122 := g115.call (k := 11) (by decide) gB121 hB121
  refine jr_putF (ty := .object RX8) hE dX4_init_95 f47 g123 rfl hinit rfl (by decide +kernel) rfl rfl (Nat.le_of_ble_eq_true rfl) (fun F124 g125 u126 => ?_)
  have g125 : jF L117 F124 o (.inr (4, [.int (0 : Int32), .int (0 : Int32), .ref q9, .null, .null, .null, .ref q27, .ref q38, .ref q56, .ref q74, .ref q92, .ref q110, .null, .null, .null, .null, .null, .null, .int (0 : Int32), .int (0 : Int32)])) := g125
  have g127 := g122.put u126
  refine jr_aload_n hE dX4_init_98 0 rfl ?_
  refine jr_new (ci := 8) (fs := [.null]) hE dX4_init_99 rfl (by decide +kernel) (by decide +kernel) (by decide +kernel) (by decide +kernel) dfX8 ⟨by decide, by decide⟩ (fun q128 F129 n130 g131 u132 => ?_)
  have g133 := g127.new n130 g131 u132
  have g134 := g125.nw n130 u132
  refine jr_dup hE dX4_init_102 rfl ?_
  have e138 : jF (L117 ++ [q128]) F129 q128 (.inr (8, [.null])) := g133.at 13 (by decide)
  refine jr_callNv (n := 0) (As := []) (rest := [.ref q128, .ref o]) hE dX4_init_103 (fun l => c_i8 l G q128) ggX4_init_X8_init (by decide +kernel) (by decide) (by decide +kernel) rfl rfl ⟨by decide, by decide, by decide +kernel⟩ ⟨rfl, rfl, by decide, by decide⟩ ⟨by decide, by decide⟩ rfl rfl (Nat.le_of_ble_eq_true rfl) (e138) (fun L135 F136 q137 => ?_)
  obtain ⟨B139, gB139, hB139⟩ := q137
  have g141 := g133.oC (k := 13) (by decide) gB139 g134
  have g140 := g133.call (k := 13) (by decide) gB139 hB139
  refine jr_putF (ty := .object RX8) hE dX4_init_106 f51 g141 rfl hinit rfl (by decide +kernel) rfl rfl (Nat.le_of_ble_eq_true rfl) (fun F142 g143 u144 => ?_)
  have g143 : jF L135 F142 o (.inr (4, [.int (0 : Int32), .int (0 : Int32), .ref q9, .null, .null, .null, .ref q27, .ref q38, .ref q56, .ref q74, .ref q92, .ref q110, .ref q128, .null, .null, .null, .null, .null, .int (0 : Int32), .int (0 : Int32)])) := g143
  have g145 := g140.put u144
  refine jr_aload_n hE dX4_init_109 0 rfl ?_
  refine jr_new (ci := 8) (fs := [.null]) hE dX4_init_110 rfl (by decide +kernel) (by decide +kernel) (by decide +kernel) (by decide +kernel) dfX8 ⟨by decide, by decide⟩ (fun q146 F147 n148 g149 u150 => ?_)
  have g151 := g145.new n148 g149 u150
  have g152 := g143.nw n148 u150
  refine jr_dup hE dX4_init_113 rfl ?_
  have e156 : jF (L135 ++ [q146]) F147 q146 (.inr (8, [.null])) := g151.at 15 (by decide)
  refine jr_callNv (n := 0) (As := []) (rest := [.ref q146, .ref o]) hE dX4_init_114 (fun l => c_i8 l G q146) ggX4_init_X8_init (by decide +kernel) (by decide) (by decide +kernel) rfl rfl ⟨by decide, by decide, by decide +kernel⟩ ⟨rfl, rfl, by decide, by decide⟩ ⟨by decide, by decide⟩ rfl rfl (Nat.le_of_ble_eq_true rfl) (e156) (fun L153 F154 q155 => ?_)
  obtain ⟨B157, gB157, hB157⟩ := q155
  have g159 := g151.oC (k := 15) (by decide) gB157 g152
  have g158 := g151.call (k := 15) (by decide) gB157 hB157
  refine jr_putF (ty := .object RX8) hE dX4_init_117 f54 g159 rfl hinit rfl (by decide +kernel) rfl rfl (Nat.le_of_ble_eq_true rfl) (fun F160 g161 u162 => ?_)
  have g161 : jF L153 F160 o (.inr (4, [.int (0 : Int32), .int (0 : Int32), .ref q9, .null, .null, .null, .ref q27, .ref q38, .ref q56, .ref q74, .ref q92, .ref q110, .ref q128, .ref q146, .null, .null, .null, .null, .int (0 : Int32), .int (0 : Int32)])) := g161
  have g163 := g158.put u162
  refine jr_aload_n hE dX4_init_120 0 rfl ?_
  refine jr_new (ci := 8) (fs := [.null]) hE dX4_init_121 rfl (by decide +kernel) (by decide +kernel) (by decide +kernel) (by decide +kernel) dfX8 ⟨by decide, by decide⟩ (fun q164 F165 n166 g167 u168 => ?_)
  have g169 := g163.new n166 g167 u168
  have g170 := g161.nw n166 u168
  refine jr_dup hE dX4_init_124 rfl ?_
  have e174 : jF (L153 ++ [q164]) F165 q164 (.inr (8, [.null])) := g169.at 17 (by decide)
  refine jr_callNv (n := 0) (As := []) (rest := [.ref q164, .ref o]) hE dX4_init_125 (fun l => c_i8 l G q164) ggX4_init_X8_init (by decide +kernel) (by decide) (by decide +kernel) rfl rfl ⟨by decide, by decide, by decide +kernel⟩ ⟨rfl, rfl, by decide, by decide⟩ ⟨by decide, by decide⟩ rfl rfl (Nat.le_of_ble_eq_true rfl) (e174) (fun L171 F172 q173 => ?_)
  obtain ⟨B175, gB175, hB175⟩ := q173
  have g177 := g169.oC (k := 17) (by decide) gB175 g170
  have g176 := g169.call (k := 17) (by decide) gB175 hB175
  refine jr_putF (ty := .object RX8) hE dX4_init_128 f57 g177 rfl hinit rfl (by decide +kernel) rfl rfl (Nat.le_of_ble_eq_true rfl) (fun F178 g179 u180 => ?_)
  have g179 : jF L171 F178 o (.inr (4, [.int (0 : Int32), .int (0 : Int32), .ref q9, .null, .null, .null, .ref q27, .ref q38, .ref q56, .ref q74, .ref q92, .ref q110, .ref q128, .ref q146, .ref q164, .null, .null, .null, .int (0 : Int32), .int (0 : Int32)])) := g179
  have g181 := g176.put u180
  refine jr_aload_n hE dX4_init_131 0 rfl ?_
  refine jr_new (ci := 8) (fs := [.null]) hE dX4_init_132 rfl (by decide +kernel) (by decide +kernel) (by decide +kernel) (by decide +kernel) dfX8 ⟨by decide, by decide⟩ (fun q182 F183 n184 g185 u186 => ?_)
  have g187 := g181.new n184 g185 u186
  have g188 := g179.nw n184 u186
  refine jr_dup hE dX4_init_135 rfl ?_
  have e192 : jF (L171 ++ [q182]) F183 q182 (.inr (8, [.null])) := g187.at 19 (by decide)
  refine jr_callNv (n := 0) (As := []) (rest := [.ref q182, .ref o]) hE dX4_init_136 (fun l => c_i8 l G q182) ggX4_init_X8_init (by decide +kernel) (by decide) (by decide +kernel) rfl rfl ⟨by decide, by decide, by decide +kernel⟩ ⟨rfl, rfl, by decide, by decide⟩ ⟨by decide, by decide⟩ rfl rfl (Nat.le_of_ble_eq_true rfl) (e192) (fun L189 F190 q191 => ?_)
  obtain ⟨B193, gB193, hB193⟩ := q191
  have g195 := g187.oC (k := 19) (by decide) gB193 g188
  have g194 := g187.call (k := 19) (by decide) gB193 hB193
  refine jr_putF (ty := .object RX8) hE dX4_init_139 f60 g195 rfl hinit rfl (by decide +kernel) rfl rfl (Nat.le_of_ble_eq_true rfl) (fun F196 g197 u198 => ?_)
  have g197 : jF L189 F196 o (.inr (4, [.int (0 : Int32), .int (0 : Int32), .ref q9, .null, .null, .null, .ref q27, .ref q38, .ref q56, .ref q74, .ref q92, .ref q110, .ref q128, .ref q146, .ref q164, .ref q182, .null, .null, .int (0 : Int32), .int (0 : Int32)])) := g197
  have g199 := g194.put u198
  refine jr_aload_n hE dX4_init_142 0 rfl ?_
  refine jr_new (ci := 6) (fs := [.null, .null, .null, .int 0]) hE dX4_init_143 rfl (by decide +kernel) (by decide +kernel) (by decide +kernel) (by decide +kernel) dfX6 ⟨by decide, by decide⟩ (fun q200 F201 n202 g203 u204 => ?_)
  have g205 := g199.new n202 g203 u204
  have g206 := g197.nw n202 u204
  refine jr_dup hE dX4_init_146 rfl ?_
  have e210 : jF (L189 ++ [q200]) F201 q200 (.inr (6, [.null, .null, .null, .int 0])) := g205.at 21 (by decide)
  refine jr_callNv (n := 0) (As := []) (rest := [.ref q200, .ref o]) hE dX4_init_147 (fun l => c_i6 l G q200) ggX4_init_X6_init (by decide +kernel) (by decide) (by decide +kernel) rfl rfl ⟨by decide, by decide, by decide +kernel⟩ ⟨rfl, rfl, by decide, by decide⟩ ⟨by decide, by decide⟩ rfl rfl (Nat.le_of_ble_eq_true rfl) (e210) (fun L207 F208 q209 => ?_)
  obtain ⟨B211, gB211, hB211⟩ := q209
  have g213 := g205.oC (k := 21) (by decide) gB211 g206
  have g212 := g205.call (k := 21) (by decide) gB211 hB211
  refine jr_putF (ty := .object RX6) hE dX4_init_150 f66 g213 rfl hinit rfl (by decide +kernel) rfl rfl (Nat.le_of_ble_eq_true rfl) (fun F214 g215 u216 => ?_)
  have g215 : jF L207 F214 o (.inr (4, [.int (0 : Int32), .int (0 : Int32), .ref q9, .null, .null, .null, .ref q27, .ref q38, .ref q56, .ref q74, .ref q92, .ref q110, .ref q128, .ref q146, .ref q164, .ref q182, .ref q200, .null, .int (0 : Int32), .int (0 : Int32)])) := g215
  have g217 := g212.put u216
  refine jr_aload_n hE dX4_init_153 0 rfl ?_
  refine jr_new (ci := 6) (fs := [.null, .null, .null, .int 0]) hE dX4_init_154 rfl (by decide +kernel) (by decide +kernel) (by decide +kernel) (by decide +kernel) dfX6 ⟨by decide, by decide⟩ (fun q218 F219 n220 g221 u222 => ?_)
  have g223 := g217.new n220 g221 u222
  have g224 := g215.nw n220 u222
  refine jr_dup hE dX4_init_157 rfl ?_
  have e228 : jF (L207 ++ [q218]) F219 q218 (.inr (6, [.null, .null, .null, .int 0])) := g223.at 25 (by decide)
  refine jr_callNv (n := 0) (As := []) (rest := [.ref q218, .ref o]) hE dX4_init_158 (fun l => c_i6 l G q218) ggX4_init_X6_init (by decide +kernel) (by decide) (by decide +kernel) rfl rfl ⟨by decide, by decide, by decide +kernel⟩ ⟨rfl, rfl, by decide, by decide⟩ ⟨by decide, by decide⟩ rfl rfl (Nat.le_of_ble_eq_true rfl) (e228) (fun L225 F226 q227 => ?_)
  obtain ⟨B229, gB229, hB229⟩ := q227
  have g231 := g223.oC (k := 25) (by decide) gB229 g224
  have g230 := g223.call (k := 25) (by decide) gB229 hB229
  refine jr_putF (ty := .object RX6) hE dX4_init_161 f70 g231 rfl hinit rfl (by decide +kernel) rfl rfl (Nat.le_of_ble_eq_true rfl) (fun F232 g233 u234 => ?_)
  have g233 : jF L225 F232 o (.inr (4, [.int (0 : Int32), .int (0 : Int32), .ref q9, .null, .null, .null, .ref q27, .ref q38, .ref q56, .ref q74, .ref q92, .ref q110, .ref q128, .ref q146, .ref q164, .ref q182, .ref q200, .ref q218, .int (0 : Int32), .int (0 : Int32)])) := g233
  have g235 := g230.put u234
  refine jr_aload_n hE dX4_init_164 0 rfl ?_
  refine jr_iconst (v := (0 : Int32)) hE dX4_init_165 (by decide) ?_
  refine jr_put (ty := .boolean) hE dX4_init_166 f73 g233 rfl (by decide +kernel) rfl rfl (Nat.le_of_ble_eq_true rfl) (fun F236 g237 u238 => ?_)
  have g237 : jF L225 F236 o (.inr (4, [.int (0 : Int32), .int (0 : Int32), .ref q9, .null, .null, .null, .ref q27, .ref q38, .ref q56, .ref q74, .ref q92, .ref q110, .ref q128, .ref q146, .ref q164, .ref q182, .ref q200, .ref q218, .int (0 : Int32), .int (0 : Int32)])) := g237
  have g239 := g235.put u238
  refine jr_aload_n hE dX4_init_169 0 rfl ?_
  refine jr_iconst (v := (0 : Int32)) hE dX4_init_170 (by decide) ?_
  refine jr_put (ty := .boolean) hE dX4_init_171 f76 g237 rfl (by decide +kernel) rfl rfl (Nat.le_of_ble_eq_true rfl) (fun F240 g241 u242 => ?_)
  have g241 : jF L225 F240 o (.inr (4, [.int (0 : Int32), .int (0 : Int32), .ref q9, .null, .null, .null, .ref q27, .ref q38, .ref q56, .ref q74, .ref q92, .ref q110, .ref q128, .ref q146, .ref q164, .ref q182, .ref q200, .ref q218, .int (0 : Int32), .int (0 : Int32)])) := g241
  have g243 := g239.put u242
  refine jr_aload_n hE dX4_init_174 0 rfl ?_
  refine jr_aload_n hE dX4_init_175 1 rfl ?_
  refine jr_putF (ty := .object RX9) hE dX4_init_176 f79 g241 rfl hinit rfl (by decide +kernel) rfl rfl (Nat.le_of_ble_eq_true rfl) (fun F244 g245 u246 => ?_)
  have g245 : jF L225 F244 o (.inr (4, [.int (0 : Int32), .int (0 : Int32), .ref q9, .ref sh, .null, .null, .ref q27, .ref q38, .ref q56, .ref q74, .ref q92, .ref q110, .ref q128, .ref q146, .ref q164, .ref q182, .ref q200, .ref q218, .int (0 : Int32), .int (0 : Int32)])) := g245
  have g247 := g243.put u246
  refine jr_aload_n hE dX4_init_179 0 rfl ?_
  refine jr_aload_n hE dX4_init_180 2 rfl ?_
  refine jr_putF (ty := .object RX10) hE dX4_init_181 f83 g245 rfl hinit rfl (by decide +kernel) rfl rfl (Nat.le_of_ble_eq_true rfl) (fun F248 g249 u250 => ?_)
  have g249 : jF L225 F248 o (.inr (4, [.int (0 : Int32), .int (0 : Int32), .ref q9, .ref sh, .ref si, .null, .ref q27, .ref q38, .ref q56, .ref q74, .ref q92, .ref q110, .ref q128, .ref q146, .ref q164, .ref q182, .ref q200, .ref q218, .int (0 : Int32), .int (0 : Int32)])) := g249
  have g251 := g247.put u250
  refine jr_aload_n hE dX4_init_184 0 rfl ?_
  refine jr_aload_n hE dX4_init_185 2 rfl ?_
  refine jr_get hE dX4_init_186 f87 (g251.old hs hne) hk ?_
  refine jr_putF (ty := .object RX2) hE dX4_init_189 f93 g249 rfl hinit rfl (by decide +kernel) rfl rfl (Nat.le_of_ble_eq_true rfl) (fun F252 g253 u254 => ?_)
  have g253 : jF L225 F252 o (.inr (4, [.int (0 : Int32), .int (0 : Int32), .ref q9, .ref sh, .ref si, .ref cu, .ref q27, .ref q38, .ref q56, .ref q74, .ref q92, .ref q110, .ref q128, .ref q146, .ref q164, .ref q182, .ref q200, .ref q218, .int (0 : Int32), .int (0 : Int32)])) := g253
  have g255 := g251.put u254
  refine jr_iconst (v := (0 : Int32)) hE dX4_init_192 (by decide) ?_
  refine jr_istore_n (lv' := [(3, .int (0 : Int32)), (0, .ref o), (1, .ref sh), (2, .ref si)]) hE dX4_init_193 (by decide) rfl ?_
  refine jr_iload_n hE dX4_init_194 0 rfl ?_
  refine jr_iconst (v := (4 : Int32)) hE dX4_init_195 (by decide) ?_
  refine jr_icmp_ge (tgt := 218) hE dX4_init_196 (by decide) (fun c256 => absurd c256 (by decide)) (fun c256 => ?_)
  refine jr_aload_n hE dX4_init_199 1 rfl ?_
  refine jr_get hE dX4_init_200 f28 g253 rfl ?_
  refine jr_iload_n hE dX4_init_203 0 rfl ?_
  refine jr_new (ci := 5) (fs := [.null, .null, .null, .int 0, .null, .null, .null, .int 0, .null, .null, .null]) hE dX4_init_204 rfl (by decide +kernel) (by decide +kernel) (by decide +kernel) (by decide +kernel) dfX5 ⟨by decide, by decide⟩ (fun q257 F258 n259 g260 u261 => ?_)
  have g262 := g255.new n259 g260 u261
  have g263 := g253.nw n259 u261
  refine jr_dup hE dX4_init_207 rfl ?_
  have e267 : jF (L225 ++ [q257]) F258 q257 (.inr (5, [.null, .null, .null, .int 0, .null, .null, .null, .int 0, .null, .null, .null])) := g262.at 29 (by decide)
  refine jr_callNv (n := 0) (As := []) (rest := [.ref q257, .int (0 : Int32), .ref q27]) hE dX4_init_208 (fun l => c_i5 l G q257) ggX4_init_X5_init (by decide +kernel) (by decide) (by decide +kernel) rfl rfl ⟨by decide, by decide, by decide +kernel⟩ ⟨rfl, rfl, by decide, by decide⟩ ⟨by decide, by decide⟩ rfl rfl (Nat.le_of_ble_eq_true rfl) (e267) (fun L264 F265 q266 => ?_)
  obtain ⟨B268, gB268, hB268⟩ := q266
  have g270 := g262.oC (k := 29) (by decide) gB268 g263
  have g269 := g262.call (k := 29) (by decide) gB268 hB268
  have e274 : jF L264 F265 q27 (.inl (G 6, 4, .inr (.inr (.inr (.inr (fun _ => none)))))) := g269.at 2 (by decide)
  have e275 : jF L264 F265 q257 (.inr (5, [.ref (B268 0), .ref (B268 2), .ref (B268 6), .int (0 : Int32), .ref (B268 8), .ref (B268 10), .ref (B268 12), .int (0 : Int32), .ref (B268 14), .ref (B268 16), .ref (B268 20)])) := g269.at 29 (by decide)
  refine jr_astq (C := RX5) hE dX4_init_211 e274 e275 rfl rfl (vp_lit (by decide)) (fun F271 g272 u273 => ?_)
  have g276 := g269.set 2 (by decide) g272.2 u273
  have g277 := g269.oS 2 (by decide) u273 g270
  refine jr_iinc (v := (1 : Int32)) (lv' := [(3, .int (1 : Int32)), (0, .ref o), (1, .ref sh), (2, .ref si)]) hE dX4_init_212 0 rfl (by decide) (by decide) rfl ?_
  refine jr_goto (tgt := 194) hE dX4_init_215 (by decide) ?_
  refine jr_iload_n hE dX4_init_194 0 rfl ?_
  refine jr_iconst (v := (4 : Int32)) hE dX4_init_195 (by decide) ?_
  refine jr_icmp_ge (tgt := 218) hE dX4_init_196 (by decide) (fun c278 => absurd c278 (by decide)) (fun c278 => ?_)
  refine jr_aload_n hE dX4_init_199 1 rfl ?_
  refine jr_get hE dX4_init_200 f28 g277 rfl ?_
  refine jr_iload_n hE dX4_init_203 0 rfl ?_
  refine jr_new (ci := 5) (fs := [.null, .null, .null, .int 0, .null, .null, .null, .int 0, .null, .null, .null]) hE dX4_init_204 rfl (by decide +kernel) (by decide +kernel) (by decide +kernel) (by decide +kernel) dfX5 ⟨by decide, by decide⟩ (fun q279 F280 n281 g282 u283 => ?_)
  have g284 := g276.new n281 g282 u283
  have g285 := g277.nw n281 u283
  refine jr_dup hE dX4_init_207 rfl ?_
  have e289 : jF (L264 ++ [q279]) F280 q279 (.inr (5, [.null, .null, .null, .int 0, .null, .null, .null, .int 0, .null, .null, .null])) := g284.at 54 (by decide)
  refine jr_callNv (n := 0) (As := []) (rest := [.ref q279, .int (1 : Int32), .ref q27]) hE dX4_init_208 (fun l => c_i5 l G q279) ggX4_init_X5_init (by decide +kernel) (by decide) (by decide +kernel) rfl rfl ⟨by decide, by decide, by decide +kernel⟩ ⟨rfl, rfl, by decide, by decide⟩ ⟨by decide, by decide⟩ rfl rfl (Nat.le_of_ble_eq_true rfl) (e289) (fun L286 F287 q288 => ?_)
  obtain ⟨B290, gB290, hB290⟩ := q288
  have g292 := g284.oC (k := 54) (by decide) gB290 g285
  have g291 := g284.call (k := 54) (by decide) gB290 hB290
  have e296 : jF L286 F287 q27 (.inl (G 6, 4, .inr (.inr (.inr (.inr (va_up (fun _ => none) 0 (some q257))))))) := g291.at 2 (by decide)
  have e297 : jF L286 F287 q279 (.inr (5, [.ref (B290 0), .ref (B290 2), .ref (B290 6), .int (0 : Int32), .ref (B290 8), .ref (B290 10), .ref (B290 12), .int (0 : Int32), .ref (B290 14), .ref (B290 16), .ref (B290 20)])) := g291.at 54 (by decide)
  refine jr_astq (C := RX5) hE dX4_init_211 e296 e297 rfl rfl (vp_lit (by decide)) (fun F293 g294 u295 => ?_)
  have g298 := g291.set 2 (by decide) g294.2 u295
  have g299 := g291.oS 2 (by decide) u295 g292
  refine jr_iinc (v := (2 : Int32)) (lv' := [(3, .int (2 : Int32)), (0, .ref o), (1, .ref sh), (2, .ref si)]) hE dX4_init_212 0 rfl (by decide) (by decide) rfl ?_
  refine jr_goto (tgt := 194) hE dX4_init_215 (by decide) ?_
  refine jr_iload_n hE dX4_init_194 0 rfl ?_
  refine jr_iconst (v := (4 : Int32)) hE dX4_init_195 (by decide) ?_
  refine jr_icmp_ge (tgt := 218) hE dX4_init_196 (by decide) (fun c300 => absurd c300 (by decide)) (fun c300 => ?_)
  refine jr_aload_n hE dX4_init_199 1 rfl ?_
  refine jr_get hE dX4_init_200 f28 g299 rfl ?_
  refine jr_iload_n hE dX4_init_203 0 rfl ?_
  refine jr_new (ci := 5) (fs := [.null, .null, .null, .int 0, .null, .null, .null, .int 0, .null, .null, .null]) hE dX4_init_204 rfl (by decide +kernel) (by decide +kernel) (by decide +kernel) (by decide +kernel) dfX5 ⟨by decide, by decide⟩ (fun q301 F302 n303 g304 u305 => ?_)
  have g306 := g298.new n303 g304 u305
  have g307 := g299.nw n303 u305
  refine jr_dup hE dX4_init_207 rfl ?_
  have e311 : jF (L286 ++ [q301]) F302 q301 (.inr (5, [.null, .null, .null, .int 0, .null, .null, .null, .int 0, .null, .null, .null])) := g306.at 79 (by decide)
  refine jr_callNv (n := 0) (As := []) (rest := [.ref q301, .int (2 : Int32), .ref q27]) hE dX4_init_208 (fun l => c_i5 l G q301) ggX4_init_X5_init (by decide +kernel) (by decide) (by decide +kernel) rfl rfl ⟨by decide, by decide, by decide +kernel⟩ ⟨rfl, rfl, by decide, by decide⟩ ⟨by decide, by decide⟩ rfl rfl (Nat.le_of_ble_eq_true rfl) (e311) (fun L308 F309 q310 => ?_)
  obtain ⟨B312, gB312, hB312⟩ := q310
  have g314 := g306.oC (k := 79) (by decide) gB312 g307
  have g313 := g306.call (k := 79) (by decide) gB312 hB312
  have e318 : jF L308 F309 q27 (.inl (G 6, 4, .inr (.inr (.inr (.inr (va_up (va_up (fun _ => none) 0 (some q257)) 1 (some q279))))))) := g313.at 2 (by decide)
  have e319 : jF L308 F309 q301 (.inr (5, [.ref (B312 0), .ref (B312 2), .ref (B312 6), .int (0 : Int32), .ref (B312 8), .ref (B312 10), .ref (B312 12), .int (0 : Int32), .ref (B312 14), .ref (B312 16), .ref (B312 20)])) := g313.at 79 (by decide)
  refine jr_astq (C := RX5) hE dX4_init_211 e318 e319 rfl rfl (vp_lit (by decide)) (fun F315 g316 u317 => ?_)
  have g320 := g313.set 2 (by decide) g316.2 u317
  have g321 := g313.oS 2 (by decide) u317 g314
  refine jr_iinc (v := (3 : Int32)) (lv' := [(3, .int (3 : Int32)), (0, .ref o), (1, .ref sh), (2, .ref si)]) hE dX4_init_212 0 rfl (by decide) (by decide) rfl ?_
  refine jr_goto (tgt := 194) hE dX4_init_215 (by decide) ?_
  refine jr_iload_n hE dX4_init_194 0 rfl ?_
  refine jr_iconst (v := (4 : Int32)) hE dX4_init_195 (by decide) ?_
  refine jr_icmp_ge (tgt := 218) hE dX4_init_196 (by decide) (fun c322 => absurd c322 (by decide)) (fun c322 => ?_)
  refine jr_aload_n hE dX4_init_199 1 rfl ?_
  refine jr_get hE dX4_init_200 f28 g321 rfl ?_
  refine jr_iload_n hE dX4_init_203 0 rfl ?_
  refine jr_new (ci := 5) (fs := [.null, .null, .null, .int 0, .null, .null, .null, .int 0, .null, .null, .null]) hE dX4_init_204 rfl (by decide +kernel) (by decide +kernel) (by decide +kernel) (by decide +kernel) dfX5 ⟨by decide, by decide⟩ (fun q323 F324 n325 g326 u327 => ?_)
  have g328 := g320.new n325 g326 u327
  have g329 := g321.nw n325 u327
  refine jr_dup hE dX4_init_207 rfl ?_
  have e333 : jF (L308 ++ [q323]) F324 q323 (.inr (5, [.null, .null, .null, .int 0, .null, .null, .null, .int 0, .null, .null, .null])) := g328.at 104 (by decide)
  refine jr_callNv (n := 0) (As := []) (rest := [.ref q323, .int (3 : Int32), .ref q27]) hE dX4_init_208 (fun l => c_i5 l G q323) ggX4_init_X5_init (by decide +kernel) (by decide) (by decide +kernel) rfl rfl ⟨by decide, by decide, by decide +kernel⟩ ⟨rfl, rfl, by decide, by decide⟩ ⟨by decide, by decide⟩ rfl rfl (Nat.le_of_ble_eq_true rfl) (e333) (fun L330 F331 q332 => ?_)
  obtain ⟨B334, gB334, hB334⟩ := q332
  have g336 := g328.oC (k := 104) (by decide) gB334 g329
  have g335 := g328.call (k := 104) (by decide) gB334 hB334
  have e340 : jF L330 F331 q27 (.inl (G 6, 4, .inr (.inr (.inr (.inr (va_up (va_up (va_up (fun _ => none) 0 (some q257)) 1 (some q279)) 2 (some q301))))))) := g335.at 2 (by decide)
  have e341 : jF L330 F331 q323 (.inr (5, [.ref (B334 0), .ref (B334 2), .ref (B334 6), .int (0 : Int32), .ref (B334 8), .ref (B334 10), .ref (B334 12), .int (0 : Int32), .ref (B334 14), .ref (B334 16), .ref (B334 20)])) := g335.at 104 (by decide)
  refine jr_astq (C := RX5) hE dX4_init_211 e340 e341 rfl rfl (vp_lit (by decide)) (fun F337 g338 u339 => ?_)
  have g342 := g335.set 2 (by decide) g338.2 u339
  have g343 := g335.oS 2 (by decide) u339 g336
  refine jr_iinc (v := (4 : Int32)) (lv' := [(3, .int (4 : Int32)), (0, .ref o), (1, .ref sh), (2, .ref si)]) hE dX4_init_212 0 rfl (by decide) (by decide) rfl ?_
  refine jr_goto (tgt := 194) hE dX4_init_215 (by decide) ?_
  refine jr_iload_n hE dX4_init_194 0 rfl ?_
  refine jr_iconst (v := (4 : Int32)) hE dX4_init_195 (by decide) ?_
  refine jr_icmp_ge (tgt := 218) hE dX4_init_196 (by decide) (fun c344 => ?_) (fun c344 => absurd (by decide) c344)
  exact hR L330 F337 _ _ dX4_init_218 ⟨_, g342.fin (fls (fls (fls (fls (fls (fls (fls (fls (fls (fls (fls (fls (fls (fls (fls (fls (fls (fls (fls (fls (fls (fls (fls (fls (fls (fls (fls (fls (fls (fls (fls (fls (fls (fls (fls (fls (fls (fls (fls (fls (fls (fls (fls (fls (fls (fls (fls (fls (fls (fls (fls (fls (fls (fls (fls (fls (fls (fls (fls (fls (fls (fls (fls (fls (fls (fls (fls (fls (fls (fls (fls (fls (fls (fls (fls (fls (fls (fls (fls (fls (fls (fls (fls (fls (fls (fls (fls (fls (fls (fls (fls (fls (fls (fls (fls (fls (fls (fls (fls (fls (fls (fls (fls (fls (fls (fls (fls (fls (fls (fls (fls (fls (fls (fls (fls (fls (fls (fls (fls (fls (fls (fls (fls (fls (fls (fls (fls (fls (fls fls0 rfl) rfl) rfl) rfl) rfl) rfl) rfl) rfl) rfl) rfl) rfl) rfl) rfl) rfl) rfl) rfl) rfl) rfl) rfl) rfl) rfl) rfl) rfl) rfl) rfl) rfl) rfl) rfl) rfl) rfl) rfl) rfl) rfl) rfl) rfl) rfl) rfl) rfl) rfl) rfl) rfl) rfl) rfl) rfl) rfl) rfl) rfl) rfl) rfl) rfl) rfl) rfl) rfl) rfl) rfl) rfl) rfl) rfl) rfl) rfl) rfl) rfl) rfl) rfl) rfl) rfl) rfl) rfl) rfl) rfl) rfl) rfl) rfl) rfl) rfl) rfl) rfl) rfl) rfl) rfl) rfl) rfl) rfl) rfl) rfl) rfl) rfl) rfl) rfl) rfl) rfl) rfl) rfl) rfl) rfl) rfl) rfl) rfl) rfl) rfl) rfl) rfl) rfl) rfl) rfl) rfl) rfl) rfl) rfl) rfl) rfl) rfl) rfl) rfl) rfl) rfl) rfl) rfl) rfl) rfl) rfl) rfl) rfl) rfl) rfl) rfl) rfl) rfl) rfl), g343.2⟩

