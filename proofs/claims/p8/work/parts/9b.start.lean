/-! THE START: the classes, the array classes, the static arrays, the tags' texts -/
theorem tw {w : Cond} (j k : Nat) (h : (tbp j)[k]? = some w) : w ∈ lw_tbl := tbp_in j w (List.mem_of_getElem? h)
theorem sfl0 {P : Nat → Prop} : ∀ i, i < 0 → P i := fun i h => absurd h (Nat.not_lt_zero i)
theorem sfl {P : Nat → Prop} {n : Nat} (h : ∀ i, i < n → P i) (hn : P n) : ∀ i, i < n + 1 → P i := fun i hi => if e : i < n then h i e else (show i = n by omega) ▸ hn
set_option maxRecDepth 100000 in
theorem st_K {s : State} {b : Nat} (hts : ∀ w ∈ lw_tbl, w.before #[Value.ref b] s = true) : ∃ D : va_G, ∀ (k : Nat) (q : vw_C), vwCl[k]? = some q → u_Kn s q.1 q.2.1 q.2.2 (D.1 k) (D.2 k) := by
  obtain ⟨c0, i0, h0⟩ := u_known (C := RX0) (T := TX0) (N := 2) (n := 2) hts wsX00_in (hts (.instantiable RX0 2) (tw 1 29 rfl))
  obtain ⟨c1, i1, h1⟩ := u_known (C := RX1) (T := TX1) (N := 9) (n := 9) hts wsX10_in (hts (.instantiable RX1 9) (tw 1 86 rfl))
  obtain ⟨c2, i2, h2⟩ := u_known (C := RX2) (T := TX2) (N := 9) (n := 9) hts wsX20_in (hts (.instantiable RX2 9) (tw 1 74 rfl))
  obtain ⟨c3, i3, h3⟩ := u_known (C := RX3) (T := TX3) (N := 7) (n := 7) hts wsX30_in (hts (.instantiable RX3 7) (tw 2 181 rfl))
  obtain ⟨c4, i4, h4⟩ := u_known (C := RX4) (T := TX4) (N := 20) (n := 20) hts wsX40_in (hts (.instantiable RX4 20) (tw 2 46 rfl))
  obtain ⟨c5, i5, h5⟩ := u_known (C := RX5) (T := TX5) (N := 11) (n := 11) hts wsX50_in (hts (.instantiable RX5 11) (tw 2 59 rfl))
  obtain ⟨c6, i6, h6⟩ := u_known (C := RX6) (T := TX6) (N := 4) (n := 4) hts wsX60_in (hts (.instantiable RX6 4) (tw 1 80 rfl))
  obtain ⟨c7, i7, h7⟩ := u_known (C := RX7) (T := TX7) (N := 6) (n := 6) hts wsX70_in (hts (.instantiable RX7 6) (tw 1 144 rfl))
  obtain ⟨c8, i8, h8⟩ := u_known (C := RX8) (T := TX8) (N := 1) (n := 1) hts wsX80_in (hts (.instantiable RX8 1) (tw 1 224 rfl))
  obtain ⟨c9, i9, h9⟩ := u_known (C := RX9) (T := TX9) (N := 4) (n := 4) hts wsX90_in (hts (.instantiable RX9 4) (tw 1 50 rfl))
  obtain ⟨c10, i10, h10⟩ := u_known (C := RX10) (T := TX10) (N := 13) (n := 13) hts wsX100_in (hts (.instantiable RX10 13) (tw 1 72 rfl))
  obtain ⟨c11, i11, h11⟩ := u_known (C := RX11) (T := TX11) (N := 8) (n := 8) hts wsX110_in (hts (.instantiable RX11 8) (tw 1 20 rfl))
  obtain ⟨c12, i12, h12⟩ := u_known (C := RX12) (T := TX12) (N := 81) (n := 81) hts wsX120_in (hts (.instantiable RX12 81) (tw 5 149 rfl))
  refine ⟨(fun k => [c0, c1, c2, c3, c4, c5, c6, c7, c8, c9, c10, c11, c12].getD k c0, fun k => [i0, i1, i2, i3, i4, i5, i6, i7, i8, i9, i10, i11, i12].getD k i0), fun k q hq => ?_⟩
  match k, hq with
  | 0, hq => cases hq; exact h0
  | 1, hq => cases hq; exact h1
  | 2, hq => cases hq; exact h2
  | 3, hq => cases hq; exact h3
  | 4, hq => cases hq; exact h4
  | 5, hq => cases hq; exact h5
  | 6, hq => cases hq; exact h6
  | 7, hq => cases hq; exact h7
  | 8, hq => cases hq; exact h8
  | 9, hq => cases hq; exact h9
  | 10, hq => cases hq; exact h10
  | 11, hq => cases hq; exact h11
  | 12, hq => cases hq; exact h12
  | k + 13, hq => exact absurd hq (by simp [vwCl])
set_option maxRecDepth 100000 in
theorem st_A {s : State} {b : Nat} (hts : ∀ w ∈ lw_tbl, w.before #[Value.ref b] s = true) : ∃ a0 a1 a2 a3 a4 a5 a6 a7 : ClassId, (ArrOfT s a0 .byte ∧ va_RA s a0 .byte) ∧ (ArrOfT s a1 .int ∧ va_RA s a1 .int) ∧ (ArrOfT s a2 .long ∧ va_RA s a2 .long) ∧ (ArrOfT s a3 .boolean ∧ va_RA s a3 .boolean) ∧ (ArrOfT s a4 (.object RX0) ∧ va_RA s a4 (.object RX0)) ∧ (ArrOfT s a5 (.object RX3) ∧ va_RA s a5 (.object RX3)) ∧ (ArrOfT s a6 (.object RX5) ∧ va_RA s a6 (.object RX5)) ∧ (ArrOfT s a7 (.object RX6) ∧ va_RA s a7 (.object RX6)) := by
  obtain ⟨c0, k0, p0, x0, y0, z0⟩ := Cond.arrayClass_spec (hts (.arrayClass .byte) (tw 1 48 rfl))
  obtain ⟨c1, k1, p1, x1, y1, z1⟩ := Cond.arrayClass_spec (hts (.arrayClass .int) (tw 1 70 rfl))
  obtain ⟨c2, k2, p2, x2, y2, z2⟩ := Cond.arrayClass_spec (hts (.arrayClass .long) (tw 1 233 rfl))
  obtain ⟨c3, k3, p3, x3, y3, z3⟩ := Cond.arrayClass_spec (hts (.arrayClass .boolean) (tw 7 14 rfl))
  obtain ⟨p4, c4, k4, w4, _, y4, z4, x4⟩ := Cond.arrayOver_spec (hts (.arrayOver (.object RX0)) (tw 1 28 rfl))
  obtain ⟨p5, c5, k5, w5, _, y5, z5, x5⟩ := Cond.arrayOver_spec (hts (.arrayOver (.object RX3)) (tw 2 180 rfl))
  obtain ⟨p6, c6, k6, w6, _, y6, z6, x6⟩ := Cond.arrayOver_spec (hts (.arrayOver (.object RX5)) (tw 2 54 rfl))
  obtain ⟨p7, c7, k7, w7, _, y7, z7, x7⟩ := Cond.arrayOver_spec (hts (.arrayOver (.object RX6)) (tw 1 142 rfl))
  exact ⟨c0, c1, c2, c3, c4, c5, c6, c7, ⟨fun n z => ⟨fun k h => (by cases h), k0, y0, p0, z0⟩, x0⟩, ⟨fun n z => ⟨fun k h => (by cases h), k1, y1, p1, z1⟩, x1⟩, ⟨fun n z => ⟨fun k h => (by cases h), k2, y2, p2, z2⟩, x2⟩, ⟨fun n z => ⟨fun k h => (by cases h), k3, y3, p3, z3⟩, x3⟩, ⟨fun n z => ⟨fun k h => (by cases h), k4, y4, p4, z4⟩, k4, p4, y4, z4, w4, x4⟩, ⟨fun n z => ⟨fun k h => (by cases h), k5, y5, p5, z5⟩, k5, p5, y5, z5, w5, x5⟩, ⟨fun n z => ⟨fun k h => (by cases h), k6, y6, p6, z6⟩, k6, p6, y6, z6, w6, x6⟩, ⟨fun n z => ⟨fun k h => (by cases h), k7, y7, p7, z7⟩, k7, p7, y7, z7, w7, x7⟩⟩
theorem am_jSTART : ∀ j, j < 8 → Cond.eq (.elem (.static RX9 "START" "[I") (.int (Int32.ofNat j))) (.int (jSTART.getD j 0)) ∈ flatC (Jvm.Cond.and given_1 narrow_1) := by decide +kernel
theorem an_jSTART : Cond.arrayOf (.static RX9 "START" "[I") .int ∈ flatC (Jvm.Cond.and given_1 narrow_1) ∧ Cond.eq (.length (.static RX9 "START" "[I")) (.int (Int32.ofNat 8)) ∈ flatC (Jvm.Cond.and given_1 narrow_1) := by decide +kernel
theorem st_jSTART {s : State} {b : Nat} (hts : ∀ w ∈ lw_tbl, w.before #[Value.ref b] s = true) (hgv : (Jvm.Cond.and given_1 narrow_1).before #[Value.ref b] s = true) {A : Nat → Prop} (hA : ∀ a : Nat, a < s.heap.size → ¬ A a) : ∃ t : Nat, va_Z RX9 "START" "[I" (.ref t) A s s.heap ∧ va_T .int t 8 (fun j => .int (jSTART.getD j 0)) A s s.heap := by
  have hs := flat_of_before _ hgv
  obtain ⟨t, h1, h2⟩ := va_Tof (tm := .static RX9 "START" "[I") (ty := .int) (N := 8) (f := fun j => .int (jSTART.getD j 0)) (by decide) (hs _ an_jSTART.1) (va_eqt (hs _ an_jSTART.2)) (fun j hj => va_eqt (hs _ (am_jSTART j hj))) hA
  exact ⟨t, va_Zref (hts (.laysStatic RX9 "START" "[I") (tw 3 92 rfl)) (hts (.initialized RX9) (tw 1 4 rfl)) h1 hA, h2⟩
theorem am_jROUND : ∀ j, j < 64 → Cond.eq (.elem (.static RX9 "ROUND" "[I") (.int (Int32.ofNat j))) (.int (jROUND.getD j 0)) ∈ flatC (Jvm.Cond.and given_1 narrow_1) := by decide +kernel
theorem an_jROUND : Cond.arrayOf (.static RX9 "ROUND" "[I") .int ∈ flatC (Jvm.Cond.and given_1 narrow_1) ∧ Cond.eq (.length (.static RX9 "ROUND" "[I")) (.int (Int32.ofNat 64)) ∈ flatC (Jvm.Cond.and given_1 narrow_1) := by decide +kernel
theorem st_jROUND {s : State} {b : Nat} (hts : ∀ w ∈ lw_tbl, w.before #[Value.ref b] s = true) (hgv : (Jvm.Cond.and given_1 narrow_1).before #[Value.ref b] s = true) {A : Nat → Prop} (hA : ∀ a : Nat, a < s.heap.size → ¬ A a) : ∃ t : Nat, va_Z RX9 "ROUND" "[I" (.ref t) A s s.heap ∧ va_T .int t 64 (fun j => .int (jROUND.getD j 0)) A s s.heap := by
  have hs := flat_of_before _ hgv
  obtain ⟨t, h1, h2⟩ := va_Tof (tm := .static RX9 "ROUND" "[I") (ty := .int) (N := 64) (f := fun j => .int (jROUND.getD j 0)) (by decide) (hs _ an_jROUND.1) (va_eqt (hs _ an_jROUND.2)) (fun j hj => va_eqt (hs _ (am_jROUND j hj))) hA
  exact ⟨t, va_Zref (hts (.laysStatic RX9 "ROUND" "[I") (tw 3 163 rfl)) (hts (.initialized RX9) (tw 1 4 rfl)) h1 hA, h2⟩
theorem am_jNN : ∀ j, j < 8 → Cond.eq (.elem (.static RX8 "N" "[J") (.int (Int32.ofNat j))) (.long (jNN.getD j 0)) ∈ flatC (Jvm.Cond.and given_1 narrow_1) := by decide +kernel
theorem an_jNN : Cond.arrayOf (.static RX8 "N" "[J") .long ∈ flatC (Jvm.Cond.and given_1 narrow_1) ∧ Cond.eq (.length (.static RX8 "N" "[J")) (.int (Int32.ofNat 8)) ∈ flatC (Jvm.Cond.and given_1 narrow_1) := by decide +kernel
theorem st_jNN {s : State} {b : Nat} (hts : ∀ w ∈ lw_tbl, w.before #[Value.ref b] s = true) (hgv : (Jvm.Cond.and given_1 narrow_1).before #[Value.ref b] s = true) {A : Nat → Prop} (hA : ∀ a : Nat, a < s.heap.size → ¬ A a) : ∃ t : Nat, va_Z RX8 "N" "[J" (.ref t) A s s.heap ∧ va_T .long t 8 (fun j => .long (jNN.getD j 0)) A s s.heap := by
  have hs := flat_of_before _ hgv
  obtain ⟨t, h1, h2⟩ := va_Tof (tm := .static RX8 "N" "[J") (ty := .long) (N := 8) (f := fun j => .long (jNN.getD j 0)) (by decide) (hs _ an_jNN.1) (va_eqt (hs _ an_jNN.2)) (fun j hj => va_eqtl (hs _ (am_jNN j hj))) hA
  exact ⟨t, va_Zref (hts (.laysStatic RX8 "N" "[J") (tw 3 200 rfl)) (hts (.initialized RX8) (tw 1 10 rfl)) h1 hA, h2⟩
theorem am_jGAP : ∀ j, j < 5 → Cond.eq (.elem (.static RX8 "GAP" "[J") (.int (Int32.ofNat j))) (.long (jGAP.getD j 0)) ∈ flatC (Jvm.Cond.and given_1 narrow_1) := by decide +kernel
theorem an_jGAP : Cond.arrayOf (.static RX8 "GAP" "[J") .long ∈ flatC (Jvm.Cond.and given_1 narrow_1) ∧ Cond.eq (.length (.static RX8 "GAP" "[J")) (.int (Int32.ofNat 5)) ∈ flatC (Jvm.Cond.and given_1 narrow_1) := by decide +kernel
theorem st_jGAP {s : State} {b : Nat} (hts : ∀ w ∈ lw_tbl, w.before #[Value.ref b] s = true) (hgv : (Jvm.Cond.and given_1 narrow_1).before #[Value.ref b] s = true) {A : Nat → Prop} (hA : ∀ a : Nat, a < s.heap.size → ¬ A a) : ∃ t : Nat, va_Z RX8 "GAP" "[J" (.ref t) A s s.heap ∧ va_T .long t 5 (fun j => .long (jGAP.getD j 0)) A s s.heap := by
  have hs := flat_of_before _ hgv
  obtain ⟨t, h1, h2⟩ := va_Tof (tm := .static RX8 "GAP" "[J") (ty := .long) (N := 5) (f := fun j => .long (jGAP.getD j 0)) (by decide) (hs _ an_jGAP.1) (va_eqt (hs _ an_jGAP.2)) (fun j hj => va_eqtl (hs _ (am_jGAP j hj))) hA
  exact ⟨t, va_Zref (hts (.laysStatic RX8 "GAP" "[J") (tw 4 101 rfl)) (hts (.initialized RX8) (tw 1 10 rfl)) h1 hA, h2⟩
theorem as_1 : ∀ i, i < 9 → Cond.exactly (Term.string RX9 (29 + 2 * i)) "java/lang/String" ∈ flatC (Jvm.Cond.and given_1 narrow_1) ∧ Cond.eq (.field (Term.string RX9 (29 + 2 * i)) "java/lang/String" "coder" "B") (.int 0) ∈ flatC (Jvm.Cond.and given_1 narrow_1) ∧ Cond.arrayOf (.field (Term.string RX9 (29 + 2 * i)) "java/lang/String" "value" "[B") .byte ∈ flatC (Jvm.Cond.and given_1 narrow_1) ∧ Cond.eq (.length (.field (Term.string RX9 (29 + 2 * i)) "java/lang/String" "value" "[B")) (.int (Int32.ofNat (jTn.getD i 0))) ∈ flatC (Jvm.Cond.and given_1 narrow_1) := by decide +kernel
theorem as_2_0 : ∀ j, j < 11 → Cond.eq (.elem (.field (Term.string RX9 (29 + 2 * 0)) "java/lang/String" "value" "[B") (.int (Int32.ofNat j))) (.int ((jTb.getD 0 []).getD j 0)) ∈ flatC (Jvm.Cond.and given_1 narrow_1) := by decide +kernel
theorem as_2_1 : ∀ j, j < 13 → Cond.eq (.elem (.field (Term.string RX9 (29 + 2 * 1)) "java/lang/String" "value" "[B") (.int (Int32.ofNat j))) (.int ((jTb.getD 1 []).getD j 0)) ∈ flatC (Jvm.Cond.and given_1 narrow_1) := by decide +kernel
theorem as_2_2 : ∀ j, j < 17 → Cond.eq (.elem (.field (Term.string RX9 (29 + 2 * 2)) "java/lang/String" "value" "[B") (.int (Int32.ofNat j))) (.int ((jTb.getD 2 []).getD j 0)) ∈ flatC (Jvm.Cond.and given_1 narrow_1) := by decide +kernel
theorem as_2_3 : ∀ j, j < 11 → Cond.eq (.elem (.field (Term.string RX9 (29 + 2 * 3)) "java/lang/String" "value" "[B") (.int (Int32.ofNat j))) (.int ((jTb.getD 3 []).getD j 0)) ∈ flatC (Jvm.Cond.and given_1 narrow_1) := by decide +kernel
theorem as_2_4 : ∀ j, j < 18 → Cond.eq (.elem (.field (Term.string RX9 (29 + 2 * 4)) "java/lang/String" "value" "[B") (.int (Int32.ofNat j))) (.int ((jTb.getD 4 []).getD j 0)) ∈ flatC (Jvm.Cond.and given_1 narrow_1) := by decide +kernel
theorem as_2_5 : ∀ j, j < 9 → Cond.eq (.elem (.field (Term.string RX9 (29 + 2 * 5)) "java/lang/String" "value" "[B") (.int (Int32.ofNat j))) (.int ((jTb.getD 5 []).getD j 0)) ∈ flatC (Jvm.Cond.and given_1 narrow_1) := by decide +kernel
theorem as_2_6 : ∀ j, j < 11 → Cond.eq (.elem (.field (Term.string RX9 (29 + 2 * 6)) "java/lang/String" "value" "[B") (.int (Int32.ofNat j))) (.int ((jTb.getD 6 []).getD j 0)) ∈ flatC (Jvm.Cond.and given_1 narrow_1) := by decide +kernel
theorem as_2_7 : ∀ j, j < 15 → Cond.eq (.elem (.field (Term.string RX9 (29 + 2 * 7)) "java/lang/String" "value" "[B") (.int (Int32.ofNat j))) (.int ((jTb.getD 7 []).getD j 0)) ∈ flatC (Jvm.Cond.and given_1 narrow_1) := by decide +kernel
theorem as_2_8 : ∀ j, j < 0 → Cond.eq (.elem (.field (Term.string RX9 (29 + 2 * 8)) "java/lang/String" "value" "[B") (.int (Int32.ofNat j))) (.int ((jTb.getD 8 []).getD j 0)) ∈ flatC (Jvm.Cond.and given_1 narrow_1) := by decide +kernel
theorem as_2 : ∀ i, i < 9 → ∀ j, j < jTn.getD i 0 → Cond.eq (.elem (.field (Term.string RX9 (29 + 2 * i)) "java/lang/String" "value" "[B") (.int (Int32.ofNat j))) (.int ((jTb.getD i []).getD j 0)) ∈ flatC (Jvm.Cond.and given_1 narrow_1) := (sfl (sfl (sfl (sfl (sfl (sfl (sfl (sfl (sfl sfl0 as_2_0) as_2_1) as_2_2) as_2_3) as_2_4) as_2_5) as_2_6) as_2_7) as_2_8)
theorem as_3 : ∀ i, i < 9 → ∀ j, j < 9 → i ≠ j → Cond.not (.eq (Term.string RX9 (29 + 2 * i)) (Term.string RX9 (29 + 2 * j))) ∈ flatC (Jvm.Cond.and given_1 narrow_1) ∨ Cond.not (.eq (Term.string RX9 (29 + 2 * j)) (Term.string RX9 (29 + 2 * i))) ∈ flatC (Jvm.Cond.and given_1 narrow_1) := by decide +kernel
theorem as_4 : ∀ i, i < 9 → jTn.getD i 0 < 2 ^ 31 := by decide +kernel
theorem st_S {s : State} {b : Nat} (hgv : (Jvm.Cond.and given_1 narrow_1).before #[Value.ref b] s = true) {A : Nat → Prop} (hA : ∀ a : Nat, a < s.heap.size → ¬ A a) : ∃ adK adV : Nat → Nat, vk_S 9 jTn jTb adK adV A s s.heap ∧ ∀ i : Nat, i < 9 → (Term.string RX9 (29 + 2 * i)).eval #[Value.ref b] s none [] s = some (.ref (adK i)) := by
  have hs := flat_of_before _ hgv
  exact vk_Sof (tm := fun i => (Term.string RX9 (29 + 2 * i))) as_4 (fun i hi => hs _ (as_1 i hi).1) (fun i hi => hs _ (as_1 i hi).2.1) (fun i hi => hs _ (as_1 i hi).2.2.1) (fun i hi => hs _ (as_1 i hi).2.2.2) (fun i hi j hj => hs _ (as_2 i hi j hj)) (fun i j hi hj h => (as_3 i hi j hj h).imp (fun q => hs _ q) (fun q => hs _ q)) hA
set_option maxRecDepth 100000 in
theorem st_R : ∀ i, i < 9 → Cond.stringRef RX9 (29 + 2 * i) (jTx.getD i "") ∈ lw_tbl := (sfl (sfl (sfl (sfl (sfl (sfl (sfl (sfl (sfl sfl0 (tw 3 96 rfl)) (tw 3 97 rfl)) (tw 3 98 rfl)) (tw 3 99 rfl)) (tw 3 100 rfl)) (tw 3 101 rfl)) (tw 3 102 rfl)) (tw 3 103 rfl)) (tw 3 104 rfl))
set_option maxRecDepth 100000 in
theorem st_N : ∀ x ∈ jNw, Cond.methodLinkNest x.1 x.2.1 x.2.2 RX11 ∈ lw_tbl := List.forall_mem_cons.mpr ⟨(tw 1 51 rfl), List.forall_mem_cons.mpr ⟨(tw 1 81 rfl), List.forall_mem_cons.mpr ⟨(tw 1 87 rfl), List.forall_mem_cons.mpr ⟨(tw 1 145 rfl), List.forall_mem_cons.mpr ⟨(tw 1 150 rfl), List.forall_mem_cons.mpr ⟨(tw 1 171 rfl), List.forall_mem_cons.mpr ⟨(tw 1 225 rfl), List.forall_mem_cons.mpr ⟨(tw 1 237 rfl), List.forall_mem_cons.mpr ⟨(tw 1 239 rfl), List.forall_mem_cons.mpr ⟨(tw 2 56 rfl), List.forall_mem_cons.mpr ⟨(tw 2 58 rfl), List.forall_mem_cons.mpr ⟨(tw 2 60 rfl), List.forall_mem_cons.mpr ⟨(tw 2 67 rfl), List.forall_mem_cons.mpr ⟨(tw 2 69 rfl), List.forall_mem_cons.mpr ⟨(tw 2 182 rfl), List.forall_mem_cons.mpr ⟨(tw 2 189 rfl), List.forall_mem_cons.mpr ⟨(tw 2 191 rfl), (fun _ h => absurd h List.not_mem_nil)⟩⟩⟩⟩⟩⟩⟩⟩⟩⟩⟩⟩⟩⟩⟩⟩⟩
set_option maxRecDepth 100000 in
theorem st_Q : ∀ C ∈ [RX0, RX3, RX5, RX6], Cond.arrayOver (.object C) ∈ lw_tbl := List.forall_mem_cons.mpr ⟨(tw 1 28 rfl), List.forall_mem_cons.mpr ⟨(tw 2 180 rfl), List.forall_mem_cons.mpr ⟨(tw 2 54 rfl), List.forall_mem_cons.mpr ⟨(tw 1 142 rfl), (fun _ h => absurd h List.not_mem_nil)⟩⟩⟩⟩
theorem as_5 : Cond.eq (.static "java/lang/String" "COMPACT_STRINGS" "Z") (.int 1) ∈ flatC (Jvm.Cond.and given_1 narrow_1) ∧ Cond.isRef (.static "jdk/internal/util/Preconditions" "SIOOBE_FORMATTER" "Ljava/util/function/BiFunction;") ∈ flatC (Jvm.Cond.and given_1 narrow_1) := by decide +kernel
set_option maxRecDepth 100000 in
theorem st_all {s : State} {b : Nat} (hts : ∀ w ∈ lw_tbl, w.before #[Value.ref b] s = true) (hgv : (Jvm.Cond.and given_1 narrow_1).before #[Value.ref b] s = true) : ∃ (D : va_G) (G : Nat → ClassId), va_K D vwCl (jty G) s ∧ jSt (jT G) (fun q => s.heap.size ≤ q) s s.heap := by
  have hA : ∀ a : Nat, a < s.heap.size → ¬ (fun q => s.heap.size ≤ q) a := fun a h => Nat.not_le.mpr h
  have hs := flat_of_before _ hgv
  obtain ⟨D, hD⟩ := st_K hts
  obtain ⟨a0, a1, a2, a3, a4, a5, a6, a7, r0, r1, r2, r3, r4, r5, r6, r7⟩ := st_A hts
  obtain ⟨t0, u0, v0⟩ := st_jSTART hts hgv hA
  obtain ⟨t1, u1, v1⟩ := st_jROUND hts hgv hA
  obtain ⟨t2, u2, v2⟩ := st_jNN hts hgv hA
  obtain ⟨t3, u3, v3⟩ := st_jGAP hts hgv hA
  obtain ⟨adK, adV, hS, hE⟩ := st_S hgv hA
  obtain ⟨rf, hZ⟩ : ∃ rf : Option Nat, va_Z "jdk/internal/util/Preconditions" "SIOOBE_FORMATTER" "Ljava/util/function/BiFunction;" (va_rf rf) (fun q => s.heap.size ≤ q) s s.heap := by
    rcases va_Zqof (hts (.laysStatic "jdk/internal/util/Preconditions" "SIOOBE_FORMATTER" "Ljava/util/function/BiFunction;") (tw 3 130 rfl)) (hts (.initialized "jdk/internal/util/Preconditions") (tw 1 17 rfl)) (hs _ as_5.2) hA with h | ⟨t, h⟩
    · exact ⟨none, h⟩
    · exact ⟨some t, h⟩
  obtain ⟨G, eG⟩ : ∃ G : Nat → ClassId, G = fun k => if k < 100 then [a0, a1, a2, a3, a4, a5, a6, a7].getD k a0 else if k < 110 then [t0, t1, t2, t3].getD (k - 100) t0 else if k < 120 then adK (k - 110) else adV (k - 120) := ⟨_, rfl⟩
  have eK : ∀ i, i < 9 → jT G (10 + i) = adK i := fun i hi => by
    rw [eG]; unfold jT; dsimp only
    rw [if_neg (by omega), if_neg (by omega), if_pos (by omega)]
    congr 1; omega
  have eV : ∀ i, i < 9 → jT G (20 + i) = adV i := fun i hi => by
    rw [eG]; unfold jT; dsimp only
    rw [if_neg (by omega), if_neg (by omega), if_neg (by omega)]
    congr 1; omega
  have e0 : jT G 0 = t0 := by rw [eG]; rfl
  have e1 : jT G 1 = t1 := by rw [eG]; rfl
  have e2 : jT G 2 = t2 := by rw [eG]; rfl
  have e3 : jT G 3 = t3 := by rw [eG]; rfl
  have hS2 : vk_S 9 jTn jTb (fun i => jT G (10 + i)) (fun i => jT G (20 + i)) (fun q => s.heap.size ≤ q) s s.heap := ⟨fun i hi => by
    have h := hS.1 i hi
    rw [← eK i hi, ← eV i hi] at h
    exact h, fun i j hi hj e => hS.2 i j hi hj (by rw [← eK i hi, ← eK j hj]; exact e)⟩
  refine ⟨D, G, ⟨hD, fun k q hq => ?_⟩, e0 ▸ u0, e0 ▸ v0, e1 ▸ u1, e1 ▸ v1, e2 ▸ u2, e2 ▸ v2, e3 ▸ u3, e3 ▸ v3, va_Zof (hts (.laysStatic "java/lang/String" "COMPACT_STRINGS" "Z") (tw 3 114 rfl)) (hts (.initialized "java/lang/String") (tw 1 15 rfl)) (va_eqi (hs _ as_5.1)) hA, hS2, fun i hi => ?_, ⟨fun C hC => va_AO.of (hts _ (st_Q C hC)), fun x hx => va_tabs rfl rfl (hts _ (st_N x hx))⟩, rf, hZ⟩
  · rw [eG] at hq
    match k, hq with
    | 0, hq => cases hq; exact r0
    | 1, hq => cases hq; exact r1
    | 2, hq => cases hq; exact r2
    | 3, hq => cases hq; exact r3
    | 4, hq => cases hq; exact r4
    | 5, hq => cases hq; exact r5
    | 6, hq => cases hq; exact r6
    | 7, hq => cases hq; exact r7
    | k + 8, hq => exact absurd hq (by simp [jty])
  · rw [eK i hi]
    exact vk_R.of (hts _ (st_R i hi)) (hE i hi)
