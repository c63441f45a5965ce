/-! ROWS that make cells -/
theorem jr_objInit {E : jE} {G : Nat → ClassId} {rm : Room} {cc : ByteArray} {nL cs ss pc : Nat} {own : String} {Ts : List Cond} {L : List Nat} {F : Nat → va_E} {lv : List (Nat × Value)} {rest : List Value} {idx a : Nat} (hE : jOk E G rm cc nL own Ts) (hdg : decode cc pc = .ok (.invokespecial idx, 3)) (h1 : Cond.methodLink own idx Lib.objectInit ∈ Ts) (h2 : Cond.instanceMethod Lib.objectInit ∈ Ts) (h3 : Cond.code Lib.objectInit ⟨#[0xb1]⟩ 1 none ∈ Ts) (hr : 1 ≤ rm.frames ∧ 20 ≤ rm.locals) (hW : (rest.map fun v => v.category).sum ≤ 8) (k : J E L F cs ss (pc + 3) lv rest) : J E L F cs ss pc lv (.ref a :: rest) := by
  obtain ⟨p, l, e, R, s, m, args, below, meth, c, Q, D, A, nL0⟩ := E
  obtain ⟨rfl, rfl, hx, hb, hml, hown, hts, hK, hT, hA, hlk⟩ := hE
  intro H locs ls hP hD hS hl
  have hw := lv_room (m := m) (pc := pc) (ls := ls) (rest := .ref a :: rest) hW
  exact W.objInit hx hb hown (hts _ h1) (hts _ h2) (hts _ h3) rfl (hl.1.trans hml.symm) rfl hdg hr.1 (by omega) (k H locs ls hP hD hS hl)
theorem jpl_new {A : Nat → Prop} {L : List Nat} {F : Nat → va_E} {q : Nat} {c : va_E} (hD : va_D A (va_pl L F ++ [(q, c)])) : q ∉ L := by
  intro hq
  obtain ⟨k, hk⟩ := va_pl_get (X := []) (f := F) hq
  have hlt : k < (va_pl L F).length := (List.getElem?_eq_some_iff.mp hk).1
  have h1 : (va_pl L F ++ [(q, c)])[k]? = some (q, F q) := by rw [List.getElem?_append_left hlt]; exact hk
  have h2 : (va_pl L F ++ [(q, c)])[(va_pl L F).length]? = some (q, c) := by simp
  have := hD.1 k _ _ _ h1 h2 rfl
  omega
theorem jpl_push {L : List Nat} {F : Nat → va_E} {q : Nat} {c : va_E} (hq : q ∉ L) : va_pl L F ++ [(q, c)] = va_pl (L ++ [q]) (va_up F q c) := by
  have h := va_pl_push (f := F) (e := c) hq
  simpa using h
theorem jF.grow {L : List Nat} {F F1 : Nat → va_E} {a q : Nat} {c : va_E} (h : jF L F a c) (hq : q ∉ L) (hu : ∀ x, x ≠ q → F1 x = F x) : jF (L ++ [q]) F1 a c := ⟨List.mem_append_left _ h.1, (hu a (fun e => hq (e ▸ h.1))).trans h.2⟩
theorem jr_new {E : jE} {G : Nat → ClassId} {rm : Room} {cc : ByteArray} {nL cs ss pc : Nat} {own : String} {Ts : List Cond} {L : List Nat} {F : Nat → va_E} {lv : List (Nat × Value)} {rest : List Value} {index ci : Nat} {fs : List Value} (hE : jOk E G rm cc nL own Ts) (hdg : decode cc pc = .ok (.new index, 3)) (hc : vwCl[ci]? = some (jq ci)) (hin : ∀ w ∈ u_ws (jq ci).1 (jq ci).2.1 (jq ci).2.2, w ∈ Ts) (hcl : Cond.classLink own index (jq ci).1 ∈ Ts) (hinst : Cond.instantiable (jq ci).1 (jq ci).2.2 ∈ Ts) (hini : Cond.initialized (jq ci).1 ∈ Ts) (hfs : ∀ ty0 : Nat → FieldType, (∀ k, k < (jq ci).2.2 → parseFieldDescriptor ((jq ci).2.1 k).2.2.1 = some (ty0 k)) → ∀ j, j < (jq ci).2.2 → defaultValue (ty0 j) = vp_V fs j) (hcap : cs + 1 ≤ rm.cells ∧ ss + (jq ci).2.2 ≤ rm.slots)
    (k : ∀ (q : Nat) (F1 : Nat → va_E), q ∉ L → jF (L ++ [q]) F1 q (.inr (ci, fs)) → (∀ x, x ≠ q → F1 x = F x) → J E (L ++ [q]) F1 (cs + 1) (ss + (jq ci).2.2) (pc + 3) lv (.ref q :: rest)) : J E L F cs ss pc lv rest := by
  obtain ⟨p, l, e, R, s, m, args, below, meth, c, Q, D, A, nL0⟩ := E
  obtain ⟨rfl, rfl, hx, hb, hml, hown, hts, hK, hT, hA, hlk⟩ := hE
  obtain ⟨ty0, hty, hnm⟩ := jtab ci hc
  intro H locs ls hP hD hS hl
  refine va_new (ci := ci) (fs := fs) (C := (jq ci).1) (T := (jq ci).2.1) (N := (jq ci).2.2) hx hb hts hin ty0 hty hown (hts _ hcl) (hts _ hinst) (hts _ hini) hK hP hD hS hA hc (hfs ty0 hty) hcap.1 hcap.2 hdg (fun q H1 hP1 hD1 hS1 => ?_)
  have hq := jpl_new hD1
  rw [jpl_push hq] at hP1 hD1
  exact k q _ hq ⟨List.mem_append_right _ (List.mem_singleton.mpr rfl), va_up_self _ _ _⟩ (fun x hx => va_up_ne _ _ hx) H1 locs ls hP1 hD1 hS1 hl
theorem jK_id {G : Nat → ClassId} {D : va_G} {s : State} {cA : ClassId} {ty : FieldType} {g : Nat} (hK : va_K D vwCl (jty G) s) (hg : (jty G)[g]? = some (G g, ty)) (hp : ∀ C, ty ≠ .object C) (hK1 : va_K D vwCl (jty G ++ [(cA, ty)]) s) : cA = G g := by
  have h1 := (hK.2 g _ hg).2
  have h2 := (hK1.2 (jty G).length (cA, ty) (by simp)).2
  unfold va_RA at h1 h2
  cases ty with
  | object C => exact absurd rfl (hp C)
  | _ => exact Option.some.inj (h2.symm.trans h1)
theorem jr_newa {E : jE} {G : Nat → ClassId} {rm : Room} {cc : ByteArray} {nL cs ss pc : Nat} {own : String} {Ts : List Cond} {L : List Nat} {F : Nat → va_E} {lv : List (Nat × Value)} {rest : List Value} {atype : ArrayType} {ty : FieldType} {g N : Nat} {n : Int32} {a0 : vp_A} (hE : jOk E G rm cc nL own Ts) (hdg : decode cc pc = .ok (.newarray atype, 2)) (harr : Cond.arrayClass (newarray.typeOf atype) ∈ Ts) (hty : newarray.typeOf atype = ty) (hg : (jty G)[g]? = some (G g, ty)) (hp : ∀ C, ty ≠ .object C) (ha : ∀ cA : ClassId, vp_cell cA a0 = arrV cA N (fun _ => defaultValue ty)) (hn : ¬ n < 0) (hN : n.toNatClampNeg = N) (hbytes : N * componentBytes ty ≤ 536870912) (hcap : cs + 1 ≤ rm.cells ∧ ss + N ≤ rm.slots)
    (k : ∀ (q : Nat) (F1 : Nat → va_E), q ∉ L → jF (L ++ [q]) F1 q (.inl (G g, a0)) → (∀ x, x ≠ q → F1 x = F x) → J E (L ++ [q]) F1 (cs + 1) (ss + N) (pc + 2) lv (.ref q :: rest)) : J E L F cs ss pc lv (.int n :: rest) := by
  obtain ⟨p, l, e, R, s, m, args, below, meth, c, Q, D, A, nL0⟩ := E
  obtain ⟨rfl, rfl, hx, hb, hml, hown, hts, hK, hT, hA, hlk⟩ := hE
  intro H locs ls hP hD hS hl
  refine va_newa (a0 := a0) hx hb (hts _ harr) hty hK hP hD hS hA ha hn hN hbytes hcap.1 hcap.2 hdg (fun q cA H1 hK1 hP1 hD1 hS1 => ?_)
  have hid := jK_id hK hg hp hK1
  subst hid
  have hq := jpl_new hD1
  rw [jpl_push hq] at hP1 hD1
  exact k q _ hq ⟨List.mem_append_right _ (List.mem_singleton.mpr rfl), va_up_self _ _ _⟩ (fun x hx => va_up_ne _ _ hx) H1 locs ls hP1 hD1 hS1 hl

theorem jm_vI {l : Launch} {y : MethodName} {ws ws' : List Cond} {rm : Room} {mc ms : Nat} {G : Nat → ClassId} {av : List Value} {pre : List Nat → (Nat → va_E) → Prop} {po : List Nat → (Nat → va_E) → List Nat → (Nat → va_E) → Prop} {cc : ByteArray} {maxL : Nat} (hy : plainName y.cls = true) (hw : ws = Cond.code y cc maxL none :: ws') (hlen : (lg_sl av).length ≤ maxL) (hyn : y.name = "<init>")
    (body : ∀ (E : jE) (L : List Nat) (F : Nat → va_E), jOk E G rm cc maxL y.cls ws → jIn E → jRv E cc mc ms (po L F) → pre L F → J E L F 0 0 0 (lv_args 0 av) []) : jCv l y ws rm mc ms G av pre po := by
  intro D L F sz hpre
  refine Met.ofW (cc := cc) (maxL := maxL) (ret := none) hy hw ?_
  intro p e s m args below meth c s₁ B hml hv
  obtain ⟨rfl, hsz, hP, hK, hT, hD0⟩ := hv
  have hx := B.exec
  have hb := B.bytes
  have hr := B.returns
  have hts := atoms_spec (ws := ws) B.pre
  have hown : s.vm.findClass y.cls = some m.cls := findClass_of_methodNamed B.named
  have hlocks := B.notSynchronized
  have hin : meth.name = "<init>" := by rw [← hyn]; exact (name_of_methodNamed B.named B.method).1
  subst hsz
  have hD : va_D (jX L s.heap.size) (va_pl L F) := jD_to hD0 (fun a ha => Or.inl ha)
  rw [lg_entry_eq]
  have hl := lv_entry av (n := maxL) hlen
  exact body (p, l, e, (headSpec ws rm).room, s, m, av.toArray, below, meth, c, MQ below (va_Qv (S := List Nat × (Nat → va_E)) (fun u => po L F u.1 u.2) (jB D L s.heap.size) (jX L s.heap.size)) av.toArray s mc ms (jX L s.heap.size), D, jX L s.heap.size, maxL) L F
    ⟨rfl, rfl, hx, hb, hml, hown, hts, hK, hT, (fun q h => Or.inr h), hlocks⟩ hin
    (fun L1 F1 pc lv hdg hpo H locs ls hP hD hS hl => W.vret hx hb hr (fun t ht hW => ⟨⟨(L1, F1), rfl, hpo, by rw [ht]; exact hP, hD⟩, hS.F ht⟩) hS.2.2 hdg hlocks) hpre s.heap [] _ hP hD va_S.rf hl

theorem jr_mmax {E : jE} {G : Nat → ClassId} {rm : Room} {cc : ByteArray} {nL cs ss pc : Nat} {own : String} {Ts : List Cond} {L : List Nat} {F : Nat → va_E} {lv : List (Nat × Value)} {rest : List Value} {index : Nat} {x y z : Int32} (hE : jOk E G rm cc nL own Ts) (hdg : decode cc pc = .ok (.invokestatic index, 3)) (h1 : Cond.methodLink own index Lib.Math.max.name ∈ Ts) (h2 : Cond.static Lib.Math.max.name ∈ Ts) (h3 : Cond.initialized "java/lang/Math" ∈ Ts) (h4 : Cond.code Lib.Math.max.name Lib.Math.max.code 2 (some .int) ∈ Ts) (hr : 1 ≤ rm.frames ∧ (rest.map fun v => v.category).sum + 13 ≤ rm.locals) (hcap : cs ≤ rm.cells ∧ ss ≤ rm.slots) (hz : (if x < y then y else x) = z) (k : J E L F cs ss (pc + 3) lv (.int z :: rest)) : J E L F cs ss pc lv (.int y :: .int x :: rest) := by
  obtain ⟨p, l, e, R, s, m, args, below, meth, c, Q, D, A, nL0⟩ := E
  obtain ⟨rfl, rfl, hx, hb, hml, hown, hts, hK, hT, hA, hlk⟩ := hE
  intro H locs ls hP hD hS hl
  exact va_mmax hx hb (hml.trans hl.1.symm) hown (hts _ h1) (hts _ h2) (hts _ h3) (hts _ h4) hr.1 hr.2 hcap.1 hcap.2 hdg (by rw [hz]; exact k H locs ls hP hD hS hl)
theorem jK_idq {G : Nat → ClassId} {D : va_G} {s : State} {cA : ClassId} {C : String} {g : Nat} (hK : va_K D vwCl (jty G) s) (hg : (jty G)[g]? = some (G g, .object C)) (hK1 : va_K D vwCl (jty G ++ [(cA, .object C)]) s) : cA = G g := by
  obtain ⟨k1, c1, -, -, -, h1⟩ := (hK.2 g _ hg).2
  obtain ⟨k2, c2, -, -, -, h2⟩ := (hK1.2 (jty G).length (cA, .object C) (by simp)).2
  exact Option.some.inj (h2.symm.trans h1)
theorem jr_newq {E : jE} {G : Nat → ClassId} {rm : Room} {cc : ByteArray} {nL cs ss pc : Nat} {own : String} {Ts : List Cond} {L : List Nat} {F : Nat → va_E} {lv : List (Nat × Value)} {rest : List Value} {index g N : Nat} {C : String} {n : Int32} (hE : jOk E G rm cc nL own Ts) (hdg : decode cc pc = .ok (.anewarray index, 3)) (hcl : Cond.classLink own index C ∈ Ts) (hC : C ∈ [RX0, RX3, RX5, RX6]) (hg : (jty G)[g]? = some (G g, .object C)) (hn : ¬ n < 0) (hN : n.toNatClampNeg = N) (hbytes : N * 4 ≤ 536870912) (hcap : cs + 1 ≤ rm.cells ∧ ss + N ≤ rm.slots)
    (k : ∀ (q : Nat) (F1 : Nat → va_E), q ∉ L → jF (L ++ [q]) F1 q (.inl (G g, N, .inr (.inr (.inr (.inr (fun _ => none)))))) → (∀ x, x ≠ q → F1 x = F x) → J E (L ++ [q]) F1 (cs + 1) (ss + N) (pc + 3) lv (.ref q :: rest)) : J E L F cs ss pc lv (.int n :: rest) := by
  obtain ⟨p, l, e, R, s, m, args, below, meth, c, Q, D, A, nL0⟩ := E
  obtain ⟨rfl, rfl, hx, hb, hml, hown, hts, hK, hT, hA, hlk⟩ := hE
  intro H locs ls hP hD hS hl
  refine va_newq hx hb hown (hts _ hcl) (hT.2.2.2.2.2.2.2.2.2.2.2.1.1 C hC) hK hP hD hS hA hn hN hbytes hcap.1 hcap.2 hdg (fun q cA H1 hK1 hP1 hD1 hS1 => ?_)
  have hid := jK_idq hK hg hK1
  subst hid
  have hq := jpl_new hD1
  rw [jpl_push hq] at hP1 hD1
  exact k q _ hq ⟨List.mem_append_right _ (List.mem_singleton.mpr rfl), va_up_self _ _ _⟩ (fun x hx => va_up_ne _ _ hx) H1 locs ls hP1 hD1 hS1 hl
theorem jr_astq {E : jE} {G : Nat → ClassId} {rm : Room} {cc : ByteArray} {nL cs ss pc : Nat} {own : String} {Ts : List Cond} {L : List Nat} {F : Nat → va_E} {lv : List (Nat × Value)} {rest : List Value} {a g n v ci : Nat} {C : String} {f : Nat → Option Nat} {vs : List Value} {i : Int32} (hE : jOk E G rm cc nL own Ts) (hdg : decode cc pc = .ok (.aastore, 1)) (ha : jF L F a (.inl (G g, n, .inr (.inr (.inr (.inr f)))))) (hv : jF L F v (.inr (ci, vs))) (hc : vwCl[ci]? = some (jq ci)) (hg : (jty G)[g]? = some (G g, .object (jq ci).1)) (hin : vp_in i n) (k : ∀ F1 : Nat → va_E, jF L F1 a (.inl (G g, n, .inr (.inr (.inr (.inr (va_up f i.toNatClampNeg (some v))))))) → (∀ x, x ≠ a → F1 x = F x) → J E L F1 cs ss (pc + 1) lv rest) : J E L F cs ss pc lv (.ref v :: .int i :: .ref a :: rest) := by
  obtain ⟨p, l, e, R, s, m, args, below, meth, c, Q, D, A, nL0⟩ := E
  obtain ⟨rfl, rfl, hx, hb, hml, hown, hts, hK, hT, hA, hlk⟩ := hE
  obtain ⟨q0, hq0⟩ := ha.at
  obtain ⟨qk, hqk⟩ := hv.at
  refine fun H locs ls hP hD hS hl => va_astq hx hb hK hP hD hS q0 g qk ci hq0 hg hqk hc hin hdg (fun H1 locs1 hP1 hD1 hS1 => ?_)
  rw [jpl_set hD ha hq0] at hP1
  exact k _ ⟨ha.1, va_up_self _ _ _⟩ (fun x hx => va_up_ne _ _ hx) H1 locs1 ls hP1 (jD_to hD (fun a h => jD_in hD h)) hS1 hl
