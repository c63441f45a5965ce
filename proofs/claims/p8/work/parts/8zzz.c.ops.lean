/-! THE CLASS'S WORLD: what calls leave -/
theorem CW.by {G : Nat → ClassId} {L : List Nat} {F : Nat → va_E} {c : Nat → Nat} {B : Nat → List Nat} {S : Nat → Nat} {P : Nat → JP} {q : SS} {X : Nat} {v : Nat → Int32} (W : CW G L F c B S P q X v) (i : Nat) (hi : i < 50) : jBy G L F (c (270 + 2 * i)) (c (271 + 2 * i)) (bcap i) (B i) := W.2.2.2.2.2.1 i hi
theorem CW.sc {G : Nat → ClassId} {L : List Nat} {F : Nat → va_E} {c : Nat → Nat} {B : Nat → List Nat} {S : Nat → Nat} {P : Nat → JP} {q : SS} {X : Nat} {v : Nat → Int32} (W : CW G L F c B S P q X v) (i : Nat) (hi : i < 30) : jSc G L F (c (210 + 2 * i)) (c (211 + 2 * i)) (S i) := W.2.2.2.2.2.2.1 i hi
theorem CW.pt {G : Nat → ClassId} {L : List Nat} {F : Nat → va_E} {c : Nat → Nat} {B : Nat → List Nat} {S : Nat → Nat} {P : Nat → JP} {q : SS} {X : Nat} {v : Nat → Int32} (W : CW G L F c B S P q X v) (i : Nat) (h0 : 16 ≤ i) (hi : i < 41) : jPt L F (c (40 + 4 * i)) (c (41 + 4 * i)) (c (42 + 4 * i)) (c (43 + 4 * i)) (P i) := W.2.2.2.2.2.2.2 i h0 hi
theorem CW.cu {G : Nat → ClassId} {L : List Nat} {F : Nat → va_E} {c : Nat → Nat} {B : Nat → List Nat} {S : Nat → Nat} {P : Nat → JP} {q : SS} {X : Nat} {v : Nat → Int32} (W : CW G L F c B S P q X v) : cwC G L F c := W.2.2.1
theorem CW.sh {G : Nat → ClassId} {L : List Nat} {F : Nat → va_E} {c : Nat → Nat} {B : Nat → List Nat} {S : Nat → Nat} {P : Nat → JP} {q : SS} {X : Nat} {v : Nat → Int32} (W : CW G L F c B S P q X v) : jSs G L F (c 3) (c 4) (c 5) (c (270 + 2 * 17)) q := W.2.2.2.1
theorem CW.xx {G : Nat → ClassId} {L : List Nat} {F : Nat → va_E} {c : Nat → Nat} {B : Nat → List Nat} {S : Nat → Nat} {P : Nat → JP} {q : SS} {X : Nat} {v : Nat → Int32} (W : CW G L F c B S P q X v) : jCo L F (c 24) X := W.2.2.2.2.1
theorem CW.o0 {G : Nat → ClassId} {L : List Nat} {F : Nat → va_E} {c : Nat → Nat} {B : Nat → List Nat} {S : Nat → Nat} {P : Nat → JP} {q : SS} {X : Nat} {v : Nat → Int32} (W : CW G L F c B S P q X v) : jF L F (c 0) (.inr (11, [.ref (c 1), .ref (c (270 + 2 * 16)), .ref (c 3), .ref (c 6), .ref (c 7), .ref (c 2), .int (v 0), .int (v 1)])) := W.2.1.1
theorem CW.aR {G : Nat → ClassId} {L : List Nat} {F : Nat → va_E} {c : Nat → Nat} {B : Nat → List Nat} {S : Nat → Nat} {P : Nat → JP} {q : SS} {X : Nat} {v : Nat → Int32} (W : CW G L F c B S P q X v) : ∃ f, jF L F (c 1) (.inl (G 4, 16, .inr (.inr (.inr (.inr f))))) ∧ ∀ i, i < 16 → f i = some (c (270 + 2 * i)) := W.2.1.2.1
theorem CW.aE {G : Nat → ClassId} {L : List Nat} {F : Nat → va_E} {c : Nat → Nat} {B : Nat → List Nat} {S : Nat → Nat} {P : Nat → JP} {q : SS} {X : Nat} {v : Nat → Int32} (W : CW G L F c B S P q X v) : ∃ f, jF L F (c 2) (.inl (G 5, 4, .inr (.inr (.inr (.inr f))))) ∧ ∀ i, i < 4 → f i = some (c (25 + i)) := W.2.1.2.2.1
theorem CW.o6 {G : Nat → ClassId} {L : List Nat} {F : Nat → va_E} {c : Nat → Nat} {B : Nat → List Nat} {S : Nat → Nat} {P : Nat → JP} {q : SS} {X : Nat} {v : Nat → Int32} (W : CW G L F c B S P q X v) : jF L F (c 6) (.inr (10, [.ref (c 9), .ref (c (210 + 2 * 0)), .ref (c (270 + 2 * 18)), .ref (c (270 + 2 * 19)), .ref (c 3), .ref (c (210 + 2 * 1)), .ref (c (210 + 2 * 2)), .ref (c (210 + 2 * 3)), .ref (c (210 + 2 * 4)), .ref (c (40 + 4 * 17)), .ref (c (40 + 4 * 18)), .ref (c 24), .ref (c (270 + 2 * 20))])) := W.2.1.2.2.2.1
theorem CW.o7 {G : Nat → ClassId} {L : List Nat} {F : Nat → va_E} {c : Nat → Nat} {B : Nat → List Nat} {S : Nat → Nat} {P : Nat → JP} {q : SS} {X : Nat} {v : Nat → Int32} (W : CW G L F c B S P q X v) : jF L F (c 7) (.inr (4, [.int (v 2), .int (v 3), .ref (c (270 + 2 * 21)), .ref (c 3), .ref (c 6), .ref (c 9), .ref (c 8), .ref (c (270 + 2 * 22)), .ref (c (270 + 2 * 23)), .ref (c (270 + 2 * 24)), .ref (c (270 + 2 * 25)), .ref (c (210 + 2 * 5)), .ref (c (210 + 2 * 6)), .ref (c (210 + 2 * 7)), .ref (c (210 + 2 * 8)), .ref (c (210 + 2 * 9)), .ref (c (40 + 4 * 19)), .ref (c (40 + 4 * 20)), .int (v 4), .int (v 5)])) := W.2.1.2.2.2.2.1
theorem CW.aM {G : Nat → ClassId} {L : List Nat} {F : Nat → va_E} {c : Nat → Nat} {B : Nat → List Nat} {S : Nat → Nat} {P : Nat → JP} {q : SS} {X : Nat} {v : Nat → Int32} (W : CW G L F c B S P q X v) : ∃ f, jF L F (c 8) (.inl (G 6, 4, .inr (.inr (.inr (.inr f))))) ∧ ∀ i, i < 4 → f i = some (c (29 + i)) := W.2.1.2.2.2.2.2.1
theorem CW.oE {G : Nat → ClassId} {L : List Nat} {F : Nat → va_E} {c : Nat → Nat} {B : Nat → List Nat} {S : Nat → Nat} {P : Nat → JP} {q : SS} {X : Nat} {v : Nat → Int32} (W : CW G L F c B S P q X v) (i : Nat) (hi : i < 4) : jF L F (c (25 + i)) (.inr (3, [.ref (c (270 + 2 * (26 + 3 * i))), .ref (c (270 + 2 * (27 + 3 * i))), .ref (c (270 + 2 * (28 + 3 * i))), .ref (c (210 + 2 * (10 + 2 * i))), .ref (c (210 + 2 * (11 + 2 * i))), .ref (c (40 + 4 * (21 + 2 * i))), .ref (c (40 + 4 * (22 + 2 * i)))])) := W.2.1.2.2.2.2.2.2.1 i hi
theorem CW.oM {G : Nat → ClassId} {L : List Nat} {F : Nat → va_E} {c : Nat → Nat} {B : Nat → List Nat} {S : Nat → Nat} {P : Nat → JP} {q : SS} {X : Nat} {v : Nat → Int32} (W : CW G L F c B S P q X v) (i : Nat) (hi : i < 4) : jF L F (c (29 + i)) (.inr (5, [.ref (c (270 + 2 * (38 + 3 * i))), .ref (c (40 + 4 * (29 + 3 * i))), .ref (c (210 + 2 * (18 + 3 * i))), .int (v (6 + 2 * i)), .ref (c (210 + 2 * (19 + 3 * i))), .ref (c (210 + 2 * (20 + 3 * i))), .ref (c (270 + 2 * (39 + 3 * i))), .int (v (7 + 2 * i)), .ref (c (270 + 2 * (40 + 3 * i))), .ref (c (40 + 4 * (30 + 3 * i))), .ref (c (40 + 4 * (31 + 3 * i)))])) := W.2.1.2.2.2.2.2.2.2 i hi
theorem CW.cv {G : Nat → ClassId} {L : List Nat} {F : Nat → va_E} {c : Nat → Nat} {B : Nat → List Nat} {S : Nat → Nat} {P : Nat → JP} {q : SS} {X : Nat} {v : Nat → Int32} (W : CW G L F c B S P q X v) : jF L F (c 9) (cCv (c (40 + 4 * 16)) (c 11) (c 10) (c 12) (c 13) (c 14) (c 15) (c 16) (c 17)) := W.2.2.1.1.1
theorem CW.bB {G : Nat → ClassId} {L : List Nat} {F : Nat → va_E} {c : Nat → Nat} {B : Nat → List Nat} {S : Nat → Nat} {P : Nat → JP} {q : SS} {X : Nat} {v : Nat → Int32} (W : CW G L F c B S P q X v) (i : Nat) (hi : i < 50) : ∀ b, b ∈ B i → b < 256 := fun b hb => by
  obtain ⟨j, hj, e⟩ := List.getElem_of_mem hb
  have h := (W.by i hi).lt hj
  rw [List.getD_eq_getElem?_getD, List.getElem?_eq_getElem hj] at h
  rw [← e]
  exact h
theorem CW.cp {G : Nat → ClassId} {L : List Nat} {F : Nat → va_E} {c : Nat → Nat} {B : Nat → List Nat} {S : Nat → Nat} {P : Nat → JP} {q : SS} {X : Nat} {v : Nat → Int32} (W : CW G L F c B S P q X v) (i : Nat) (hi : i < 50) : (B i).length ≤ bcap i := (W.by i hi).cap.1
theorem CW.rw {G : Nat → ClassId} {L : List Nat} {F : Nat → va_E} {c : Nat → Nat} {B : Nat → List Nat} {S : Nat → Nat} {P : Nat → JP} {q : SS} {X : Nat} {v : Nat → Int32} (W : CW G L F c B S P q X v) {B' : Nat → List Nat} {S' : Nat → Nat} {P' : Nat → JP} {v' : Nat → Int32} (hB : ∀ i, i < 50 → B' i = B i) (hS : ∀ i, i < 30 → S' i = S i) (hP : ∀ i, i < 41 → P' i = P i) (hv : v' = v) : CW G L F c B' S' P' q X v' := by
  subst hv
  obtain ⟨w1, w2, w3, w4, w5, w6, w7, w8⟩ := W
  exact ⟨w1, w2, w3, w4, w5, fun i hi => by rw [hB i hi]; exact w6 i hi, fun i hi => by rw [hS i hi]; exact w7 i hi, fun i h0 hi => by rw [hP i hi]; exact w8 i h0 hi⟩
/-! the digest's text so far -/
def dgS (q : SS) (bs : List Nat) : Prop := ∃ f g, q = tkA (bgf f 8, g, 0) bs
theorem dgS.n {q : SS} {bs : List Nat} (h : dgS q bs) : q.2.2 = bs.length := by
  obtain ⟨f, g, rfl⟩ := h
  rw [tkA_n]
  exact Nat.zero_add _
theorem dgS.app {q : SS} {bs : List Nat} (h : dgS q bs) (cs : List Nat) : dgS (tkA q cs) (bs ++ cs) := by
  obtain ⟨f, g, rfl⟩ := h
  exact ⟨f, g, tkA_app _ _ _⟩
theorem dgS.one {q : SS} {bs : List Nat} (h : dgS q bs) (b : Nat) : dgS (tkB q b) (bs ++ [b]) := h.app [b]
theorem dgS.sha {q : SS} {bs : List Nat} (h : dgS q bs) (hb : ∀ b, b ∈ bs → b < 256) (hn : bs.length < 1000) : dgst q = sha bs := by
  obtain ⟨f, g, rfl⟩ := h
  exact dgst_sha f g hb (by omega)
theorem tgb_lt {i : Nat} (hi : i < 8) : (∀ b, b ∈ tgb i → b < 256) ∧ (tgb i).length ≤ 20 := by
  rw [← tg_eq i hi]
  refine ⟨fun b hb => ?_, ?_⟩
  · obtain ⟨k, hk, rfl⟩ := List.mem_map.mp hb
    exact tB_lt _ (by have := tA_le i hi; have := List.mem_range.mp hk; omega)
  · rw [List.length_map, List.length_range]
    exact (tA_le i hi).2.1
theorem CW.beginTpre {G : Nat → ClassId} {L : List Nat} {F : Nat → va_E} {c : Nat → Nat} {B : Nat → List Nat} {S : Nat → Nat} {P : Nat → JP} {q : SS} {X : Nat} {v : Nat → Int32} (W : CW G L F c B S P q X v) {i : Nat} (hi : i < 8) : jSs G L F (c 3) (c 4) (c 5) (c (270 + 2 * 17)) q ∧ jBy G L F (c (270 + 2 * 17)) (c (271 + 2 * 17)) (bcap 17) (B 17) ∧ 32 ≤ bcap 17 ∧ i < 9 ∧ [c 3, c 4, c 5, c (270 + 2 * 17), c (271 + 2 * 17)].Nodup := ⟨W.sh, W.by 17 (by decide), by decide, by omega, cnd W.1 [3, 4, 5, 270 + 2 * 17, 271 + 2 * 17] (by decide) (by decide)⟩
theorem CW.beginT {G : Nat → ClassId} {L : List Nat} {F F1 : Nat → va_E} {c : Nat → Nat} {B : Nat → List Nat} {S : Nat → Nat} {P : Nat → JP} {q : SS} {X : Nat} {v : Nat → Int32} (W : CW G L F c B S P q X v) {i : Nat} (hi : i < 8) (h : (∃ f1 g1, jSs G L F1 (c 3) (c 4) (c 5) (c (270 + 2 * 17)) (tkA (tkA (bgf f1 8, g1, 0) (dgst (tkA (bgf q.1 8, q.2.1, 0) (tgb i)))) (dgst (tkA (bgf q.1 8, q.2.1, 0) (tgb i))))) ∧ jBy G L F1 (c (270 + 2 * 17)) (c (271 + 2 * 17)) (bcap 17) (dgst (tkA (bgf q.1 8, q.2.1, 0) (tgb i))) ∧ ∀ z, z ∉ [c 3, c 4, c 5, c (270 + 2 * 17), c (271 + 2 * 17)] → F1 z = F z) : ∃ q1, CW G L F1 c (uz B 17 (sha (tgb i))) S P q1 X v ∧ dgS q1 (sha (tgb i) ++ sha (tgb i)) ∧ cO c F F1 := by
  obtain ⟨⟨f1, g1, h0⟩, h1, hx⟩ := h
  rw [dgst_sha _ _ (tgb_lt hi).1 (by have := (tgb_lt hi).2; omega)] at h0 h1
  obtain ⟨w, o⟩ := W.setHB (i := 17) (by decide) h1 h0 hx
  exact ⟨_, w, ⟨f1, g1, tkA_app _ _ _⟩, o⟩
theorem CW.beginNpre {G : Nat → ClassId} {L : List Nat} {F : Nat → va_E} {c : Nat → Nat} {B : Nat → List Nat} {S : Nat → Nat} {P : Nat → JP} {q : SS} {X : Nat} {v : Nat → Int32} (W : CW G L F c B S P q X v) : jSs G L F (c 3) (c 4) (c 5) (c (270 + 2 * 17)) q ∧ [c 3, c 4, c 5].Nodup := ⟨W.sh, cnd W.1 [3, 4, 5] (by decide) (by decide)⟩
theorem CW.beginN {G : Nat → ClassId} {L : List Nat} {F F1 : Nat → va_E} {c : Nat → Nat} {B : Nat → List Nat} {S : Nat → Nat} {P : Nat → JP} {q : SS} {X : Nat} {v : Nat → Int32} (W : CW G L F c B S P q X v) (h : jSs G L F1 (c 3) (c 4) (c 5) (c (270 + 2 * 17)) (bgf q.1 8, q.2.1, 0) ∧ ∀ z, z ∉ [c 3, c 4] → F1 z = F z) : ∃ q1, CW G L F1 c B S P q1 X v ∧ dgS q1 [] ∧ cO c F F1 := by
  obtain ⟨w, o⟩ := W.setH2 h.1 h.2
  exact ⟨_, w, ⟨_, _, rfl⟩, o⟩
theorem CW.shB {G : Nat → ClassId} {L : List Nat} {F : Nat → va_E} {c : Nat → Nat} {B : Nat → List Nat} {S : Nat → Nat} {P : Nat → JP} {q : SS} {X : Nat} {v : Nat → Int32} (W : CW G L F c B S P q X v) {bs : List Nat} (i : Nat) (hi : i < 50) (h17 : True) (hd : dgS q bs) (hn : bs.length < 1000) : jSs G L F (c 3) (c 4) (c 5) (c (270 + 2 * 17)) q ∧ jBy G L F (c (270 + 2 * i)) (c (271 + 2 * i)) (bcap i) (B i) ∧ q.2.2 < 900000 ∧ [c 3, c 4, c 5, c (270 + 2 * i), c (271 + 2 * i)].Nodup := ⟨W.sh, W.by i hi, by rw [hd.n]; omega, cnd W.1 [3, 4, 5, 270 + 2 * i, 271 + 2 * i] (by simp only [List.mem_cons, List.not_mem_nil, or_false]; omega) (by simp only [List.nodup_cons, List.mem_cons, List.not_mem_nil, or_false, not_or, List.nodup_nil, not_false_eq_true, and_true]; omega)⟩
theorem CW.takeA {G : Nat → ClassId} {L : List Nat} {F F1 : Nat → va_E} {c : Nat → Nat} {B : Nat → List Nat} {S : Nat → Nat} {P : Nat → JP} {q : SS} {X : Nat} {v : Nat → Int32} (W : CW G L F c B S P q X v) {bs cs : List Nat} (hd : dgS q bs) (h : jSs G L F1 (c 3) (c 4) (c 5) (c (270 + 2 * 17)) (tkA q cs) ∧ ∀ z, z ∉ [c 3, c 4, c 5] → F1 z = F z) : ∃ q1, CW G L F1 c B S P q1 X v ∧ dgS q1 (bs ++ cs) ∧ cO c F F1 := by
  obtain ⟨w, o⟩ := W.setH h.1 h.2
  exact ⟨_, w, hd.app cs, o⟩
theorem CW.takeO {G : Nat → ClassId} {L : List Nat} {F F1 : Nat → va_E} {c : Nat → Nat} {B : Nat → List Nat} {S : Nat → Nat} {P : Nat → JP} {q : SS} {X : Nat} {v : Nat → Int32} (W : CW G L F c B S P q X v) {bs : List Nat} {b : Nat} {x : Int32} (hb : bv x = b) (hd : dgS q bs) (h : jSs G L F1 (c 3) (c 4) (c 5) (c (270 + 2 * 17)) (tkB q (bv x)) ∧ ∀ z, z ∉ [c 3, c 4, c 5] → F1 z = F z) : ∃ q1, CW G L F1 c B S P q1 X v ∧ dgS q1 (bs ++ [b]) ∧ cO c F F1 := by
  rw [hb] at h
  obtain ⟨w, o⟩ := W.setH h.1 h.2
  exact ⟨_, w, hd.one b, o⟩
theorem CW.finP {G : Nat → ClassId} {L : List Nat} {F F1 : Nat → va_E} {c : Nat → Nat} {B : Nat → List Nat} {S : Nat → Nat} {P : Nat → JP} {q : SS} {X : Nat} {v : Nat → Int32} (W : CW G L F c B S P q X v) {bs : List Nat} {i : Nat} (hi : i < 50) (hd : dgS q bs) (hb : ∀ b, b ∈ bs → b < 256) (hn : bs.length < 1000) (h : jBy G L F1 (c (270 + 2 * i)) (c (271 + 2 * i)) (bcap i) (dgst q) ∧ (∃ s1, jSs G L F1 (c 3) (c 4) (c 5) (c (270 + 2 * 17)) s1) ∧ ∀ z, z ∉ [c 3, c 4, c 5, c (270 + 2 * i), c (271 + 2 * i)] → F1 z = F z) : ∃ q1, CW G L F1 c (uz B i (sha bs)) S P q1 X v ∧ cO c F F1 := by
  obtain ⟨h1, ⟨s1, h0⟩, hx⟩ := h
  rw [hd.sha hb hn] at h1
  obtain ⟨w, o⟩ := W.setHB hi h1 h0 hx
  exact ⟨s1, w, o⟩
/-! points -/
def stl (Q : JP) (A : EP) : Prop := (A = none ∧ Q.1 = true) ∨ ∃ x y : Nat, A = some (x, y) ∧ x < PP ∧ y < PP ∧ isE PP x y ∧ Q = (false, x, y, 1)
theorem rep_stl {Q : JP} {A : EP} (h : rep Q A) : stl (stJ Q) A := by
  have hA := h.onE
  rcases rep_st h with q | ⟨x, y, rfl, hx, hy, e⟩
  · exact Or.inl q
  · exact Or.inr ⟨x, y, rfl, hx, hy, hA.2.2, e⟩
theorem stl.rep {Q : JP} {A : EP} (h : stl Q A) : rep Q A := by
  rcases h with ⟨rfl, h⟩ | ⟨x, y, rfl, hx, hy, he, rfl⟩
  · exact Or.inl ⟨h, rfl⟩
  · exact rep_aff hx hy he
theorem stl.ptb {Q : JP} {A : EP} (h : stl Q A) : ptb Q = pbE A := by
  rcases h with ⟨rfl, h⟩ | ⟨x, y, rfl, hx, hy, he, rfl⟩
  · exact ptb_n h
  · rfl
theorem stl.no {Q : JP} {A : EP} (h : stl Q A) : bi Q.1 = b2i (A = none) := by
  rcases h with ⟨rfl, h⟩ | ⟨x, y, rfl, hx, hy, he, rfl⟩
  · rw [h, b2i_t rfl]
    rfl
  · rw [b2i_f (fun e => by cases e)]
    rfl
theorem rep.no {Q : JP} {A : EP} (h : rep Q A) : bi Q.1 = b2i (A = none) := by
  rcases h with ⟨h, rfl⟩ | ⟨h, X, Y, z, rfl, _⟩
  · rw [h, b2i_t rfl]
    rfl
  · rw [h, b2i_f (fun e => by cases e)]
    rfl
theorem stl.xy {Q : JP} {A : EP} (h : stl Q A) (hA : A ≠ none) : Q = (false, exE A, eyN A, 1) ∧ exE A < PP ∧ eyN A < PP := by
  rcases h with ⟨rfl, h⟩ | ⟨x, y, rfl, hx, hy, he, rfl⟩
  · exact absurd rfl hA
  · exact ⟨rfl, hx, hy⟩
theorem CW.plusPre {G : Nat → ClassId} {L : List Nat} {F : Nat → va_E} {c : Nat → Nat} {B : Nat → List Nat} {S : Nat → Nat} {P : Nat → JP} {q : SS} {X : Nat} {v : Nat → Int32} (W : CW G L F c B S P q X v) (i j : Nat) (h0 : 16 ≤ i) (hi : i < 41) (g0 : 16 ≤ j) (hj : j < 41) (hij : i ≠ j) : jCu L F (c 9) (c (40 + 4 * 16)) (c 11) (c 10) (c 12) (c 13) (c 14) (c 15) (c 16) (c 17) ∧ jPt L F (c (40 + 4 * i)) (c (41 + 4 * i)) (c (42 + 4 * i)) (c (43 + 4 * i)) (P i) ∧ jPt L F (c (40 + 4 * j)) (c (41 + 4 * j)) (c (42 + 4 * j)) (c (43 + 4 * j)) (P j) ∧ [c 9, c 13, c 14, c 15, c 16, c 17, c (40 + 4 * i), c (41 + 4 * i), c (42 + 4 * i), c (43 + 4 * i), c (40 + 4 * j), c (41 + 4 * j), c (42 + 4 * j), c (43 + 4 * j)].Nodup := ⟨W.cu.1, W.pt i h0 hi, W.pt j g0 hj, cnd W.1 [9, 13, 14, 15, 16, 17, 40 + 4 * i, 41 + 4 * i, 42 + 4 * i, 43 + 4 * i, 40 + 4 * j, 41 + 4 * j, 42 + 4 * j, 43 + 4 * j] (by simp only [List.mem_cons, List.not_mem_nil, or_false]; omega) (by simp only [List.nodup_cons, List.mem_cons, List.not_mem_nil, or_false, not_or, List.nodup_nil, not_false_eq_true, and_true]; omega)⟩
theorem CW.settlePre {G : Nat → ClassId} {L : List Nat} {F : Nat → va_E} {c : Nat → Nat} {B : Nat → List Nat} {S : Nat → Nat} {P : Nat → JP} {q : SS} {X : Nat} {v : Nat → Int32} (W : CW G L F c B S P q X v) (i : Nat) (h0 : 16 ≤ i) (hi : i < 41) : jCu L F (c 9) (c (40 + 4 * 16)) (c 11) (c 10) (c 12) (c 13) (c 14) (c 15) (c 16) (c 17) ∧ jPw L F (c 10) (c 18) (c 19) (c 20) (c 21) (c 22) (c 23) ∧ jCo L F (c 12) 1 ∧ jPt L F (c (40 + 4 * i)) (c (41 + 4 * i)) (c (42 + 4 * i)) (c (43 + 4 * i)) (P i) ∧ [c 9, c 13, c 14, c 15, c 16, c 17, c 10, c 18, c 19, c 20, c 21, c 22, c 23, c 12, c (40 + 4 * i), c (41 + 4 * i), c (42 + 4 * i), c (43 + 4 * i)].Nodup := ⟨W.cu.1, W.cu.2.1, W.cu.2.2.1, W.pt i h0 hi, cnd W.1 [9, 13, 14, 15, 16, 17, 10, 18, 19, 20, 21, 22, 23, 12, 40 + 4 * i, 41 + 4 * i, 42 + 4 * i, 43 + 4 * i] (by simp only [List.mem_cons, List.not_mem_nil, or_false]; omega) (by simp only [List.nodup_cons, List.mem_cons, List.not_mem_nil, or_false, not_or, List.nodup_nil, not_false_eq_true, and_true]; omega)⟩
theorem CW.timesPre {G : Nat → ClassId} {L : List Nat} {F : Nat → va_E} {c : Nat → Nat} {B : Nat → List Nat} {S : Nat → Nat} {P : Nat → JP} {q : SS} {X : Nat} {v : Nat → Int32} (W : CW G L F c B S P q X v) {f : Nat → Option Nat} (hf : jF L F (c 11) (.inl (G 7, 16, .inr (.inr (.inr (.inr f)))))) (gf : ∀ i, i < 16 → f i = some (c (40 + 4 * i))) (i j k : Nat) (h0 : 16 ≤ i) (hi : i < 41) (g0 : 16 ≤ j) (hj : j < 41) (hk : k < 30) (hkv : S k < 2 ^ 256) : jCu L F (c 9) (c (40 + 4 * 16)) (c 11) (c 10) (c 12) (c 13) (c 14) (c 15) (c 16) (c 17) ∧ (∃ P0 : Nat → JP, jF L F (c 11) (.inl (G 7, 16, .inr (.inr (.inr (.inr f))))) ∧ ∀ j, j < 16 → jPt L F (c (ck j 0)) (c (ck j 1)) (c (ck j 2)) (c (ck j 3)) (P0 j)) ∧ (∀ i, i < 16 → f i = some (c (ck i 0))) ∧ jPt L F (c (40 + 4 * i)) (c (41 + 4 * i)) (c (42 + 4 * i)) (c (43 + 4 * i)) (P i) ∧ jPt L F (c (40 + 4 * j)) (c (41 + 4 * j)) (c (42 + 4 * j)) (c (43 + 4 * j)) (P j) ∧ jSc G L F (c (210 + 2 * k)) (c (211 + 2 * k)) (S k) ∧ S k < 2 ^ 256 ∧ (∀ i j, i < 16 → j < 16 → i ≠ j → [c 9, c 13, c 14, c 15, c 16, c 17, c 11, c (ck i 0), c (ck i 1), c (ck i 2), c (ck i 3), c (ck j 0), c (ck j 1), c (ck j 2), c (ck j 3)].Nodup) ∧ (∀ t, t < 16 → [c 9, c 13, c 14, c 15, c 16, c 17, c 11, c (40 + 4 * i), c (41 + 4 * i), c (42 + 4 * i), c (43 + 4 * i), c (ck t 0), c (ck t 1), c (ck t 2), c (ck t 3), c (210 + 2 * k), c (211 + 2 * k)].Nodup) ∧ [c (40 + 4 * j), c (41 + 4 * j), c (42 + 4 * j), c (43 + 4 * j), c (ck 1 0), c (ck 1 1), c (ck 1 2), c (ck 1 3)].Nodup := by
  obtain ⟨P0, hP0⟩ : ∃ P0 : Nat → JP, ∀ j, j < 16 → jPt L F (c (40 + 4 * j)) (c (41 + 4 * j)) (c (42 + 4 * j)) (c (43 + 4 * j)) (P0 j) := by
    refine ⟨fun j => if h : j < 16 then Classical.choose (W.cu.2.2.2.2 j h) else (true, 0, 0, 0), fun j hj => ?_⟩
    dsimp only
    rw [dif_pos hj]
    exact Classical.choose_spec (W.cu.2.2.2.2 j hj)
  exact ⟨W.cu.1, ⟨P0, hf, hP0⟩, gf, W.pt i h0 hi, W.pt j g0 hj, W.sc k hk, hkv, fun i j hi hj hij => cnd W.1 [9, 13, 14, 15, 16, 17, 11, 40 + 4 * i, 41 + 4 * i, 42 + 4 * i, 43 + 4 * i, 40 + 4 * j, 41 + 4 * j, 42 + 4 * j, 43 + 4 * j] (by simp only [List.mem_cons, List.not_mem_nil, or_false]; omega) (by simp only [List.nodup_cons, List.mem_cons, List.not_mem_nil, or_false, not_or, List.nodup_nil, not_false_eq_true, and_true]; omega), fun t ht => cnd W.1 [9, 13, 14, 15, 16, 17, 11, 40 + 4 * i, 41 + 4 * i, 42 + 4 * i, 43 + 4 * i, 40 + 4 * t, 41 + 4 * t, 42 + 4 * t, 43 + 4 * t, 210 + 2 * k, 211 + 2 * k] (by simp only [List.mem_cons, List.not_mem_nil, or_false]; omega) (by simp only [List.nodup_cons, List.mem_cons, List.not_mem_nil, or_false, not_or, List.nodup_nil, not_false_eq_true, and_true]; omega), cnd W.1 [40 + 4 * j, 41 + 4 * j, 42 + 4 * j, 43 + 4 * j, 40 + 4 * 1, 41 + 4 * 1, 42 + 4 * 1, 43 + 4 * 1] (by simp only [List.mem_cons, List.not_mem_nil, or_false]; omega) (by simp only [List.nodup_cons, List.mem_cons, List.not_mem_nil, or_false, not_or, List.nodup_nil, not_false_eq_true, and_true]; omega)⟩
theorem CW.timesP {G : Nat → ClassId} {L : List Nat} {F F1 : Nat → va_E} {c : Nat → Nat} {B : Nat → List Nat} {S : Nat → Nat} {P : Nat → JP} {q : SS} {X : Nat} {v : Nat → Int32} (W : CW G L F c B S P q X v) {f : Nat → Option Nat} (gf : ∀ i, i < 16 → f i = some (c (40 + 4 * i))) {i : Nat} {Q : JP} (h0 : 16 ≤ i) (hi : i < 41) {ko kh kv : Nat} (h : jCu L F1 (c 9) (c (40 + 4 * 16)) (c 11) (c 10) (c 12) (c 13) (c 14) (c 15) (c 16) (c 17) ∧ (∃ P0 : Nat → JP, jF L F1 (c 11) (.inl (G 7, 16, .inr (.inr (.inr (.inr f))))) ∧ ∀ j, j < 16 → jPt L F1 (c (ck j 0)) (c (ck j 1)) (c (ck j 2)) (c (ck j 3)) (P0 j)) ∧ jPt L F1 (c (40 + 4 * i)) (c (41 + 4 * i)) (c (42 + 4 * i)) (c (43 + 4 * i)) Q ∧ jSc G L F1 ko kh kv ∧ jFm (c 13) (c 14) (c 15) (c 16) (c 17) (c (40 + 4 * i)) (c (41 + 4 * i)) (c (42 + 4 * i)) (c (43 + 4 * i)) (fun i k => c (ck i k)) F1 F) : CW G L F1 c B S (uz P i Q) q X v ∧ cO c F F1 := by
  obtain ⟨h1, ⟨P0, h2, h3⟩, h4, _, h5⟩ := h
  exact W.times h0 hi h1 ⟨⟨f, h2, gf⟩, fun i hi => ⟨P0 i, h3 i hi⟩⟩ h4 h5
theorem CW.noughtP {G : Nat → ClassId} {L : List Nat} {F F1 : Nat → va_E} {c : Nat → Nat} {B : Nat → List Nat} {S : Nat → Nat} {P : Nat → JP} {q : SS} {X : Nat} {v : Nat → Int32} (W : CW G L F c B S P q X v) {i : Nat} (h0 : 16 ≤ i) (hi : i < 41) (h1 : jF L F1 (c (40 + 4 * i)) (cPt (c (41 + 4 * i)) (c (42 + 4 * i)) (c (43 + 4 * i)) true)) (hx : ∀ x, x ≠ c (40 + 4 * i) → F1 x = F x) : CW G L F1 c B S (uz P i (true, (P i).2)) q X v ∧ cO c F F1 := by
  have hp := W.pt i h0 hi
  have nn : ∀ k, k < 370 → k ≠ 40 + 4 * i → F1 (c k) = F (c k) := fun k hk hn => hx _ (fun e => hn (W.1 _ _ hk (by omega) e))
  exact W.setPo h0 hi ⟨h1, hp.2.1.fr (nn _ (by omega) (by omega)), hp.2.2.1.fr (nn _ (by omega) (by omega)), hp.2.2.2.fr (nn _ (by omega) (by omega))⟩ (fun x hx' => hx x (fun e => hx' (e ▸ List.mem_cons_self)))
/-- isOdd of a settled point's y -/
theorem CW.oddP {G : Nat → ClassId} {L : List Nat} {F F1 : Nat → va_E} {c : Nat → Nat} {B : Nat → List Nat} {S : Nat → Nat} {P : Nat → JP} {q : SS} {X : Nat} {v : Nat → Int32} (W : CW G L F c B S P q X v) {i : Nat} (h0 : 16 ≤ i) (hi : i < 41) (hy : (P i).2.2.1 < PP) (h1 : jCd L F1 (c (42 + 4 * i)) (P i).2.2.1) (hx : ∀ x, x ∉ [c (42 + 4 * i)] → F1 x = F x) : CW G L F1 c B S P q X v ∧ cO c F F1 := by
  have hp := W.pt i h0 hi
  have nn : ∀ k, k < 370 → k ≠ 42 + 4 * i → F1 (c k) = F (c k) := fun k hk hn => hx _ (fun e => hn (W.1 _ _ hk (by omega) (List.mem_singleton.mp e)))
  obtain ⟨w, o⟩ := W.setPy h0 hi (Q := P i) ⟨hp.1.fr (nn _ (by omega) (by omega)), hp.2.1.fr (nn _ (by omega) (by omega)), h1.co' hy, hp.2.2.2.fr (nn _ (by omega) (by omega))⟩ hx
  rw [uz_id] at w
  exact ⟨w, o⟩
/-- addTo of a settled point's x -/
theorem CW.xaddP {G : Nat → ClassId} {L : List Nat} {F F1 : Nat → va_E} {c : Nat → Nat} {B : Nat → List Nat} {S : Nat → Nat} {P : Nat → JP} {q : SS} {X : Nat} {v : Nat → Int32} (W : CW G L F c B S P q X v) {i k : Nat} {bs : List Nat} (h0 : 16 ≤ i) (hi : i < 41) (hk : k < 50) (hX : (P i).2.1 < PP) (h : jCd L F1 (c (41 + 4 * i)) (P i).2.1 ∧ jBy G L F1 (c (270 + 2 * k)) (c (271 + 2 * k)) (bcap k) bs ∧ ∀ z, z ∉ [c (41 + 4 * i), c (270 + 2 * k), c (271 + 2 * k)] → F1 z = F z) : CW G L F1 c (uz B k bs) S P q X v ∧ cO c F F1 := by
  obtain ⟨h1, h2, hx⟩ := h
  have hp := W.pt i h0 hi
  have nn : ∀ t, t < 370 → t ≠ 41 + 4 * i → t ≠ 270 + 2 * k → t ≠ 271 + 2 * k → F1 (c t) = F (c t) := fun t ht n1 n2 n3 => hx _ (cnin W.1 (l := [41 + 4 * i, 270 + 2 * k, 271 + 2 * k]) ht (by simp only [List.mem_cons, List.not_mem_nil, or_false]; omega) (by simp only [List.mem_cons, List.not_mem_nil, or_false, not_or]; omega))
  obtain ⟨w, o⟩ := W.setPB1 h0 hi hk (Q := P i) ⟨hp.1.fr (nn _ (by omega) (by omega) (by omega) (by omega)), h1.co' hX, hp.2.2.1.fr (nn _ (by omega) (by omega) (by omega) (by omega)), hp.2.2.2.fr (nn _ (by omega) (by omega) (by omega) (by omega))⟩ h2 hx
  rw [uz_id P i] at w
  exact ⟨w, o⟩
/-- addTo of a settled point -/
theorem CW.paddP {G : Nat → ClassId} {L : List Nat} {F F1 : Nat → va_E} {c : Nat → Nat} {B : Nat → List Nat} {S : Nat → Nat} {P : Nat → JP} {q : SS} {X : Nat} {v : Nat → Int32} (W : CW G L F c B S P q X v) {i k : Nat} {bs : List Nat} (h0 : 16 ≤ i) (hi : i < 41) (hk : k < 50) (h : jPt L F1 (c (40 + 4 * i)) (c (41 + 4 * i)) (c (42 + 4 * i)) (c (43 + 4 * i)) (P i) ∧ jBy G L F1 (c (270 + 2 * k)) (c (271 + 2 * k)) (bcap k) bs ∧ ∀ z, z ∉ [c (41 + 4 * i), c (42 + 4 * i), c (270 + 2 * k), c (271 + 2 * k)] → F1 z = F z) : CW G L F1 c (uz B k bs) S P q X v ∧ cO c F F1 := by
  obtain ⟨w, o⟩ := W.setPB h0 hi hk h.1 h.2.1 h.2.2
  rw [uz_id P i] at w
  exact ⟨w, o⟩
/-- isLike of a settled point's x and the number x -/
theorem CW.xlikeP {G : Nat → ClassId} {L : List Nat} {F F1 : Nat → va_E} {c : Nat → Nat} {B : Nat → List Nat} {S : Nat → Nat} {P : Nat → JP} {q : SS} {X : Nat} {v : Nat → Int32} (W : CW G L F c B S P q X v) {i : Nat} (h0 : 16 ≤ i) (hi : i < 41) (hX : (P i).2.1 < PP) (hX2 : X < PP) (h1 : jCd L F1 (c (41 + 4 * i)) (P i).2.1) (h2 : jCd L F1 (c 24) X) (hx : ∀ x, x ∉ [c (41 + 4 * i), c 24] → F1 x = F x) : CW G L F1 c B S P q X v ∧ cO c F F1 := by
  have hp := W.pt i h0 hi
  have nn : ∀ t, t < 370 → t ≠ 41 + 4 * i → t ≠ 24 → F1 (c t) = F (c t) := fun t ht n1 n2 => hx _ (cnin W.1 (l := [41 + 4 * i, 24]) ht (by simp only [List.mem_cons, List.not_mem_nil, or_false]; omega) (by simp only [List.mem_cons, List.not_mem_nil, or_false, not_or]; omega))
  obtain ⟨w, o⟩ := W.setPX h0 hi (Q := P i) ⟨hp.1.fr (nn _ (by omega) (by omega) (by omega)), h1.co' hX, hp.2.2.1.fr (nn _ (by omega) (by omega) (by omega)), hp.2.2.2.fr (nn _ (by omega) (by omega) (by omega))⟩ (h2.co' hX2) hx
  rw [uz_id P i] at w
  exact ⟨w, o⟩

