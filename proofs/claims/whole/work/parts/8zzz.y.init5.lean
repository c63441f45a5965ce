/-! CONSTRUCTORS: the reference -/
def ptI (k : Nat) (f : Nat → Int32) : Nat → Int32 := fun j => if j < k then f j else 0
def ptL (k : Nat) (f : Nat → Int64) : Nat → Int64 := fun j => if j < k then f j else 0
theorem ptI_0 (f : Nat → Int32) : (fun _ => 0) = ptI 0 f := funext fun j => (if_neg (Nat.not_lt_zero j)).symm
theorem ptL_0 (f : Nat → Int64) : (fun _ => 0) = ptL 0 f := funext fun j => (if_neg (Nat.not_lt_zero j)).symm
theorem ptI_s {f : Nat → Int32} {k i : Nat} {x : Int32} (hi : i = k) (hx : x = f k) : upd (ptI k f) i x = ptI (k + 1) f := by
  subst hi; subst hx; funext j; unfold upd ptI
  by_cases h : j = i
  · subst h; rw [if_pos rfl, if_pos (by omega)]
  · rw [if_neg h]
    by_cases h2 : j < i
    · rw [if_pos h2, if_pos (by omega)]
    · rw [if_neg h2, if_neg (by omega)]
theorem ptL_s {f : Nat → Int64} {k i : Nat} {x : Int64} (hi : i = k) (hx : x = f k) : vp_updL (ptL k f) i x = ptL (k + 1) f := by
  subst hi; subst hx; funext j; unfold vp_updL ptL
  by_cases h : j = i
  · subst h; rw [if_pos rfl, if_pos (by omega)]
  · rw [if_neg h]
    by_cases h2 : j < i
    · rw [if_pos h2, if_pos (by omega)]
    · rw [if_neg h2, if_neg (by omega)]
theorem jF.pI0 {G : Nat → ClassId} {L : List Nat} {F : Nat → va_E} {q n : Nat} (h : jF L F q (.inl (G 1, n, .inl (fun _ => 0)))) (f : Nat → Int32) : jF L F q (.inl (G 1, n, .inl (ptI 0 f))) := by rw [← ptI_0 f]; exact h
theorem jF.pL0 {G : Nat → ClassId} {L : List Nat} {F : Nat → va_E} {q n : Nat} (h : jF L F q (.inl (G 2, n, .inr (.inl (fun _ => 0))))) (f : Nat → Int64) : jF L F q (.inl (G 2, n, .inr (.inl (ptL 0 f)))) := by rw [← ptL_0 f]; exact h
theorem jF.pI {G : Nat → ClassId} {L : List Nat} {F : Nat → va_E} {q n k i : Nat} {x : Int32} {f : Nat → Int32} (h : jF L F q (.inl (G 1, n, .inl (upd (ptI k f) i x)))) (hi : i = k) (hx : x = f k) : jF L F q (.inl (G 1, n, .inl (ptI (k + 1) f))) := by rw [← ptI_s hi hx]; exact h
theorem jF.pL {G : Nat → ClassId} {L : List Nat} {F : Nat → va_E} {q n k i : Nat} {x : Int64} {f : Nat → Int64} (h : jF L F q (.inl (G 2, n, .inr (.inl (vp_updL (ptL k f) i x))))) (hi : i = k) (hx : x = f k) : jF L F q (.inl (G 2, n, .inr (.inl (ptL (k + 1) f)))) := by rw [← ptL_s hi hx]; exact h
theorem utr {F F1 F2 : Nat → va_E} {q : Nat} (u2 : ∀ x, x ≠ q → F2 x = F1 x) (u1 : ∀ x, x ≠ q → F1 x = F x) : ∀ x, x ≠ q → F2 x = F x := fun x hx => (u2 x hx).trans (u1 x hx)
theorem gS.nx {L0 L : List Nat} {F0 F F1 : Nat → va_E} {o n q : Nat} {A : Nat → Nat} {T : Nat → va_E} (g : gS L0 F0 o n A T L F) (hq : q ∉ L) (u : ∀ x, x ≠ q → F1 x = F x) (h1 : jF (L ++ [q]) F1 q (T n)) : gS L0 F0 o (n + 1) (ext n A (fun _ => q)) T (L ++ [q]) F1 :=
  (g.new hq h1 u).fin (fun i hi => by
    by_cases h : i < n
    · rw [ext_lt h]
    · rw [ext_ge (by omega), show i = n by omega])
def cL12 (k : Nat) : List Nat := match k with
  | 0 => [4294966319, 4294967294, 4294967295, 4294967295, 4294967295, 4294967295, 4294967295, 4294967295]
  | 1 => [3493216577, 3218235020, 2940772411, 3132021990, 4294967294, 4294967295, 4294967295, 4294967295]
  | 2 => [977, 1, 0, 0, 0]
  | 3 => [801750719, 1076732275, 1354194884, 1162945305, 1]
  | 4 => [4294966317, 4294967294, 4294967295, 4294967295, 4294967295, 4294967295, 4294967295, 4294967295]
  | 5 => [3221225228, 4294967295, 4294967295, 4294967295, 4294967295, 4294967295, 4294967295, 1073741823]
  | 6 => [385357720, 1509065051, 768485593, 43777243, 3464956679, 1436574357, 4191992748, 2042521214]
  | 7 => [4212184248, 2621952143, 2793755673, 4246189128, 235997352, 1571093500, 648266853, 1211816567]
  | 48 => [7, 0, 0, 0, 0, 0, 0, 0]
  | _ => []
def s12 (k : Nat) : Nat → Int64 := match k with
  | 0 => ptL 8 (fun j => lN ((cL12 0).getD j 0))
  | 1 => ptL 8 (fun j => lN ((cL12 1).getD j 0))
  | 2 => ptL 5 (fun j => lN ((cL12 2).getD j 0))
  | 3 => ptL 5 (fun j => lN ((cL12 3).getD j 0))
  | 4 => ptL 8 (fun j => lN ((cL12 4).getD j 0))
  | 5 => ptL 8 (fun j => lN ((cL12 5).getD j 0))
  | 6 => ptL 8 (fun j => lN ((cL12 6).getD j 0))
  | 7 => ptL 8 (fun j => lN ((cL12 7).getD j 0))
  | 48 => ptL 8 (fun j => lN ((cL12 48).getD j 0))
  | _ => fun _ => 0
def w12 (k : Nat) : Nat → Int32 := match k with
  | 50 => ptI 9 (fun j => nI (tAt j))
  | 51 => ptI 105 (fun j => nI (tBt j))
  | 52 => ptI 64 (fun j => jROUND.getD j 0)
  | _ => fun _ => 0
def rf12 (G : Nat → ClassId) (k : Nat) : va_E := match mkd k with
  | 1 => .inl (G 2, mln k, .inr (.inl (s12 k)))
  | 2 => .inl (G 1, mln k, .inl (w12 k))
  | _ => .inl (G 3, mln k, .inl (w12 k))
def fl12 (i : Nat) : Nat := [0, 1, 2, 3, 4, 5, 6, 7, 8, 9, 11, 12, 13, 14, 15, 17, 18, 19, 20, 21, 22, 23, 25, 26, 27, 28, 32, 33, 34, 35, 36, 37, 38, 39, 40, 41, 42, 43, 44, 45, 46, 47, 48, 49, 50, 51, 52, 53, 54, 55, 56, 58, 59, 60, 61, 62, 63, 64, 65, 66, 67, 68, 69, 70, 71, 72, 73, 74, 75, 76, 77, 79, 80].getD i 0
def pl12 (k : Nat) : Nat := [0, 1, 2, 3, 4, 5, 6, 7, 8, 9, 0, 10, 11, 12, 13, 14, 0, 15, 16, 17, 18, 19, 20, 21, 0, 22, 23, 24, 25, 0, 0, 0, 26, 27, 28, 29, 30, 31, 32, 33, 34, 35, 36, 37, 38, 39, 40, 41, 42, 43, 44, 45, 46, 47, 48, 49, 50, 0, 51, 52, 53, 54, 55, 56, 57, 58, 59, 60, 61, 62, 63, 64, 65, 66, 67, 68, 69, 70, 0, 71, 72].getD k 0
def tX12 (G : Nat → ClassId) : Nat → va_E := fun i => rf12 G (fl12 i)
theorem dfX12 : ∀ ty0 : Nat → FieldType, (∀ k, k < (jq 12).2.2 → parseFieldDescriptor ((jq 12).2.1 k).2.2.1 = some (ty0 k)) → ∀ j, j < (jq 12).2.2 → defaultValue (ty0 j) = vp_V [.null, .null, .null, .null, .null, .null, .null, .null, .null, .null, .int 0, .null, .null, .null, .null, .null, .int 0, .null, .null, .null, .null, .null, .null, .null, .int 0, .null, .null, .null, .null, .int 0, .int 0, .int 0, .null, .null, .null, .null, .null, .null, .null, .null, .null, .null, .null, .null, .null, .null, .null, .null, .null, .null, .null, .null, .null, .null, .null, .null, .null, .int 0, .null, .null, .null, .null, .null, .null, .null, .null, .null, .null, .null, .null, .null, .null, .null, .null, .null, .null, .null, .null, .int 0, .null, .null] j := by
  intro ty0 h j hj
  have e : ty0 j = tyX12 j := Option.some.inj ((h j hj).symm.trans (tyX12_ok j hj))
  rw [e]
  exact (show ∀ j, j < 81 → defaultValue (tyX12 j) = vp_V [.null, .null, .null, .null, .null, .null, .null, .null, .null, .null, .int 0, .null, .null, .null, .null, .null, .int 0, .null, .null, .null, .null, .null, .null, .null, .int 0, .null, .null, .null, .null, .int 0, .int 0, .int 0, .null, .null, .null, .null, .null, .null, .null, .null, .null, .null, .null, .null, .null, .null, .null, .null, .null, .null, .null, .null, .null, .null, .null, .null, .null, .int 0, .null, .null, .null, .null, .null, .null, .null, .null, .null, .null, .null, .null, .null, .null, .null, .null, .null, .null, .null, .null, .int 0, .null, .null] j from (fls (fls (fls (fls (fls (fls (fls (fls (fls (fls (fls (fls (fls (fls (fls (fls (fls (fls (fls (fls (fls (fls (fls (fls (fls (fls (fls (fls (fls (fls (fls (fls (fls (fls (fls (fls (fls (fls (fls (fls (fls (fls (fls (fls (fls (fls (fls (fls (fls (fls (fls (fls (fls (fls (fls (fls (fls (fls (fls (fls (fls (fls (fls (fls (fls (fls (fls (fls (fls (fls (fls (fls (fls (fls (fls (fls (fls (fls (fls (fls (fls fls0 rfl) rfl) rfl) rfl) rfl) rfl) rfl) rfl) rfl) rfl) rfl) rfl) rfl) rfl) rfl) rfl) rfl) rfl) rfl) rfl) rfl) rfl) rfl) rfl) rfl) rfl) rfl) rfl) rfl) rfl) rfl) rfl) rfl) rfl) rfl) rfl) rfl) rfl) rfl) rfl) rfl) rfl) rfl) rfl) rfl) rfl) rfl) rfl) rfl) rfl) rfl) rfl) rfl) rfl) rfl) rfl) rfl) rfl) rfl) rfl) rfl) rfl) rfl) rfl) rfl) rfl) rfl) rfl) rfl) rfl) rfl) rfl) rfl) rfl) rfl) rfl) rfl) rfl) rfl) rfl) rfl)) j hj

set_option maxHeartbeats 4000000 in
set_option maxRecDepth 100000 in
theorem c_i12 (l : Launch) (G : Nat → ClassId) (o : Nat) : jCv l yX12_init wsX12_init ({ frames := 1, cells := 73, slots := 4867, locals := 20 }) (73) (4867) G [.ref o] (fun L F => jF L F o (.inr (12, [.null, .null, .null, .null, .null, .null, .null, .null, .null, .null, .int 0, .null, .null, .null, .null, .null, .int 0, .null, .null, .null, .null, .null, .null, .null, .int 0, .null, .null, .null, .null, .int 0, .int 0, .int 0, .null, .null, .null, .null, .null, .null, .null, .null, .null, .null, .null, .null, .null, .null, .null, .null, .null, .null, .null, .null, .null, .null, .null, .null, .null, .int 0, .null, .null, .null, .null, .null, .null, .null, .null, .null, .null, .null, .null, .null, .null, .null, .null, .null, .null, .null, .null, .int 0, .null, .null]))) (fun L F L1 F1 => ∃ A, gS L F o 73 A (tX12 G) L1 F1 ∧ F1 o = (.inr (12, [.ref (A 0), .ref (A 1), .ref (A 2), .ref (A 3), .ref (A 4), .ref (A 5), .ref (A 6), .ref (A 7), .ref (A 8), .ref (A 9), .int (0 : Int32), .ref (A 10), .ref (A 11), .ref (A 12), .ref (A 13), .ref (A 14), .int (0 : Int32), .ref (A 15), .ref (A 16), .ref (A 17), .ref (A 18), .ref (A 19), .ref (A 20), .ref (A 21), .int (0 : Int32), .ref (A 22), .ref (A 23), .ref (A 24), .ref (A 25), .int (0 : Int32), .int (0 : Int32), .int (0 : Int32), .ref (A 26), .ref (A 27), .ref (A 28), .ref (A 29), .ref (A 30), .ref (A 31), .ref (A 32), .ref (A 33), .ref (A 34), .ref (A 35), .ref (A 36), .ref (A 37), .ref (A 38), .ref (A 39), .ref (A 40), .ref (A 41), .ref (A 42), .ref (A 43), .ref (A 44), .ref (A 45), .ref (A 46), .ref (A 47), .ref (A 48), .ref (A 49), .ref (A 50), .int (0 : Int32), .ref (A 51), .ref (A 52), .ref (A 53), .ref (A 54), .ref (A 55), .ref (A 56), .ref (A 57), .ref (A 58), .ref (A 59), .ref (A 60), .ref (A 61), .ref (A 62), .ref (A 63), .ref (A 64), .ref (A 65), .ref (A 66), .ref (A 67), .ref (A 68), .ref (A 69), .ref (A 70), .int (0 : Int32), .ref (A 71), .ref (A 72)]))) := by
  refine jm_vI (cc := cX12_init) (maxL := 1) (by decide) rfl (Nat.le_of_ble_eq_true rfl) rfl ?_
  intro E L F hE hinit hR hpre
  have hE : jOk E G _ cX12_init 1 RX12 wsX12_init := hE
  have ho := hpre
  have f15 : jFl RX12 wsX12_init 15 12 0 := ⟨rfl, by decide, by decide +kernel, by decide +kernel⟩
  have f27 : jFl RX12 wsX12_init 27 12 1 := ⟨rfl, by decide, by decide +kernel, by decide +kernel⟩
  have f32 : jFl RX12 wsX12_init 32 12 2 := ⟨rfl, by decide, by decide +kernel, by decide +kernel⟩
  have f43 : jFl RX12 wsX12_init 43 12 3 := ⟨rfl, by decide, by decide +kernel, by decide +kernel⟩
  have f48 : jFl RX12 wsX12_init 48 12 4 := ⟨rfl, by decide, by decide +kernel, by decide +kernel⟩
  have f55 : jFl RX12 wsX12_init 55 12 5 := ⟨rfl, by decide, by decide +kernel, by decide +kernel⟩
  have f74 : jFl RX12 wsX12_init 74 12 6 := ⟨rfl, by decide, by decide +kernel, by decide +kernel⟩
  have f93 : jFl RX12 wsX12_init 93 12 7 := ⟨rfl, by decide, by decide +kernel, by decide +kernel⟩
  have f96 : jFl RX12 wsX12_init 96 12 8 := ⟨rfl, by decide, by decide +kernel, by decide +kernel⟩
  have f100 : jFl RX12 wsX12_init 100 12 9 := ⟨rfl, by decide, by decide +kernel, by decide +kernel⟩
  have f103 : jFl RX12 wsX12_init 103 12 11 := ⟨rfl, by decide, by decide +kernel, by decide +kernel⟩
  have f106 : jFl RX12 wsX12_init 106 12 12 := ⟨rfl, by decide, by decide +kernel, by decide +kernel⟩
  have f109 : jFl RX12 wsX12_init 109 12 13 := ⟨rfl, by decide, by decide +kernel, by decide +kernel⟩
  have f112 : jFl RX12 wsX12_init 112 12 14 := ⟨rfl, by decide, by decide +kernel, by decide +kernel⟩
  have f115 : jFl RX12 wsX12_init 115 12 15 := ⟨rfl, by decide, by decide +kernel, by decide +kernel⟩
  have f118 : jFl RX12 wsX12_init 118 12 17 := ⟨rfl, by decide, by decide +kernel, by decide +kernel⟩
  have f121 : jFl RX12 wsX12_init 121 12 18 := ⟨rfl, by decide, by decide +kernel, by decide +kernel⟩
  have f125 : jFl RX12 wsX12_init 125 12 19 := ⟨rfl, by decide, by decide +kernel, by decide +kernel⟩
  have f128 : jFl RX12 wsX12_init 128 12 20 := ⟨rfl, by decide, by decide +kernel, by decide +kernel⟩
  have f131 : jFl RX12 wsX12_init 131 12 21 := ⟨rfl, by decide, by decide +kernel, by decide +kernel⟩
  have f134 : jFl RX12 wsX12_init 134 12 22 := ⟨rfl, by decide, by decide +kernel, by decide +kernel⟩
  have f137 : jFl RX12 wsX12_init 137 12 23 := ⟨rfl, by decide, by decide +kernel, by decide +kernel⟩
  have f140 : jFl RX12 wsX12_init 140 12 25 := ⟨rfl, by decide, by decide +kernel, by decide +kernel⟩
  have f143 : jFl RX12 wsX12_init 143 12 26 := ⟨rfl, by decide, by decide +kernel, by decide +kernel⟩
  have f146 : jFl RX12 wsX12_init 146 12 27 := ⟨rfl, by decide, by decide +kernel, by decide +kernel⟩
  have f149 : jFl RX12 wsX12_init 149 12 28 := ⟨rfl, by decide, by decide +kernel, by decide +kernel⟩
  have f152 : jFl RX12 wsX12_init 152 12 32 := ⟨rfl, by decide, by decide +kernel, by decide +kernel⟩
  have f155 : jFl RX12 wsX12_init 155 12 33 := ⟨rfl, by decide, by decide +kernel, by decide +kernel⟩
  have f158 : jFl RX12 wsX12_init 158 12 34 := ⟨rfl, by decide, by decide +kernel, by decide +kernel⟩
  have f161 : jFl RX12 wsX12_init 161 12 35 := ⟨rfl, by decide, by decide +kernel, by decide +kernel⟩
  have f164 : jFl RX12 wsX12_init 164 12 36 := ⟨rfl, by decide, by decide +kernel, by decide +kernel⟩
  have f167 : jFl RX12 wsX12_init 167 12 37 := ⟨rfl, by decide, by decide +kernel, by decide +kernel⟩
  have f170 : jFl RX12 wsX12_init 170 12 38 := ⟨rfl, by decide, by decide +kernel, by decide +kernel⟩
  have f173 : jFl RX12 wsX12_init 173 12 39 := ⟨rfl, by decide, by decide +kernel, by decide +kernel⟩
  have f176 : jFl RX12 wsX12_init 176 12 40 := ⟨rfl, by decide, by decide +kernel, by decide +kernel⟩
  have f179 : jFl RX12 wsX12_init 179 12 41 := ⟨rfl, by decide, by decide +kernel, by decide +kernel⟩
  have f182 : jFl RX12 wsX12_init 182 12 42 := ⟨rfl, by decide, by decide +kernel, by decide +kernel⟩
  have f185 : jFl RX12 wsX12_init 185 12 43 := ⟨rfl, by decide, by decide +kernel, by decide +kernel⟩
  have f188 : jFl RX12 wsX12_init 188 12 44 := ⟨rfl, by decide, by decide +kernel, by decide +kernel⟩
  have f191 : jFl RX12 wsX12_init 191 12 45 := ⟨rfl, by decide, by decide +kernel, by decide +kernel⟩
  have f194 : jFl RX12 wsX12_init 194 12 46 := ⟨rfl, by decide, by decide +kernel, by decide +kernel⟩
  have f197 : jFl RX12 wsX12_init 197 12 47 := ⟨rfl, by decide, by decide +kernel, by decide +kernel⟩
  have f202 : jFl RX12 wsX12_init 202 12 48 := ⟨rfl, by decide, by decide +kernel, by decide +kernel⟩
  have f205 : jFl RX12 wsX12_init 205 12 49 := ⟨rfl, by decide, by decide +kernel, by decide +kernel⟩
  have f208 : jFl RX12 wsX12_init 208 12 50 := ⟨rfl, by decide, by decide +kernel, by decide +kernel⟩
  have f211 : jFl RX12 wsX12_init 211 12 51 := ⟨rfl, by decide, by decide +kernel, by decide +kernel⟩
  have f278 : jFl RX12 wsX12_init 278 12 52 := ⟨rfl, by decide, by decide +kernel, by decide +kernel⟩
  have f281 : jFl RX12 wsX12_init 281 12 53 := ⟨rfl, by decide, by decide +kernel, by decide +kernel⟩
  have f284 : jFl RX12 wsX12_init 284 12 54 := ⟨rfl, by decide, by decide +kernel, by decide +kernel⟩
  have f287 : jFl RX12 wsX12_init 287 12 55 := ⟨rfl, by decide, by decide +kernel, by decide +kernel⟩
  have f290 : jFl RX12 wsX12_init 290 12 56 := ⟨rfl, by decide, by decide +kernel, by decide +kernel⟩
  have f293 : jFl RX12 wsX12_init 293 12 58 := ⟨rfl, by decide, by decide +kernel, by decide +kernel⟩
  have f296 : jFl RX12 wsX12_init 296 12 59 := ⟨rfl, by decide, by decide +kernel, by decide +kernel⟩
  have f299 : jFl RX12 wsX12_init 299 12 60 := ⟨rfl, by decide, by decide +kernel, by decide +kernel⟩
  have f302 : jFl RX12 wsX12_init 302 12 61 := ⟨rfl, by decide, by decide +kernel, by decide +kernel⟩
  have f305 : jFl RX12 wsX12_init 305 12 62 := ⟨rfl, by decide, by decide +kernel, by decide +kernel⟩
  have f308 : jFl RX12 wsX12_init 308 12 63 := ⟨rfl, by decide, by decide +kernel, by decide +kernel⟩
  have f311 : jFl RX12 wsX12_init 311 12 64 := ⟨rfl, by decide, by decide +kernel, by decide +kernel⟩
  have f314 : jFl RX12 wsX12_init 314 12 65 := ⟨rfl, by decide, by decide +kernel, by decide +kernel⟩
  have f317 : jFl RX12 wsX12_init 317 12 66 := ⟨rfl, by decide, by decide +kernel, by decide +kernel⟩
  have f320 : jFl RX12 wsX12_init 320 12 67 := ⟨rfl, by decide, by decide +kernel, by decide +kernel⟩
  have f323 : jFl RX12 wsX12_init 323 12 68 := ⟨rfl, by decide, by decide +kernel, by decide +kernel⟩
  have f326 : jFl RX12 wsX12_init 326 12 69 := ⟨rfl, by decide, by decide +kernel, by decide +kernel⟩
  have f329 : jFl RX12 wsX12_init 329 12 70 := ⟨rfl, by decide, by decide +kernel, by decide +kernel⟩
  have f332 : jFl RX12 wsX12_init 332 12 71 := ⟨rfl, by decide, by decide +kernel, by decide +kernel⟩
  have f335 : jFl RX12 wsX12_init 335 12 72 := ⟨rfl, by decide, by decide +kernel, by decide +kernel⟩
  have f338 : jFl RX12 wsX12_init 338 12 73 := ⟨rfl, by decide, by decide +kernel, by decide +kernel⟩
  have f341 : jFl RX12 wsX12_init 341 12 74 := ⟨rfl, by decide, by decide +kernel, by decide +kernel⟩
  have f344 : jFl RX12 wsX12_init 344 12 75 := ⟨rfl, by decide, by decide +kernel, by decide +kernel⟩
  have f347 : jFl RX12 wsX12_init 347 12 76 := ⟨rfl, by decide, by decide +kernel, by decide +kernel⟩
  have f350 : jFl RX12 wsX12_init 350 12 77 := ⟨rfl, by decide, by decide +kernel, by decide +kernel⟩
  have f353 : jFl RX12 wsX12_init 353 12 79 := ⟨rfl, by decide, by decide +kernel, by decide +kernel⟩
  have f356 : jFl RX12 wsX12_init 356 12 80 := ⟨rfl, by decide, by decide +kernel, by decide +kernel⟩
  refine jr_aload_n hE dX12_init_0 0 rfl ?_
  refine jr_objInit hE dX12_init_1 (by decide +kernel) (by decide +kernel) (by decide +kernel) ⟨Nat.le_of_ble_eq_true rfl, Nat.le_of_ble_eq_true rfl⟩ (Nat.le_of_ble_eq_true rfl) ?_
  refine jr_aload_n hE dX12_init_4 0 rfl ?_
  refine jr_bipush (v := (8 : Int32)) hE dX12_init_5 (by decide) ?_
  refine jr_newa (ty := .long) (g := 2) (N := 8) (a0 := (8, .inr (.inl (fun _ => 0)))) hE dX12_init_7 (by decide +kernel) rfl rfl (fun _ e => by cases e) (fun _ => rfl) (by decide) (by decide) (by decide) ⟨by decide, by decide⟩ (fun q1 F2 n3 g4 u5 => ?_)
  have g6 := jF.pL0 g4 (fun j => lN ((cL12 0).getD j 0))
  refine jr_dup hE dX12_init_9 rfl ?_
  refine jr_iconst (v := (0 : Int32)) hE dX12_init_10 (by decide) ?_
  refine jr_ldc2 (v := (4294966319 : Int64)) hE dX12_init_11 (by decide +kernel) ?_
  refine jr_last hE dX12_init_14 g6 (vp_lit (by decide)) (fun F7 g8 u9 => ?_)
  have g10 := jF.pL g8 (show _ = 0 from rfl) (by decide +kernel)
  have u11 := utr u9 u5
  refine jr_dup hE dX12_init_15 rfl ?_
  refine jr_iconst (v := (1 : Int32)) hE dX12_init_16 (by decide) ?_
  refine jr_ldc2 (v := (4294967294 : Int64)) hE dX12_init_17 (by decide +kernel) ?_
  refine jr_last hE dX12_init_20 g10 (vp_lit (by decide)) (fun F12 g13 u14 => ?_)
  have g15 := jF.pL g13 (show _ = 1 from rfl) (by decide +kernel)
  have u16 := utr u14 u11
  refine jr_dup hE dX12_init_21 rfl ?_
  refine jr_iconst (v := (2 : Int32)) hE dX12_init_22 (by decide) ?_
  refine jr_ldc2 (v := (4294967295 : Int64)) hE dX12_init_23 (by decide +kernel) ?_
  refine jr_last hE dX12_init_26 g15 (vp_lit (by decide)) (fun F17 g18 u19 => ?_)
  have g20 := jF.pL g18 (show _ = 2 from rfl) (by decide +kernel)
  have u21 := utr u19 u16
  refine jr_dup hE dX12_init_27 rfl ?_
  refine jr_iconst (v := (3 : Int32)) hE dX12_init_28 (by decide) ?_
  refine jr_ldc2 (v := (4294967295 : Int64)) hE dX12_init_29 (by decide +kernel) ?_
  refine jr_last hE dX12_init_32 g20 (vp_lit (by decide)) (fun F22 g23 u24 => ?_)
  have g25 := jF.pL g23 (show _ = 3 from rfl) (by decide +kernel)
  have u26 := utr u24 u21
  refine jr_dup hE dX12_init_33 rfl ?_
  refine jr_iconst (v := (4 : Int32)) hE dX12_init_34 (by decide) ?_
  refine jr_ldc2 (v := (4294967295 : Int64)) hE dX12_init_35 (by decide +kernel) ?_
  refine jr_last hE dX12_init_38 g25 (vp_lit (by decide)) (fun F27 g28 u29 => ?_)
  have g30 := jF.pL g28 (show _ = 4 from rfl) (by decide +kernel)
  have u31 := utr u29 u26
  refine jr_dup hE dX12_init_39 rfl ?_
  refine jr_iconst (v := (5 : Int32)) hE dX12_init_40 (by decide) ?_
  refine jr_ldc2 (v := (4294967295 : Int64)) hE dX12_init_41 (by decide +kernel) ?_
  refine jr_last hE dX12_init_44 g30 (vp_lit (by decide)) (fun F32 g33 u34 => ?_)
  have g35 := jF.pL g33 (show _ = 5 from rfl) (by decide +kernel)
  have u36 := utr u34 u31
  refine jr_dup hE dX12_init_45 rfl ?_
  refine jr_bipush (v := (6 : Int32)) hE dX12_init_46 (by decide) ?_
  refine jr_ldc2 (v := (4294967295 : Int64)) hE dX12_init_48 (by decide +kernel) ?_
  refine jr_last hE dX12_init_51 g35 (vp_lit (by decide)) (fun F37 g38 u39 => ?_)
  have g40 := jF.pL g38 (show _ = 6 from rfl) (by decide +kernel)
  have u41 := utr u39 u36
  refine jr_dup hE dX12_init_52 rfl ?_
  refine jr_bipush (v := (7 : Int32)) hE dX12_init_53 (by decide) ?_
  refine jr_ldc2 (v := (4294967295 : Int64)) hE dX12_init_55 (by decide +kernel) ?_
  refine jr_last hE dX12_init_58 g40 (vp_lit (by decide)) (fun F42 g43 u44 => ?_)
  have g45 := jF.pL g43 (show _ = 7 from rfl) (by decide +kernel)
  have u46 := utr u44 u41
  have g47 := ho.nw n3 u46
  have g48 := (gS.nil (fun _ => 0) (tX12 G) ho.1).nx n3 u46 g45
  refine jr_putF (ty := .array .long) hE dX12_init_59 f15 g47 rfl hinit rfl (by decide +kernel) rfl rfl (Nat.le_of_ble_eq_true rfl) (fun F50 g51 u52 => ?_)
  have g53 := g48.put u52
  refine jr_aload_n hE dX12_init_62 0 rfl ?_
  refine jr_bipush (v := (8 : Int32)) hE dX12_init_63 (by decide) ?_
  refine jr_newa (ty := .long) (g := 2) (N := 8) (a0 := (8, .inr (.inl (fun _ => 0)))) hE dX12_init_65 (by decide +kernel) rfl rfl (fun _ e => by cases e) (fun _ => rfl) (by decide) (by decide) (by decide) ⟨by decide, by decide⟩ (fun q54 F55 n56 g57 u58 => ?_)
  have g59 := jF.pL0 g57 (fun j => lN ((cL12 1).getD j 0))
  refine jr_dup hE dX12_init_67 rfl ?_
  refine jr_iconst (v := (0 : Int32)) hE dX12_init_68 (by decide) ?_
  refine jr_ldc2 (v := (3493216577 : Int64)) hE dX12_init_69 (by decide +kernel) ?_
  refine jr_last hE dX12_init_72 g59 (vp_lit (by decide)) (fun F60 g61 u62 => ?_)
  have g63 := jF.pL g61 (show _ = 0 from rfl) (by decide +kernel)
  have u64 := utr u62 u58
  refine jr_dup hE dX12_init_73 rfl ?_
  refine jr_iconst (v := (1 : Int32)) hE dX12_init_74 (by decide) ?_
  refine jr_ldc2 (v := (3218235020 : Int64)) hE dX12_init_75 (by decide +kernel) ?_
  refine jr_last hE dX12_init_78 g63 (vp_lit (by decide)) (fun F65 g66 u67 => ?_)
  have g68 := jF.pL g66 (show _ = 1 from rfl) (by decide +kernel)
  have u69 := utr u67 u64
  refine jr_dup hE dX12_init_79 rfl ?_
  refine jr_iconst (v := (2 : Int32)) hE dX12_init_80 (by decide) ?_
  refine jr_ldc2 (v := (2940772411 : Int64)) hE dX12_init_81 (by decide +kernel) ?_
  refine jr_last hE dX12_init_84 g68 (vp_lit (by decide)) (fun F70 g71 u72 => ?_)
  have g73 := jF.pL g71 (show _ = 2 from rfl) (by decide +kernel)
  have u74 := utr u72 u69
  refine jr_dup hE dX12_init_85 rfl ?_
  refine jr_iconst (v := (3 : Int32)) hE dX12_init_86 (by decide) ?_
  refine jr_ldc2 (v := (3132021990 : Int64)) hE dX12_init_87 (by decide +kernel) ?_
  refine jr_last hE dX12_init_90 g73 (vp_lit (by decide)) (fun F75 g76 u77 => ?_)
  have g78 := jF.pL g76 (show _ = 3 from rfl) (by decide +kernel)
  have u79 := utr u77 u74
  refine jr_dup hE dX12_init_91 rfl ?_
  refine jr_iconst (v := (4 : Int32)) hE dX12_init_92 (by decide) ?_
  refine jr_ldc2 (v := (4294967294 : Int64)) hE dX12_init_93 (by decide +kernel) ?_
  refine jr_last hE dX12_init_96 g78 (vp_lit (by decide)) (fun F80 g81 u82 => ?_)
  have g83 := jF.pL g81 (show _ = 4 from rfl) (by decide +kernel)
  have u84 := utr u82 u79
  refine jr_dup hE dX12_init_97 rfl ?_
  refine jr_iconst (v := (5 : Int32)) hE dX12_init_98 (by decide) ?_
  refine jr_ldc2 (v := (4294967295 : Int64)) hE dX12_init_99 (by decide +kernel) ?_
  refine jr_last hE dX12_init_102 g83 (vp_lit (by decide)) (fun F85 g86 u87 => ?_)
  have g88 := jF.pL g86 (show _ = 5 from rfl) (by decide +kernel)
  have u89 := utr u87 u84
  refine jr_dup hE dX12_init_103 rfl ?_
  refine jr_bipush (v := (6 : Int32)) hE dX12_init_104 (by decide) ?_
  refine jr_ldc2 (v := (4294967295 : Int64)) hE dX12_init_106 (by decide +kernel) ?_
  refine jr_last hE dX12_init_109 g88 (vp_lit (by decide)) (fun F90 g91 u92 => ?_)
  have g93 := jF.pL g91 (show _ = 6 from rfl) (by decide +kernel)
  have u94 := utr u92 u89
  refine jr_dup hE dX12_init_110 rfl ?_
  refine jr_bipush (v := (7 : Int32)) hE dX12_init_111 (by decide) ?_
  refine jr_ldc2 (v := (4294967295 : Int64)) hE dX12_init_113 (by decide +kernel) ?_
  refine jr_last hE dX12_init_116 g93 (vp_lit (by decide)) (fun F95 g96 u97 => ?_)
  have g98 := jF.pL g96 (show _ = 7 from rfl) (by decide +kernel)
  have u99 := utr u97 u94
  have g100 := g51.nw n56 u99
  have g101 := g53.nx n56 u99 g98
  refine jr_putF (ty := .array .long) hE dX12_init_117 f27 g100 rfl hinit rfl (by decide +kernel) rfl rfl (Nat.le_of_ble_eq_true rfl) (fun F103 g104 u105 => ?_)
  have g106 := g101.put u105
  refine jr_aload_n hE dX12_init_120 0 rfl ?_
  refine jr_iconst (v := (5 : Int32)) hE dX12_init_121 (by decide) ?_
  refine jr_newa (ty := .long) (g := 2) (N := 5) (a0 := (5, .inr (.inl (fun _ => 0)))) hE dX12_init_122 (by decide +kernel) rfl rfl (fun _ e => by cases e) (fun _ => rfl) (by decide) (by decide) (by decide) ⟨by decide, by decide⟩ (fun q107 F108 n109 g110 u111 => ?_)
  have g112 := jF.pL0 g110 (fun j => lN ((cL12 2).getD j 0))
  refine jr_dup hE dX12_init_124 rfl ?_
  refine jr_iconst (v := (0 : Int32)) hE dX12_init_125 (by decide) ?_
  refine jr_ldc2 (v := (977 : Int64)) hE dX12_init_126 (by decide +kernel) ?_
  refine jr_last hE dX12_init_129 g112 (vp_lit (by decide)) (fun F113 g114 u115 => ?_)
  have g116 := jF.pL g114 (show _ = 0 from rfl) (by decide +kernel)
  have u117 := utr u115 u111
  refine jr_dup hE dX12_init_130 rfl ?_
  refine jr_iconst (v := (1 : Int32)) hE dX12_init_131 (by decide) ?_
  refine jr_lconst (v := (1 : Int64)) hE dX12_init_132 (by decide) ?_
  refine jr_last hE dX12_init_133 g116 (vp_lit (by decide)) (fun F118 g119 u120 => ?_)
  have g121 := jF.pL g119 (show _ = 1 from rfl) (by decide +kernel)
  have u122 := utr u120 u117
  refine jr_dup hE dX12_init_134 rfl ?_
  refine jr_iconst (v := (2 : Int32)) hE dX12_init_135 (by decide) ?_
  refine jr_lconst (v := (0 : Int64)) hE dX12_init_136 (by decide) ?_
  refine jr_last hE dX12_init_137 g121 (vp_lit (by decide)) (fun F123 g124 u125 => ?_)
  have g126 := jF.pL g124 (show _ = 2 from rfl) (by decide +kernel)
  have u127 := utr u125 u122
  refine jr_dup hE dX12_init_138 rfl ?_
  refine jr_iconst (v := (3 : Int32)) hE dX12_init_139 (by decide) ?_
  refine jr_lconst (v := (0 : Int64)) hE dX12_init_140 (by decide) ?_
  refine jr_last hE dX12_init_141 g126 (vp_lit (by decide)) (fun F128 g129 u130 => ?_)
  have g131 := jF.pL g129 (show _ = 3 from rfl) (by decide +kernel)
  have u132 := utr u130 u127
  refine jr_dup hE dX12_init_142 rfl ?_
  refine jr_iconst (v := (4 : Int32)) hE dX12_init_143 (by decide) ?_
  refine jr_lconst (v := (0 : Int64)) hE dX12_init_144 (by decide) ?_
  refine jr_last hE dX12_init_145 g131 (vp_lit (by decide)) (fun F133 g134 u135 => ?_)
  have g136 := jF.pL g134 (show _ = 4 from rfl) (by decide +kernel)
  have u137 := utr u135 u132
  have g138 := g104.nw n109 u137
  have g139 := g106.nx n109 u137 g136
  refine jr_putF (ty := .array .long) hE dX12_init_146 f32 g138 rfl hinit rfl (by decide +kernel) rfl rfl (Nat.le_of_ble_eq_true rfl) (fun F141 g142 u143 => ?_)
  have g144 := g139.put u143
  refine jr_aload_n hE dX12_init_149 0 rfl ?_
  refine jr_iconst (v := (5 : Int32)) hE dX12_init_150 (by decide) ?_
  refine jr_newa (ty := .long) (g := 2) (N := 5) (a0 := (5, .inr (.inl (fun _ => 0)))) hE dX12_init_151 (by decide +kernel) rfl rfl (fun _ e => by cases e) (fun _ => rfl) (by decide) (by decide) (by decide) ⟨by decide, by decide⟩ (fun q145 F146 n147 g148 u149 => ?_)
  have g150 := jF.pL0 g148 (fun j => lN ((cL12 3).getD j 0))
  refine jr_dup hE dX12_init_153 rfl ?_
  refine jr_iconst (v := (0 : Int32)) hE dX12_init_154 (by decide) ?_
  refine jr_ldc2 (v := (801750719 : Int64)) hE dX12_init_155 (by decide +kernel) ?_
  refine jr_last hE dX12_init_158 g150 (vp_lit (by decide)) (fun F151 g152 u153 => ?_)
  have g154 := jF.pL g152 (show _ = 0 from rfl) (by decide +kernel)
  have u155 := utr u153 u149
  refine jr_dup hE dX12_init_159 rfl ?_
  refine jr_iconst (v := (1 : Int32)) hE dX12_init_160 (by decide) ?_
  refine jr_ldc2 (v := (1076732275 : Int64)) hE dX12_init_161 (by decide +kernel) ?_
  refine jr_last hE dX12_init_164 g154 (vp_lit (by decide)) (fun F156 g157 u158 => ?_)
  have g159 := jF.pL g157 (show _ = 1 from rfl) (by decide +kernel)
  have u160 := utr u158 u155
  refine jr_dup hE dX12_init_165 rfl ?_
  refine jr_iconst (v := (2 : Int32)) hE dX12_init_166 (by decide) ?_
  refine jr_ldc2 (v := (1354194884 : Int64)) hE dX12_init_167 (by decide +kernel) ?_
  refine jr_last hE dX12_init_170 g159 (vp_lit (by decide)) (fun F161 g162 u163 => ?_)
  have g164 := jF.pL g162 (show _ = 2 from rfl) (by decide +kernel)
  have u165 := utr u163 u160
  refine jr_dup hE dX12_init_171 rfl ?_
  refine jr_iconst (v := (3 : Int32)) hE dX12_init_172 (by decide) ?_
  refine jr_ldc2 (v := (1162945305 : Int64)) hE dX12_init_173 (by decide +kernel) ?_
  refine jr_last hE dX12_init_176 g164 (vp_lit (by decide)) (fun F166 g167 u168 => ?_)
  have g169 := jF.pL g167 (show _ = 3 from rfl) (by decide +kernel)
  have u170 := utr u168 u165
  refine jr_dup hE dX12_init_177 rfl ?_
  refine jr_iconst (v := (4 : Int32)) hE dX12_init_178 (by decide) ?_
  refine jr_lconst (v := (1 : Int64)) hE dX12_init_179 (by decide) ?_
  refine jr_last hE dX12_init_180 g169 (vp_lit (by decide)) (fun F171 g172 u173 => ?_)
  have g174 := jF.pL g172 (show _ = 4 from rfl) (by decide +kernel)
  have u175 := utr u173 u170
  have g176 := g142.nw n147 u175
  have g177 := g144.nx n147 u175 g174
  refine jr_putF (ty := .array .long) hE dX12_init_181 f43 g176 rfl hinit rfl (by decide +kernel) rfl rfl (Nat.le_of_ble_eq_true rfl) (fun F179 g180 u181 => ?_)
  have g182 := g177.put u181
  refine jr_aload_n hE dX12_init_184 0 rfl ?_
  refine jr_bipush (v := (8 : Int32)) hE dX12_init_185 (by decide) ?_
  refine jr_newa (ty := .long) (g := 2) (N := 8) (a0 := (8, .inr (.inl (fun _ => 0)))) hE dX12_init_187 (by decide +kernel) rfl rfl (fun _ e => by cases e) (fun _ => rfl) (by decide) (by decide) (by decide) ⟨by decide, by decide⟩ (fun q183 F184 n185 g186 u187 => ?_)
  have g188 := jF.pL0 g186 (fun j => lN ((cL12 4).getD j 0))
  refine jr_dup hE dX12_init_189 rfl ?_
  refine jr_iconst (v := (0 : Int32)) hE dX12_init_190 (by decide) ?_
  refine jr_ldc2 (v := (4294966317 : Int64)) hE dX12_init_191 (by decide +kernel) ?_
  refine jr_last hE dX12_init_194 g188 (vp_lit (by decide)) (fun F189 g190 u191 => ?_)
  have g192 := jF.pL g190 (show _ = 0 from rfl) (by decide +kernel)
  have u193 := utr u191 u187
  refine jr_dup hE dX12_init_195 rfl ?_
  refine jr_iconst (v := (1 : Int32)) hE dX12_init_196 (by decide) ?_
  refine jr_ldc2 (v := (4294967294 : Int64)) hE dX12_init_197 (by decide +kernel) ?_
  refine jr_last hE dX12_init_200 g192 (vp_lit (by decide)) (fun F194 g195 u196 => ?_)
  have g197 := jF.pL g195 (show _ = 1 from rfl) (by decide +kernel)
  have u198 := utr u196 u193
  refine jr_dup hE dX12_init_201 rfl ?_
  refine jr_iconst (v := (2 : Int32)) hE dX12_init_202 (by decide) ?_
  refine jr_ldc2 (v := (4294967295 : Int64)) hE dX12_init_203 (by decide +kernel) ?_
  refine jr_last hE dX12_init_206 g197 (vp_lit (by decide)) (fun F199 g200 u201 => ?_)
  have g202 := jF.pL g200 (show _ = 2 from rfl) (by decide +kernel)
  have u203 := utr u201 u198
  refine jr_dup hE dX12_init_207 rfl ?_
  refine jr_iconst (v := (3 : Int32)) hE dX12_init_208 (by decide) ?_
  refine jr_ldc2 (v := (4294967295 : Int64)) hE dX12_init_209 (by decide +kernel) ?_
  refine jr_last hE dX12_init_212 g202 (vp_lit (by decide)) (fun F204 g205 u206 => ?_)
  have g207 := jF.pL g205 (show _ = 3 from rfl) (by decide +kernel)
  have u208 := utr u206 u203
  refine jr_dup hE dX12_init_213 rfl ?_
  refine jr_iconst (v := (4 : Int32)) hE dX12_init_214 (by decide) ?_
  refine jr_ldc2 (v := (4294967295 : Int64)) hE dX12_init_215 (by decide +kernel) ?_
  refine jr_last hE dX12_init_218 g207 (vp_lit (by decide)) (fun F209 g210 u211 => ?_)
  have g212 := jF.pL g210 (show _ = 4 from rfl) (by decide +kernel)
  have u213 := utr u211 u208
  refine jr_dup hE dX12_init_219 rfl ?_
  refine jr_iconst (v := (5 : Int32)) hE dX12_init_220 (by decide) ?_
  refine jr_ldc2 (v := (4294967295 : Int64)) hE dX12_init_221 (by decide +kernel) ?_
  refine jr_last hE dX12_init_224 g212 (vp_lit (by decide)) (fun F214 g215 u216 => ?_)
  have g217 := jF.pL g215 (show _ = 5 from rfl) (by decide +kernel)
  have u218 := utr u216 u213
  refine jr_dup hE dX12_init_225 rfl ?_
  refine jr_bipush (v := (6 : Int32)) hE dX12_init_226 (by decide) ?_
  refine jr_ldc2 (v := (4294967295 : Int64)) hE dX12_init_228 (by decide +kernel) ?_
  refine jr_last hE dX12_init_231 g217 (vp_lit (by decide)) (fun F219 g220 u221 => ?_)
  have g222 := jF.pL g220 (show _ = 6 from rfl) (by decide +kernel)
  have u223 := utr u221 u218
  refine jr_dup hE dX12_init_232 rfl ?_
  refine jr_bipush (v := (7 : Int32)) hE dX12_init_233 (by decide) ?_
  refine jr_ldc2 (v := (4294967295 : Int64)) hE dX12_init_235 (by decide +kernel) ?_
  refine jr_last hE dX12_init_238 g222 (vp_lit (by decide)) (fun F224 g225 u226 => ?_)
  have g227 := jF.pL g225 (show _ = 7 from rfl) (by decide +kernel)
  have u228 := utr u226 u223
  have g229 := g180.nw n185 u228
  have g230 := g182.nx n185 u228 g227
  refine jr_putF (ty := .array .long) hE dX12_init_239 f48 g229 rfl hinit rfl (by decide +kernel) rfl rfl (Nat.le_of_ble_eq_true rfl) (fun F232 g233 u234 => ?_)
  have g235 := g230.put u234
  refine jr_aload_n hE dX12_init_242 0 rfl ?_
  refine jr_bipush (v := (8 : Int32)) hE dX12_init_243 (by decide) ?_
  refine jr_newa (ty := .long) (g := 2) (N := 8) (a0 := (8, .inr (.inl (fun _ => 0)))) hE dX12_init_245 (by decide +kernel) rfl rfl (fun _ e => by cases e) (fun _ => rfl) (by decide) (by decide) (by decide) ⟨by decide, by decide⟩ (fun q236 F237 n238 g239 u240 => ?_)
  have g241 := jF.pL0 g239 (fun j => lN ((cL12 5).getD j 0))
  refine jr_dup hE dX12_init_247 rfl ?_
  refine jr_iconst (v := (0 : Int32)) hE dX12_init_248 (by decide) ?_
  refine jr_ldc2 (v := (3221225228 : Int64)) hE dX12_init_249 (by decide +kernel) ?_
  refine jr_last hE dX12_init_252 g241 (vp_lit (by decide)) (fun F242 g243 u244 => ?_)
  have g245 := jF.pL g243 (show _ = 0 from rfl) (by decide +kernel)
  have u246 := utr u244 u240
  refine jr_dup hE dX12_init_253 rfl ?_
  refine jr_iconst (v := (1 : Int32)) hE dX12_init_254 (by decide) ?_
  refine jr_ldc2 (v := (4294967295 : Int64)) hE dX12_init_255 (by decide +kernel) ?_
  refine jr_last hE dX12_init_258 g245 (vp_lit (by decide)) (fun F247 g248 u249 => ?_)
  have g250 := jF.pL g248 (show _ = 1 from rfl) (by decide +kernel)
  have u251 := utr u249 u246
  refine jr_dup hE dX12_init_259 rfl ?_
  refine jr_iconst (v := (2 : Int32)) hE dX12_init_260 (by decide) ?_
  refine jr_ldc2 (v := (4294967295 : Int64)) hE dX12_init_261 (by decide +kernel) ?_
  refine jr_last hE dX12_init_264 g250 (vp_lit (by decide)) (fun F252 g253 u254 => ?_)
  have g255 := jF.pL g253 (show _ = 2 from rfl) (by decide +kernel)
  have u256 := utr u254 u251
  refine jr_dup hE dX12_init_265 rfl ?_
  refine jr_iconst (v := (3 : Int32)) hE dX12_init_266 (by decide) ?_
  refine jr_ldc2 (v := (4294967295 : Int64)) hE dX12_init_267 (by decide +kernel) ?_
  refine jr_last hE dX12_init_270 g255 (vp_lit (by decide)) (fun F257 g258 u259 => ?_)
  have g260 := jF.pL g258 (show _ = 3 from rfl) (by decide +kernel)
  have u261 := utr u259 u256
  refine jr_dup hE dX12_init_271 rfl ?_
  refine jr_iconst (v := (4 : Int32)) hE dX12_init_272 (by decide) ?_
  refine jr_ldc2 (v := (4294967295 : Int64)) hE dX12_init_273 (by decide +kernel) ?_
  refine jr_last hE dX12_init_276 g260 (vp_lit (by decide)) (fun F262 g263 u264 => ?_)
  have g265 := jF.pL g263 (show _ = 4 from rfl) (by decide +kernel)
  have u266 := utr u264 u261
  refine jr_dup hE dX12_init_277 rfl ?_
  refine jr_iconst (v := (5 : Int32)) hE dX12_init_278 (by decide) ?_
  refine jr_ldc2 (v := (4294967295 : Int64)) hE dX12_init_279 (by decide +kernel) ?_
  refine jr_last hE dX12_init_282 g265 (vp_lit (by decide)) (fun F267 g268 u269 => ?_)
  have g270 := jF.pL g268 (show _ = 5 from rfl) (by decide +kernel)
  have u271 := utr u269 u266
  refine jr_dup hE dX12_init_283 rfl ?_
  refine jr_bipush (v := (6 : Int32)) hE dX12_init_284 (by decide) ?_
  refine jr_ldc2 (v := (4294967295 : Int64)) hE dX12_init_286 (by decide +kernel) ?_
  refine jr_last hE dX12_init_289 g270 (vp_lit (by decide)) (fun F272 g273 u274 => ?_)
  have g275 := jF.pL g273 (show _ = 6 from rfl) (by decide +kernel)
  have u276 := utr u274 u271
  refine jr_dup hE dX12_init_290 rfl ?_
  refine jr_bipush (v := (7 : Int32)) hE dX12_init_291 (by decide) ?_
  refine jr_ldc2 (v := (1073741823 : Int64)) hE dX12_init_293 (by decide +kernel) ?_
  refine jr_last hE dX12_init_296 g275 (vp_lit (by decide)) (fun F277 g278 u279 => ?_)
  have g280 := jF.pL g278 (show _ = 7 from rfl) (by decide +kernel)
  have u281 := utr u279 u276
  have g282 := g233.nw n238 u281
  have g283 := g235.nx n238 u281 g280
  refine jr_putF (ty := .array .long) hE dX12_init_297 f55 g282 rfl hinit rfl (by decide +kernel) rfl rfl (Nat.le_of_ble_eq_true rfl) (fun F285 g286 u287 => ?_)
  have g288 := g283.put u287
  refine jr_aload_n hE dX12_init_300 0 rfl ?_
  refine jr_bipush (v := (8 : Int32)) hE dX12_init_301 (by decide) ?_
  refine jr_newa (ty := .long) (g := 2) (N := 8) (a0 := (8, .inr (.inl (fun _ => 0)))) hE dX12_init_303 (by decide +kernel) rfl rfl (fun _ e => by cases e) (fun _ => rfl) (by decide) (by decide) (by decide) ⟨by decide, by decide⟩ (fun q289 F290 n291 g292 u293 => ?_)
  have g294 := jF.pL0 g292 (fun j => lN ((cL12 6).getD j 0))
  refine jr_dup hE dX12_init_305 rfl ?_
  refine jr_iconst (v := (0 : Int32)) hE dX12_init_306 (by decide) ?_
  refine jr_ldc2 (v := (385357720 : Int64)) hE dX12_init_307 (by decide +kernel) ?_
  refine jr_last hE dX12_init_310 g294 (vp_lit (by decide)) (fun F295 g296 u297 => ?_)
  have g298 := jF.pL g296 (show _ = 0 from rfl) (by decide +kernel)
  have u299 := utr u297 u293
  refine jr_dup hE dX12_init_311 rfl ?_
  refine jr_iconst (v := (1 : Int32)) hE dX12_init_312 (by decide) ?_
  refine jr_ldc2 (v := (1509065051 : Int64)) hE dX12_init_313 (by decide +kernel) ?_
  refine jr_last hE dX12_init_316 g298 (vp_lit (by decide)) (fun F300 g301 u302 => ?_)
  have g303 := jF.pL g301 (show _ = 1 from rfl) (by decide +kernel)
  have u304 := utr u302 u299
  refine jr_dup hE dX12_init_317 rfl ?_
  refine jr_iconst (v := (2 : Int32)) hE dX12_init_318 (by decide) ?_
  refine jr_ldc2 (v := (768485593 : Int64)) hE dX12_init_319 (by decide +kernel) ?_
  refine jr_last hE dX12_init_322 g303 (vp_lit (by decide)) (fun F305 g306 u307 => ?_)
  have g308 := jF.pL g306 (show _ = 2 from rfl) (by decide +kernel)
  have u309 := utr u307 u304
  refine jr_dup hE dX12_init_323 rfl ?_
  refine jr_iconst (v := (3 : Int32)) hE dX12_init_324 (by decide) ?_
  refine jr_ldc2 (v := (43777243 : Int64)) hE dX12_init_325 (by decide +kernel) ?_
  refine jr_last hE dX12_init_328 g308 (vp_lit (by decide)) (fun F310 g311 u312 => ?_)
  have g313 := jF.pL g311 (show _ = 3 from rfl) (by decide +kernel)
  have u314 := utr u312 u309
  refine jr_dup hE dX12_init_329 rfl ?_
  refine jr_iconst (v := (4 : Int32)) hE dX12_init_330 (by decide) ?_
  refine jr_ldc2 (v := (3464956679 : Int64)) hE dX12_init_331 (by decide +kernel) ?_
  refine jr_last hE dX12_init_334 g313 (vp_lit (by decide)) (fun F315 g316 u317 => ?_)
  have g318 := jF.pL g316 (show _ = 4 from rfl) (by decide +kernel)
  have u319 := utr u317 u314
  refine jr_dup hE dX12_init_335 rfl ?_
  refine jr_iconst (v := (5 : Int32)) hE dX12_init_336 (by decide) ?_
  refine jr_ldc2 (v := (1436574357 : Int64)) hE dX12_init_337 (by decide +kernel) ?_
  refine jr_last hE dX12_init_340 g318 (vp_lit (by decide)) (fun F320 g321 u322 => ?_)
  have g323 := jF.pL g321 (show _ = 5 from rfl) (by decide +kernel)
  have u324 := utr u322 u319
  refine jr_dup hE dX12_init_341 rfl ?_
  refine jr_bipush (v := (6 : Int32)) hE dX12_init_342 (by decide) ?_
  refine jr_ldc2 (v := (4191992748 : Int64)) hE dX12_init_344 (by decide +kernel) ?_
  refine jr_last hE dX12_init_347 g323 (vp_lit (by decide)) (fun F325 g326 u327 => ?_)
  have g328 := jF.pL g326 (show _ = 6 from rfl) (by decide +kernel)
  have u329 := utr u327 u324
  refine jr_dup hE dX12_init_348 rfl ?_
  refine jr_bipush (v := (7 : Int32)) hE dX12_init_349 (by decide) ?_
  refine jr_ldc2 (v := (2042521214 : Int64)) hE dX12_init_351 (by decide +kernel) ?_
  refine jr_last hE dX12_init_354 g328 (vp_lit (by decide)) (fun F330 g331 u332 => ?_)
  have g333 := jF.pL g331 (show _ = 7 from rfl) (by decide +kernel)
  have u334 := utr u332 u329
  have g335 := g286.nw n291 u334
  have g336 := g288.nx n291 u334 g333
  refine jr_putF (ty := .array .long) hE dX12_init_355 f74 g335 rfl hinit rfl (by decide +kernel) rfl rfl (Nat.le_of_ble_eq_true rfl) (fun F338 g339 u340 => ?_)
  have g341 := g336.put u340
  refine jr_aload_n hE dX12_init_358 0 rfl ?_
  refine jr_bipush (v := (8 : Int32)) hE dX12_init_359 (by decide) ?_
  refine jr_newa (ty := .long) (g := 2) (N := 8) (a0 := (8, .inr (.inl (fun _ => 0)))) hE dX12_init_361 (by decide +kernel) rfl rfl (fun _ e => by cases e) (fun _ => rfl) (by decide) (by decide) (by decide) ⟨by decide, by decide⟩ (fun q342 F343 n344 g345 u346 => ?_)
  have g347 := jF.pL0 g345 (fun j => lN ((cL12 7).getD j 0))
  refine jr_dup hE dX12_init_363 rfl ?_
  refine jr_iconst (v := (0 : Int32)) hE dX12_init_364 (by decide) ?_
  refine jr_ldc2 (v := (4212184248 : Int64)) hE dX12_init_365 (by decide +kernel) ?_
  refine jr_last hE dX12_init_368 g347 (vp_lit (by decide)) (fun F348 g349 u350 => ?_)
  have g351 := jF.pL g349 (show _ = 0 from rfl) (by decide +kernel)
  have u352 := utr u350 u346
  refine jr_dup hE dX12_init_369 rfl ?_
  refine jr_iconst (v := (1 : Int32)) hE dX12_init_370 (by decide) ?_
  refine jr_ldc2 (v := (2621952143 : Int64)) hE dX12_init_371 (by decide +kernel) ?_
  refine jr_last hE dX12_init_374 g351 (vp_lit (by decide)) (fun F353 g354 u355 => ?_)
  have g356 := jF.pL g354 (show _ = 1 from rfl) (by decide +kernel)
  have u357 := utr u355 u352
  refine jr_dup hE dX12_init_375 rfl ?_
  refine jr_iconst (v := (2 : Int32)) hE dX12_init_376 (by decide) ?_
  refine jr_ldc2 (v := (2793755673 : Int64)) hE dX12_init_377 (by decide +kernel) ?_
  refine jr_last hE dX12_init_380 g356 (vp_lit (by decide)) (fun F358 g359 u360 => ?_)
  have g361 := jF.pL g359 (show _ = 2 from rfl) (by decide +kernel)
  have u362 := utr u360 u357
  refine jr_dup hE dX12_init_381 rfl ?_
  refine jr_iconst (v := (3 : Int32)) hE dX12_init_382 (by decide) ?_
  refine jr_ldc2 (v := (4246189128 : Int64)) hE dX12_init_383 (by decide +kernel) ?_
  refine jr_last hE dX12_init_386 g361 (vp_lit (by decide)) (fun F363 g364 u365 => ?_)
  have g366 := jF.pL g364 (show _ = 3 from rfl) (by decide +kernel)
  have u367 := utr u365 u362
  refine jr_dup hE dX12_init_387 rfl ?_
  refine jr_iconst (v := (4 : Int32)) hE dX12_init_388 (by decide) ?_
  refine jr_ldc2 (v := (235997352 : Int64)) hE dX12_init_389 (by decide +kernel) ?_
  refine jr_last hE dX12_init_392 g366 (vp_lit (by decide)) (fun F368 g369 u370 => ?_)
  have g371 := jF.pL g369 (show _ = 4 from rfl) (by decide +kernel)
  have u372 := utr u370 u367
  refine jr_dup hE dX12_init_393 rfl ?_
  refine jr_iconst (v := (5 : Int32)) hE dX12_init_394 (by decide) ?_
  refine jr_ldc2 (v := (1571093500 : Int64)) hE dX12_init_395 (by decide +kernel) ?_
  refine jr_last hE dX12_init_398 g371 (vp_lit (by decide)) (fun F373 g374 u375 => ?_)
  have g376 := jF.pL g374 (show _ = 5 from rfl) (by decide +kernel)
  have u377 := utr u375 u372
  refine jr_dup hE dX12_init_399 rfl ?_
  refine jr_bipush (v := (6 : Int32)) hE dX12_init_400 (by decide) ?_
  refine jr_ldc2 (v := (648266853 : Int64)) hE dX12_init_402 (by decide +kernel) ?_
  refine jr_last hE dX12_init_405 g376 (vp_lit (by decide)) (fun F378 g379 u380 => ?_)
  have g381 := jF.pL g379 (show _ = 6 from rfl) (by decide +kernel)
  have u382 := utr u380 u377
  refine jr_dup hE dX12_init_406 rfl ?_
  refine jr_bipush (v := (7 : Int32)) hE dX12_init_407 (by decide) ?_
  refine jr_ldc2 (v := (1211816567 : Int64)) hE dX12_init_409 (by decide +kernel) ?_
  refine jr_last hE dX12_init_412 g381 (vp_lit (by decide)) (fun F383 g384 u385 => ?_)
  have g386 := jF.pL g384 (show _ = 7 from rfl) (by decide +kernel)
  have u387 := utr u385 u382
  have g388 := g339.nw n344 u387
  have g389 := g341.nx n344 u387 g386
  refine jr_putF (ty := .array .long) hE dX12_init_413 f93 g388 rfl hinit rfl (by decide +kernel) rfl rfl (Nat.le_of_ble_eq_true rfl) (fun F391 g392 u393 => ?_)
  have g394 := g389.put u393
  refine jr_aload_n hE dX12_init_416 0 rfl ?_
  refine jr_bipush (v := (16 : Int32)) hE dX12_init_417 (by decide) ?_
  refine jr_newa (ty := .int) (g := 1) (N := 16) (a0 := (16, .inl (fun _ => 0))) hE dX12_init_419 (by decide +kernel) rfl rfl (fun _ e => by cases e) (fun _ => rfl) (by decide) (by decide) (by decide) ⟨by decide, by decide⟩ (fun q395 F396 n397 g398 u399 => ?_)
  have g400 := g392.nw n397 u399
  have g401 := g394.nx n397 u399 g398
  refine jr_putF (ty := .array .int) hE dX12_init_421 f96 g400 rfl hinit rfl (by decide +kernel) rfl rfl (Nat.le_of_ble_eq_true rfl) (fun F403 g404 u405 => ?_)
  have g406 := g401.put u405
  refine jr_aload_n hE dX12_init_424 0 rfl ?_
  refine jr_sipush (v := (1600 : Int32)) hE dX12_init_425 (by decide) ?_
  refine jr_newa (ty := .int) (g := 1) (N := 1600) (a0 := (1600, .inl (fun _ => 0))) hE dX12_init_428 (by decide +kernel) rfl rfl (fun _ e => by cases e) (fun _ => rfl) (by decide) (by decide) (by decide) ⟨by decide, by decide⟩ (fun q407 F408 n409 g410 u411 => ?_)
  have g412 := g404.nw n409 u411
  have g413 := g406.nx n409 u411 g410
  refine jr_putF (ty := .array .int) hE dX12_init_430 f100 g412 rfl hinit rfl (by decide +kernel) rfl rfl (Nat.le_of_ble_eq_true rfl) (fun F415 g416 u417 => ?_)
  have g418 := g413.put u417
  refine jr_aload_n hE dX12_init_433 0 rfl ?_
  refine jr_sipush (v := (128 : Int32)) hE dX12_init_434 (by decide) ?_
  refine jr_newa (ty := .int) (g := 1) (N := 128) (a0 := (128, .inl (fun _ => 0))) hE dX12_init_437 (by decide +kernel) rfl rfl (fun _ e => by cases e) (fun _ => rfl) (by decide) (by decide) (by decide) ⟨by decide, by decide⟩ (fun q419 F420 n421 g422 u423 => ?_)
  have g424 := g416.nw n421 u423
  have g425 := g418.nx n421 u423 g422
  refine jr_putF (ty := .array .int) hE dX12_init_439 f103 g424 rfl hinit rfl (by decide +kernel) rfl rfl (Nat.le_of_ble_eq_true rfl) (fun F427 g428 u429 => ?_)
  have g430 := g425.put u429
  refine jr_aload_n hE dX12_init_442 0 rfl ?_
  refine jr_sipush (v := (160 : Int32)) hE dX12_init_443 (by decide) ?_
  refine jr_newa (ty := .int) (g := 1) (N := 160) (a0 := (160, .inl (fun _ => 0))) hE dX12_init_446 (by decide +kernel) rfl rfl (fun _ e => by cases e) (fun _ => rfl) (by decide) (by decide) (by decide) ⟨by decide, by decide⟩ (fun q431 F432 n433 g434 u435 => ?_)
  have g436 := g428.nw n433 u435
  have g437 := g430.nx n433 u435 g434
  refine jr_putF (ty := .array .int) hE dX12_init_448 f106 g436 rfl hinit rfl (by decide +kernel) rfl rfl (Nat.le_of_ble_eq_true rfl) (fun F439 g440 u441 => ?_)
  have g442 := g437.put u441
  refine jr_aload_n hE dX12_init_451 0 rfl ?_
  refine jr_iconst (v := (4 : Int32)) hE dX12_init_452 (by decide) ?_
  refine jr_newa (ty := .int) (g := 1) (N := 4) (a0 := (4, .inl (fun _ => 0))) hE dX12_init_453 (by decide +kernel) rfl rfl (fun _ e => by cases e) (fun _ => rfl) (by decide) (by decide) (by decide) ⟨by decide, by decide⟩ (fun q443 F444 n445 g446 u447 => ?_)
  have g448 := g440.nw n445 u447
  have g449 := g442.nx n445 u447 g446
  refine jr_putF (ty := .array .int) hE dX12_init_455 f109 g448 rfl hinit rfl (by decide +kernel) rfl rfl (Nat.le_of_ble_eq_true rfl) (fun F451 g452 u453 => ?_)
  have g454 := g449.put u453
  refine jr_aload_n hE dX12_init_458 0 rfl ?_
  refine jr_sipush (v := (256 : Int32)) hE dX12_init_459 (by decide) ?_
  refine jr_newa (ty := .int) (g := 1) (N := 256) (a0 := (256, .inl (fun _ => 0))) hE dX12_init_462 (by decide +kernel) rfl rfl (fun _ e => by cases e) (fun _ => rfl) (by decide) (by decide) (by decide) ⟨by decide, by decide⟩ (fun q455 F456 n457 g458 u459 => ?_)
  have g460 := g452.nw n457 u459
  have g461 := g454.nx n457 u459 g458
  refine jr_putF (ty := .array .int) hE dX12_init_464 f112 g460 rfl hinit rfl (by decide +kernel) rfl rfl (Nat.le_of_ble_eq_true rfl) (fun F463 g464 u465 => ?_)
  have g466 := g461.put u465
  refine jr_aload_n hE dX12_init_467 0 rfl ?_
  refine jr_iconst (v := (4 : Int32)) hE dX12_init_468 (by decide) ?_
  refine jr_newa (ty := .long) (g := 2) (N := 4) (a0 := (4, .inr (.inl (fun _ => 0)))) hE dX12_init_469 (by decide +kernel) rfl rfl (fun _ e => by cases e) (fun _ => rfl) (by decide) (by decide) (by decide) ⟨by decide, by decide⟩ (fun q467 F468 n469 g470 u471 => ?_)
  have g472 := g464.nw n469 u471
  have g473 := g466.nx n469 u471 g470
  refine jr_putF (ty := .array .long) hE dX12_init_471 f115 g472 rfl hinit rfl (by decide +kernel) rfl rfl (Nat.le_of_ble_eq_true rfl) (fun F475 g476 u477 => ?_)
  have g478 := g473.put u477
  refine jr_aload_n hE dX12_init_474 0 rfl ?_
  refine jr_sipush (v := (132 : Int32)) hE dX12_init_475 (by decide) ?_
  refine jr_newa (ty := .int) (g := 1) (N := 132) (a0 := (132, .inl (fun _ => 0))) hE dX12_init_478 (by decide +kernel) rfl rfl (fun _ e => by cases e) (fun _ => rfl) (by decide) (by decide) (by decide) ⟨by decide, by decide⟩ (fun q479 F480 n481 g482 u483 => ?_)
  have g484 := g476.nw n481 u483
  have g485 := g478.nx n481 u483 g482
  refine jr_putF (ty := .array .int) hE dX12_init_480 f118 g484 rfl hinit rfl (by decide +kernel) rfl rfl (Nat.le_of_ble_eq_true rfl) (fun F487 g488 u489 => ?_)
  have g490 := g485.put u489
  refine jr_aload_n hE dX12_init_483 0 rfl ?_
  refine jr_iconst (v := (4 : Int32)) hE dX12_init_484 (by decide) ?_
  refine jr_newa (ty := .boolean) (g := 3) (N := 4) (a0 := (4, .inl (fun _ => 0))) hE dX12_init_485 (by decide +kernel) rfl rfl (fun _ e => by cases e) (fun _ => rfl) (by decide) (by decide) (by decide) ⟨by decide, by decide⟩ (fun q491 F492 n493 g494 u495 => ?_)
  have g496 := g488.nw n493 u495
  have g497 := g490.nx n493 u495 g494
  refine jr_putF (ty := .array .boolean) hE dX12_init_487 f121 g496 rfl hinit rfl (by decide +kernel) rfl rfl (Nat.le_of_ble_eq_true rfl) (fun F499 g500 u501 => ?_)
  have g502 := g497.put u501
  refine jr_aload_n hE dX12_init_490 0 rfl ?_
  refine jr_bipush (v := (32 : Int32)) hE dX12_init_491 (by decide) ?_
  refine jr_newa (ty := .long) (g := 2) (N := 32) (a0 := (32, .inr (.inl (fun _ => 0)))) hE dX12_init_493 (by decide +kernel) rfl rfl (fun _ e => by cases e) (fun _ => rfl) (by decide) (by decide) (by decide) ⟨by decide, by decide⟩ (fun q503 F504 n505 g506 u507 => ?_)
  have g508 := g500.nw n505 u507
  have g509 := g502.nx n505 u507 g506
  refine jr_putF (ty := .array .long) hE dX12_init_495 f125 g508 rfl hinit rfl (by decide +kernel) rfl rfl (Nat.le_of_ble_eq_true rfl) (fun F511 g512 u513 => ?_)
  have g514 := g509.put u513
  refine jr_aload_n hE dX12_init_498 0 rfl ?_
  refine jr_bipush (v := (32 : Int32)) hE dX12_init_499 (by decide) ?_
  refine jr_newa (ty := .long) (g := 2) (N := 32) (a0 := (32, .inr (.inl (fun _ => 0)))) hE dX12_init_501 (by decide +kernel) rfl rfl (fun _ e => by cases e) (fun _ => rfl) (by decide) (by decide) (by decide) ⟨by decide, by decide⟩ (fun q515 F516 n517 g518 u519 => ?_)
  have g520 := g512.nw n517 u519
  have g521 := g514.nx n517 u519 g518
  refine jr_putF (ty := .array .long) hE dX12_init_503 f128 g520 rfl hinit rfl (by decide +kernel) rfl rfl (Nat.le_of_ble_eq_true rfl) (fun F523 g524 u525 => ?_)
  have g526 := g521.put u525
  refine jr_aload_n hE dX12_init_506 0 rfl ?_
  refine jr_sipush (v := (264 : Int32)) hE dX12_init_507 (by decide) ?_
  refine jr_newa (ty := .int) (g := 1) (N := 264) (a0 := (264, .inl (fun _ => 0))) hE dX12_init_510 (by decide +kernel) rfl rfl (fun _ e => by cases e) (fun _ => rfl) (by decide) (by decide) (by decide) ⟨by decide, by decide⟩ (fun q527 F528 n529 g530 u531 => ?_)
  have g532 := g524.nw n529 u531
  have g533 := g526.nx n529 u531 g530
  refine jr_putF (ty := .array .int) hE dX12_init_512 f131 g532 rfl hinit rfl (by decide +kernel) rfl rfl (Nat.le_of_ble_eq_true rfl) (fun F535 g536 u537 => ?_)
  have g538 := g533.put u537
  refine jr_aload_n hE dX12_init_515 0 rfl ?_
  refine jr_iconst (v := (4 : Int32)) hE dX12_init_516 (by decide) ?_
  refine jr_newa (ty := .boolean) (g := 3) (N := 4) (a0 := (4, .inl (fun _ => 0))) hE dX12_init_517 (by decide +kernel) rfl rfl (fun _ e => by cases e) (fun _ => rfl) (by decide) (by decide) (by decide) ⟨by decide, by decide⟩ (fun q539 F540 n541 g542 u543 => ?_)
  have g544 := g536.nw n541 u543
  have g545 := g538.nx n541 u543 g542
  refine jr_putF (ty := .array .boolean) hE dX12_init_519 f134 g544 rfl hinit rfl (by decide +kernel) rfl rfl (Nat.le_of_ble_eq_true rfl) (fun F547 g548 u549 => ?_)
  have g550 := g545.put u549
  refine jr_aload_n hE dX12_init_522 0 rfl ?_
  refine jr_sipush (v := (264 : Int32)) hE dX12_init_523 (by decide) ?_
  refine jr_newa (ty := .int) (g := 1) (N := 264) (a0 := (264, .inl (fun _ => 0))) hE dX12_init_526 (by decide +kernel) rfl rfl (fun _ e => by cases e) (fun _ => rfl) (by decide) (by decide) (by decide) ⟨by decide, by decide⟩ (fun q551 F552 n553 g554 u555 => ?_)
  have g556 := g548.nw n553 u555
  have g557 := g550.nx n553 u555 g554
  refine jr_putF (ty := .array .int) hE dX12_init_528 f137 g556 rfl hinit rfl (by decide +kernel) rfl rfl (Nat.le_of_ble_eq_true rfl) (fun F559 g560 u561 => ?_)
  have g562 := g557.put u561
  refine jr_aload_n hE dX12_init_531 0 rfl ?_
  refine jr_bipush (v := (66 : Int32)) hE dX12_init_532 (by decide) ?_
  refine jr_newa (ty := .int) (g := 1) (N := 66) (a0 := (66, .inl (fun _ => 0))) hE dX12_init_534 (by decide +kernel) rfl rfl (fun _ e => by cases e) (fun _ => rfl) (by decide) (by decide) (by decide) ⟨by decide, by decide⟩ (fun q563 F564 n565 g566 u567 => ?_)
  have g568 := g560.nw n565 u567
  have g569 := g562.nx n565 u567 g566
  refine jr_putF (ty := .array .int) hE dX12_init_536 f140 g568 rfl hinit rfl (by decide +kernel) rfl rfl (Nat.le_of_ble_eq_true rfl) (fun F571 g572 u573 => ?_)
  have g574 := g569.put u573
  refine jr_aload_n hE dX12_init_539 0 rfl ?_
  refine jr_bipush (v := (8 : Int32)) hE dX12_init_540 (by decide) ?_
  refine jr_newa (ty := .long) (g := 2) (N := 8) (a0 := (8, .inr (.inl (fun _ => 0)))) hE dX12_init_542 (by decide +kernel) rfl rfl (fun _ e => by cases e) (fun _ => rfl) (by decide) (by decide) (by decide) ⟨by decide, by decide⟩ (fun q575 F576 n577 g578 u579 => ?_)
  have g580 := g572.nw n577 u579
  have g581 := g574.nx n577 u579 g578
  refine jr_putF (ty := .array .long) hE dX12_init_544 f143 g580 rfl hinit rfl (by decide +kernel) rfl rfl (Nat.le_of_ble_eq_true rfl) (fun F583 g584 u585 => ?_)
  have g586 := g581.put u585
  refine jr_aload_n hE dX12_init_547 0 rfl ?_
  refine jr_bipush (v := (8 : Int32)) hE dX12_init_548 (by decide) ?_
  refine jr_newa (ty := .long) (g := 2) (N := 8) (a0 := (8, .inr (.inl (fun _ => 0)))) hE dX12_init_550 (by decide +kernel) rfl rfl (fun _ e => by cases e) (fun _ => rfl) (by decide) (by decide) (by decide) ⟨by decide, by decide⟩ (fun q587 F588 n589 g590 u591 => ?_)
  have g592 := g584.nw n589 u591
  have g593 := g586.nx n589 u591 g590
  refine jr_putF (ty := .array .long) hE dX12_init_552 f146 g592 rfl hinit rfl (by decide +kernel) rfl rfl (Nat.le_of_ble_eq_true rfl) (fun F595 g596 u597 => ?_)
  have g598 := g593.put u597
  refine jr_aload_n hE dX12_init_555 0 rfl ?_
  refine jr_bipush (v := (8 : Int32)) hE dX12_init_556 (by decide) ?_
  refine jr_newa (ty := .long) (g := 2) (N := 8) (a0 := (8, .inr (.inl (fun _ => 0)))) hE dX12_init_558 (by decide +kernel) rfl rfl (fun _ e => by cases e) (fun _ => rfl) (by decide) (by decide) (by decide) ⟨by decide, by decide⟩ (fun q599 F600 n601 g602 u603 => ?_)
  have g604 := g596.nw n601 u603
  have g605 := g598.nx n601 u603 g602
  refine jr_putF (ty := .array .long) hE dX12_init_560 f149 g604 rfl hinit rfl (by decide +kernel) rfl rfl (Nat.le_of_ble_eq_true rfl) (fun F607 g608 u609 => ?_)
  have g610 := g605.put u609
  refine jr_aload_n hE dX12_init_563 0 rfl ?_
  refine jr_bipush (v := (18 : Int32)) hE dX12_init_564 (by decide) ?_
  refine jr_newa (ty := .long) (g := 2) (N := 18) (a0 := (18, .inr (.inl (fun _ => 0)))) hE dX12_init_566 (by decide +kernel) rfl rfl (fun _ e => by cases e) (fun _ => rfl) (by decide) (by decide) (by decide) ⟨by decide, by decide⟩ (fun q611 F612 n613 g614 u615 => ?_)
  have g616 := g608.nw n613 u615
  have g617 := g610.nx n613 u615 g614
  refine jr_putF (ty := .array .long) hE dX12_init_568 f152 g616 rfl hinit rfl (by decide +kernel) rfl rfl (Nat.le_of_ble_eq_true rfl) (fun F619 g620 u621 => ?_)
  have g622 := g617.put u621
  refine jr_aload_n hE dX12_init_571 0 rfl ?_
  refine jr_bipush (v := (18 : Int32)) hE dX12_init_572 (by decide) ?_
  refine jr_newa (ty := .long) (g := 2) (N := 18) (a0 := (18, .inr (.inl (fun _ => 0)))) hE dX12_init_574 (by decide +kernel) rfl rfl (fun _ e => by cases e) (fun _ => rfl) (by decide) (by decide) (by decide) ⟨by decide, by decide⟩ (fun q623 F624 n625 g626 u627 => ?_)
  have g628 := g620.nw n625 u627
  have g629 := g622.nx n625 u627 g626
  refine jr_putF (ty := .array .long) hE dX12_init_576 f155 g628 rfl hinit rfl (by decide +kernel) rfl rfl (Nat.le_of_ble_eq_true rfl) (fun F631 g632 u633 => ?_)
  have g634 := g629.put u633
  refine jr_aload_n hE dX12_init_579 0 rfl ?_
  refine jr_bipush (v := (8 : Int32)) hE dX12_init_580 (by decide) ?_
  refine jr_newa (ty := .long) (g := 2) (N := 8) (a0 := (8, .inr (.inl (fun _ => 0)))) hE dX12_init_582 (by decide +kernel) rfl rfl (fun _ e => by cases e) (fun _ => rfl) (by decide) (by decide) (by decide) ⟨by decide, by decide⟩ (fun q635 F636 n637 g638 u639 => ?_)
  have g640 := g632.nw n637 u639
  have g641 := g634.nx n637 u639 g638
  refine jr_putF (ty := .array .long) hE dX12_init_584 f158 g640 rfl hinit rfl (by decide +kernel) rfl rfl (Nat.le_of_ble_eq_true rfl) (fun F643 g644 u645 => ?_)
  have g646 := g641.put u645
  refine jr_aload_n hE dX12_init_587 0 rfl ?_
  refine jr_bipush (v := (8 : Int32)) hE dX12_init_588 (by decide) ?_
  refine jr_newa (ty := .long) (g := 2) (N := 8) (a0 := (8, .inr (.inl (fun _ => 0)))) hE dX12_init_590 (by decide +kernel) rfl rfl (fun _ e => by cases e) (fun _ => rfl) (by decide) (by decide) (by decide) ⟨by decide, by decide⟩ (fun q647 F648 n649 g650 u651 => ?_)
  have g652 := g644.nw n649 u651
  have g653 := g646.nx n649 u651 g650
  refine jr_putF (ty := .array .long) hE dX12_init_592 f161 g652 rfl hinit rfl (by decide +kernel) rfl rfl (Nat.le_of_ble_eq_true rfl) (fun F655 g656 u657 => ?_)
  have g658 := g653.put u657
  refine jr_aload_n hE dX12_init_595 0 rfl ?_
  refine jr_bipush (v := (8 : Int32)) hE dX12_init_596 (by decide) ?_
  refine jr_newa (ty := .long) (g := 2) (N := 8) (a0 := (8, .inr (.inl (fun _ => 0)))) hE dX12_init_598 (by decide +kernel) rfl rfl (fun _ e => by cases e) (fun _ => rfl) (by decide) (by decide) (by decide) ⟨by decide, by decide⟩ (fun q659 F660 n661 g662 u663 => ?_)
  have g664 := g656.nw n661 u663
  have g665 := g658.nx n661 u663 g662
  refine jr_putF (ty := .array .long) hE dX12_init_600 f164 g664 rfl hinit rfl (by decide +kernel) rfl rfl (Nat.le_of_ble_eq_true rfl) (fun F667 g668 u669 => ?_)
  have g670 := g665.put u669
  refine jr_aload_n hE dX12_init_603 0 rfl ?_
  refine jr_bipush (v := (8 : Int32)) hE dX12_init_604 (by decide) ?_
  refine jr_newa (ty := .long) (g := 2) (N := 8) (a0 := (8, .inr (.inl (fun _ => 0)))) hE dX12_init_606 (by decide +kernel) rfl rfl (fun _ e => by cases e) (fun _ => rfl) (by decide) (by decide) (by decide) ⟨by decide, by decide⟩ (fun q671 F672 n673 g674 u675 => ?_)
  have g676 := g668.nw n673 u675
  have g677 := g670.nx n673 u675 g674
  refine jr_putF (ty := .array .long) hE dX12_init_608 f167 g676 rfl hinit rfl (by decide +kernel) rfl rfl (Nat.le_of_ble_eq_true rfl) (fun F679 g680 u681 => ?_)
  have g682 := g677.put u681
  refine jr_aload_n hE dX12_init_611 0 rfl ?_
  refine jr_bipush (v := (8 : Int32)) hE dX12_init_612 (by decide) ?_
  refine jr_newa (ty := .long) (g := 2) (N := 8) (a0 := (8, .inr (.inl (fun _ => 0)))) hE dX12_init_614 (by decide +kernel) rfl rfl (fun _ e => by cases e) (fun _ => rfl) (by decide) (by decide) (by decide) ⟨by decide, by decide⟩ (fun q683 F684 n685 g686 u687 => ?_)
  have g688 := g680.nw n685 u687
  have g689 := g682.nx n685 u687 g686
  refine jr_putF (ty := .array .long) hE dX12_init_616 f170 g688 rfl hinit rfl (by decide +kernel) rfl rfl (Nat.le_of_ble_eq_true rfl) (fun F691 g692 u693 => ?_)
  have g694 := g689.put u693
  refine jr_aload_n hE dX12_init_619 0 rfl ?_
  refine jr_bipush (v := (8 : Int32)) hE dX12_init_620 (by decide) ?_
  refine jr_newa (ty := .long) (g := 2) (N := 8) (a0 := (8, .inr (.inl (fun _ => 0)))) hE dX12_init_622 (by decide +kernel) rfl rfl (fun _ e => by cases e) (fun _ => rfl) (by decide) (by decide) (by decide) ⟨by decide, by decide⟩ (fun q695 F696 n697 g698 u699 => ?_)
  have g700 := g692.nw n697 u699
  have g701 := g694.nx n697 u699 g698
  refine jr_putF (ty := .array .long) hE dX12_init_624 f173 g700 rfl hinit rfl (by decide +kernel) rfl rfl (Nat.le_of_ble_eq_true rfl) (fun F703 g704 u705 => ?_)
  have g706 := g701.put u705
  refine jr_aload_n hE dX12_init_627 0 rfl ?_
  refine jr_bipush (v := (8 : Int32)) hE dX12_init_628 (by decide) ?_
  refine jr_newa (ty := .long) (g := 2) (N := 8) (a0 := (8, .inr (.inl (fun _ => 0)))) hE dX12_init_630 (by decide +kernel) rfl rfl (fun _ e => by cases e) (fun _ => rfl) (by decide) (by decide) (by decide) ⟨by decide, by decide⟩ (fun q707 F708 n709 g710 u711 => ?_)
  have g712 := g704.nw n709 u711
  have g713 := g706.nx n709 u711 g710
  refine jr_putF (ty := .array .long) hE dX12_init_632 f176 g712 rfl hinit rfl (by decide +kernel) rfl rfl (Nat.le_of_ble_eq_true rfl) (fun F715 g716 u717 => ?_)
  have g718 := g713.put u717
  refine jr_aload_n hE dX12_init_635 0 rfl ?_
  refine jr_bipush (v := (8 : Int32)) hE dX12_init_636 (by decide) ?_
  refine jr_newa (ty := .long) (g := 2) (N := 8) (a0 := (8, .inr (.inl (fun _ => 0)))) hE dX12_init_638 (by decide +kernel) rfl rfl (fun _ e => by cases e) (fun _ => rfl) (by decide) (by decide) (by decide) ⟨by decide, by decide⟩ (fun q719 F720 n721 g722 u723 => ?_)
  have g724 := g716.nw n721 u723
  have g725 := g718.nx n721 u723 g722
  refine jr_putF (ty := .array .long) hE dX12_init_640 f179 g724 rfl hinit rfl (by decide +kernel) rfl rfl (Nat.le_of_ble_eq_true rfl) (fun F727 g728 u729 => ?_)
  have g730 := g725.put u729
  refine jr_aload_n hE dX12_init_643 0 rfl ?_
  refine jr_bipush (v := (8 : Int32)) hE dX12_init_644 (by decide) ?_
  refine jr_newa (ty := .long) (g := 2) (N := 8) (a0 := (8, .inr (.inl (fun _ => 0)))) hE dX12_init_646 (by decide +kernel) rfl rfl (fun _ e => by cases e) (fun _ => rfl) (by decide) (by decide) (by decide) ⟨by decide, by decide⟩ (fun q731 F732 n733 g734 u735 => ?_)
  have g736 := g728.nw n733 u735
  have g737 := g730.nx n733 u735 g734
  refine jr_putF (ty := .array .long) hE dX12_init_648 f182 g736 rfl hinit rfl (by decide +kernel) rfl rfl (Nat.le_of_ble_eq_true rfl) (fun F739 g740 u741 => ?_)
  have g742 := g737.put u741
  refine jr_aload_n hE dX12_init_651 0 rfl ?_
  refine jr_bipush (v := (8 : Int32)) hE dX12_init_652 (by decide) ?_
  refine jr_newa (ty := .long) (g := 2) (N := 8) (a0 := (8, .inr (.inl (fun _ => 0)))) hE dX12_init_654 (by decide +kernel) rfl rfl (fun _ e => by cases e) (fun _ => rfl) (by decide) (by decide) (by decide) ⟨by decide, by decide⟩ (fun q743 F744 n745 g746 u747 => ?_)
  have g748 := g740.nw n745 u747
  have g749 := g742.nx n745 u747 g746
  refine jr_putF (ty := .array .long) hE dX12_init_656 f185 g748 rfl hinit rfl (by decide +kernel) rfl rfl (Nat.le_of_ble_eq_true rfl) (fun F751 g752 u753 => ?_)
  have g754 := g749.put u753
  refine jr_aload_n hE dX12_init_659 0 rfl ?_
  refine jr_bipush (v := (8 : Int32)) hE dX12_init_660 (by decide) ?_
  refine jr_newa (ty := .long) (g := 2) (N := 8) (a0 := (8, .inr (.inl (fun _ => 0)))) hE dX12_init_662 (by decide +kernel) rfl rfl (fun _ e => by cases e) (fun _ => rfl) (by decide) (by decide) (by decide) ⟨by decide, by decide⟩ (fun q755 F756 n757 g758 u759 => ?_)
  have g760 := g752.nw n757 u759
  have g761 := g754.nx n757 u759 g758
  refine jr_putF (ty := .array .long) hE dX12_init_664 f188 g760 rfl hinit rfl (by decide +kernel) rfl rfl (Nat.le_of_ble_eq_true rfl) (fun F763 g764 u765 => ?_)
  have g766 := g761.put u765
  refine jr_aload_n hE dX12_init_667 0 rfl ?_
  refine jr_bipush (v := (8 : Int32)) hE dX12_init_668 (by decide) ?_
  refine jr_newa (ty := .long) (g := 2) (N := 8) (a0 := (8, .inr (.inl (fun _ => 0)))) hE dX12_init_670 (by decide +kernel) rfl rfl (fun _ e => by cases e) (fun _ => rfl) (by decide) (by decide) (by decide) ⟨by decide, by decide⟩ (fun q767 F768 n769 g770 u771 => ?_)
  have g772 := g764.nw n769 u771
  have g773 := g766.nx n769 u771 g770
  refine jr_putF (ty := .array .long) hE dX12_init_672 f191 g772 rfl hinit rfl (by decide +kernel) rfl rfl (Nat.le_of_ble_eq_true rfl) (fun F775 g776 u777 => ?_)
  have g778 := g773.put u777
  refine jr_aload_n hE dX12_init_675 0 rfl ?_
  refine jr_bipush (v := (8 : Int32)) hE dX12_init_676 (by decide) ?_
  refine jr_newa (ty := .long) (g := 2) (N := 8) (a0 := (8, .inr (.inl (fun _ => 0)))) hE dX12_init_678 (by decide +kernel) rfl rfl (fun _ e => by cases e) (fun _ => rfl) (by decide) (by decide) (by decide) ⟨by decide, by decide⟩ (fun q779 F780 n781 g782 u783 => ?_)
  have g784 := g776.nw n781 u783
  have g785 := g778.nx n781 u783 g782
  refine jr_putF (ty := .array .long) hE dX12_init_680 f194 g784 rfl hinit rfl (by decide +kernel) rfl rfl (Nat.le_of_ble_eq_true rfl) (fun F787 g788 u789 => ?_)
  have g790 := g785.put u789
  refine jr_aload_n hE dX12_init_683 0 rfl ?_
  refine jr_bipush (v := (8 : Int32)) hE dX12_init_684 (by decide) ?_
  refine jr_newa (ty := .long) (g := 2) (N := 8) (a0 := (8, .inr (.inl (fun _ => 0)))) hE dX12_init_686 (by decide +kernel) rfl rfl (fun _ e => by cases e) (fun _ => rfl) (by decide) (by decide) (by decide) ⟨by decide, by decide⟩ (fun q791 F792 n793 g794 u795 => ?_)
  have g796 := g788.nw n793 u795
  have g797 := g790.nx n793 u795 g794
  refine jr_putF (ty := .array .long) hE dX12_init_688 f197 g796 rfl hinit rfl (by decide +kernel) rfl rfl (Nat.le_of_ble_eq_true rfl) (fun F799 g800 u801 => ?_)
  have g802 := g797.put u801
  refine jr_aload_n hE dX12_init_691 0 rfl ?_
  refine jr_bipush (v := (8 : Int32)) hE dX12_init_692 (by decide) ?_
  refine jr_newa (ty := .long) (g := 2) (N := 8) (a0 := (8, .inr (.inl (fun _ => 0)))) hE dX12_init_694 (by decide +kernel) rfl rfl (fun _ e => by cases e) (fun _ => rfl) (by decide) (by decide) (by decide) ⟨by decide, by decide⟩ (fun q803 F804 n805 g806 u807 => ?_)
  have g808 := jF.pL0 g806 (fun j => lN ((cL12 48).getD j 0))
  refine jr_dup hE dX12_init_696 rfl ?_
  refine jr_iconst (v := (0 : Int32)) hE dX12_init_697 (by decide) ?_
  refine jr_ldc2 (v := (7 : Int64)) hE dX12_init_698 (by decide +kernel) ?_
  refine jr_last hE dX12_init_701 g808 (vp_lit (by decide)) (fun F809 g810 u811 => ?_)
  have g812 := jF.pL g810 (show _ = 0 from rfl) (by decide +kernel)
  have u813 := utr u811 u807
  refine jr_dup hE dX12_init_702 rfl ?_
  refine jr_iconst (v := (1 : Int32)) hE dX12_init_703 (by decide) ?_
  refine jr_lconst (v := (0 : Int64)) hE dX12_init_704 (by decide) ?_
  refine jr_last hE dX12_init_705 g812 (vp_lit (by decide)) (fun F814 g815 u816 => ?_)
  have g817 := jF.pL g815 (show _ = 1 from rfl) (by decide +kernel)
  have u818 := utr u816 u813
  refine jr_dup hE dX12_init_706 rfl ?_
  refine jr_iconst (v := (2 : Int32)) hE dX12_init_707 (by decide) ?_
  refine jr_lconst (v := (0 : Int64)) hE dX12_init_708 (by decide) ?_
  refine jr_last hE dX12_init_709 g817 (vp_lit (by decide)) (fun F819 g820 u821 => ?_)
  have g822 := jF.pL g820 (show _ = 2 from rfl) (by decide +kernel)
  have u823 := utr u821 u818
  refine jr_dup hE dX12_init_710 rfl ?_
  refine jr_iconst (v := (3 : Int32)) hE dX12_init_711 (by decide) ?_
  refine jr_lconst (v := (0 : Int64)) hE dX12_init_712 (by decide) ?_
  refine jr_last hE dX12_init_713 g822 (vp_lit (by decide)) (fun F824 g825 u826 => ?_)
  have g827 := jF.pL g825 (show _ = 3 from rfl) (by decide +kernel)
  have u828 := utr u826 u823
  refine jr_dup hE dX12_init_714 rfl ?_
  refine jr_iconst (v := (4 : Int32)) hE dX12_init_715 (by decide) ?_
  refine jr_lconst (v := (0 : Int64)) hE dX12_init_716 (by decide) ?_
  refine jr_last hE dX12_init_717 g827 (vp_lit (by decide)) (fun F829 g830 u831 => ?_)
  have g832 := jF.pL g830 (show _ = 4 from rfl) (by decide +kernel)
  have u833 := utr u831 u828
  refine jr_dup hE dX12_init_718 rfl ?_
  refine jr_iconst (v := (5 : Int32)) hE dX12_init_719 (by decide) ?_
  refine jr_lconst (v := (0 : Int64)) hE dX12_init_720 (by decide) ?_
  refine jr_last hE dX12_init_721 g832 (vp_lit (by decide)) (fun F834 g835 u836 => ?_)
  have g837 := jF.pL g835 (show _ = 5 from rfl) (by decide +kernel)
  have u838 := utr u836 u833
  refine jr_dup hE dX12_init_722 rfl ?_
  refine jr_bipush (v := (6 : Int32)) hE dX12_init_723 (by decide) ?_
  refine jr_lconst (v := (0 : Int64)) hE dX12_init_725 (by decide) ?_
  refine jr_last hE dX12_init_726 g837 (vp_lit (by decide)) (fun F839 g840 u841 => ?_)
  have g842 := jF.pL g840 (show _ = 6 from rfl) (by decide +kernel)
  have u843 := utr u841 u838
  refine jr_dup hE dX12_init_727 rfl ?_
  refine jr_bipush (v := (7 : Int32)) hE dX12_init_728 (by decide) ?_
  refine jr_lconst (v := (0 : Int64)) hE dX12_init_730 (by decide) ?_
  refine jr_last hE dX12_init_731 g842 (vp_lit (by decide)) (fun F844 g845 u846 => ?_)
  have g847 := jF.pL g845 (show _ = 7 from rfl) (by decide +kernel)
  have u848 := utr u846 u843
  have g849 := g800.nw n805 u848
  have g850 := g802.nx n805 u848 g847
  refine jr_putF (ty := .array .long) hE dX12_init_732 f202 g849 rfl hinit rfl (by decide +kernel) rfl rfl (Nat.le_of_ble_eq_true rfl) (fun F852 g853 u854 => ?_)
  have g855 := g850.put u854
  refine jr_aload_n hE dX12_init_735 0 rfl ?_
  refine jr_bipush (v := (8 : Int32)) hE dX12_init_736 (by decide) ?_
  refine jr_newa (ty := .long) (g := 2) (N := 8) (a0 := (8, .inr (.inl (fun _ => 0)))) hE dX12_init_738 (by decide +kernel) rfl rfl (fun _ e => by cases e) (fun _ => rfl) (by decide) (by decide) (by decide) ⟨by decide, by decide⟩ (fun q856 F857 n858 g859 u860 => ?_)
  have g861 := g853.nw n858 u860
  have g862 := g855.nx n858 u860 g859
  refine jr_putF (ty := .array .long) hE dX12_init_740 f205 g861 rfl hinit rfl (by decide +kernel) rfl rfl (Nat.le_of_ble_eq_true rfl) (fun F864 g865 u866 => ?_)
  have g867 := g862.put u866
  refine jr_aload_n hE dX12_init_743 0 rfl ?_
  refine jr_bipush (v := (9 : Int32)) hE dX12_init_744 (by decide) ?_
  refine jr_newa (ty := .int) (g := 1) (N := 9) (a0 := (9, .inl (fun _ => 0))) hE dX12_init_746 (by decide +kernel) rfl rfl (fun _ e => by cases e) (fun _ => rfl) (by decide) (by decide) (by decide) ⟨by decide, by decide⟩ (fun q868 F869 n870 g871 u872 => ?_)
  have g873 := jF.pI0 g871 (fun j => nI (tAt j))
  refine jr_dup hE dX12_init_748 rfl ?_
  refine jr_iconst (v := (0 : Int32)) hE dX12_init_749 (by decide) ?_
  refine jr_iconst (v := (0 : Int32)) hE dX12_init_750 (by decide) ?_
  refine jr_iast hE dX12_init_751 g873 (vp_lit (by decide)) (fun F874 g875 u876 => ?_)
  have g877 := jF.pI g875 (show _ = 0 from rfl) (by decide +kernel)
  have u878 := utr u876 u872
  refine jr_dup hE dX12_init_752 rfl ?_
  refine jr_iconst (v := (1 : Int32)) hE dX12_init_753 (by decide) ?_
  refine jr_bipush (v := (11 : Int32)) hE dX12_init_754 (by decide) ?_
  refine jr_iast hE dX12_init_756 g877 (vp_lit (by decide)) (fun F879 g880 u881 => ?_)
  have g882 := jF.pI g880 (show _ = 1 from rfl) (by decide +kernel)
  have u883 := utr u881 u878
  refine jr_dup hE dX12_init_757 rfl ?_
  refine jr_iconst (v := (2 : Int32)) hE dX12_init_758 (by decide) ?_
  refine jr_bipush (v := (24 : Int32)) hE dX12_init_759 (by decide) ?_
  refine jr_iast hE dX12_init_761 g882 (vp_lit (by decide)) (fun F884 g885 u886 => ?_)
  have g887 := jF.pI g885 (show _ = 2 from rfl) (by decide +kernel)
  have u888 := utr u886 u883
  refine jr_dup hE dX12_init_762 rfl ?_
  refine jr_iconst (v := (3 : Int32)) hE dX12_init_763 (by decide) ?_
  refine jr_bipush (v := (41 : Int32)) hE dX12_init_764 (by decide) ?_
  refine jr_iast hE dX12_init_766 g887 (vp_lit (by decide)) (fun F889 g890 u891 => ?_)
  have g892 := jF.pI g890 (show _ = 3 from rfl) (by decide +kernel)
  have u893 := utr u891 u888
  refine jr_dup hE dX12_init_767 rfl ?_
  refine jr_iconst (v := (4 : Int32)) hE dX12_init_768 (by decide) ?_
  refine jr_bipush (v := (52 : Int32)) hE dX12_init_769 (by decide) ?_
  refine jr_iast hE dX12_init_771 g892 (vp_lit (by decide)) (fun F894 g895 u896 => ?_)
  have g897 := jF.pI g895 (show _ = 4 from rfl) (by decide +kernel)
  have u898 := utr u896 u893
  refine jr_dup hE dX12_init_772 rfl ?_
  refine jr_iconst (v := (5 : Int32)) hE dX12_init_773 (by decide) ?_
  refine jr_bipush (v := (70 : Int32)) hE dX12_init_774 (by decide) ?_
  refine jr_iast hE dX12_init_776 g897 (vp_lit (by decide)) (fun F899 g900 u901 => ?_)
  have g902 := jF.pI g900 (show _ = 5 from rfl) (by decide +kernel)
  have u903 := utr u901 u898
  refine jr_dup hE dX12_init_777 rfl ?_
  refine jr_bipush (v := (6 : Int32)) hE dX12_init_778 (by decide) ?_
  refine jr_bipush (v := (79 : Int32)) hE dX12_init_780 (by decide) ?_
  refine jr_iast hE dX12_init_782 g902 (vp_lit (by decide)) (fun F904 g905 u906 => ?_)
  have g907 := jF.pI g905 (show _ = 6 from rfl) (by decide +kernel)
  have u908 := utr u906 u903
  refine jr_dup hE dX12_init_783 rfl ?_
  refine jr_bipush (v := (7 : Int32)) hE dX12_init_784 (by decide) ?_
  refine jr_bipush (v := (90 : Int32)) hE dX12_init_786 (by decide) ?_
  refine jr_iast hE dX12_init_788 g907 (vp_lit (by decide)) (fun F909 g910 u911 => ?_)
  have g912 := jF.pI g910 (show _ = 7 from rfl) (by decide +kernel)
  have u913 := utr u911 u908
  refine jr_dup hE dX12_init_789 rfl ?_
  refine jr_bipush (v := (8 : Int32)) hE dX12_init_790 (by decide) ?_
  refine jr_bipush (v := (105 : Int32)) hE dX12_init_792 (by decide) ?_
  refine jr_iast hE dX12_init_794 g912 (vp_lit (by decide)) (fun F914 g915 u916 => ?_)
  have g917 := jF.pI g915 (show _ = 8 from rfl) (by decide +kernel)
  have u918 := utr u916 u913
  have g919 := g865.nw n870 u918
  have g920 := g867.nx n870 u918 g917
  refine jr_putF (ty := .array .int) hE dX12_init_795 f208 g919 rfl hinit rfl (by decide +kernel) rfl rfl (Nat.le_of_ble_eq_true rfl) (fun F922 g923 u924 => ?_)
  have g925 := g920.put u924
  refine jr_aload_n hE dX12_init_798 0 rfl ?_
  refine jr_bipush (v := (105 : Int32)) hE dX12_init_799 (by decide) ?_
  refine jr_newa (ty := .int) (g := 1) (N := 105) (a0 := (105, .inl (fun _ => 0))) hE dX12_init_801 (by decide +kernel) rfl rfl (fun _ e => by cases e) (fun _ => rfl) (by decide) (by decide) (by decide) ⟨by decide, by decide⟩ (fun q926 F927 n928 g929 u930 => ?_)
  have g931 := jF.pI0 g929 (fun j => nI (tBt j))
  refine jr_dup hE dX12_init_803 rfl ?_
  refine jr_iconst (v := (0 : Int32)) hE dX12_init_804 (by decide) ?_
  refine jr_bipush (v := (66 : Int32)) hE dX12_init_805 (by decide) ?_
  refine jr_iast hE dX12_init_807 g931 (vp_lit (by decide)) (fun F932 g933 u934 => ?_)
  have g935 := jF.pI g933 (show _ = 0 from rfl) (by decide +kernel)
  have u936 := utr u934 u930
  refine jr_dup hE dX12_init_808 rfl ?_
  refine jr_iconst (v := (1 : Int32)) hE dX12_init_809 (by decide) ?_
  refine jr_bipush (v := (73 : Int32)) hE dX12_init_810 (by decide) ?_
  refine jr_iast hE dX12_init_812 g935 (vp_lit (by decide)) (fun F937 g938 u939 => ?_)
  have g940 := jF.pI g938 (show _ = 1 from rfl) (by decide +kernel)
  have u941 := utr u939 u936
  refine jr_dup hE dX12_init_813 rfl ?_
  refine jr_iconst (v := (2 : Int32)) hE dX12_init_814 (by decide) ?_
  refine jr_bipush (v := (80 : Int32)) hE dX12_init_815 (by decide) ?_
  refine jr_iast hE dX12_init_817 g940 (vp_lit (by decide)) (fun F942 g943 u944 => ?_)
  have g945 := jF.pI g943 (show _ = 2 from rfl) (by decide +kernel)
  have u946 := utr u944 u941
  refine jr_dup hE dX12_init_818 rfl ?_
  refine jr_iconst (v := (3 : Int32)) hE dX12_init_819 (by decide) ?_
  refine jr_bipush (v := (48 : Int32)) hE dX12_init_820 (by decide) ?_
  refine jr_iast hE dX12_init_822 g945 (vp_lit (by decide)) (fun F947 g948 u949 => ?_)
  have g950 := jF.pI g948 (show _ = 3 from rfl) (by decide +kernel)
  have u951 := utr u949 u946
  refine jr_dup hE dX12_init_823 rfl ?_
  refine jr_iconst (v := (4 : Int32)) hE dX12_init_824 (by decide) ?_
  refine jr_bipush (v := (51 : Int32)) hE dX12_init_825 (by decide) ?_
  refine jr_iast hE dX12_init_827 g950 (vp_lit (by decide)) (fun F952 g953 u954 => ?_)
  have g955 := jF.pI g953 (show _ = 4 from rfl) (by decide +kernel)
  have u956 := utr u954 u951
  refine jr_dup hE dX12_init_828 rfl ?_
  refine jr_iconst (v := (5 : Int32)) hE dX12_init_829 (by decide) ?_
  refine jr_bipush (v := (52 : Int32)) hE dX12_init_830 (by decide) ?_
  refine jr_iast hE dX12_init_832 g955 (vp_lit (by decide)) (fun F957 g958 u959 => ?_)
  have g960 := jF.pI g958 (show _ = 5 from rfl) (by decide +kernel)
  have u961 := utr u959 u956
  refine jr_dup hE dX12_init_833 rfl ?_
  refine jr_bipush (v := (6 : Int32)) hE dX12_init_834 (by decide) ?_
  refine jr_bipush (v := (48 : Int32)) hE dX12_init_836 (by decide) ?_
  refine jr_iast hE dX12_init_838 g960 (vp_lit (by decide)) (fun F962 g963 u964 => ?_)
  have g965 := jF.pI g963 (show _ = 6 from rfl) (by decide +kernel)
  have u966 := utr u964 u961
  refine jr_dup hE dX12_init_839 rfl ?_
  refine jr_bipush (v := (7 : Int32)) hE dX12_init_840 (by decide) ?_
  refine jr_bipush (v := (47 : Int32)) hE dX12_init_842 (by decide) ?_
  refine jr_iast hE dX12_init_844 g965 (vp_lit (by decide)) (fun F967 g968 u969 => ?_)
  have g970 := jF.pI g968 (show _ = 7 from rfl) (by decide +kernel)
  have u971 := utr u969 u966
  refine jr_dup hE dX12_init_845 rfl ?_
  refine jr_bipush (v := (8 : Int32)) hE dX12_init_846 (by decide) ?_
  refine jr_bipush (v := (97 : Int32)) hE dX12_init_848 (by decide) ?_
  refine jr_iast hE dX12_init_850 g970 (vp_lit (by decide)) (fun F972 g973 u974 => ?_)
  have g975 := jF.pI g973 (show _ = 8 from rfl) (by decide +kernel)
  have u976 := utr u974 u971
  refine jr_dup hE dX12_init_851 rfl ?_
  refine jr_bipush (v := (9 : Int32)) hE dX12_init_852 (by decide) ?_
  refine jr_bipush (v := (117 : Int32)) hE dX12_init_854 (by decide) ?_
  refine jr_iast hE dX12_init_856 g975 (vp_lit (by decide)) (fun F977 g978 u979 => ?_)
  have g980 := jF.pI g978 (show _ = 9 from rfl) (by decide +kernel)
  have u981 := utr u979 u976
  refine jr_dup hE dX12_init_857 rfl ?_
  refine jr_bipush (v := (10 : Int32)) hE dX12_init_858 (by decide) ?_
  refine jr_bipush (v := (120 : Int32)) hE dX12_init_860 (by decide) ?_
  refine jr_iast hE dX12_init_862 g980 (vp_lit (by decide)) (fun F982 g983 u984 => ?_)
  have g985 := jF.pI g983 (show _ = 10 from rfl) (by decide +kernel)
  have u986 := utr u984 u981
  refine jr_dup hE dX12_init_863 rfl ?_
  refine jr_bipush (v := (11 : Int32)) hE dX12_init_864 (by decide) ?_
  refine jr_bipush (v := (66 : Int32)) hE dX12_init_866 (by decide) ?_
  refine jr_iast hE dX12_init_868 g985 (vp_lit (by decide)) (fun F987 g988 u989 => ?_)
  have g990 := jF.pI g988 (show _ = 11 from rfl) (by decide +kernel)
  have u991 := utr u989 u986
  refine jr_dup hE dX12_init_869 rfl ?_
  refine jr_bipush (v := (12 : Int32)) hE dX12_init_870 (by decide) ?_
  refine jr_bipush (v := (73 : Int32)) hE dX12_init_872 (by decide) ?_
  refine jr_iast hE dX12_init_874 g990 (vp_lit (by decide)) (fun F992 g993 u994 => ?_)
  have g995 := jF.pI g993 (show _ = 12 from rfl) (by decide +kernel)
  have u996 := utr u994 u991
  refine jr_dup hE dX12_init_875 rfl ?_
  refine jr_bipush (v := (13 : Int32)) hE dX12_init_876 (by decide) ?_
  refine jr_bipush (v := (80 : Int32)) hE dX12_init_878 (by decide) ?_
  refine jr_iast hE dX12_init_880 g995 (vp_lit (by decide)) (fun F997 g998 u999 => ?_)
  have g1000 := jF.pI g998 (show _ = 13 from rfl) (by decide +kernel)
  have u1001 := utr u999 u996
  refine jr_dup hE dX12_init_881 rfl ?_
  refine jr_bipush (v := (14 : Int32)) hE dX12_init_882 (by decide) ?_
  refine jr_bipush (v := (48 : Int32)) hE dX12_init_884 (by decide) ?_
  refine jr_iast hE dX12_init_886 g1000 (vp_lit (by decide)) (fun F1002 g1003 u1004 => ?_)
  have g1005 := jF.pI g1003 (show _ = 14 from rfl) (by decide +kernel)
  have u1006 := utr u1004 u1001
  refine jr_dup hE dX12_init_887 rfl ?_
  refine jr_bipush (v := (15 : Int32)) hE dX12_init_888 (by decide) ?_
  refine jr_bipush (v := (51 : Int32)) hE dX12_init_890 (by decide) ?_
  refine jr_iast hE dX12_init_892 g1005 (vp_lit (by decide)) (fun F1007 g1008 u1009 => ?_)
  have g1010 := jF.pI g1008 (show _ = 15 from rfl) (by decide +kernel)
  have u1011 := utr u1009 u1006
  refine jr_dup hE dX12_init_893 rfl ?_
  refine jr_bipush (v := (16 : Int32)) hE dX12_init_894 (by decide) ?_
  refine jr_bipush (v := (52 : Int32)) hE dX12_init_896 (by decide) ?_
  refine jr_iast hE dX12_init_898 g1010 (vp_lit (by decide)) (fun F1012 g1013 u1014 => ?_)
  have g1015 := jF.pI g1013 (show _ = 16 from rfl) (by decide +kernel)
  have u1016 := utr u1014 u1011
  refine jr_dup hE dX12_init_899 rfl ?_
  refine jr_bipush (v := (17 : Int32)) hE dX12_init_900 (by decide) ?_
  refine jr_bipush (v := (48 : Int32)) hE dX12_init_902 (by decide) ?_
  refine jr_iast hE dX12_init_904 g1015 (vp_lit (by decide)) (fun F1017 g1018 u1019 => ?_)
  have g1020 := jF.pI g1018 (show _ = 17 from rfl) (by decide +kernel)
  have u1021 := utr u1019 u1016
  refine jr_dup hE dX12_init_905 rfl ?_
  refine jr_bipush (v := (18 : Int32)) hE dX12_init_906 (by decide) ?_
  refine jr_bipush (v := (47 : Int32)) hE dX12_init_908 (by decide) ?_
  refine jr_iast hE dX12_init_910 g1020 (vp_lit (by decide)) (fun F1022 g1023 u1024 => ?_)
  have g1025 := jF.pI g1023 (show _ = 18 from rfl) (by decide +kernel)
  have u1026 := utr u1024 u1021
  refine jr_dup hE dX12_init_911 rfl ?_
  refine jr_bipush (v := (19 : Int32)) hE dX12_init_912 (by decide) ?_
  refine jr_bipush (v := (110 : Int32)) hE dX12_init_914 (by decide) ?_
  refine jr_iast hE dX12_init_916 g1025 (vp_lit (by decide)) (fun F1027 g1028 u1029 => ?_)
  have g1030 := jF.pI g1028 (show _ = 19 from rfl) (by decide +kernel)
  have u1031 := utr u1029 u1026
  refine jr_dup hE dX12_init_917 rfl ?_
  refine jr_bipush (v := (20 : Int32)) hE dX12_init_918 (by decide) ?_
  refine jr_bipush (v := (111 : Int32)) hE dX12_init_920 (by decide) ?_
  refine jr_iast hE dX12_init_922 g1030 (vp_lit (by decide)) (fun F1032 g1033 u1034 => ?_)
  have g1035 := jF.pI g1033 (show _ = 20 from rfl) (by decide +kernel)
  have u1036 := utr u1034 u1031
  refine jr_dup hE dX12_init_923 rfl ?_
  refine jr_bipush (v := (21 : Int32)) hE dX12_init_924 (by decide) ?_
  refine jr_bipush (v := (110 : Int32)) hE dX12_init_926 (by decide) ?_
  refine jr_iast hE dX12_init_928 g1035 (vp_lit (by decide)) (fun F1037 g1038 u1039 => ?_)
  have g1040 := jF.pI g1038 (show _ = 21 from rfl) (by decide +kernel)
  have u1041 := utr u1039 u1036
  refine jr_dup hE dX12_init_929 rfl ?_
  refine jr_bipush (v := (22 : Int32)) hE dX12_init_930 (by decide) ?_
  refine jr_bipush (v := (99 : Int32)) hE dX12_init_932 (by decide) ?_
  refine jr_iast hE dX12_init_934 g1040 (vp_lit (by decide)) (fun F1042 g1043 u1044 => ?_)
  have g1045 := jF.pI g1043 (show _ = 22 from rfl) (by decide +kernel)
  have u1046 := utr u1044 u1041
  refine jr_dup hE dX12_init_935 rfl ?_
  refine jr_bipush (v := (23 : Int32)) hE dX12_init_936 (by decide) ?_
  refine jr_bipush (v := (101 : Int32)) hE dX12_init_938 (by decide) ?_
  refine jr_iast hE dX12_init_940 g1045 (vp_lit (by decide)) (fun F1047 g1048 u1049 => ?_)
  have g1050 := jF.pI g1048 (show _ = 23 from rfl) (by decide +kernel)
  have u1051 := utr u1049 u1046
  refine jr_dup hE dX12_init_941 rfl ?_
  refine jr_bipush (v := (24 : Int32)) hE dX12_init_942 (by decide) ?_
  refine jr_bipush (v := (66 : Int32)) hE dX12_init_944 (by decide) ?_
  refine jr_iast hE dX12_init_946 g1050 (vp_lit (by decide)) (fun F1052 g1053 u1054 => ?_)
  have g1055 := jF.pI g1053 (show _ = 24 from rfl) (by decide +kernel)
  have u1056 := utr u1054 u1051
  refine jr_dup hE dX12_init_947 rfl ?_
  refine jr_bipush (v := (25 : Int32)) hE dX12_init_948 (by decide) ?_
  refine jr_bipush (v := (73 : Int32)) hE dX12_init_950 (by decide) ?_
  refine jr_iast hE dX12_init_952 g1055 (vp_lit (by decide)) (fun F1057 g1058 u1059 => ?_)
  have g1060 := jF.pI g1058 (show _ = 25 from rfl) (by decide +kernel)
  have u1061 := utr u1059 u1056
  refine jr_dup hE dX12_init_953 rfl ?_
  refine jr_bipush (v := (26 : Int32)) hE dX12_init_954 (by decide) ?_
  refine jr_bipush (v := (80 : Int32)) hE dX12_init_956 (by decide) ?_
  refine jr_iast hE dX12_init_958 g1060 (vp_lit (by decide)) (fun F1062 g1063 u1064 => ?_)
  have g1065 := jF.pI g1063 (show _ = 26 from rfl) (by decide +kernel)
  have u1066 := utr u1064 u1061
  refine jr_dup hE dX12_init_959 rfl ?_
  refine jr_bipush (v := (27 : Int32)) hE dX12_init_960 (by decide) ?_
  refine jr_bipush (v := (48 : Int32)) hE dX12_init_962 (by decide) ?_
  refine jr_iast hE dX12_init_964 g1065 (vp_lit (by decide)) (fun F1067 g1068 u1069 => ?_)
  have g1070 := jF.pI g1068 (show _ = 27 from rfl) (by decide +kernel)
  have u1071 := utr u1069 u1066
  refine jr_dup hE dX12_init_965 rfl ?_
  refine jr_bipush (v := (28 : Int32)) hE dX12_init_966 (by decide) ?_
  refine jr_bipush (v := (51 : Int32)) hE dX12_init_968 (by decide) ?_
  refine jr_iast hE dX12_init_970 g1070 (vp_lit (by decide)) (fun F1072 g1073 u1074 => ?_)
  have g1075 := jF.pI g1073 (show _ = 28 from rfl) (by decide +kernel)
  have u1076 := utr u1074 u1071
  refine jr_dup hE dX12_init_971 rfl ?_
  refine jr_bipush (v := (29 : Int32)) hE dX12_init_972 (by decide) ?_
  refine jr_bipush (v := (52 : Int32)) hE dX12_init_974 (by decide) ?_
  refine jr_iast hE dX12_init_976 g1075 (vp_lit (by decide)) (fun F1077 g1078 u1079 => ?_)
  have g1080 := jF.pI g1078 (show _ = 29 from rfl) (by decide +kernel)
  have u1081 := utr u1079 u1076
  refine jr_dup hE dX12_init_977 rfl ?_
  refine jr_bipush (v := (30 : Int32)) hE dX12_init_978 (by decide) ?_
  refine jr_bipush (v := (48 : Int32)) hE dX12_init_980 (by decide) ?_
  refine jr_iast hE dX12_init_982 g1080 (vp_lit (by decide)) (fun F1082 g1083 u1084 => ?_)
  have g1085 := jF.pI g1083 (show _ = 30 from rfl) (by decide +kernel)
  have u1086 := utr u1084 u1081
  refine jr_dup hE dX12_init_983 rfl ?_
  refine jr_bipush (v := (31 : Int32)) hE dX12_init_984 (by decide) ?_
  refine jr_bipush (v := (47 : Int32)) hE dX12_init_986 (by decide) ?_
  refine jr_iast hE dX12_init_988 g1085 (vp_lit (by decide)) (fun F1087 g1088 u1089 => ?_)
  have g1090 := jF.pI g1088 (show _ = 31 from rfl) (by decide +kernel)
  have u1091 := utr u1089 u1086
  refine jr_dup hE dX12_init_989 rfl ?_
  refine jr_bipush (v := (32 : Int32)) hE dX12_init_990 (by decide) ?_
  refine jr_bipush (v := (99 : Int32)) hE dX12_init_992 (by decide) ?_
  refine jr_iast hE dX12_init_994 g1090 (vp_lit (by decide)) (fun F1092 g1093 u1094 => ?_)
  have g1095 := jF.pI g1093 (show _ = 32 from rfl) (by decide +kernel)
  have u1096 := utr u1094 u1091
  refine jr_dup hE dX12_init_995 rfl ?_
  refine jr_bipush (v := (33 : Int32)) hE dX12_init_996 (by decide) ?_
  refine jr_bipush (v := (104 : Int32)) hE dX12_init_998 (by decide) ?_
  refine jr_iast hE dX12_init_1000 g1095 (vp_lit (by decide)) (fun F1097 g1098 u1099 => ?_)
  have g1100 := jF.pI g1098 (show _ = 33 from rfl) (by decide +kernel)
  have u1101 := utr u1099 u1096
  refine jr_dup hE dX12_init_1001 rfl ?_
  refine jr_bipush (v := (34 : Int32)) hE dX12_init_1002 (by decide) ?_
  refine jr_bipush (v := (97 : Int32)) hE dX12_init_1004 (by decide) ?_
  refine jr_iast hE dX12_init_1006 g1100 (vp_lit (by decide)) (fun F1102 g1103 u1104 => ?_)
  have g1105 := jF.pI g1103 (show _ = 34 from rfl) (by decide +kernel)
  have u1106 := utr u1104 u1101
  refine jr_dup hE dX12_init_1007 rfl ?_
  refine jr_bipush (v := (35 : Int32)) hE dX12_init_1008 (by decide) ?_
  refine jr_bipush (v := (108 : Int32)) hE dX12_init_1010 (by decide) ?_
  refine jr_iast hE dX12_init_1012 g1105 (vp_lit (by decide)) (fun F1107 g1108 u1109 => ?_)
  have g1110 := jF.pI g1108 (show _ = 35 from rfl) (by decide +kernel)
  have u1111 := utr u1109 u1106
  refine jr_dup hE dX12_init_1013 rfl ?_
  refine jr_bipush (v := (36 : Int32)) hE dX12_init_1014 (by decide) ?_
  refine jr_bipush (v := (108 : Int32)) hE dX12_init_1016 (by decide) ?_
  refine jr_iast hE dX12_init_1018 g1110 (vp_lit (by decide)) (fun F1112 g1113 u1114 => ?_)
  have g1115 := jF.pI g1113 (show _ = 36 from rfl) (by decide +kernel)
  have u1116 := utr u1114 u1111
  refine jr_dup hE dX12_init_1019 rfl ?_
  refine jr_bipush (v := (37 : Int32)) hE dX12_init_1020 (by decide) ?_
  refine jr_bipush (v := (101 : Int32)) hE dX12_init_1022 (by decide) ?_
  refine jr_iast hE dX12_init_1024 g1115 (vp_lit (by decide)) (fun F1117 g1118 u1119 => ?_)
  have g1120 := jF.pI g1118 (show _ = 37 from rfl) (by decide +kernel)
  have u1121 := utr u1119 u1116
  refine jr_dup hE dX12_init_1025 rfl ?_
  refine jr_bipush (v := (38 : Int32)) hE dX12_init_1026 (by decide) ?_
  refine jr_bipush (v := (110 : Int32)) hE dX12_init_1028 (by decide) ?_
  refine jr_iast hE dX12_init_1030 g1120 (vp_lit (by decide)) (fun F1122 g1123 u1124 => ?_)
  have g1125 := jF.pI g1123 (show _ = 38 from rfl) (by decide +kernel)
  have u1126 := utr u1124 u1121
  refine jr_dup hE dX12_init_1031 rfl ?_
  refine jr_bipush (v := (39 : Int32)) hE dX12_init_1032 (by decide) ?_
  refine jr_bipush (v := (103 : Int32)) hE dX12_init_1034 (by decide) ?_
  refine jr_iast hE dX12_init_1036 g1125 (vp_lit (by decide)) (fun F1127 g1128 u1129 => ?_)
  have g1130 := jF.pI g1128 (show _ = 39 from rfl) (by decide +kernel)
  have u1131 := utr u1129 u1126
  refine jr_dup hE dX12_init_1037 rfl ?_
  refine jr_bipush (v := (40 : Int32)) hE dX12_init_1038 (by decide) ?_
  refine jr_bipush (v := (101 : Int32)) hE dX12_init_1040 (by decide) ?_
  refine jr_iast hE dX12_init_1042 g1130 (vp_lit (by decide)) (fun F1132 g1133 u1134 => ?_)
  have g1135 := jF.pI g1133 (show _ = 40 from rfl) (by decide +kernel)
  have u1136 := utr u1134 u1131
  refine jr_dup hE dX12_init_1043 rfl ?_
  refine jr_bipush (v := (41 : Int32)) hE dX12_init_1044 (by decide) ?_
  refine jr_bipush (v := (75 : Int32)) hE dX12_init_1046 (by decide) ?_
  refine jr_iast hE dX12_init_1048 g1135 (vp_lit (by decide)) (fun F1137 g1138 u1139 => ?_)
  have g1140 := jF.pI g1138 (show _ = 41 from rfl) (by decide +kernel)
  have u1141 := utr u1139 u1136
  refine jr_dup hE dX12_init_1049 rfl ?_
  refine jr_bipush (v := (42 : Int32)) hE dX12_init_1050 (by decide) ?_
  refine jr_bipush (v := (101 : Int32)) hE dX12_init_1052 (by decide) ?_
  refine jr_iast hE dX12_init_1054 g1140 (vp_lit (by decide)) (fun F1142 g1143 u1144 => ?_)
  have g1145 := jF.pI g1143 (show _ = 42 from rfl) (by decide +kernel)
  have u1146 := utr u1144 u1141
  refine jr_dup hE dX12_init_1055 rfl ?_
  refine jr_bipush (v := (43 : Int32)) hE dX12_init_1056 (by decide) ?_
  refine jr_bipush (v := (121 : Int32)) hE dX12_init_1058 (by decide) ?_
  refine jr_iast hE dX12_init_1060 g1145 (vp_lit (by decide)) (fun F1147 g1148 u1149 => ?_)
  have g1150 := jF.pI g1148 (show _ = 43 from rfl) (by decide +kernel)
  have u1151 := utr u1149 u1146
  refine jr_dup hE dX12_init_1061 rfl ?_
  refine jr_bipush (v := (44 : Int32)) hE dX12_init_1062 (by decide) ?_
  refine jr_bipush (v := (65 : Int32)) hE dX12_init_1064 (by decide) ?_
  refine jr_iast hE dX12_init_1066 g1150 (vp_lit (by decide)) (fun F1152 g1153 u1154 => ?_)
  have g1155 := jF.pI g1153 (show _ = 44 from rfl) (by decide +kernel)
  have u1156 := utr u1154 u1151
  refine jr_dup hE dX12_init_1067 rfl ?_
  refine jr_bipush (v := (45 : Int32)) hE dX12_init_1068 (by decide) ?_
  refine jr_bipush (v := (103 : Int32)) hE dX12_init_1070 (by decide) ?_
  refine jr_iast hE dX12_init_1072 g1155 (vp_lit (by decide)) (fun F1157 g1158 u1159 => ?_)
  have g1160 := jF.pI g1158 (show _ = 45 from rfl) (by decide +kernel)
  have u1161 := utr u1159 u1156
  refine jr_dup hE dX12_init_1073 rfl ?_
  refine jr_bipush (v := (46 : Int32)) hE dX12_init_1074 (by decide) ?_
  refine jr_bipush (v := (103 : Int32)) hE dX12_init_1076 (by decide) ?_
  refine jr_iast hE dX12_init_1078 g1160 (vp_lit (by decide)) (fun F1162 g1163 u1164 => ?_)
  have g1165 := jF.pI g1163 (show _ = 46 from rfl) (by decide +kernel)
  have u1166 := utr u1164 u1161
  refine jr_dup hE dX12_init_1079 rfl ?_
  refine jr_bipush (v := (47 : Int32)) hE dX12_init_1080 (by decide) ?_
  refine jr_bipush (v := (32 : Int32)) hE dX12_init_1082 (by decide) ?_
  refine jr_iast hE dX12_init_1084 g1165 (vp_lit (by decide)) (fun F1167 g1168 u1169 => ?_)
  have g1170 := jF.pI g1168 (show _ = 47 from rfl) (by decide +kernel)
  have u1171 := utr u1169 u1166
  refine jr_dup hE dX12_init_1085 rfl ?_
  refine jr_bipush (v := (48 : Int32)) hE dX12_init_1086 (by decide) ?_
  refine jr_bipush (v := (108 : Int32)) hE dX12_init_1088 (by decide) ?_
  refine jr_iast hE dX12_init_1090 g1170 (vp_lit (by decide)) (fun F1172 g1173 u1174 => ?_)
  have g1175 := jF.pI g1173 (show _ = 48 from rfl) (by decide +kernel)
  have u1176 := utr u1174 u1171
  refine jr_dup hE dX12_init_1091 rfl ?_
  refine jr_bipush (v := (49 : Int32)) hE dX12_init_1092 (by decide) ?_
  refine jr_bipush (v := (105 : Int32)) hE dX12_init_1094 (by decide) ?_
  refine jr_iast hE dX12_init_1096 g1175 (vp_lit (by decide)) (fun F1177 g1178 u1179 => ?_)
  have g1180 := jF.pI g1178 (show _ = 49 from rfl) (by decide +kernel)
  have u1181 := utr u1179 u1176
  refine jr_dup hE dX12_init_1097 rfl ?_
  refine jr_bipush (v := (50 : Int32)) hE dX12_init_1098 (by decide) ?_
  refine jr_bipush (v := (115 : Int32)) hE dX12_init_1100 (by decide) ?_
  refine jr_iast hE dX12_init_1102 g1180 (vp_lit (by decide)) (fun F1182 g1183 u1184 => ?_)
  have g1185 := jF.pI g1183 (show _ = 50 from rfl) (by decide +kernel)
  have u1186 := utr u1184 u1181
  refine jr_dup hE dX12_init_1103 rfl ?_
  refine jr_bipush (v := (51 : Int32)) hE dX12_init_1104 (by decide) ?_
  refine jr_bipush (v := (116 : Int32)) hE dX12_init_1106 (by decide) ?_
  refine jr_iast hE dX12_init_1108 g1185 (vp_lit (by decide)) (fun F1187 g1188 u1189 => ?_)
  have g1190 := jF.pI g1188 (show _ = 51 from rfl) (by decide +kernel)
  have u1191 := utr u1189 u1186
  refine jr_dup hE dX12_init_1109 rfl ?_
  refine jr_bipush (v := (52 : Int32)) hE dX12_init_1110 (by decide) ?_
  refine jr_bipush (v := (75 : Int32)) hE dX12_init_1112 (by decide) ?_
  refine jr_iast hE dX12_init_1114 g1190 (vp_lit (by decide)) (fun F1192 g1193 u1194 => ?_)
  have g1195 := jF.pI g1193 (show _ = 52 from rfl) (by decide +kernel)
  have u1196 := utr u1194 u1191
  refine jr_dup hE dX12_init_1115 rfl ?_
  refine jr_bipush (v := (53 : Int32)) hE dX12_init_1116 (by decide) ?_
  refine jr_bipush (v := (101 : Int32)) hE dX12_init_1118 (by decide) ?_
  refine jr_iast hE dX12_init_1120 g1195 (vp_lit (by decide)) (fun F1197 g1198 u1199 => ?_)
  have g1200 := jF.pI g1198 (show _ = 53 from rfl) (by decide +kernel)
  have u1201 := utr u1199 u1196
  refine jr_dup hE dX12_init_1121 rfl ?_
  refine jr_bipush (v := (54 : Int32)) hE dX12_init_1122 (by decide) ?_
  refine jr_bipush (v := (121 : Int32)) hE dX12_init_1124 (by decide) ?_
  refine jr_iast hE dX12_init_1126 g1200 (vp_lit (by decide)) (fun F1202 g1203 u1204 => ?_)
  have g1205 := jF.pI g1203 (show _ = 54 from rfl) (by decide +kernel)
  have u1206 := utr u1204 u1201
  refine jr_dup hE dX12_init_1127 rfl ?_
  refine jr_bipush (v := (55 : Int32)) hE dX12_init_1128 (by decide) ?_
  refine jr_bipush (v := (65 : Int32)) hE dX12_init_1130 (by decide) ?_
  refine jr_iast hE dX12_init_1132 g1205 (vp_lit (by decide)) (fun F1207 g1208 u1209 => ?_)
  have g1210 := jF.pI g1208 (show _ = 55 from rfl) (by decide +kernel)
  have u1211 := utr u1209 u1206
  refine jr_dup hE dX12_init_1133 rfl ?_
  refine jr_bipush (v := (56 : Int32)) hE dX12_init_1134 (by decide) ?_
  refine jr_bipush (v := (103 : Int32)) hE dX12_init_1136 (by decide) ?_
  refine jr_iast hE dX12_init_1138 g1210 (vp_lit (by decide)) (fun F1212 g1213 u1214 => ?_)
  have g1215 := jF.pI g1213 (show _ = 56 from rfl) (by decide +kernel)
  have u1216 := utr u1214 u1211
  refine jr_dup hE dX12_init_1139 rfl ?_
  refine jr_bipush (v := (57 : Int32)) hE dX12_init_1140 (by decide) ?_
  refine jr_bipush (v := (103 : Int32)) hE dX12_init_1142 (by decide) ?_
  refine jr_iast hE dX12_init_1144 g1215 (vp_lit (by decide)) (fun F1217 g1218 u1219 => ?_)
  have g1220 := jF.pI g1218 (show _ = 57 from rfl) (by decide +kernel)
  have u1221 := utr u1219 u1216
  refine jr_dup hE dX12_init_1145 rfl ?_
  refine jr_bipush (v := (58 : Int32)) hE dX12_init_1146 (by decide) ?_
  refine jr_bipush (v := (32 : Int32)) hE dX12_init_1148 (by decide) ?_
  refine jr_iast hE dX12_init_1150 g1220 (vp_lit (by decide)) (fun F1222 g1223 u1224 => ?_)
  have g1225 := jF.pI g1223 (show _ = 58 from rfl) (by decide +kernel)
  have u1226 := utr u1224 u1221
  refine jr_dup hE dX12_init_1151 rfl ?_
  refine jr_bipush (v := (59 : Int32)) hE dX12_init_1152 (by decide) ?_
  refine jr_bipush (v := (99 : Int32)) hE dX12_init_1154 (by decide) ?_
  refine jr_iast hE dX12_init_1156 g1225 (vp_lit (by decide)) (fun F1227 g1228 u1229 => ?_)
  have g1230 := jF.pI g1228 (show _ = 59 from rfl) (by decide +kernel)
  have u1231 := utr u1229 u1226
  refine jr_dup hE dX12_init_1157 rfl ?_
  refine jr_bipush (v := (60 : Int32)) hE dX12_init_1158 (by decide) ?_
  refine jr_bipush (v := (111 : Int32)) hE dX12_init_1160 (by decide) ?_
  refine jr_iast hE dX12_init_1162 g1230 (vp_lit (by decide)) (fun F1232 g1233 u1234 => ?_)
  have g1235 := jF.pI g1233 (show _ = 60 from rfl) (by decide +kernel)
  have u1236 := utr u1234 u1231
  refine jr_dup hE dX12_init_1163 rfl ?_
  refine jr_bipush (v := (61 : Int32)) hE dX12_init_1164 (by decide) ?_
  refine jr_bipush (v := (101 : Int32)) hE dX12_init_1166 (by decide) ?_
  refine jr_iast hE dX12_init_1168 g1235 (vp_lit (by decide)) (fun F1237 g1238 u1239 => ?_)
  have g1240 := jF.pI g1238 (show _ = 61 from rfl) (by decide +kernel)
  have u1241 := utr u1239 u1236
  refine jr_dup hE dX12_init_1169 rfl ?_
  refine jr_bipush (v := (62 : Int32)) hE dX12_init_1170 (by decide) ?_
  refine jr_bipush (v := (102 : Int32)) hE dX12_init_1172 (by decide) ?_
  refine jr_iast hE dX12_init_1174 g1240 (vp_lit (by decide)) (fun F1242 g1243 u1244 => ?_)
  have g1245 := jF.pI g1243 (show _ = 62 from rfl) (by decide +kernel)
  have u1246 := utr u1244 u1241
  refine jr_dup hE dX12_init_1175 rfl ?_
  refine jr_bipush (v := (63 : Int32)) hE dX12_init_1176 (by decide) ?_
  refine jr_bipush (v := (102 : Int32)) hE dX12_init_1178 (by decide) ?_
  refine jr_iast hE dX12_init_1180 g1245 (vp_lit (by decide)) (fun F1247 g1248 u1249 => ?_)
  have g1250 := jF.pI g1248 (show _ = 63 from rfl) (by decide +kernel)
  have u1251 := utr u1249 u1246
  refine jr_dup hE dX12_init_1181 rfl ?_
  refine jr_bipush (v := (64 : Int32)) hE dX12_init_1182 (by decide) ?_
  refine jr_bipush (v := (105 : Int32)) hE dX12_init_1184 (by decide) ?_
  refine jr_iast hE dX12_init_1186 g1250 (vp_lit (by decide)) (fun F1252 g1253 u1254 => ?_)
  have g1255 := jF.pI g1253 (show _ = 64 from rfl) (by decide +kernel)
  have u1256 := utr u1254 u1251
  refine jr_dup hE dX12_init_1187 rfl ?_
  refine jr_bipush (v := (65 : Int32)) hE dX12_init_1188 (by decide) ?_
  refine jr_bipush (v := (99 : Int32)) hE dX12_init_1190 (by decide) ?_
  refine jr_iast hE dX12_init_1192 g1255 (vp_lit (by decide)) (fun F1257 g1258 u1259 => ?_)
  have g1260 := jF.pI g1258 (show _ = 65 from rfl) (by decide +kernel)
  have u1261 := utr u1259 u1256
  refine jr_dup hE dX12_init_1193 rfl ?_
  refine jr_bipush (v := (66 : Int32)) hE dX12_init_1194 (by decide) ?_
  refine jr_bipush (v := (105 : Int32)) hE dX12_init_1196 (by decide) ?_
  refine jr_iast hE dX12_init_1198 g1260 (vp_lit (by decide)) (fun F1262 g1263 u1264 => ?_)
  have g1265 := jF.pI g1263 (show _ = 66 from rfl) (by decide +kernel)
  have u1266 := utr u1264 u1261
  refine jr_dup hE dX12_init_1199 rfl ?_
  refine jr_bipush (v := (67 : Int32)) hE dX12_init_1200 (by decide) ?_
  refine jr_bipush (v := (101 : Int32)) hE dX12_init_1202 (by decide) ?_
  refine jr_iast hE dX12_init_1204 g1265 (vp_lit (by decide)) (fun F1267 g1268 u1269 => ?_)
  have g1270 := jF.pI g1268 (show _ = 67 from rfl) (by decide +kernel)
  have u1271 := utr u1269 u1266
  refine jr_dup hE dX12_init_1205 rfl ?_
  refine jr_bipush (v := (68 : Int32)) hE dX12_init_1206 (by decide) ?_
  refine jr_bipush (v := (110 : Int32)) hE dX12_init_1208 (by decide) ?_
  refine jr_iast hE dX12_init_1210 g1270 (vp_lit (by decide)) (fun F1272 g1273 u1274 => ?_)
  have g1275 := jF.pI g1273 (show _ = 68 from rfl) (by decide +kernel)
  have u1276 := utr u1274 u1271
  refine jr_dup hE dX12_init_1211 rfl ?_
  refine jr_bipush (v := (69 : Int32)) hE dX12_init_1212 (by decide) ?_
  refine jr_bipush (v := (116 : Int32)) hE dX12_init_1214 (by decide) ?_
  refine jr_iast hE dX12_init_1216 g1275 (vp_lit (by decide)) (fun F1277 g1278 u1279 => ?_)
  have g1280 := jF.pI g1278 (show _ = 69 from rfl) (by decide +kernel)
  have u1281 := utr u1279 u1276
  refine jr_dup hE dX12_init_1217 rfl ?_
  refine jr_bipush (v := (70 : Int32)) hE dX12_init_1218 (by decide) ?_
  refine jr_bipush (v := (77 : Int32)) hE dX12_init_1220 (by decide) ?_
  refine jr_iast hE dX12_init_1222 g1280 (vp_lit (by decide)) (fun F1282 g1283 u1284 => ?_)
  have g1285 := jF.pI g1283 (show _ = 70 from rfl) (by decide +kernel)
  have u1286 := utr u1284 u1281
  refine jr_dup hE dX12_init_1223 rfl ?_
  refine jr_bipush (v := (71 : Int32)) hE dX12_init_1224 (by decide) ?_
  refine jr_bipush (v := (117 : Int32)) hE dX12_init_1226 (by decide) ?_
  refine jr_iast hE dX12_init_1228 g1285 (vp_lit (by decide)) (fun F1287 g1288 u1289 => ?_)
  have g1290 := jF.pI g1288 (show _ = 71 from rfl) (by decide +kernel)
  have u1291 := utr u1289 u1286
  refine jr_dup hE dX12_init_1229 rfl ?_
  refine jr_bipush (v := (72 : Int32)) hE dX12_init_1230 (by decide) ?_
  refine jr_bipush (v := (83 : Int32)) hE dX12_init_1232 (by decide) ?_
  refine jr_iast hE dX12_init_1234 g1290 (vp_lit (by decide)) (fun F1292 g1293 u1294 => ?_)
  have g1295 := jF.pI g1293 (show _ = 72 from rfl) (by decide +kernel)
  have u1296 := utr u1294 u1291
  refine jr_dup hE dX12_init_1235 rfl ?_
  refine jr_bipush (v := (73 : Int32)) hE dX12_init_1236 (by decide) ?_
  refine jr_bipush (v := (105 : Int32)) hE dX12_init_1238 (by decide) ?_
  refine jr_iast hE dX12_init_1240 g1295 (vp_lit (by decide)) (fun F1297 g1298 u1299 => ?_)
  have g1300 := jF.pI g1298 (show _ = 73 from rfl) (by decide +kernel)
  have u1301 := utr u1299 u1296
  refine jr_dup hE dX12_init_1241 rfl ?_
  refine jr_bipush (v := (74 : Int32)) hE dX12_init_1242 (by decide) ?_
  refine jr_bipush (v := (103 : Int32)) hE dX12_init_1244 (by decide) ?_
  refine jr_iast hE dX12_init_1246 g1300 (vp_lit (by decide)) (fun F1302 g1303 u1304 => ?_)
  have g1305 := jF.pI g1303 (show _ = 74 from rfl) (by decide +kernel)
  have u1306 := utr u1304 u1301
  refine jr_dup hE dX12_init_1247 rfl ?_
  refine jr_bipush (v := (75 : Int32)) hE dX12_init_1248 (by decide) ?_
  refine jr_bipush (v := (47 : Int32)) hE dX12_init_1250 (by decide) ?_
  refine jr_iast hE dX12_init_1252 g1305 (vp_lit (by decide)) (fun F1307 g1308 u1309 => ?_)
  have g1310 := jF.pI g1308 (show _ = 75 from rfl) (by decide +kernel)
  have u1311 := utr u1309 u1306
  refine jr_dup hE dX12_init_1253 rfl ?_
  refine jr_bipush (v := (76 : Int32)) hE dX12_init_1254 (by decide) ?_
  refine jr_bipush (v := (97 : Int32)) hE dX12_init_1256 (by decide) ?_
  refine jr_iast hE dX12_init_1258 g1310 (vp_lit (by decide)) (fun F1312 g1313 u1314 => ?_)
  have g1315 := jF.pI g1313 (show _ = 76 from rfl) (by decide +kernel)
  have u1316 := utr u1314 u1311
  refine jr_dup hE dX12_init_1259 rfl ?_
  refine jr_bipush (v := (77 : Int32)) hE dX12_init_1260 (by decide) ?_
  refine jr_bipush (v := (117 : Int32)) hE dX12_init_1262 (by decide) ?_
  refine jr_iast hE dX12_init_1264 g1315 (vp_lit (by decide)) (fun F1317 g1318 u1319 => ?_)
  have g1320 := jF.pI g1318 (show _ = 77 from rfl) (by decide +kernel)
  have u1321 := utr u1319 u1316
  refine jr_dup hE dX12_init_1265 rfl ?_
  refine jr_bipush (v := (78 : Int32)) hE dX12_init_1266 (by decide) ?_
  refine jr_bipush (v := (120 : Int32)) hE dX12_init_1268 (by decide) ?_
  refine jr_iast hE dX12_init_1270 g1320 (vp_lit (by decide)) (fun F1322 g1323 u1324 => ?_)
  have g1325 := jF.pI g1323 (show _ = 78 from rfl) (by decide +kernel)
  have u1326 := utr u1324 u1321
  refine jr_dup hE dX12_init_1271 rfl ?_
  refine jr_bipush (v := (79 : Int32)) hE dX12_init_1272 (by decide) ?_
  refine jr_bipush (v := (77 : Int32)) hE dX12_init_1274 (by decide) ?_
  refine jr_iast hE dX12_init_1276 g1325 (vp_lit (by decide)) (fun F1327 g1328 u1329 => ?_)
  have g1330 := jF.pI g1328 (show _ = 79 from rfl) (by decide +kernel)
  have u1331 := utr u1329 u1326
  refine jr_dup hE dX12_init_1277 rfl ?_
  refine jr_bipush (v := (80 : Int32)) hE dX12_init_1278 (by decide) ?_
  refine jr_bipush (v := (117 : Int32)) hE dX12_init_1280 (by decide) ?_
  refine jr_iast hE dX12_init_1282 g1330 (vp_lit (by decide)) (fun F1332 g1333 u1334 => ?_)
  have g1335 := jF.pI g1333 (show _ = 80 from rfl) (by decide +kernel)
  have u1336 := utr u1334 u1331
  refine jr_dup hE dX12_init_1283 rfl ?_
  refine jr_bipush (v := (81 : Int32)) hE dX12_init_1284 (by decide) ?_
  refine jr_bipush (v := (83 : Int32)) hE dX12_init_1286 (by decide) ?_
  refine jr_iast hE dX12_init_1288 g1335 (vp_lit (by decide)) (fun F1337 g1338 u1339 => ?_)
  have g1340 := jF.pI g1338 (show _ = 81 from rfl) (by decide +kernel)
  have u1341 := utr u1339 u1336
  refine jr_dup hE dX12_init_1289 rfl ?_
  refine jr_bipush (v := (82 : Int32)) hE dX12_init_1290 (by decide) ?_
  refine jr_bipush (v := (105 : Int32)) hE dX12_init_1292 (by decide) ?_
  refine jr_iast hE dX12_init_1294 g1340 (vp_lit (by decide)) (fun F1342 g1343 u1344 => ?_)
  have g1345 := jF.pI g1343 (show _ = 82 from rfl) (by decide +kernel)
  have u1346 := utr u1344 u1341
  refine jr_dup hE dX12_init_1295 rfl ?_
  refine jr_bipush (v := (83 : Int32)) hE dX12_init_1296 (by decide) ?_
  refine jr_bipush (v := (103 : Int32)) hE dX12_init_1298 (by decide) ?_
  refine jr_iast hE dX12_init_1300 g1345 (vp_lit (by decide)) (fun F1347 g1348 u1349 => ?_)
  have g1350 := jF.pI g1348 (show _ = 83 from rfl) (by decide +kernel)
  have u1351 := utr u1349 u1346
  refine jr_dup hE dX12_init_1301 rfl ?_
  refine jr_bipush (v := (84 : Int32)) hE dX12_init_1302 (by decide) ?_
  refine jr_bipush (v := (47 : Int32)) hE dX12_init_1304 (by decide) ?_
  refine jr_iast hE dX12_init_1306 g1350 (vp_lit (by decide)) (fun F1352 g1353 u1354 => ?_)
  have g1355 := jF.pI g1353 (show _ = 84 from rfl) (by decide +kernel)
  have u1356 := utr u1354 u1351
  refine jr_dup hE dX12_init_1307 rfl ?_
  refine jr_bipush (v := (85 : Int32)) hE dX12_init_1308 (by decide) ?_
  refine jr_bipush (v := (110 : Int32)) hE dX12_init_1310 (by decide) ?_
  refine jr_iast hE dX12_init_1312 g1355 (vp_lit (by decide)) (fun F1357 g1358 u1359 => ?_)
  have g1360 := jF.pI g1358 (show _ = 85 from rfl) (by decide +kernel)
  have u1361 := utr u1359 u1356
  refine jr_dup hE dX12_init_1313 rfl ?_
  refine jr_bipush (v := (86 : Int32)) hE dX12_init_1314 (by decide) ?_
  refine jr_bipush (v := (111 : Int32)) hE dX12_init_1316 (by decide) ?_
  refine jr_iast hE dX12_init_1318 g1360 (vp_lit (by decide)) (fun F1362 g1363 u1364 => ?_)
  have g1365 := jF.pI g1363 (show _ = 86 from rfl) (by decide +kernel)
  have u1366 := utr u1364 u1361
  refine jr_dup hE dX12_init_1319 rfl ?_
  refine jr_bipush (v := (87 : Int32)) hE dX12_init_1320 (by decide) ?_
  refine jr_bipush (v := (110 : Int32)) hE dX12_init_1322 (by decide) ?_
  refine jr_iast hE dX12_init_1324 g1365 (vp_lit (by decide)) (fun F1367 g1368 u1369 => ?_)
  have g1370 := jF.pI g1368 (show _ = 87 from rfl) (by decide +kernel)
  have u1371 := utr u1369 u1366
  refine jr_dup hE dX12_init_1325 rfl ?_
  refine jr_bipush (v := (88 : Int32)) hE dX12_init_1326 (by decide) ?_
  refine jr_bipush (v := (99 : Int32)) hE dX12_init_1328 (by decide) ?_
  refine jr_iast hE dX12_init_1330 g1370 (vp_lit (by decide)) (fun F1372 g1373 u1374 => ?_)
  have g1375 := jF.pI g1373 (show _ = 88 from rfl) (by decide +kernel)
  have u1376 := utr u1374 u1371
  refine jr_dup hE dX12_init_1331 rfl ?_
  refine jr_bipush (v := (89 : Int32)) hE dX12_init_1332 (by decide) ?_
  refine jr_bipush (v := (101 : Int32)) hE dX12_init_1334 (by decide) ?_
  refine jr_iast hE dX12_init_1336 g1375 (vp_lit (by decide)) (fun F1377 g1378 u1379 => ?_)
  have g1380 := jF.pI g1378 (show _ = 89 from rfl) (by decide +kernel)
  have u1381 := utr u1379 u1376
  refine jr_dup hE dX12_init_1337 rfl ?_
  refine jr_bipush (v := (90 : Int32)) hE dX12_init_1338 (by decide) ?_
  refine jr_bipush (v := (77 : Int32)) hE dX12_init_1340 (by decide) ?_
  refine jr_iast hE dX12_init_1342 g1380 (vp_lit (by decide)) (fun F1382 g1383 u1384 => ?_)
  have g1385 := jF.pI g1383 (show _ = 90 from rfl) (by decide +kernel)
  have u1386 := utr u1384 u1381
  refine jr_dup hE dX12_init_1343 rfl ?_
  refine jr_bipush (v := (91 : Int32)) hE dX12_init_1344 (by decide) ?_
  refine jr_bipush (v := (117 : Int32)) hE dX12_init_1346 (by decide) ?_
  refine jr_iast hE dX12_init_1348 g1385 (vp_lit (by decide)) (fun F1387 g1388 u1389 => ?_)
  have g1390 := jF.pI g1388 (show _ = 91 from rfl) (by decide +kernel)
  have u1391 := utr u1389 u1386
  refine jr_dup hE dX12_init_1349 rfl ?_
  refine jr_bipush (v := (92 : Int32)) hE dX12_init_1350 (by decide) ?_
  refine jr_bipush (v := (83 : Int32)) hE dX12_init_1352 (by decide) ?_
  refine jr_iast hE dX12_init_1354 g1390 (vp_lit (by decide)) (fun F1392 g1393 u1394 => ?_)
  have g1395 := jF.pI g1393 (show _ = 92 from rfl) (by decide +kernel)
  have u1396 := utr u1394 u1391
  refine jr_dup hE dX12_init_1355 rfl ?_
  refine jr_bipush (v := (93 : Int32)) hE dX12_init_1356 (by decide) ?_
  refine jr_bipush (v := (105 : Int32)) hE dX12_init_1358 (by decide) ?_
  refine jr_iast hE dX12_init_1360 g1395 (vp_lit (by decide)) (fun F1397 g1398 u1399 => ?_)
  have g1400 := jF.pI g1398 (show _ = 93 from rfl) (by decide +kernel)
  have u1401 := utr u1399 u1396
  refine jr_dup hE dX12_init_1361 rfl ?_
  refine jr_bipush (v := (94 : Int32)) hE dX12_init_1362 (by decide) ?_
  refine jr_bipush (v := (103 : Int32)) hE dX12_init_1364 (by decide) ?_
  refine jr_iast hE dX12_init_1366 g1400 (vp_lit (by decide)) (fun F1402 g1403 u1404 => ?_)
  have g1405 := jF.pI g1403 (show _ = 94 from rfl) (by decide +kernel)
  have u1406 := utr u1404 u1401
  refine jr_dup hE dX12_init_1367 rfl ?_
  refine jr_bipush (v := (95 : Int32)) hE dX12_init_1368 (by decide) ?_
  refine jr_bipush (v := (47 : Int32)) hE dX12_init_1370 (by decide) ?_
  refine jr_iast hE dX12_init_1372 g1405 (vp_lit (by decide)) (fun F1407 g1408 u1409 => ?_)
  have g1410 := jF.pI g1408 (show _ = 95 from rfl) (by decide +kernel)
  have u1411 := utr u1409 u1406
  refine jr_dup hE dX12_init_1373 rfl ?_
  refine jr_bipush (v := (96 : Int32)) hE dX12_init_1374 (by decide) ?_
  refine jr_bipush (v := (110 : Int32)) hE dX12_init_1376 (by decide) ?_
  refine jr_iast hE dX12_init_1378 g1410 (vp_lit (by decide)) (fun F1412 g1413 u1414 => ?_)
  have g1415 := jF.pI g1413 (show _ = 96 from rfl) (by decide +kernel)
  have u1416 := utr u1414 u1411
  refine jr_dup hE dX12_init_1379 rfl ?_
  refine jr_bipush (v := (97 : Int32)) hE dX12_init_1380 (by decide) ?_
  refine jr_bipush (v := (111 : Int32)) hE dX12_init_1382 (by decide) ?_
  refine jr_iast hE dX12_init_1384 g1415 (vp_lit (by decide)) (fun F1417 g1418 u1419 => ?_)
  have g1420 := jF.pI g1418 (show _ = 97 from rfl) (by decide +kernel)
  have u1421 := utr u1419 u1416
  refine jr_dup hE dX12_init_1385 rfl ?_
  refine jr_bipush (v := (98 : Int32)) hE dX12_init_1386 (by decide) ?_
  refine jr_bipush (v := (110 : Int32)) hE dX12_init_1388 (by decide) ?_
  refine jr_iast hE dX12_init_1390 g1420 (vp_lit (by decide)) (fun F1422 g1423 u1424 => ?_)
  have g1425 := jF.pI g1423 (show _ = 98 from rfl) (by decide +kernel)
  have u1426 := utr u1424 u1421
  refine jr_dup hE dX12_init_1391 rfl ?_
  refine jr_bipush (v := (99 : Int32)) hE dX12_init_1392 (by decide) ?_
  refine jr_bipush (v := (99 : Int32)) hE dX12_init_1394 (by decide) ?_
  refine jr_iast hE dX12_init_1396 g1425 (vp_lit (by decide)) (fun F1427 g1428 u1429 => ?_)
  have g1430 := jF.pI g1428 (show _ = 99 from rfl) (by decide +kernel)
  have u1431 := utr u1429 u1426
  refine jr_dup hE dX12_init_1397 rfl ?_
  refine jr_bipush (v := (100 : Int32)) hE dX12_init_1398 (by decide) ?_
  refine jr_bipush (v := (101 : Int32)) hE dX12_init_1400 (by decide) ?_
  refine jr_iast hE dX12_init_1402 g1430 (vp_lit (by decide)) (fun F1432 g1433 u1434 => ?_)
  have g1435 := jF.pI g1433 (show _ = 100 from rfl) (by decide +kernel)
  have u1436 := utr u1434 u1431
  refine jr_dup hE dX12_init_1403 rfl ?_
  refine jr_bipush (v := (101 : Int32)) hE dX12_init_1404 (by decide) ?_
  refine jr_bipush (v := (99 : Int32)) hE dX12_init_1406 (by decide) ?_
  refine jr_iast hE dX12_init_1408 g1435 (vp_lit (by decide)) (fun F1437 g1438 u1439 => ?_)
  have g1440 := jF.pI g1438 (show _ = 101 from rfl) (by decide +kernel)
  have u1441 := utr u1439 u1436
  refine jr_dup hE dX12_init_1409 rfl ?_
  refine jr_bipush (v := (102 : Int32)) hE dX12_init_1410 (by decide) ?_
  refine jr_bipush (v := (111 : Int32)) hE dX12_init_1412 (by decide) ?_
  refine jr_iast hE dX12_init_1414 g1440 (vp_lit (by decide)) (fun F1442 g1443 u1444 => ?_)
  have g1445 := jF.pI g1443 (show _ = 102 from rfl) (by decide +kernel)
  have u1446 := utr u1444 u1441
  refine jr_dup hE dX12_init_1415 rfl ?_
  refine jr_bipush (v := (103 : Int32)) hE dX12_init_1416 (by decide) ?_
  refine jr_bipush (v := (101 : Int32)) hE dX12_init_1418 (by decide) ?_
  refine jr_iast hE dX12_init_1420 g1445 (vp_lit (by decide)) (fun F1447 g1448 u1449 => ?_)
  have g1450 := jF.pI g1448 (show _ = 103 from rfl) (by decide +kernel)
  have u1451 := utr u1449 u1446
  refine jr_dup hE dX12_init_1421 rfl ?_
  refine jr_bipush (v := (104 : Int32)) hE dX12_init_1422 (by decide) ?_
  refine jr_bipush (v := (102 : Int32)) hE dX12_init_1424 (by decide) ?_
  refine jr_iast hE dX12_init_1426 g1450 (vp_lit (by decide)) (fun F1452 g1453 u1454 => ?_)
  have g1455 := jF.pI g1453 (show _ = 104 from rfl) (by decide +kernel)
  have u1456 := utr u1454 u1451
  have g1457 := g923.nw n928 u1456
  have g1458 := g925.nx n928 u1456 g1455
  refine jr_putF (ty := .array .int) hE dX12_init_1427 f211 g1457 rfl hinit rfl (by decide +kernel) rfl rfl (Nat.le_of_ble_eq_true rfl) (fun F1460 g1461 u1462 => ?_)
  have g1463 := g1458.put u1462
  refine jr_aload_n hE dX12_init_1430 0 rfl ?_
  refine jr_bipush (v := (64 : Int32)) hE dX12_init_1431 (by decide) ?_
  refine jr_newa (ty := .int) (g := 1) (N := 64) (a0 := (64, .inl (fun _ => 0))) hE dX12_init_1433 (by decide +kernel) rfl rfl (fun _ e => by cases e) (fun _ => rfl) (by decide) (by decide) (by decide) ⟨by decide, by decide⟩ (fun q1464 F1465 n1466 g1467 u1468 => ?_)
  have g1469 := jF.pI0 g1467 (fun j => jROUND.getD j 0)
  refine jr_dup hE dX12_init_1435 rfl ?_
  refine jr_iconst (v := (0 : Int32)) hE dX12_init_1436 (by decide) ?_
  refine jr_ldc (v := (1116352408 : Int32)) hE dX12_init_1437 (by decide +kernel) ?_
  refine jr_iast hE dX12_init_1439 g1469 (vp_lit (by decide)) (fun F1470 g1471 u1472 => ?_)
  have g1473 := jF.pI g1471 (show _ = 0 from rfl) (by decide +kernel)
  have u1474 := utr u1472 u1468
  refine jr_dup hE dX12_init_1440 rfl ?_
  refine jr_iconst (v := (1 : Int32)) hE dX12_init_1441 (by decide) ?_
  refine jr_ldc (v := (1899447441 : Int32)) hE dX12_init_1442 (by decide +kernel) ?_
  refine jr_iast hE dX12_init_1444 g1473 (vp_lit (by decide)) (fun F1475 g1476 u1477 => ?_)
  have g1478 := jF.pI g1476 (show _ = 1 from rfl) (by decide +kernel)
  have u1479 := utr u1477 u1474
  refine jr_dup hE dX12_init_1445 rfl ?_
  refine jr_iconst (v := (2 : Int32)) hE dX12_init_1446 (by decide) ?_
  refine jr_ldc (v := (-1245643825 : Int32)) hE dX12_init_1447 (by decide +kernel) ?_
  refine jr_iast hE dX12_init_1449 g1478 (vp_lit (by decide)) (fun F1480 g1481 u1482 => ?_)
  have g1483 := jF.pI g1481 (show _ = 2 from rfl) (by decide +kernel)
  have u1484 := utr u1482 u1479
  refine jr_dup hE dX12_init_1450 rfl ?_
  refine jr_iconst (v := (3 : Int32)) hE dX12_init_1451 (by decide) ?_
  refine jr_ldc (v := (-373957723 : Int32)) hE dX12_init_1452 (by decide +kernel) ?_
  refine jr_iast hE dX12_init_1454 g1483 (vp_lit (by decide)) (fun F1485 g1486 u1487 => ?_)
  have g1488 := jF.pI g1486 (show _ = 3 from rfl) (by decide +kernel)
  have u1489 := utr u1487 u1484
  refine jr_dup hE dX12_init_1455 rfl ?_
  refine jr_iconst (v := (4 : Int32)) hE dX12_init_1456 (by decide) ?_
  refine jr_ldc (v := (961987163 : Int32)) hE dX12_init_1457 (by decide +kernel) ?_
  refine jr_iast hE dX12_init_1459 g1488 (vp_lit (by decide)) (fun F1490 g1491 u1492 => ?_)
  have g1493 := jF.pI g1491 (show _ = 4 from rfl) (by decide +kernel)
  have u1494 := utr u1492 u1489
  refine jr_dup hE dX12_init_1460 rfl ?_
  refine jr_iconst (v := (5 : Int32)) hE dX12_init_1461 (by decide) ?_
  refine jr_ldc (v := (1508970993 : Int32)) hE dX12_init_1462 (by decide +kernel) ?_
  refine jr_iast hE dX12_init_1464 g1493 (vp_lit (by decide)) (fun F1495 g1496 u1497 => ?_)
  have g1498 := jF.pI g1496 (show _ = 5 from rfl) (by decide +kernel)
  have u1499 := utr u1497 u1494
  refine jr_dup hE dX12_init_1465 rfl ?_
  refine jr_bipush (v := (6 : Int32)) hE dX12_init_1466 (by decide) ?_
  refine jr_ldc (v := (-1841331548 : Int32)) hE dX12_init_1468 (by decide +kernel) ?_
  refine jr_iast hE dX12_init_1470 g1498 (vp_lit (by decide)) (fun F1500 g1501 u1502 => ?_)
  have g1503 := jF.pI g1501 (show _ = 6 from rfl) (by decide +kernel)
  have u1504 := utr u1502 u1499
  refine jr_dup hE dX12_init_1471 rfl ?_
  refine jr_bipush (v := (7 : Int32)) hE dX12_init_1472 (by decide) ?_
  refine jr_ldc (v := (-1424204075 : Int32)) hE dX12_init_1474 (by decide +kernel) ?_
  refine jr_iast hE dX12_init_1476 g1503 (vp_lit (by decide)) (fun F1505 g1506 u1507 => ?_)
  have g1508 := jF.pI g1506 (show _ = 7 from rfl) (by decide +kernel)
  have u1509 := utr u1507 u1504
  refine jr_dup hE dX12_init_1477 rfl ?_
  refine jr_bipush (v := (8 : Int32)) hE dX12_init_1478 (by decide) ?_
  refine jr_ldc (v := (-670586216 : Int32)) hE dX12_init_1480 (by decide +kernel) ?_
  refine jr_iast hE dX12_init_1482 g1508 (vp_lit (by decide)) (fun F1510 g1511 u1512 => ?_)
  have g1513 := jF.pI g1511 (show _ = 8 from rfl) (by decide +kernel)
  have u1514 := utr u1512 u1509
  refine jr_dup hE dX12_init_1483 rfl ?_
  refine jr_bipush (v := (9 : Int32)) hE dX12_init_1484 (by decide) ?_
  refine jr_ldc (v := (310598401 : Int32)) hE dX12_init_1486 (by decide +kernel) ?_
  refine jr_iast hE dX12_init_1488 g1513 (vp_lit (by decide)) (fun F1515 g1516 u1517 => ?_)
  have g1518 := jF.pI g1516 (show _ = 9 from rfl) (by decide +kernel)
  have u1519 := utr u1517 u1514
  refine jr_dup hE dX12_init_1489 rfl ?_
  refine jr_bipush (v := (10 : Int32)) hE dX12_init_1490 (by decide) ?_
  refine jr_ldc (v := (607225278 : Int32)) hE dX12_init_1492 (by decide +kernel) ?_
  refine jr_iast hE dX12_init_1494 g1518 (vp_lit (by decide)) (fun F1520 g1521 u1522 => ?_)
  have g1523 := jF.pI g1521 (show _ = 10 from rfl) (by decide +kernel)
  have u1524 := utr u1522 u1519
  refine jr_dup hE dX12_init_1495 rfl ?_
  refine jr_bipush (v := (11 : Int32)) hE dX12_init_1496 (by decide) ?_
  refine jr_ldc (v := (1426881987 : Int32)) hE dX12_init_1498 (by decide +kernel) ?_
  refine jr_iast hE dX12_init_1500 g1523 (vp_lit (by decide)) (fun F1525 g1526 u1527 => ?_)
  have g1528 := jF.pI g1526 (show _ = 11 from rfl) (by decide +kernel)
  have u1529 := utr u1527 u1524
  refine jr_dup hE dX12_init_1501 rfl ?_
  refine jr_bipush (v := (12 : Int32)) hE dX12_init_1502 (by decide) ?_
  refine jr_ldc (v := (1925078388 : Int32)) hE dX12_init_1504 (by decide +kernel) ?_
  refine jr_iast hE dX12_init_1506 g1528 (vp_lit (by decide)) (fun F1530 g1531 u1532 => ?_)
  have g1533 := jF.pI g1531 (show _ = 12 from rfl) (by decide +kernel)
  have u1534 := utr u1532 u1529
  refine jr_dup hE dX12_init_1507 rfl ?_
  refine jr_bipush (v := (13 : Int32)) hE dX12_init_1508 (by decide) ?_
  refine jr_ldc (v := (-2132889090 : Int32)) hE dX12_init_1510 (by decide +kernel) ?_
  refine jr_iast hE dX12_init_1512 g1533 (vp_lit (by decide)) (fun F1535 g1536 u1537 => ?_)
  have g1538 := jF.pI g1536 (show _ = 13 from rfl) (by decide +kernel)
  have u1539 := utr u1537 u1534
  refine jr_dup hE dX12_init_1513 rfl ?_
  refine jr_bipush (v := (14 : Int32)) hE dX12_init_1514 (by decide) ?_
  refine jr_ldc (v := (-1680079193 : Int32)) hE dX12_init_1516 (by decide +kernel) ?_
  refine jr_iast hE dX12_init_1518 g1538 (vp_lit (by decide)) (fun F1540 g1541 u1542 => ?_)
  have g1543 := jF.pI g1541 (show _ = 14 from rfl) (by decide +kernel)
  have u1544 := utr u1542 u1539
  refine jr_dup hE dX12_init_1519 rfl ?_
  refine jr_bipush (v := (15 : Int32)) hE dX12_init_1520 (by decide) ?_
  refine jr_ldc (v := (-1046744716 : Int32)) hE dX12_init_1522 (by decide +kernel) ?_
  refine jr_iast hE dX12_init_1524 g1543 (vp_lit (by decide)) (fun F1545 g1546 u1547 => ?_)
  have g1548 := jF.pI g1546 (show _ = 15 from rfl) (by decide +kernel)
  have u1549 := utr u1547 u1544
  refine jr_dup hE dX12_init_1525 rfl ?_
  refine jr_bipush (v := (16 : Int32)) hE dX12_init_1526 (by decide) ?_
  refine jr_ldc (v := (-459576895 : Int32)) hE dX12_init_1528 (by decide +kernel) ?_
  refine jr_iast hE dX12_init_1530 g1548 (vp_lit (by decide)) (fun F1550 g1551 u1552 => ?_)
  have g1553 := jF.pI g1551 (show _ = 16 from rfl) (by decide +kernel)
  have u1554 := utr u1552 u1549
  refine jr_dup hE dX12_init_1531 rfl ?_
  refine jr_bipush (v := (17 : Int32)) hE dX12_init_1532 (by decide) ?_
  refine jr_ldc (v := (-272742522 : Int32)) hE dX12_init_1534 (by decide +kernel) ?_
  refine jr_iast hE dX12_init_1536 g1553 (vp_lit (by decide)) (fun F1555 g1556 u1557 => ?_)
  have g1558 := jF.pI g1556 (show _ = 17 from rfl) (by decide +kernel)
  have u1559 := utr u1557 u1554
  refine jr_dup hE dX12_init_1537 rfl ?_
  refine jr_bipush (v := (18 : Int32)) hE dX12_init_1538 (by decide) ?_
  refine jr_ldc (v := (264347078 : Int32)) hE dX12_init_1540 (by decide +kernel) ?_
  refine jr_iast hE dX12_init_1542 g1558 (vp_lit (by decide)) (fun F1560 g1561 u1562 => ?_)
  have g1563 := jF.pI g1561 (show _ = 18 from rfl) (by decide +kernel)
  have u1564 := utr u1562 u1559
  refine jr_dup hE dX12_init_1543 rfl ?_
  refine jr_bipush (v := (19 : Int32)) hE dX12_init_1544 (by decide) ?_
  refine jr_ldc (v := (604807628 : Int32)) hE dX12_init_1546 (by decide +kernel) ?_
  refine jr_iast hE dX12_init_1548 g1563 (vp_lit (by decide)) (fun F1565 g1566 u1567 => ?_)
  have g1568 := jF.pI g1566 (show _ = 19 from rfl) (by decide +kernel)
  have u1569 := utr u1567 u1564
  refine jr_dup hE dX12_init_1549 rfl ?_
  refine jr_bipush (v := (20 : Int32)) hE dX12_init_1550 (by decide) ?_
  refine jr_ldc (v := (770255983 : Int32)) hE dX12_init_1552 (by decide +kernel) ?_
  refine jr_iast hE dX12_init_1554 g1568 (vp_lit (by decide)) (fun F1570 g1571 u1572 => ?_)
  have g1573 := jF.pI g1571 (show _ = 20 from rfl) (by decide +kernel)
  have u1574 := utr u1572 u1569
  refine jr_dup hE dX12_init_1555 rfl ?_
  refine jr_bipush (v := (21 : Int32)) hE dX12_init_1556 (by decide) ?_
  refine jr_ldc (v := (1249150122 : Int32)) hE dX12_init_1558 (by decide +kernel) ?_
  refine jr_iast hE dX12_init_1560 g1573 (vp_lit (by decide)) (fun F1575 g1576 u1577 => ?_)
  have g1578 := jF.pI g1576 (show _ = 21 from rfl) (by decide +kernel)
  have u1579 := utr u1577 u1574
  refine jr_dup hE dX12_init_1561 rfl ?_
  refine jr_bipush (v := (22 : Int32)) hE dX12_init_1562 (by decide) ?_
  refine jr_ldc (v := (1555081692 : Int32)) hE dX12_init_1564 (by decide +kernel) ?_
  refine jr_iast hE dX12_init_1566 g1578 (vp_lit (by decide)) (fun F1580 g1581 u1582 => ?_)
  have g1583 := jF.pI g1581 (show _ = 22 from rfl) (by decide +kernel)
  have u1584 := utr u1582 u1579
  refine jr_dup hE dX12_init_1567 rfl ?_
  refine jr_bipush (v := (23 : Int32)) hE dX12_init_1568 (by decide) ?_
  refine jr_ldc (v := (1996064986 : Int32)) hE dX12_init_1570 (by decide +kernel) ?_
  refine jr_iast hE dX12_init_1572 g1583 (vp_lit (by decide)) (fun F1585 g1586 u1587 => ?_)
  have g1588 := jF.pI g1586 (show _ = 23 from rfl) (by decide +kernel)
  have u1589 := utr u1587 u1584
  refine jr_dup hE dX12_init_1573 rfl ?_
  refine jr_bipush (v := (24 : Int32)) hE dX12_init_1574 (by decide) ?_
  refine jr_ldc (v := (-1740746414 : Int32)) hE dX12_init_1576 (by decide +kernel) ?_
  refine jr_iast hE dX12_init_1578 g1588 (vp_lit (by decide)) (fun F1590 g1591 u1592 => ?_)
  have g1593 := jF.pI g1591 (show _ = 24 from rfl) (by decide +kernel)
  have u1594 := utr u1592 u1589
  refine jr_dup hE dX12_init_1579 rfl ?_
  refine jr_bipush (v := (25 : Int32)) hE dX12_init_1580 (by decide) ?_
  refine jr_ldc (v := (-1473132947 : Int32)) hE dX12_init_1582 (by decide +kernel) ?_
  refine jr_iast hE dX12_init_1584 g1593 (vp_lit (by decide)) (fun F1595 g1596 u1597 => ?_)
  have g1598 := jF.pI g1596 (show _ = 25 from rfl) (by decide +kernel)
  have u1599 := utr u1597 u1594
  refine jr_dup hE dX12_init_1585 rfl ?_
  refine jr_bipush (v := (26 : Int32)) hE dX12_init_1586 (by decide) ?_
  refine jr_ldc (v := (-1341970488 : Int32)) hE dX12_init_1588 (by decide +kernel) ?_
  refine jr_iast hE dX12_init_1590 g1598 (vp_lit (by decide)) (fun F1600 g1601 u1602 => ?_)
  have g1603 := jF.pI g1601 (show _ = 26 from rfl) (by decide +kernel)
  have u1604 := utr u1602 u1599
  refine jr_dup hE dX12_init_1591 rfl ?_
  refine jr_bipush (v := (27 : Int32)) hE dX12_init_1592 (by decide) ?_
  refine jr_ldc (v := (-1084653625 : Int32)) hE dX12_init_1594 (by decide +kernel) ?_
  refine jr_iast hE dX12_init_1596 g1603 (vp_lit (by decide)) (fun F1605 g1606 u1607 => ?_)
  have g1608 := jF.pI g1606 (show _ = 27 from rfl) (by decide +kernel)
  have u1609 := utr u1607 u1604
  refine jr_dup hE dX12_init_1597 rfl ?_
  refine jr_bipush (v := (28 : Int32)) hE dX12_init_1598 (by decide) ?_
  refine jr_ldc (v := (-958395405 : Int32)) hE dX12_init_1600 (by decide +kernel) ?_
  refine jr_iast hE dX12_init_1602 g1608 (vp_lit (by decide)) (fun F1610 g1611 u1612 => ?_)
  have g1613 := jF.pI g1611 (show _ = 28 from rfl) (by decide +kernel)
  have u1614 := utr u1612 u1609
  refine jr_dup hE dX12_init_1603 rfl ?_
  refine jr_bipush (v := (29 : Int32)) hE dX12_init_1604 (by decide) ?_
  refine jr_ldc (v := (-710438585 : Int32)) hE dX12_init_1606 (by decide +kernel) ?_
  refine jr_iast hE dX12_init_1608 g1613 (vp_lit (by decide)) (fun F1615 g1616 u1617 => ?_)
  have g1618 := jF.pI g1616 (show _ = 29 from rfl) (by decide +kernel)
  have u1619 := utr u1617 u1614
  refine jr_dup hE dX12_init_1609 rfl ?_
  refine jr_bipush (v := (30 : Int32)) hE dX12_init_1610 (by decide) ?_
  refine jr_ldc (v := (113926993 : Int32)) hE dX12_init_1612 (by decide +kernel) ?_
  refine jr_iast hE dX12_init_1614 g1618 (vp_lit (by decide)) (fun F1620 g1621 u1622 => ?_)
  have g1623 := jF.pI g1621 (show _ = 30 from rfl) (by decide +kernel)
  have u1624 := utr u1622 u1619
  refine jr_dup hE dX12_init_1615 rfl ?_
  refine jr_bipush (v := (31 : Int32)) hE dX12_init_1616 (by decide) ?_
  refine jr_ldc (v := (338241895 : Int32)) hE dX12_init_1618 (by decide +kernel) ?_
  refine jr_iast hE dX12_init_1620 g1623 (vp_lit (by decide)) (fun F1625 g1626 u1627 => ?_)
  have g1628 := jF.pI g1626 (show _ = 31 from rfl) (by decide +kernel)
  have u1629 := utr u1627 u1624
  refine jr_dup hE dX12_init_1621 rfl ?_
  refine jr_bipush (v := (32 : Int32)) hE dX12_init_1622 (by decide) ?_
  refine jr_ldc (v := (666307205 : Int32)) hE dX12_init_1624 (by decide +kernel) ?_
  refine jr_iast hE dX12_init_1626 g1628 (vp_lit (by decide)) (fun F1630 g1631 u1632 => ?_)
  have g1633 := jF.pI g1631 (show _ = 32 from rfl) (by decide +kernel)
  have u1634 := utr u1632 u1629
  refine jr_dup hE dX12_init_1627 rfl ?_
  refine jr_bipush (v := (33 : Int32)) hE dX12_init_1628 (by decide) ?_
  refine jr_ldc (v := (773529912 : Int32)) hE dX12_init_1630 (by decide +kernel) ?_
  refine jr_iast hE dX12_init_1632 g1633 (vp_lit (by decide)) (fun F1635 g1636 u1637 => ?_)
  have g1638 := jF.pI g1636 (show _ = 33 from rfl) (by decide +kernel)
  have u1639 := utr u1637 u1634
  refine jr_dup hE dX12_init_1633 rfl ?_
  refine jr_bipush (v := (34 : Int32)) hE dX12_init_1634 (by decide) ?_
  refine jr_ldc (v := (1294757372 : Int32)) hE dX12_init_1636 (by decide +kernel) ?_
  refine jr_iast hE dX12_init_1638 g1638 (vp_lit (by decide)) (fun F1640 g1641 u1642 => ?_)
  have g1643 := jF.pI g1641 (show _ = 34 from rfl) (by decide +kernel)
  have u1644 := utr u1642 u1639
  refine jr_dup hE dX12_init_1639 rfl ?_
  refine jr_bipush (v := (35 : Int32)) hE dX12_init_1640 (by decide) ?_
  refine jr_ldc (v := (1396182291 : Int32)) hE dX12_init_1642 (by decide +kernel) ?_
  refine jr_iast hE dX12_init_1644 g1643 (vp_lit (by decide)) (fun F1645 g1646 u1647 => ?_)
  have g1648 := jF.pI g1646 (show _ = 35 from rfl) (by decide +kernel)
  have u1649 := utr u1647 u1644
  refine jr_dup hE dX12_init_1645 rfl ?_
  refine jr_bipush (v := (36 : Int32)) hE dX12_init_1646 (by decide) ?_
  refine jr_ldc (v := (1695183700 : Int32)) hE dX12_init_1648 (by decide +kernel) ?_
  refine jr_iast hE dX12_init_1650 g1648 (vp_lit (by decide)) (fun F1650 g1651 u1652 => ?_)
  have g1653 := jF.pI g1651 (show _ = 36 from rfl) (by decide +kernel)
  have u1654 := utr u1652 u1649
  refine jr_dup hE dX12_init_1651 rfl ?_
  refine jr_bipush (v := (37 : Int32)) hE dX12_init_1652 (by decide) ?_
  refine jr_ldc (v := (1986661051 : Int32)) hE dX12_init_1654 (by decide +kernel) ?_
  refine jr_iast hE dX12_init_1656 g1653 (vp_lit (by decide)) (fun F1655 g1656 u1657 => ?_)
  have g1658 := jF.pI g1656 (show _ = 37 from rfl) (by decide +kernel)
  have u1659 := utr u1657 u1654
  refine jr_dup hE dX12_init_1657 rfl ?_
  refine jr_bipush (v := (38 : Int32)) hE dX12_init_1658 (by decide) ?_
  refine jr_ldc (v := (-2117940946 : Int32)) hE dX12_init_1660 (by decide +kernel) ?_
  refine jr_iast hE dX12_init_1662 g1658 (vp_lit (by decide)) (fun F1660 g1661 u1662 => ?_)
  have g1663 := jF.pI g1661 (show _ = 38 from rfl) (by decide +kernel)
  have u1664 := utr u1662 u1659
  refine jr_dup hE dX12_init_1663 rfl ?_
  refine jr_bipush (v := (39 : Int32)) hE dX12_init_1664 (by decide) ?_
  refine jr_ldc (v := (-1838011259 : Int32)) hE dX12_init_1666 (by decide +kernel) ?_
  refine jr_iast hE dX12_init_1668 g1663 (vp_lit (by decide)) (fun F1665 g1666 u1667 => ?_)
  have g1668 := jF.pI g1666 (show _ = 39 from rfl) (by decide +kernel)
  have u1669 := utr u1667 u1664
  refine jr_dup hE dX12_init_1669 rfl ?_
  refine jr_bipush (v := (40 : Int32)) hE dX12_init_1670 (by decide) ?_
  refine jr_ldc (v := (-1564481375 : Int32)) hE dX12_init_1672 (by decide +kernel) ?_
  refine jr_iast hE dX12_init_1674 g1668 (vp_lit (by decide)) (fun F1670 g1671 u1672 => ?_)
  have g1673 := jF.pI g1671 (show _ = 40 from rfl) (by decide +kernel)
  have u1674 := utr u1672 u1669
  refine jr_dup hE dX12_init_1675 rfl ?_
  refine jr_bipush (v := (41 : Int32)) hE dX12_init_1676 (by decide) ?_
  refine jr_ldc (v := (-1474664885 : Int32)) hE dX12_init_1678 (by decide +kernel) ?_
  refine jr_iast hE dX12_init_1680 g1673 (vp_lit (by decide)) (fun F1675 g1676 u1677 => ?_)
  have g1678 := jF.pI g1676 (show _ = 41 from rfl) (by decide +kernel)
  have u1679 := utr u1677 u1674
  refine jr_dup hE dX12_init_1681 rfl ?_
  refine jr_bipush (v := (42 : Int32)) hE dX12_init_1682 (by decide) ?_
  refine jr_ldcw (v := (-1035236496 : Int32)) hE dX12_init_1684 (by decide +kernel) ?_
  refine jr_iast hE dX12_init_1687 g1678 (vp_lit (by decide)) (fun F1680 g1681 u1682 => ?_)
  have g1683 := jF.pI g1681 (show _ = 42 from rfl) (by decide +kernel)
  have u1684 := utr u1682 u1679
  refine jr_dup hE dX12_init_1688 rfl ?_
  refine jr_bipush (v := (43 : Int32)) hE dX12_init_1689 (by decide) ?_
  refine jr_ldcw (v := (-949202525 : Int32)) hE dX12_init_1691 (by decide +kernel) ?_
  refine jr_iast hE dX12_init_1694 g1683 (vp_lit (by decide)) (fun F1685 g1686 u1687 => ?_)
  have g1688 := jF.pI g1686 (show _ = 43 from rfl) (by decide +kernel)
  have u1689 := utr u1687 u1684
  refine jr_dup hE dX12_init_1695 rfl ?_
  refine jr_bipush (v := (44 : Int32)) hE dX12_init_1696 (by decide) ?_
  refine jr_ldcw (v := (-778901479 : Int32)) hE dX12_init_1698 (by decide +kernel) ?_
  refine jr_iast hE dX12_init_1701 g1688 (vp_lit (by decide)) (fun F1690 g1691 u1692 => ?_)
  have g1693 := jF.pI g1691 (show _ = 44 from rfl) (by decide +kernel)
  have u1694 := utr u1692 u1689
  refine jr_dup hE dX12_init_1702 rfl ?_
  refine jr_bipush (v := (45 : Int32)) hE dX12_init_1703 (by decide) ?_
  refine jr_ldcw (v := (-694614492 : Int32)) hE dX12_init_1705 (by decide +kernel) ?_
  refine jr_iast hE dX12_init_1708 g1693 (vp_lit (by decide)) (fun F1695 g1696 u1697 => ?_)
  have g1698 := jF.pI g1696 (show _ = 45 from rfl) (by decide +kernel)
  have u1699 := utr u1697 u1694
  refine jr_dup hE dX12_init_1709 rfl ?_
  refine jr_bipush (v := (46 : Int32)) hE dX12_init_1710 (by decide) ?_
  refine jr_ldcw (v := (-200395387 : Int32)) hE dX12_init_1712 (by decide +kernel) ?_
  refine jr_iast hE dX12_init_1715 g1698 (vp_lit (by decide)) (fun F1700 g1701 u1702 => ?_)
  have g1703 := jF.pI g1701 (show _ = 46 from rfl) (by decide +kernel)
  have u1704 := utr u1702 u1699
  refine jr_dup hE dX12_init_1716 rfl ?_
  refine jr_bipush (v := (47 : Int32)) hE dX12_init_1717 (by decide) ?_
  refine jr_ldcw (v := (275423344 : Int32)) hE dX12_init_1719 (by decide +kernel) ?_
  refine jr_iast hE dX12_init_1722 g1703 (vp_lit (by decide)) (fun F1705 g1706 u1707 => ?_)
  have g1708 := jF.pI g1706 (show _ = 47 from rfl) (by decide +kernel)
  have u1709 := utr u1707 u1704
  refine jr_dup hE dX12_init_1723 rfl ?_
  refine jr_bipush (v := (48 : Int32)) hE dX12_init_1724 (by decide) ?_
  refine jr_ldcw (v := (430227734 : Int32)) hE dX12_init_1726 (by decide +kernel) ?_
  refine jr_iast hE dX12_init_1729 g1708 (vp_lit (by decide)) (fun F1710 g1711 u1712 => ?_)
  have g1713 := jF.pI g1711 (show _ = 48 from rfl) (by decide +kernel)
  have u1714 := utr u1712 u1709
  refine jr_dup hE dX12_init_1730 rfl ?_
  refine jr_bipush (v := (49 : Int32)) hE dX12_init_1731 (by decide) ?_
  refine jr_ldcw (v := (506948616 : Int32)) hE dX12_init_1733 (by decide +kernel) ?_
  refine jr_iast hE dX12_init_1736 g1713 (vp_lit (by decide)) (fun F1715 g1716 u1717 => ?_)
  have g1718 := jF.pI g1716 (show _ = 49 from rfl) (by decide +kernel)
  have u1719 := utr u1717 u1714
  refine jr_dup hE dX12_init_1737 rfl ?_
  refine jr_bipush (v := (50 : Int32)) hE dX12_init_1738 (by decide) ?_
  refine jr_ldcw (v := (659060556 : Int32)) hE dX12_init_1740 (by decide +kernel) ?_
  refine jr_iast hE dX12_init_1743 g1718 (vp_lit (by decide)) (fun F1720 g1721 u1722 => ?_)
  have g1723 := jF.pI g1721 (show _ = 50 from rfl) (by decide +kernel)
  have u1724 := utr u1722 u1719
  refine jr_dup hE dX12_init_1744 rfl ?_
  refine jr_bipush (v := (51 : Int32)) hE dX12_init_1745 (by decide) ?_
  refine jr_ldcw (v := (883997877 : Int32)) hE dX12_init_1747 (by decide +kernel) ?_
  refine jr_iast hE dX12_init_1750 g1723 (vp_lit (by decide)) (fun F1725 g1726 u1727 => ?_)
  have g1728 := jF.pI g1726 (show _ = 51 from rfl) (by decide +kernel)
  have u1729 := utr u1727 u1724
  refine jr_dup hE dX12_init_1751 rfl ?_
  refine jr_bipush (v := (52 : Int32)) hE dX12_init_1752 (by decide) ?_
  refine jr_ldcw (v := (958139571 : Int32)) hE dX12_init_1754 (by decide +kernel) ?_
  refine jr_iast hE dX12_init_1757 g1728 (vp_lit (by decide)) (fun F1730 g1731 u1732 => ?_)
  have g1733 := jF.pI g1731 (show _ = 52 from rfl) (by decide +kernel)
  have u1734 := utr u1732 u1729
  refine jr_dup hE dX12_init_1758 rfl ?_
  refine jr_bipush (v := (53 : Int32)) hE dX12_init_1759 (by decide) ?_
  refine jr_ldcw (v := (1322822218 : Int32)) hE dX12_init_1761 (by decide +kernel) ?_
  refine jr_iast hE dX12_init_1764 g1733 (vp_lit (by decide)) (fun F1735 g1736 u1737 => ?_)
  have g1738 := jF.pI g1736 (show _ = 53 from rfl) (by decide +kernel)
  have u1739 := utr u1737 u1734
  refine jr_dup hE dX12_init_1765 rfl ?_
  refine jr_bipush (v := (54 : Int32)) hE dX12_init_1766 (by decide) ?_
  refine jr_ldcw (v := (1537002063 : Int32)) hE dX12_init_1768 (by decide +kernel) ?_
  refine jr_iast hE dX12_init_1771 g1738 (vp_lit (by decide)) (fun F1740 g1741 u1742 => ?_)
  have g1743 := jF.pI g1741 (show _ = 54 from rfl) (by decide +kernel)
  have u1744 := utr u1742 u1739
  refine jr_dup hE dX12_init_1772 rfl ?_
  refine jr_bipush (v := (55 : Int32)) hE dX12_init_1773 (by decide) ?_
  refine jr_ldcw (v := (1747873779 : Int32)) hE dX12_init_1775 (by decide +kernel) ?_
  refine jr_iast hE dX12_init_1778 g1743 (vp_lit (by decide)) (fun F1745 g1746 u1747 => ?_)
  have g1748 := jF.pI g1746 (show _ = 55 from rfl) (by decide +kernel)
  have u1749 := utr u1747 u1744
  refine jr_dup hE dX12_init_1779 rfl ?_
  refine jr_bipush (v := (56 : Int32)) hE dX12_init_1780 (by decide) ?_
  refine jr_ldcw (v := (1955562222 : Int32)) hE dX12_init_1782 (by decide +kernel) ?_
  refine jr_iast hE dX12_init_1785 g1748 (vp_lit (by decide)) (fun F1750 g1751 u1752 => ?_)
  have g1753 := jF.pI g1751 (show _ = 56 from rfl) (by decide +kernel)
  have u1754 := utr u1752 u1749
  refine jr_dup hE dX12_init_1786 rfl ?_
  refine jr_bipush (v := (57 : Int32)) hE dX12_init_1787 (by decide) ?_
  refine jr_ldcw (v := (2024104815 : Int32)) hE dX12_init_1789 (by decide +kernel) ?_
  refine jr_iast hE dX12_init_1792 g1753 (vp_lit (by decide)) (fun F1755 g1756 u1757 => ?_)
  have g1758 := jF.pI g1756 (show _ = 57 from rfl) (by decide +kernel)
  have u1759 := utr u1757 u1754
  refine jr_dup hE dX12_init_1793 rfl ?_
  refine jr_bipush (v := (58 : Int32)) hE dX12_init_1794 (by decide) ?_
  refine jr_ldcw (v := (-2067236844 : Int32)) hE dX12_init_1796 (by decide +kernel) ?_
  refine jr_iast hE dX12_init_1799 g1758 (vp_lit (by decide)) (fun F1760 g1761 u1762 => ?_)
  have g1763 := jF.pI g1761 (show _ = 58 from rfl) (by decide +kernel)
  have u1764 := utr u1762 u1759
  refine jr_dup hE dX12_init_1800 rfl ?_
  refine jr_bipush (v := (59 : Int32)) hE dX12_init_1801 (by decide) ?_
  refine jr_ldcw (v := (-1933114872 : Int32)) hE dX12_init_1803 (by decide +kernel) ?_
  refine jr_iast hE dX12_init_1806 g1763 (vp_lit (by decide)) (fun F1765 g1766 u1767 => ?_)
  have g1768 := jF.pI g1766 (show _ = 59 from rfl) (by decide +kernel)
  have u1769 := utr u1767 u1764
  refine jr_dup hE dX12_init_1807 rfl ?_
  refine jr_bipush (v := (60 : Int32)) hE dX12_init_1808 (by decide) ?_
  refine jr_ldcw (v := (-1866530822 : Int32)) hE dX12_init_1810 (by decide +kernel) ?_
  refine jr_iast hE dX12_init_1813 g1768 (vp_lit (by decide)) (fun F1770 g1771 u1772 => ?_)
  have g1773 := jF.pI g1771 (show _ = 60 from rfl) (by decide +kernel)
  have u1774 := utr u1772 u1769
  refine jr_dup hE dX12_init_1814 rfl ?_
  refine jr_bipush (v := (61 : Int32)) hE dX12_init_1815 (by decide) ?_
  refine jr_ldcw (v := (-1538233109 : Int32)) hE dX12_init_1817 (by decide +kernel) ?_
  refine jr_iast hE dX12_init_1820 g1773 (vp_lit (by decide)) (fun F1775 g1776 u1777 => ?_)
  have g1778 := jF.pI g1776 (show _ = 61 from rfl) (by decide +kernel)
  have u1779 := utr u1777 u1774
  refine jr_dup hE dX12_init_1821 rfl ?_
  refine jr_bipush (v := (62 : Int32)) hE dX12_init_1822 (by decide) ?_
  refine jr_ldcw (v := (-1090935817 : Int32)) hE dX12_init_1824 (by decide +kernel) ?_
  refine jr_iast hE dX12_init_1827 g1778 (vp_lit (by decide)) (fun F1780 g1781 u1782 => ?_)
  have g1783 := jF.pI g1781 (show _ = 62 from rfl) (by decide +kernel)
  have u1784 := utr u1782 u1779
  refine jr_dup hE dX12_init_1828 rfl ?_
  refine jr_bipush (v := (63 : Int32)) hE dX12_init_1829 (by decide) ?_
  refine jr_ldcw (v := (-965641998 : Int32)) hE dX12_init_1831 (by decide +kernel) ?_
  refine jr_iast hE dX12_init_1834 g1783 (vp_lit (by decide)) (fun F1785 g1786 u1787 => ?_)
  have g1788 := jF.pI g1786 (show _ = 63 from rfl) (by decide +kernel)
  have u1789 := utr u1787 u1784
  have g1790 := g1461.nw n1466 u1789
  have g1791 := g1463.nx n1466 u1789 g1788
  refine jr_putF (ty := .array .int) hE dX12_init_1835 f278 g1790 rfl hinit rfl (by decide +kernel) rfl rfl (Nat.le_of_ble_eq_true rfl) (fun F1793 g1794 u1795 => ?_)
  have g1796 := g1791.put u1795
  refine jr_aload_n hE dX12_init_1838 0 rfl ?_
  refine jr_bipush (v := (8 : Int32)) hE dX12_init_1839 (by decide) ?_
  refine jr_newa (ty := .int) (g := 1) (N := 8) (a0 := (8, .inl (fun _ => 0))) hE dX12_init_1841 (by decide +kernel) rfl rfl (fun _ e => by cases e) (fun _ => rfl) (by decide) (by decide) (by decide) ⟨by decide, by decide⟩ (fun q1797 F1798 n1799 g1800 u1801 => ?_)
  have g1802 := g1794.nw n1799 u1801
  have g1803 := g1796.nx n1799 u1801 g1800
  refine jr_putF (ty := .array .int) hE dX12_init_1843 f281 g1802 rfl hinit rfl (by decide +kernel) rfl rfl (Nat.le_of_ble_eq_true rfl) (fun F1805 g1806 u1807 => ?_)
  have g1808 := g1803.put u1807
  refine jr_aload_n hE dX12_init_1846 0 rfl ?_
  refine jr_bipush (v := (64 : Int32)) hE dX12_init_1847 (by decide) ?_
  refine jr_newa (ty := .int) (g := 1) (N := 64) (a0 := (64, .inl (fun _ => 0))) hE dX12_init_1849 (by decide +kernel) rfl rfl (fun _ e => by cases e) (fun _ => rfl) (by decide) (by decide) (by decide) ⟨by decide, by decide⟩ (fun q1809 F1810 n1811 g1812 u1813 => ?_)
  have g1814 := g1806.nw n1811 u1813
  have g1815 := g1808.nx n1811 u1813 g1812
  refine jr_putF (ty := .array .int) hE dX12_init_1851 f284 g1814 rfl hinit rfl (by decide +kernel) rfl rfl (Nat.le_of_ble_eq_true rfl) (fun F1817 g1818 u1819 => ?_)
  have g1820 := g1815.put u1819
  refine jr_aload_n hE dX12_init_1854 0 rfl ?_
  refine jr_sipush (v := (512 : Int32)) hE dX12_init_1855 (by decide) ?_
  refine jr_newa (ty := .int) (g := 1) (N := 512) (a0 := (512, .inl (fun _ => 0))) hE dX12_init_1858 (by decide +kernel) rfl rfl (fun _ e => by cases e) (fun _ => rfl) (by decide) (by decide) (by decide) ⟨by decide, by decide⟩ (fun q1821 F1822 n1823 g1824 u1825 => ?_)
  have g1826 := g1818.nw n1823 u1825
  have g1827 := g1820.nx n1823 u1825 g1824
  refine jr_putF (ty := .array .int) hE dX12_init_1860 f287 g1826 rfl hinit rfl (by decide +kernel) rfl rfl (Nat.le_of_ble_eq_true rfl) (fun F1829 g1830 u1831 => ?_)
  have g1832 := g1827.put u1831
  refine jr_aload_n hE dX12_init_1863 0 rfl ?_
  refine jr_sipush (v := (400 : Int32)) hE dX12_init_1864 (by decide) ?_
  refine jr_newa (ty := .int) (g := 1) (N := 400) (a0 := (400, .inl (fun _ => 0))) hE dX12_init_1867 (by decide +kernel) rfl rfl (fun _ e => by cases e) (fun _ => rfl) (by decide) (by decide) (by decide) ⟨by decide, by decide⟩ (fun q1833 F1834 n1835 g1836 u1837 => ?_)
  have g1838 := g1830.nw n1835 u1837
  have g1839 := g1832.nx n1835 u1837 g1836
  refine jr_putF (ty := .array .int) hE dX12_init_1869 f290 g1838 rfl hinit rfl (by decide +kernel) rfl rfl (Nat.le_of_ble_eq_true rfl) (fun F1841 g1842 u1843 => ?_)
  have g1844 := g1839.put u1843
  refine jr_aload_n hE dX12_init_1872 0 rfl ?_
  refine jr_bipush (v := (32 : Int32)) hE dX12_init_1873 (by decide) ?_
  refine jr_newa (ty := .int) (g := 1) (N := 32) (a0 := (32, .inl (fun _ => 0))) hE dX12_init_1875 (by decide +kernel) rfl rfl (fun _ e => by cases e) (fun _ => rfl) (by decide) (by decide) (by decide) ⟨by decide, by decide⟩ (fun q1845 F1846 n1847 g1848 u1849 => ?_)
  have g1850 := g1842.nw n1847 u1849
  have g1851 := g1844.nx n1847 u1849 g1848
  refine jr_putF (ty := .array .int) hE dX12_init_1877 f293 g1850 rfl hinit rfl (by decide +kernel) rfl rfl (Nat.le_of_ble_eq_true rfl) (fun F1853 g1854 u1855 => ?_)
  have g1856 := g1851.put u1855
  refine jr_aload_n hE dX12_init_1880 0 rfl ?_
  refine jr_bipush (v := (20 : Int32)) hE dX12_init_1881 (by decide) ?_
  refine jr_newa (ty := .int) (g := 1) (N := 20) (a0 := (20, .inl (fun _ => 0))) hE dX12_init_1883 (by decide +kernel) rfl rfl (fun _ e => by cases e) (fun _ => rfl) (by decide) (by decide) (by decide) ⟨by decide, by decide⟩ (fun q1857 F1858 n1859 g1860 u1861 => ?_)
  have g1862 := g1854.nw n1859 u1861
  have g1863 := g1856.nx n1859 u1861 g1860
  refine jr_putF (ty := .array .int) hE dX12_init_1885 f296 g1862 rfl hinit rfl (by decide +kernel) rfl rfl (Nat.le_of_ble_eq_true rfl) (fun F1865 g1866 u1867 => ?_)
  have g1868 := g1863.put u1867
  refine jr_aload_n hE dX12_init_1888 0 rfl ?_
  refine jr_bipush (v := (100 : Int32)) hE dX12_init_1889 (by decide) ?_
  refine jr_newa (ty := .int) (g := 1) (N := 100) (a0 := (100, .inl (fun _ => 0))) hE dX12_init_1891 (by decide +kernel) rfl rfl (fun _ e => by cases e) (fun _ => rfl) (by decide) (by decide) (by decide) ⟨by decide, by decide⟩ (fun q1869 F1870 n1871 g1872 u1873 => ?_)
  have g1874 := g1866.nw n1871 u1873
  have g1875 := g1868.nx n1871 u1873 g1872
  refine jr_putF (ty := .array .int) hE dX12_init_1893 f299 g1874 rfl hinit rfl (by decide +kernel) rfl rfl (Nat.le_of_ble_eq_true rfl) (fun F1877 g1878 u1879 => ?_)
  have g1880 := g1875.put u1879
  refine jr_aload_n hE dX12_init_1896 0 rfl ?_
  refine jr_bipush (v := (66 : Int32)) hE dX12_init_1897 (by decide) ?_
  refine jr_newa (ty := .int) (g := 1) (N := 66) (a0 := (66, .inl (fun _ => 0))) hE dX12_init_1899 (by decide +kernel) rfl rfl (fun _ e => by cases e) (fun _ => rfl) (by decide) (by decide) (by decide) ⟨by decide, by decide⟩ (fun q1881 F1882 n1883 g1884 u1885 => ?_)
  have g1886 := g1878.nw n1883 u1885
  have g1887 := g1880.nx n1883 u1885 g1884
  refine jr_putF (ty := .array .int) hE dX12_init_1901 f302 g1886 rfl hinit rfl (by decide +kernel) rfl rfl (Nat.le_of_ble_eq_true rfl) (fun F1889 g1890 u1891 => ?_)
  have g1892 := g1887.put u1891
  refine jr_aload_n hE dX12_init_1904 0 rfl ?_
  refine jr_bipush (v := (8 : Int32)) hE dX12_init_1905 (by decide) ?_
  refine jr_newa (ty := .long) (g := 2) (N := 8) (a0 := (8, .inr (.inl (fun _ => 0)))) hE dX12_init_1907 (by decide +kernel) rfl rfl (fun _ e => by cases e) (fun _ => rfl) (by decide) (by decide) (by decide) ⟨by decide, by decide⟩ (fun q1893 F1894 n1895 g1896 u1897 => ?_)
  have g1898 := g1890.nw n1895 u1897
  have g1899 := g1892.nx n1895 u1897 g1896
  refine jr_putF (ty := .array .long) hE dX12_init_1909 f305 g1898 rfl hinit rfl (by decide +kernel) rfl rfl (Nat.le_of_ble_eq_true rfl) (fun F1901 g1902 u1903 => ?_)
  have g1904 := g1899.put u1903
  refine jr_aload_n hE dX12_init_1912 0 rfl ?_
  refine jr_bipush (v := (8 : Int32)) hE dX12_init_1913 (by decide) ?_
  refine jr_newa (ty := .long) (g := 2) (N := 8) (a0 := (8, .inr (.inl (fun _ => 0)))) hE dX12_init_1915 (by decide +kernel) rfl rfl (fun _ e => by cases e) (fun _ => rfl) (by decide) (by decide) (by decide) ⟨by decide, by decide⟩ (fun q1905 F1906 n1907 g1908 u1909 => ?_)
  have g1910 := g1902.nw n1907 u1909
  have g1911 := g1904.nx n1907 u1909 g1908
  refine jr_putF (ty := .array .long) hE dX12_init_1917 f308 g1910 rfl hinit rfl (by decide +kernel) rfl rfl (Nat.le_of_ble_eq_true rfl) (fun F1913 g1914 u1915 => ?_)
  have g1916 := g1911.put u1915
  refine jr_aload_n hE dX12_init_1920 0 rfl ?_
  refine jr_bipush (v := (8 : Int32)) hE dX12_init_1921 (by decide) ?_
  refine jr_newa (ty := .long) (g := 2) (N := 8) (a0 := (8, .inr (.inl (fun _ => 0)))) hE dX12_init_1923 (by decide +kernel) rfl rfl (fun _ e => by cases e) (fun _ => rfl) (by decide) (by decide) (by decide) ⟨by decide, by decide⟩ (fun q1917 F1918 n1919 g1920 u1921 => ?_)
  have g1922 := g1914.nw n1919 u1921
  have g1923 := g1916.nx n1919 u1921 g1920
  refine jr_putF (ty := .array .long) hE dX12_init_1925 f311 g1922 rfl hinit rfl (by decide +kernel) rfl rfl (Nat.le_of_ble_eq_true rfl) (fun F1925 g1926 u1927 => ?_)
  have g1928 := g1923.put u1927
  refine jr_aload_n hE dX12_init_1928 0 rfl ?_
  refine jr_bipush (v := (8 : Int32)) hE dX12_init_1929 (by decide) ?_
  refine jr_newa (ty := .long) (g := 2) (N := 8) (a0 := (8, .inr (.inl (fun _ => 0)))) hE dX12_init_1931 (by decide +kernel) rfl rfl (fun _ e => by cases e) (fun _ => rfl) (by decide) (by decide) (by decide) ⟨by decide, by decide⟩ (fun q1929 F1930 n1931 g1932 u1933 => ?_)
  have g1934 := g1926.nw n1931 u1933
  have g1935 := g1928.nx n1931 u1933 g1932
  refine jr_putF (ty := .array .long) hE dX12_init_1933 f314 g1934 rfl hinit rfl (by decide +kernel) rfl rfl (Nat.le_of_ble_eq_true rfl) (fun F1937 g1938 u1939 => ?_)
  have g1940 := g1935.put u1939
  refine jr_aload_n hE dX12_init_1936 0 rfl ?_
  refine jr_bipush (v := (8 : Int32)) hE dX12_init_1937 (by decide) ?_
  refine jr_newa (ty := .long) (g := 2) (N := 8) (a0 := (8, .inr (.inl (fun _ => 0)))) hE dX12_init_1939 (by decide +kernel) rfl rfl (fun _ e => by cases e) (fun _ => rfl) (by decide) (by decide) (by decide) ⟨by decide, by decide⟩ (fun q1941 F1942 n1943 g1944 u1945 => ?_)
  have g1946 := g1938.nw n1943 u1945
  have g1947 := g1940.nx n1943 u1945 g1944
  refine jr_putF (ty := .array .long) hE dX12_init_1941 f317 g1946 rfl hinit rfl (by decide +kernel) rfl rfl (Nat.le_of_ble_eq_true rfl) (fun F1949 g1950 u1951 => ?_)
  have g1952 := g1947.put u1951
  refine jr_aload_n hE dX12_init_1944 0 rfl ?_
  refine jr_bipush (v := (32 : Int32)) hE dX12_init_1945 (by decide) ?_
  refine jr_newa (ty := .int) (g := 1) (N := 32) (a0 := (32, .inl (fun _ => 0))) hE dX12_init_1947 (by decide +kernel) rfl rfl (fun _ e => by cases e) (fun _ => rfl) (by decide) (by decide) (by decide) ⟨by decide, by decide⟩ (fun q1953 F1954 n1955 g1956 u1957 => ?_)
  have g1958 := g1950.nw n1955 u1957
  have g1959 := g1952.nx n1955 u1957 g1956
  refine jr_putF (ty := .array .int) hE dX12_init_1949 f320 g1958 rfl hinit rfl (by decide +kernel) rfl rfl (Nat.le_of_ble_eq_true rfl) (fun F1961 g1962 u1963 => ?_)
  have g1964 := g1959.put u1963
  refine jr_aload_n hE dX12_init_1952 0 rfl ?_
  refine jr_bipush (v := (8 : Int32)) hE dX12_init_1953 (by decide) ?_
  refine jr_newa (ty := .long) (g := 2) (N := 8) (a0 := (8, .inr (.inl (fun _ => 0)))) hE dX12_init_1955 (by decide +kernel) rfl rfl (fun _ e => by cases e) (fun _ => rfl) (by decide) (by decide) (by decide) ⟨by decide, by decide⟩ (fun q1965 F1966 n1967 g1968 u1969 => ?_)
  have g1970 := g1962.nw n1967 u1969
  have g1971 := g1964.nx n1967 u1969 g1968
  refine jr_putF (ty := .array .long) hE dX12_init_1957 f323 g1970 rfl hinit rfl (by decide +kernel) rfl rfl (Nat.le_of_ble_eq_true rfl) (fun F1973 g1974 u1975 => ?_)
  have g1976 := g1971.put u1975
  refine jr_aload_n hE dX12_init_1960 0 rfl ?_
  refine jr_bipush (v := (8 : Int32)) hE dX12_init_1961 (by decide) ?_
  refine jr_newa (ty := .long) (g := 2) (N := 8) (a0 := (8, .inr (.inl (fun _ => 0)))) hE dX12_init_1963 (by decide +kernel) rfl rfl (fun _ e => by cases e) (fun _ => rfl) (by decide) (by decide) (by decide) ⟨by decide, by decide⟩ (fun q1977 F1978 n1979 g1980 u1981 => ?_)
  have g1982 := g1974.nw n1979 u1981
  have g1983 := g1976.nx n1979 u1981 g1980
  refine jr_putF (ty := .array .long) hE dX12_init_1965 f326 g1982 rfl hinit rfl (by decide +kernel) rfl rfl (Nat.le_of_ble_eq_true rfl) (fun F1985 g1986 u1987 => ?_)
  have g1988 := g1983.put u1987
  refine jr_aload_n hE dX12_init_1968 0 rfl ?_
  refine jr_bipush (v := (8 : Int32)) hE dX12_init_1969 (by decide) ?_
  refine jr_newa (ty := .long) (g := 2) (N := 8) (a0 := (8, .inr (.inl (fun _ => 0)))) hE dX12_init_1971 (by decide +kernel) rfl rfl (fun _ e => by cases e) (fun _ => rfl) (by decide) (by decide) (by decide) ⟨by decide, by decide⟩ (fun q1989 F1990 n1991 g1992 u1993 => ?_)
  have g1994 := g1986.nw n1991 u1993
  have g1995 := g1988.nx n1991 u1993 g1992
  refine jr_putF (ty := .array .long) hE dX12_init_1973 f329 g1994 rfl hinit rfl (by decide +kernel) rfl rfl (Nat.le_of_ble_eq_true rfl) (fun F1997 g1998 u1999 => ?_)
  have g2000 := g1995.put u1999
  refine jr_aload_n hE dX12_init_1976 0 rfl ?_
  refine jr_bipush (v := (8 : Int32)) hE dX12_init_1977 (by decide) ?_
  refine jr_newa (ty := .long) (g := 2) (N := 8) (a0 := (8, .inr (.inl (fun _ => 0)))) hE dX12_init_1979 (by decide +kernel) rfl rfl (fun _ e => by cases e) (fun _ => rfl) (by decide) (by decide) (by decide) ⟨by decide, by decide⟩ (fun q2001 F2002 n2003 g2004 u2005 => ?_)
  have g2006 := g1998.nw n2003 u2005
  have g2007 := g2000.nx n2003 u2005 g2004
  refine jr_putF (ty := .array .long) hE dX12_init_1981 f332 g2006 rfl hinit rfl (by decide +kernel) rfl rfl (Nat.le_of_ble_eq_true rfl) (fun F2009 g2010 u2011 => ?_)
  have g2012 := g2007.put u2011
  refine jr_aload_n hE dX12_init_1984 0 rfl ?_
  refine jr_bipush (v := (8 : Int32)) hE dX12_init_1985 (by decide) ?_
  refine jr_newa (ty := .long) (g := 2) (N := 8) (a0 := (8, .inr (.inl (fun _ => 0)))) hE dX12_init_1987 (by decide +kernel) rfl rfl (fun _ e => by cases e) (fun _ => rfl) (by decide) (by decide) (by decide) ⟨by decide, by decide⟩ (fun q2013 F2014 n2015 g2016 u2017 => ?_)
  have g2018 := g2010.nw n2015 u2017
  have g2019 := g2012.nx n2015 u2017 g2016
  refine jr_putF (ty := .array .long) hE dX12_init_1989 f335 g2018 rfl hinit rfl (by decide +kernel) rfl rfl (Nat.le_of_ble_eq_true rfl) (fun F2021 g2022 u2023 => ?_)
  have g2024 := g2019.put u2023
  refine jr_aload_n hE dX12_init_1992 0 rfl ?_
  refine jr_bipush (v := (8 : Int32)) hE dX12_init_1993 (by decide) ?_
  refine jr_newa (ty := .long) (g := 2) (N := 8) (a0 := (8, .inr (.inl (fun _ => 0)))) hE dX12_init_1995 (by decide +kernel) rfl rfl (fun _ e => by cases e) (fun _ => rfl) (by decide) (by decide) (by decide) ⟨by decide, by decide⟩ (fun q2025 F2026 n2027 g2028 u2029 => ?_)
  have g2030 := g2022.nw n2027 u2029
  have g2031 := g2024.nx n2027 u2029 g2028
  refine jr_putF (ty := .array .long) hE dX12_init_1997 f338 g2030 rfl hinit rfl (by decide +kernel) rfl rfl (Nat.le_of_ble_eq_true rfl) (fun F2033 g2034 u2035 => ?_)
  have g2036 := g2031.put u2035
  refine jr_aload_n hE dX12_init_2000 0 rfl ?_
  refine jr_bipush (v := (8 : Int32)) hE dX12_init_2001 (by decide) ?_
  refine jr_newa (ty := .long) (g := 2) (N := 8) (a0 := (8, .inr (.inl (fun _ => 0)))) hE dX12_init_2003 (by decide +kernel) rfl rfl (fun _ e => by cases e) (fun _ => rfl) (by decide) (by decide) (by decide) ⟨by decide, by decide⟩ (fun q2037 F2038 n2039 g2040 u2041 => ?_)
  have g2042 := g2034.nw n2039 u2041
  have g2043 := g2036.nx n2039 u2041 g2040
  refine jr_putF (ty := .array .long) hE dX12_init_2005 f341 g2042 rfl hinit rfl (by decide +kernel) rfl rfl (Nat.le_of_ble_eq_true rfl) (fun F2045 g2046 u2047 => ?_)
  have g2048 := g2043.put u2047
  refine jr_aload_n hE dX12_init_2008 0 rfl ?_
  refine jr_bipush (v := (32 : Int32)) hE dX12_init_2009 (by decide) ?_
  refine jr_newa (ty := .int) (g := 1) (N := 32) (a0 := (32, .inl (fun _ => 0))) hE dX12_init_2011 (by decide +kernel) rfl rfl (fun _ e => by cases e) (fun _ => rfl) (by decide) (by decide) (by decide) ⟨by decide, by decide⟩ (fun q2049 F2050 n2051 g2052 u2053 => ?_)
  have g2054 := g2046.nw n2051 u2053
  have g2055 := g2048.nx n2051 u2053 g2052
  refine jr_putF (ty := .array .int) hE dX12_init_2013 f344 g2054 rfl hinit rfl (by decide +kernel) rfl rfl (Nat.le_of_ble_eq_true rfl) (fun F2057 g2058 u2059 => ?_)
  have g2060 := g2055.put u2059
  refine jr_aload_n hE dX12_init_2016 0 rfl ?_
  refine jr_bipush (v := (8 : Int32)) hE dX12_init_2017 (by decide) ?_
  refine jr_newa (ty := .long) (g := 2) (N := 8) (a0 := (8, .inr (.inl (fun _ => 0)))) hE dX12_init_2019 (by decide +kernel) rfl rfl (fun _ e => by cases e) (fun _ => rfl) (by decide) (by decide) (by decide) ⟨by decide, by decide⟩ (fun q2061 F2062 n2063 g2064 u2065 => ?_)
  have g2066 := g2058.nw n2063 u2065
  have g2067 := g2060.nx n2063 u2065 g2064
  refine jr_putF (ty := .array .long) hE dX12_init_2021 f347 g2066 rfl hinit rfl (by decide +kernel) rfl rfl (Nat.le_of_ble_eq_true rfl) (fun F2069 g2070 u2071 => ?_)
  have g2072 := g2067.put u2071
  refine jr_aload_n hE dX12_init_2024 0 rfl ?_
  refine jr_bipush (v := (8 : Int32)) hE dX12_init_2025 (by decide) ?_
  refine jr_newa (ty := .long) (g := 2) (N := 8) (a0 := (8, .inr (.inl (fun _ => 0)))) hE dX12_init_2027 (by decide +kernel) rfl rfl (fun _ e => by cases e) (fun _ => rfl) (by decide) (by decide) (by decide) ⟨by decide, by decide⟩ (fun q2073 F2074 n2075 g2076 u2077 => ?_)
  have g2078 := g2070.nw n2075 u2077
  have g2079 := g2072.nx n2075 u2077 g2076
  refine jr_putF (ty := .array .long) hE dX12_init_2029 f350 g2078 rfl hinit rfl (by decide +kernel) rfl rfl (Nat.le_of_ble_eq_true rfl) (fun F2081 g2082 u2083 => ?_)
  have g2084 := g2079.put u2083
  refine jr_aload_n hE dX12_init_2032 0 rfl ?_
  refine jr_bipush (v := (33 : Int32)) hE dX12_init_2033 (by decide) ?_
  refine jr_newa (ty := .int) (g := 1) (N := 33) (a0 := (33, .inl (fun _ => 0))) hE dX12_init_2035 (by decide +kernel) rfl rfl (fun _ e => by cases e) (fun _ => rfl) (by decide) (by decide) (by decide) ⟨by decide, by decide⟩ (fun q2085 F2086 n2087 g2088 u2089 => ?_)
  have g2090 := g2082.nw n2087 u2089
  have g2091 := g2084.nx n2087 u2089 g2088
  refine jr_putF (ty := .array .int) hE dX12_init_2037 f353 g2090 rfl hinit rfl (by decide +kernel) rfl rfl (Nat.le_of_ble_eq_true rfl) (fun F2093 g2094 u2095 => ?_)
  have g2096 := g2091.put u2095
  refine jr_aload_n hE dX12_init_2040 0 rfl ?_
  refine jr_bipush (v := (66 : Int32)) hE dX12_init_2041 (by decide) ?_
  refine jr_newa (ty := .int) (g := 1) (N := 66) (a0 := (66, .inl (fun _ => 0))) hE dX12_init_2043 (by decide +kernel) rfl rfl (fun _ e => by cases e) (fun _ => rfl) (by decide) (by decide) (by decide) ⟨by decide, by decide⟩ (fun q2097 F2098 n2099 g2100 u2101 => ?_)
  have g2102 := g2094.nw n2099 u2101
  have g2103 := g2096.nx n2099 u2101 g2100
  refine jr_putF (ty := .array .int) hE dX12_init_2045 f356 g2102 rfl hinit rfl (by decide +kernel) rfl rfl (Nat.le_of_ble_eq_true rfl) (fun F2105 g2106 u2107 => ?_)
  have g2108 := g2103.put u2107
  exact hR _ _ _ _ dX12_init_2048 ⟨_, g2108, g2106.2⟩

