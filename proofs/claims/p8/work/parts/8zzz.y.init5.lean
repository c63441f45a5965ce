/-! CONSTRUCTORS: the reference -/
def ptI (k : Nat) (f : Nat → Int32) : Nat → Int32 := fun j => if j < k then f j else 0
def ptL (k : Nat) (f : Nat → Int64) : Nat → Int64 := fun j => if j < k then f j else 0
theorem ptI_0 (f : Nat → Int32) : (fun _ => 0) = ptI 0 f := funext fun j => (if_neg (Nat.not_lt_zero j)).symm
theorem ptL_0 (f : Nat → Int64) : (fun _ => 0) = ptL 0 f := funext fun j => (if_neg (Nat.not_lt_zero j)).symm
theorem ptI_s {f : Nat → Int32} {k i : Nat} {x : Int32} (hi : i = k) (hx : x = f k) : upd (ptI k f) i x = ptI (k + 1) f := by
  subst hi; subst hx; funext j; unfold upd ptI
  by_cases h : j = i
  · subst h; rw [if_pos rfl, if_pos (by omega)]
  · rw [if_neg h]
    by_cases h2 : j < i
    · rw [if_pos h2, if_pos (by omega)]
    · rw [if_neg h2, if_neg (by omega)]
theorem ptL_s {f : Nat → Int64} {k i : Nat} {x : Int64} (hi : i = k) (hx : x = f k) : vp_updL (ptL k f) i x = ptL (k + 1) f := by
  subst hi; subst hx; funext j; unfold vp_updL ptL
  by_cases h : j = i
  · subst h; rw [if_pos rfl, if_pos (by omega)]
  · rw [if_neg h]
    by_cases h2 : j < i
    · rw [if_pos h2, if_pos (by omega)]
    · rw [if_neg h2, if_neg (by omega)]
theorem jF.pI0 {G : Nat → ClassId} {L : List Nat} {F : Nat → va_E} {q n : Nat} (h : jF L F q (.inl (G 1, n, .inl (fun _ => 0)))) (f : Nat → Int32) : jF L F q (.inl (G 1, n, .inl (ptI 0 f))) := by rw [← ptI_0 f]; exact h
theorem jF.pL0 {G : Nat → ClassId} {L : List Nat} {F : Nat → va_E} {q n : Nat} (h : jF L F q (.inl (G 2, n, .inr (.inl (fun _ => 0))))) (f : Nat → Int64) : jF L F q (.inl (G 2, n, .inr (.inl (ptL 0 f)))) := by rw [← ptL_0 f]; exact h
theorem jF.pI {G : Nat → ClassId} {L : List Nat} {F : Nat → va_E} {q n k i : Nat} {x : Int32} {f : Nat → Int32} (h : jF L F q (.inl (G 1, n, .inl (upd (ptI k f) i x)))) (hi : i = k) (hx : x = f k) : jF L F q (.inl (G 1, n, .inl (ptI (k + 1) f))) := by rw [← ptI_s hi hx]; exact h
theorem jF.pL {G : Nat → ClassId} {L : List Nat} {F : Nat → va_E} {q n k i : Nat} {x : Int64} {f : Nat → Int64} (h : jF L F q (.inl (G 2, n, .inr (.inl (vp_updL (ptL k f) i x))))) (hi : i = k) (hx : x = f k) : jF L F q (.inl (G 2, n, .inr (.inl (ptL (k + 1) f)))) := by rw [← ptL_s hi hx]; exact h
theorem utr {F F1 F2 : Nat → va_E} {q : Nat} (u2 : ∀ x, x ≠ q → F2 x = F1 x) (u1 : ∀ x, x ≠ q → F1 x = F x) : ∀ x, x ≠ q → F2 x = F x := fun x hx => (u2 x hx).trans (u1 x hx)
theorem gS.nx {L0 L : List Nat} {F0 F F1 : Nat → va_E} {o n q : Nat} {A : Nat → Nat} {T : Nat → va_E} (g : gS L0 F0 o n A T L F) (hq : q ∉ L) (u : ∀ x, x ≠ q → F1 x = F x) (h1 : jF (L ++ [q]) F1 q (T n)) : gS L0 F0 o (n + 1) (ext n A (fun _ => q)) T (L ++ [q]) F1 :=
  (g.new hq h1 u).fin (fun i hi => by
    by_cases h : i < n
    · rw [ext_lt h]
    · rw [ext_ge (by omega), show i = n by omega])
def cL12 (k : Nat) : List Nat := match k with
  | 0 => [4294966319, 4294967294, 4294967295, 4294967295, 4294967295, 4294967295, 4294967295, 4294967295]
  | 1 => [3493216577, 3218235020, 2940772411, 3132021990, 4294967294, 4294967295, 4294967295, 4294967295]
  | 2 => [977, 1, 0, 0, 0]
  | 3 => [801750719, 1076732275, 1354194884, 1162945305, 1]
  | 4 => [4294966317, 4294967294, 4294967295, 4294967295, 4294967295, 4294967295, 4294967295, 4294967295]
  | 5 => [3221225228, 4294967295, 4294967295, 4294967295, 4294967295, 4294967295, 4294967295, 1073741823]
  | 6 => [385357720, 1509065051, 768485593, 43777243, 3464956679, 1436574357, 4191992748, 2042521214]
  | 7 => [4212184248, 2621952143, 2793755673, 4246189128, 235997352, 1571093500, 648266853, 1211816567]
  | 48 => [7, 0, 0, 0, 0, 0, 0, 0]
  | _ => []
def s12 (k : Nat) : Nat → Int64 := match k with
  | 0 => ptL 8 (fun j => lN ((cL12 0).getD j 0))
  | 1 => ptL 8 (fun j => lN ((cL12 1).getD j 0))
  | 2 => ptL 5 (fun j => lN ((cL12 2).getD j 0))
  | 3 => ptL 5 (fun j => lN ((cL12 3).getD j 0))
  | 4 => ptL 8 (fun j => lN ((cL12 4).getD j 0))
  | 5 => ptL 8 (fun j => lN ((cL12 5).getD j 0))
  | 6 => ptL 8 (fun j => lN ((cL12 6).getD j 0))
  | 7 => ptL 8 (fun j => lN ((cL12 7).getD j 0))
  | 48 => ptL 8 (fun j => lN ((cL12 48).getD j 0))
  | _ => fun _ => 0
def w12 (k : Nat) : Nat → Int32 := match k with
  | 50 => ptI 9 (fun j => nI (tAt j))
  | 51 => ptI 105 (fun j => nI (tBt j))
  | 52 => ptI 64 (fun j => jROUND.getD j 0)
  | _ => fun _ => 0
def rf12 (G : Nat → ClassId) (k : Nat) : va_E := match mkd k with
  | 1 => .inl (G 2, mln k, .inr (.inl (s12 k)))
  | 2 => .inl (G 1, mln k, .inl (w12 k))
  | _ => .inl (G 3, mln k, .inl (w12 k))
def fl12 (i : Nat) : Nat := [0, 1, 2, 3, 4, 5, 6, 7, 8, 9, 11, 12, 13, 14, 15, 17, 18, 19, 20, 21, 22, 23, 25, 26, 27, 28, 32, 33, 34, 35, 36, 37, 38, 39, 40, 41, 42, 43, 44, 45, 46, 47, 48, 49, 50, 51, 52, 53, 54, 55, 56, 58, 59, 60, 61, 62, 63, 64, 65, 66, 67, 68, 69, 70, 71, 72, 73, 74, 75, 76, 77, 79, 80].getD i 0
def pl12 (k : Nat) : Nat := [0, 1, 2, 3, 4, 5, 6, 7, 8, 9, 0, 10, 11, 12, 13, 14, 0, 15, 16, 17, 18, 19, 20, 21, 0, 22, 23, 24, 25, 0, 0, 0, 26, 27, 28, 29, 30, 31, 32, 33, 34, 35, 36, 37, 38, 39, 40, 41, 42, 43, 44, 45, 46, 47, 48, 49, 50, 0, 51, 52, 53, 54, 55, 56, 57, 58, 59, 60, 61, 62, 63, 64, 65, 66, 67, 68, 69, 70, 0, 71, 72].getD k 0
def tX12 (G : Nat → ClassId) : Nat → va_E := fun i => rf12 G (fl12 i)
theorem dfX12 : ∀ ty0 : Nat → FieldType, (∀ k, k < (jq 12).2.2 → parseFieldDescriptor ((jq 12).2.1 k).2.2.1 = some (ty0 k)) → ∀ j, j < (jq 12).2.2 → defaultValue (ty0 j) = vp_V [.null, .null, .null, .null, .null, .null, .null, .null, .null, .null, .int 0, .null, .null, .null, .null, .null, .int 0, .null, .null, .null, .null, .null, .null, .null, .int 0, .null, .null, .null, .null, .int 0, .int 0, .int 0, .null, .null, .null, .null, .null, .null, .null, .null, .null, .null, .null, .null, .null, .null, .null, .null, .null, .null, .null, .null, .null, .null, .null, .null, .null, .int 0, .null, .null, .null, .null, .null, .null, .null, .null, .null, .null, .null, .null, .null, .null, .null, .null, .null, .null, .null, .null, .int 0, .null, .null] j := by
  intro ty0 h j hj
  have e : ty0 j = tyX12 j := Option.some.inj ((h j hj).symm.trans (tyX12_ok j hj))
  rw [e]
  exact (show ∀ j, j < 81 → defaultValue (tyX12 j) = vp_V [.null, .null, .null, .null, .null, .null, .null, .null, .null, .null, .int 0, .null, .null, .null, .null, .null, .int 0, .null, .null, .null, .null, .null, .null, .null, .int 0, .null, .null, .null, .null, .int 0, .int 0, .int 0, .null, .null, .null, .null, .null, .null, .null, .null, .null, .null, .null, .null, .null, .null, .null, .null, .null, .null, .null, .null, .null, .null, .null, .null, .null, .int 0, .null, .null, .null, .null, .null, .null, .null, .null, .null, .null, .null, .null, .null, .null, .null, .null, .null, .null, .null, .null, .int 0, .null, .null] j from (fls (fls (fls (fls (fls (fls (fls (fls (fls (fls (fls (fls (fls (fls (fls (fls (fls (fls (fls (fls (fls (fls (fls (fls (fls (fls (fls (fls (fls (fls (fls (fls (fls (fls (fls (fls (fls (fls (fls (fls (fls (fls (fls (fls (fls (fls (fls (fls (fls (fls (fls (fls (fls (fls (fls (fls (fls (fls (fls (fls (fls (fls (fls (fls (fls (fls (fls (fls (fls (fls (fls (fls (fls (fls (fls (fls (fls (fls (fls (fls (fls fls0 rfl) rfl) rfl) rfl) rfl) rfl) rfl) rfl) rfl) rfl) rfl) rfl) rfl) rfl) rfl) rfl) rfl) rfl) rfl) rfl) rfl) rfl) rfl) rfl) rfl) rfl) rfl) rfl) rfl) rfl) rfl) rfl) rfl) rfl) rfl) rfl) rfl) rfl) rfl) rfl) rfl) rfl) rfl) rfl) rfl) rfl) rfl) rfl) rfl) rfl) rfl) rfl) rfl) rfl) rfl) rfl) rfl) rfl) rfl) rfl) rfl) rfl) rfl) rfl) rfl) rfl) rfl) rfl) rfl) rfl) rfl) rfl) rfl) rfl) rfl) rfl) rfl) rfl) rfl) rfl) rfl)) j hj

set_option maxHeartbeats 4000000 in
set_option maxRecDepth 100000 in
theorem i12_0 {E : jE} {G : Nat → ClassId} (hE : jOk E G ({ frames := 1, cells := 73, slots := 4867, locals := 20 }) cX12_init 1 RX12 wsX12_init) (hinit : jIn E) {L0 L : List Nat} {F0 F : Nat → va_E} {o : Nat} {A : Nat → Nat} (g : gS L0 F0 o 0 A (tX12 G) L F) (ho : jF L F o (.inr (12, [.null, .null, .null, .null, .null, .null, .null, .null, .null, .null, .int (0 : Int32), .null, .null, .null, .null, .null, .int (0 : Int32), .null, .null, .null, .null, .null, .null, .null, .int (0 : Int32), .null, .null, .null, .null, .int (0 : Int32), .int (0 : Int32), .int (0 : Int32), .null, .null, .null, .null, .null, .null, .null, .null, .null, .null, .null, .null, .null, .null, .null, .null, .null, .null, .null, .null, .null, .null, .null, .null, .null, .int (0 : Int32), .null, .null, .null, .null, .null, .null, .null, .null, .null, .null, .null, .null, .null, .null, .null, .null, .null, .null, .null, .null, .int (0 : Int32), .null, .null]))) (kk : ∀ (A1 : Nat → Nat) (L1 : List Nat) (F1 : Nat → va_E), (gS L0 F0 o 3 A1 (tX12 G) L1 F1) → (jF L1 F1 o (.inr (12, [.ref (A1 0), .ref (A1 1), .ref (A1 2), .null, .null, .null, .null, .null, .null, .null, .int (0 : Int32), .null, .null, .null, .null, .null, .int (0 : Int32), .null, .null, .null, .null, .null, .null, .null, .int (0 : Int32), .null, .null, .null, .null, .int (0 : Int32), .int (0 : Int32), .int (0 : Int32), .null, .null, .null, .null, .null, .null, .null, .null, .null, .null, .null, .null, .null, .null, .null, .null, .null, .null, .null, .null, .null, .null, .null, .null, .null, .int (0 : Int32), .null, .null, .null, .null, .null, .null, .null, .null, .null, .null, .null, .null, .null, .null, .null, .null, .null, .null, .null, .null, .int (0 : Int32), .null, .null]))) → J E L1 F1 3 21 149 [(0, .ref o)] []) : J E L F 0 0 0 [(0, .ref o)] [] := by
  have f15 : jFl RX12 wsX12_init 15 12 0 := ⟨rfl, by decide, by decide +kernel, by decide +kernel⟩
  have f27 : jFl RX12 wsX12_init 27 12 1 := ⟨rfl, by decide, by decide +kernel, by decide +kernel⟩
  have f32 : jFl RX12 wsX12_init 32 12 2 := ⟨rfl, by decide, by decide +kernel, by decide +kernel⟩
  refine jr_aload_n hE dX12_init_0 0 rfl ?_
  refine jr_objInit hE dX12_init_1 (by decide +kernel) (by decide +kernel) (by decide +kernel) ⟨Nat.le_of_ble_eq_true rfl, Nat.le_of_ble_eq_true rfl⟩ (Nat.le_of_ble_eq_true rfl) ?_
  refine jr_aload_n hE dX12_init_4 0 rfl ?_
  refine jr_bipush (v := (8 : Int32)) hE dX12_init_5 (by decide) ?_
  refine jr_newa (ty := .long) (g := 2) (N := 8) (a0 := (8, .inr (.inl (fun _ => 0)))) hE dX12_init_7 (by decide +kernel) rfl rfl (fun _ e => by cases e) (fun _ => rfl) (by decide) (by decide) (by decide) ⟨by decide, by decide⟩ (fun q1 F2 n3 g4 u5 => ?_)
  have g6 := jF.pL0 g4 (fun j => lN ((cL12 0).getD j 0))
  refine jr_dup hE dX12_init_9 rfl ?_
  refine jr_iconst (v := (0 : Int32)) hE dX12_init_10 (by decide) ?_
  refine jr_ldc2 (v := (4294966319 : Int64)) hE dX12_init_11 (by decide +kernel) ?_
  refine jr_last hE dX12_init_14 g6 (vp_lit (by decide)) (fun F7 g8 u9 => ?_)
  have g10 := jF.pL g8 (show _ = 0 from rfl) (by decide +kernel)
  have u11 := utr u9 u5
  refine jr_dup hE dX12_init_15 rfl ?_
  refine jr_iconst (v := (1 : Int32)) hE dX12_init_16 (by decide) ?_
  refine jr_ldc2 (v := (4294967294 : Int64)) hE dX12_init_17 (by decide +kernel) ?_
  refine jr_last hE dX12_init_20 g10 (vp_lit (by decide)) (fun F12 g13 u14 => ?_)
  have g15 := jF.pL g13 (show _ = 1 from rfl) (by decide +kernel)
  have u16 := utr u14 u11
  refine jr_dup hE dX12_init_21 rfl ?_
  refine jr_iconst (v := (2 : Int32)) hE dX12_init_22 (by decide) ?_
  refine jr_ldc2 (v := (4294967295 : Int64)) hE dX12_init_23 (by decide +kernel) ?_
  refine jr_last hE dX12_init_26 g15 (vp_lit (by decide)) (fun F17 g18 u19 => ?_)
  have g20 := jF.pL g18 (show _ = 2 from rfl) (by decide +kernel)
  have u21 := utr u19 u16
  refine jr_dup hE dX12_init_27 rfl ?_
  refine jr_iconst (v := (3 : Int32)) hE dX12_init_28 (by decide) ?_
  refine jr_ldc2 (v := (4294967295 : Int64)) hE dX12_init_29 (by decide +kernel) ?_
  refine jr_last hE dX12_init_32 g20 (vp_lit (by decide)) (fun F22 g23 u24 => ?_)
  have g25 := jF.pL g23 (show _ = 3 from rfl) (by decide +kernel)
  have u26 := utr u24 u21
  refine jr_dup hE dX12_init_33 rfl ?_
  refine jr_iconst (v := (4 : Int32)) hE dX12_init_34 (by decide) ?_
  refine jr_ldc2 (v := (4294967295 : Int64)) hE dX12_init_35 (by decide +kernel) ?_
  refine jr_last hE dX12_init_38 g25 (vp_lit (by decide)) (fun F27 g28 u29 => ?_)
  have g30 := jF.pL g28 (show _ = 4 from rfl) (by decide +kernel)
  have u31 := utr u29 u26
  refine jr_dup hE dX12_init_39 rfl ?_
  refine jr_iconst (v := (5 : Int32)) hE dX12_init_40 (by decide) ?_
  refine jr_ldc2 (v := (4294967295 : Int64)) hE dX12_init_41 (by decide +kernel) ?_
  refine jr_last hE dX12_init_44 g30 (vp_lit (by decide)) (fun F32 g33 u34 => ?_)
  have g35 := jF.pL g33 (show _ = 5 from rfl) (by decide +kernel)
  have u36 := utr u34 u31
  refine jr_dup hE dX12_init_45 rfl ?_
  refine jr_bipush (v := (6 : Int32)) hE dX12_init_46 (by decide) ?_
  refine jr_ldc2 (v := (4294967295 : Int64)) hE dX12_init_48 (by decide +kernel) ?_
  refine jr_last hE dX12_init_51 g35 (vp_lit (by decide)) (fun F37 g38 u39 => ?_)
  have g40 := jF.pL g38 (show _ = 6 from rfl) (by decide +kernel)
  have u41 := utr u39 u36
  refine jr_dup hE dX12_init_52 rfl ?_
  refine jr_bipush (v := (7 : Int32)) hE dX12_init_53 (by decide) ?_
  refine jr_ldc2 (v := (4294967295 : Int64)) hE dX12_init_55 (by decide +kernel) ?_
  refine jr_last hE dX12_init_58 g40 (vp_lit (by decide)) (fun F42 g43 u44 => ?_)
  have g45 := jF.pL g43 (show _ = 7 from rfl) (by decide +kernel)
  have u46 := utr u44 u41
  have g47 := ho.nw n3 u46
  have g48 := g.nx n3 u46 g45
  refine jr_putF (ty := .array .long) hE dX12_init_59 f15 g47 rfl hinit rfl (by decide +kernel) rfl rfl (Nat.le_of_ble_eq_true rfl) (fun F50 g51 u52 => ?_)
  have g51 : jF (L ++ [q1]) F50 o (.inr (12, [.ref q1, .null, .null, .null, .null, .null, .null, .null, .null, .null, .int (0 : Int32), .null, .null, .null, .null, .null, .int (0 : Int32), .null, .null, .null, .null, .null, .null, .null, .int (0 : Int32), .null, .null, .null, .null, .int (0 : Int32), .int (0 : Int32), .int (0 : Int32), .null, .null, .null, .null, .null, .null, .null, .null, .null, .null, .null, .null, .null, .null, .null, .null, .null, .null, .null, .null, .null, .null, .null, .null, .null, .int (0 : Int32), .null, .null, .null, .null, .null, .null, .null, .null, .null, .null, .null, .null, .null, .null, .null, .null, .null, .null, .null, .null, .int (0 : Int32), .null, .null])) := g51
  have g53 := g48.put u52
  refine jr_aload_n hE dX12_init_62 0 rfl ?_
  refine jr_bipush (v := (8 : Int32)) hE dX12_init_63 (by decide) ?_
  refine jr_newa (ty := .long) (g := 2) (N := 8) (a0 := (8, .inr (.inl (fun _ => 0)))) hE dX12_init_65 (by decide +kernel) rfl rfl (fun _ e => by cases e) (fun _ => rfl) (by decide) (by decide) (by decide) ⟨by decide, by decide⟩ (fun q54 F55 n56 g57 u58 => ?_)
  have g59 := jF.pL0 g57 (fun j => lN ((cL12 1).getD j 0))
  refine jr_dup hE dX12_init_67 rfl ?_
  refine jr_iconst (v := (0 : Int32)) hE dX12_init_68 (by decide) ?_
  refine jr_ldc2 (v := (3493216577 : Int64)) hE dX12_init_69 (by decide +kernel) ?_
  refine jr_last hE dX12_init_72 g59 (vp_lit (by decide)) (fun F60 g61 u62 => ?_)
  have g63 := jF.pL g61 (show _ = 0 from rfl) (by decide +kernel)
  have u64 := utr u62 u58
  refine jr_dup hE dX12_init_73 rfl ?_
  refine jr_iconst (v := (1 : Int32)) hE dX12_init_74 (by decide) ?_
  refine jr_ldc2 (v := (3218235020 : Int64)) hE dX12_init_75 (by decide +kernel) ?_
  refine jr_last hE dX12_init_78 g63 (vp_lit (by decide)) (fun F65 g66 u67 => ?_)
  have g68 := jF.pL g66 (show _ = 1 from rfl) (by decide +kernel)
  have u69 := utr u67 u64
  refine jr_dup hE dX12_init_79 rfl ?_
  refine jr_iconst (v := (2 : Int32)) hE dX12_init_80 (by decide) ?_
  refine jr_ldc2 (v := (2940772411 : Int64)) hE dX12_init_81 (by decide +kernel) ?_
  refine jr_last hE dX12_init_84 g68 (vp_lit (by decide)) (fun F70 g71 u72 => ?_)
  have g73 := jF.pL g71 (show _ = 2 from rfl) (by decide +kernel)
  have u74 := utr u72 u69
  refine jr_dup hE dX12_init_85 rfl ?_
  refine jr_iconst (v := (3 : Int32)) hE dX12_init_86 (by decide) ?_
  refine jr_ldc2 (v := (3132021990 : Int64)) hE dX12_init_87 (by decide +kernel) ?_
  refine jr_last hE dX12_init_90 g73 (vp_lit (by decide)) (fun F75 g76 u77 => ?_)
  have g78 := jF.pL g76 (show _ = 3 from rfl) (by decide +kernel)
  have u79 := utr u77 u74
  refine jr_dup hE dX12_init_91 rfl ?_
  refine jr_iconst (v := (4 : Int32)) hE dX12_init_92 (by decide) ?_
  refine jr_ldc2 (v := (4294967294 : Int64)) hE dX12_init_93 (by decide +kernel) ?_
  refine jr_last hE dX12_init_96 g78 (vp_lit (by decide)) (fun F80 g81 u82 => ?_)
  have g83 := jF.pL g81 (show _ = 4 from rfl) (by decide +kernel)
  have u84 := utr u82 u79
  refine jr_dup hE dX12_init_97 rfl ?_
  refine jr_iconst (v := (5 : Int32)) hE dX12_init_98 (by decide) ?_
  refine jr_ldc2 (v := (4294967295 : Int64)) hE dX12_init_99 (by decide +kernel) ?_
  refine jr_last hE dX12_init_102 g83 (vp_lit (by decide)) (fun F85 g86 u87 => ?_)
  have g88 := jF.pL g86 (show _ = 5 from rfl) (by decide +kernel)
  have u89 := utr u87 u84
  refine jr_dup hE dX12_init_103 rfl ?_
  refine jr_bipush (v := (6 : Int32)) hE dX12_init_104 (by decide) ?_
  refine jr_ldc2 (v := (4294967295 : Int64)) hE dX12_init_106 (by decide +kernel) ?_
  refine jr_last hE dX12_init_109 g88 (vp_lit (by decide)) (fun F90 g91 u92 => ?_)
  have g93 := jF.pL g91 (show _ = 6 from rfl) (by decide +kernel)
  have u94 := utr u92 u89
  refine jr_dup hE dX12_init_110 rfl ?_
  refine jr_bipush (v := (7 : Int32)) hE dX12_init_111 (by decide) ?_
  refine jr_ldc2 (v := (4294967295 : Int64)) hE dX12_init_113 (by decide +kernel) ?_
  refine jr_last hE dX12_init_116 g93 (vp_lit (by decide)) (fun F95 g96 u97 => ?_)
  have g98 := jF.pL g96 (show _ = 7 from rfl) (by decide +kernel)
  have u99 := utr u97 u94
  have g100 := g51.nw n56 u99
  have g101 := g53.nx n56 u99 g98
  refine jr_putF (ty := .array .long) hE dX12_init_117 f27 g100 rfl hinit rfl (by decide +kernel) rfl rfl (Nat.le_of_ble_eq_true rfl) (fun F103 g104 u105 => ?_)
  have g104 : jF ((L ++ [q1]) ++ [q54]) F103 o (.inr (12, [.ref q1, .ref q54, .null, .null, .null, .null, .null, .null, .null, .null, .int (0 : Int32), .null, .null, .null, .null, .null, .int (0 : Int32), .null, .null, .null, .null, .null, .null, .null, .int (0 : Int32), .null, .null, .null, .null, .int (0 : Int32), .int (0 : Int32), .int (0 : Int32), .null, .null, .null, .null, .null, .null, .null, .null, .null, .null, .null, .null, .null, .null, .null, .null, .null, .null, .null, .null, .null, .null, .null, .null, .null, .int (0 : Int32), .null, .null, .null, .null, .null, .null, .null, .null, .null, .null, .null, .null, .null, .null, .null, .null, .null, .null, .null, .null, .int (0 : Int32), .null, .null])) := g104
  have g106 := g101.put u105
  refine jr_aload_n hE dX12_init_120 0 rfl ?_
  refine jr_iconst (v := (5 : Int32)) hE dX12_init_121 (by decide) ?_
  refine jr_newa (ty := .long) (g := 2) (N := 5) (a0 := (5, .inr (.inl (fun _ => 0)))) hE dX12_init_122 (by decide +kernel) rfl rfl (fun _ e => by cases e) (fun _ => rfl) (by decide) (by decide) (by decide) ⟨by decide, by decide⟩ (fun q107 F108 n109 g110 u111 => ?_)
  have g112 := jF.pL0 g110 (fun j => lN ((cL12 2).getD j 0))
  refine jr_dup hE dX12_init_124 rfl ?_
  refine jr_iconst (v := (0 : Int32)) hE dX12_init_125 (by decide) ?_
  refine jr_ldc2 (v := (977 : Int64)) hE dX12_init_126 (by decide +kernel) ?_
  refine jr_last hE dX12_init_129 g112 (vp_lit (by decide)) (fun F113 g114 u115 => ?_)
  have g116 := jF.pL g114 (show _ = 0 from rfl) (by decide +kernel)
  have u117 := utr u115 u111
  refine jr_dup hE dX12_init_130 rfl ?_
  refine jr_iconst (v := (1 : Int32)) hE dX12_init_131 (by decide) ?_
  refine jr_lconst (v := (1 : Int64)) hE dX12_init_132 (by decide) ?_
  refine jr_last hE dX12_init_133 g116 (vp_lit (by decide)) (fun F118 g119 u120 => ?_)
  have g121 := jF.pL g119 (show _ = 1 from rfl) (by decide +kernel)
  have u122 := utr u120 u117
  refine jr_dup hE dX12_init_134 rfl ?_
  refine jr_iconst (v := (2 : Int32)) hE dX12_init_135 (by decide) ?_
  refine jr_lconst (v := (0 : Int64)) hE dX12_init_136 (by decide) ?_
  refine jr_last hE dX12_init_137 g121 (vp_lit (by decide)) (fun F123 g124 u125 => ?_)
  have g126 := jF.pL g124 (show _ = 2 from rfl) (by decide +kernel)
  have u127 := utr u125 u122
  refine jr_dup hE dX12_init_138 rfl ?_
  refine jr_iconst (v := (3 : Int32)) hE dX12_init_139 (by decide) ?_
  refine jr_lconst (v := (0 : Int64)) hE dX12_init_140 (by decide) ?_
  refine jr_last hE dX12_init_141 g126 (vp_lit (by decide)) (fun F128 g129 u130 => ?_)
  have g131 := jF.pL g129 (show _ = 3 from rfl) (by decide +kernel)
  have u132 := utr u130 u127
  refine jr_dup hE dX12_init_142 rfl ?_
  refine jr_iconst (v := (4 : Int32)) hE dX12_init_143 (by decide) ?_
  refine jr_lconst (v := (0 : Int64)) hE dX12_init_144 (by decide) ?_
  refine jr_last hE dX12_init_145 g131 (vp_lit (by decide)) (fun F133 g134 u135 => ?_)
  have g136 := jF.pL g134 (show _ = 4 from rfl) (by decide +kernel)
  have u137 := utr u135 u132
  have g138 := g104.nw n109 u137
  have g139 := g106.nx n109 u137 g136
  refine jr_putF (ty := .array .long) hE dX12_init_146 f32 g138 rfl hinit rfl (by decide +kernel) rfl rfl (Nat.le_of_ble_eq_true rfl) (fun F141 g142 u143 => ?_)
  have g142 : jF (((L ++ [q1]) ++ [q54]) ++ [q107]) F141 o (.inr (12, [.ref q1, .ref q54, .ref q107, .null, .null, .null, .null, .null, .null, .null, .int (0 : Int32), .null, .null, .null, .null, .null, .int (0 : Int32), .null, .null, .null, .null, .null, .null, .null, .int (0 : Int32), .null, .null, .null, .null, .int (0 : Int32), .int (0 : Int32), .int (0 : Int32), .null, .null, .null, .null, .null, .null, .null, .null, .null, .null, .null, .null, .null, .null, .null, .null, .null, .null, .null, .null, .null, .null, .null, .null, .null, .int (0 : Int32), .null, .null, .null, .null, .null, .null, .null, .null, .null, .null, .null, .null, .null, .null, .null, .null, .null, .null, .null, .null, .int (0 : Int32), .null, .null])) := g142
  have g144 := g139.put u143
  exact kk _ _ _ g144 g142
set_option maxHeartbeats 4000000 in
set_option maxRecDepth 100000 in
theorem i12_1 {E : jE} {G : Nat → ClassId} (hE : jOk E G ({ frames := 1, cells := 73, slots := 4867, locals := 20 }) cX12_init 1 RX12 wsX12_init) (hinit : jIn E) {L0 L : List Nat} {F0 F : Nat → va_E} {o : Nat} {A : Nat → Nat} (g : gS L0 F0 o 3 A (tX12 G) L F) (ho : jF L F o (.inr (12, [.ref (A 0), .ref (A 1), .ref (A 2), .null, .null, .null, .null, .null, .null, .null, .int (0 : Int32), .null, .null, .null, .null, .null, .int (0 : Int32), .null, .null, .null, .null, .null, .null, .null, .int (0 : Int32), .null, .null, .null, .null, .int (0 : Int32), .int (0 : Int32), .int (0 : Int32), .null, .null, .null, .null, .null, .null, .null, .null, .null, .null, .null, .null, .null, .null, .null, .null, .null, .null, .null, .null, .null, .null, .null, .null, .null, .int (0 : Int32), .null, .null, .null, .null, .null, .null, .null, .null, .null, .null, .null, .null, .null, .null, .null, .null, .null, .null, .null, .null, .int (0 : Int32), .null, .null]))) (kk : ∀ (A1 : Nat → Nat) (L1 : List Nat) (F1 : Nat → va_E), (gS L0 F0 o 6 A1 (tX12 G) L1 F1) → (jF L1 F1 o (.inr (12, [.ref (A1 0), .ref (A1 1), .ref (A1 2), .ref (A1 3), .ref (A1 4), .ref (A1 5), .null, .null, .null, .null, .int (0 : Int32), .null, .null, .null, .null, .null, .int (0 : Int32), .null, .null, .null, .null, .null, .null, .null, .int (0 : Int32), .null, .null, .null, .null, .int (0 : Int32), .int (0 : Int32), .int (0 : Int32), .null, .null, .null, .null, .null, .null, .null, .null, .null, .null, .null, .null, .null, .null, .null, .null, .null, .null, .null, .null, .null, .null, .null, .null, .null, .int (0 : Int32), .null, .null, .null, .null, .null, .null, .null, .null, .null, .null, .null, .null, .null, .null, .null, .null, .null, .null, .null, .null, .int (0 : Int32), .null, .null]))) → J E L1 F1 6 42 300 [(0, .ref o)] []) : J E L F 3 21 149 [(0, .ref o)] [] := by
  have f43 : jFl RX12 wsX12_init 43 12 3 := ⟨rfl, by decide, by decide +kernel, by decide +kernel⟩
  have f48 : jFl RX12 wsX12_init 48 12 4 := ⟨rfl, by decide, by decide +kernel, by decide +kernel⟩
  have f55 : jFl RX12 wsX12_init 55 12 5 := ⟨rfl, by decide, by decide +kernel, by decide +kernel⟩
  refine jr_aload_n hE dX12_init_149 0 rfl ?_
  refine jr_iconst (v := (5 : Int32)) hE dX12_init_150 (by decide) ?_
  refine jr_newa (ty := .long) (g := 2) (N := 5) (a0 := (5, .inr (.inl (fun _ => 0)))) hE dX12_init_151 (by decide +kernel) rfl rfl (fun _ e => by cases e) (fun _ => rfl) (by decide) (by decide) (by decide) ⟨by decide, by decide⟩ (fun q1 F2 n3 g4 u5 => ?_)
  have g6 := jF.pL0 g4 (fun j => lN ((cL12 3).getD j 0))
  refine jr_dup hE dX12_init_153 rfl ?_
  refine jr_iconst (v := (0 : Int32)) hE dX12_init_154 (by decide) ?_
  refine jr_ldc2 (v := (801750719 : Int64)) hE dX12_init_155 (by decide +kernel) ?_
  refine jr_last hE dX12_init_158 g6 (vp_lit (by decide)) (fun F7 g8 u9 => ?_)
  have g10 := jF.pL g8 (show _ = 0 from rfl) (by decide +kernel)
  have u11 := utr u9 u5
  refine jr_dup hE dX12_init_159 rfl ?_
  refine jr_iconst (v := (1 : Int32)) hE dX12_init_160 (by decide) ?_
  refine jr_ldc2 (v := (1076732275 : Int64)) hE dX12_init_161 (by decide +kernel) ?_
  refine jr_last hE dX12_init_164 g10 (vp_lit (by decide)) (fun F12 g13 u14 => ?_)
  have g15 := jF.pL g13 (show _ = 1 from rfl) (by decide +kernel)
  have u16 := utr u14 u11
  refine jr_dup hE dX12_init_165 rfl ?_
  refine jr_iconst (v := (2 : Int32)) hE dX12_init_166 (by decide) ?_
  refine jr_ldc2 (v := (1354194884 : Int64)) hE dX12_init_167 (by decide +kernel) ?_
  refine jr_last hE dX12_init_170 g15 (vp_lit (by decide)) (fun F17 g18 u19 => ?_)
  have g20 := jF.pL g18 (show _ = 2 from rfl) (by decide +kernel)
  have u21 := utr u19 u16
  refine jr_dup hE dX12_init_171 rfl ?_
  refine jr_iconst (v := (3 : Int32)) hE dX12_init_172 (by decide) ?_
  refine jr_ldc2 (v := (1162945305 : Int64)) hE dX12_init_173 (by decide +kernel) ?_
  refine jr_last hE dX12_init_176 g20 (vp_lit (by decide)) (fun F22 g23 u24 => ?_)
  have g25 := jF.pL g23 (show _ = 3 from rfl) (by decide +kernel)
  have u26 := utr u24 u21
  refine jr_dup hE dX12_init_177 rfl ?_
  refine jr_iconst (v := (4 : Int32)) hE dX12_init_178 (by decide) ?_
  refine jr_lconst (v := (1 : Int64)) hE dX12_init_179 (by decide) ?_
  refine jr_last hE dX12_init_180 g25 (vp_lit (by decide)) (fun F27 g28 u29 => ?_)
  have g30 := jF.pL g28 (show _ = 4 from rfl) (by decide +kernel)
  have u31 := utr u29 u26
  have g32 := ho.nw n3 u31
  have g33 := g.nx n3 u31 g30
  refine jr_putF (ty := .array .long) hE dX12_init_181 f43 g32 rfl hinit rfl (by decide +kernel) rfl rfl (Nat.le_of_ble_eq_true rfl) (fun F35 g36 u37 => ?_)
  have g36 : jF (L ++ [q1]) F35 o (.inr (12, [.ref (A 0), .ref (A 1), .ref (A 2), .ref q1, .null, .null, .null, .null, .null, .null, .int (0 : Int32), .null, .null, .null, .null, .null, .int (0 : Int32), .null, .null, .null, .null, .null, .null, .null, .int (0 : Int32), .null, .null, .null, .null, .int (0 : Int32), .int (0 : Int32), .int (0 : Int32), .null, .null, .null, .null, .null, .null, .null, .null, .null, .null, .null, .null, .null, .null, .null, .null, .null, .null, .null, .null, .null, .null, .null, .null, .null, .int (0 : Int32), .null, .null, .null, .null, .null, .null, .null, .null, .null, .null, .null, .null, .null, .null, .null, .null, .null, .null, .null, .null, .int (0 : Int32), .null, .null])) := g36
  have g38 := g33.put u37
  refine jr_aload_n hE dX12_init_184 0 rfl ?_
  refine jr_bipush (v := (8 : Int32)) hE dX12_init_185 (by decide) ?_
  refine jr_newa (ty := .long) (g := 2) (N := 8) (a0 := (8, .inr (.inl (fun _ => 0)))) hE dX12_init_187 (by decide +kernel) rfl rfl (fun _ e => by cases e) (fun _ => rfl) (by decide) (by decide) (by decide) ⟨by decide, by decide⟩ (fun q39 F40 n41 g42 u43 => ?_)
  have g44 := jF.pL0 g42 (fun j => lN ((cL12 4).getD j 0))
  refine jr_dup hE dX12_init_189 rfl ?_
  refine jr_iconst (v := (0 : Int32)) hE dX12_init_190 (by decide) ?_
  refine jr_ldc2 (v := (4294966317 : Int64)) hE dX12_init_191 (by decide +kernel) ?_
  refine jr_last hE dX12_init_194 g44 (vp_lit (by decide)) (fun F45 g46 u47 => ?_)
  have g48 := jF.pL g46 (show _ = 0 from rfl) (by decide +kernel)
  have u49 := utr u47 u43
  refine jr_dup hE dX12_init_195 rfl ?_
  refine jr_iconst (v := (1 : Int32)) hE dX12_init_196 (by decide) ?_
  refine jr_ldc2 (v := (4294967294 : Int64)) hE dX12_init_197 (by decide +kernel) ?_
  refine jr_last hE dX12_init_200 g48 (vp_lit (by decide)) (fun F50 g51 u52 => ?_)
  have g53 := jF.pL g51 (show _ = 1 from rfl) (by decide +kernel)
  have u54 := utr u52 u49
  refine jr_dup hE dX12_init_201 rfl ?_
  refine jr_iconst (v := (2 : Int32)) hE dX12_init_202 (by decide) ?_
  refine jr_ldc2 (v := (4294967295 : Int64)) hE dX12_init_203 (by decide +kernel) ?_
  refine jr_last hE dX12_init_206 g53 (vp_lit (by decide)) (fun F55 g56 u57 => ?_)
  have g58 := jF.pL g56 (show _ = 2 from rfl) (by decide +kernel)
  have u59 := utr u57 u54
  refine jr_dup hE dX12_init_207 rfl ?_
  refine jr_iconst (v := (3 : Int32)) hE dX12_init_208 (by decide) ?_
  refine jr_ldc2 (v := (4294967295 : Int64)) hE dX12_init_209 (by decide +kernel) ?_
  refine jr_last hE dX12_init_212 g58 (vp_lit (by decide)) (fun F60 g61 u62 => ?_)
  have g63 := jF.pL g61 (show _ = 3 from rfl) (by decide +kernel)
  have u64 := utr u62 u59
  refine jr_dup hE dX12_init_213 rfl ?_
  refine jr_iconst (v := (4 : Int32)) hE dX12_init_214 (by decide) ?_
  refine jr_ldc2 (v := (4294967295 : Int64)) hE dX12_init_215 (by decide +kernel) ?_
  refine jr_last hE dX12_init_218 g63 (vp_lit (by decide)) (fun F65 g66 u67 => ?_)
  have g68 := jF.pL g66 (show _ = 4 from rfl) (by decide +kernel)
  have u69 := utr u67 u64
  refine jr_dup hE dX12_init_219 rfl ?_
  refine jr_iconst (v := (5 : Int32)) hE dX12_init_220 (by decide) ?_
  refine jr_ldc2 (v := (4294967295 : Int64)) hE dX12_init_221 (by decide +kernel) ?_
  refine jr_last hE dX12_init_224 g68 (vp_lit (by decide)) (fun F70 g71 u72 => ?_)
  have g73 := jF.pL g71 (show _ = 5 from rfl) (by decide +kernel)
  have u74 := utr u72 u69
  refine jr_dup hE dX12_init_225 rfl ?_
  refine jr_bipush (v := (6 : Int32)) hE dX12_init_226 (by decide) ?_
  refine jr_ldc2 (v := (4294967295 : Int64)) hE dX12_init_228 (by decide +kernel) ?_
  refine jr_last hE dX12_init_231 g73 (vp_lit (by decide)) (fun F75 g76 u77 => ?_)
  have g78 := jF.pL g76 (show _ = 6 from rfl) (by decide +kernel)
  have u79 := utr u77 u74
  refine jr_dup hE dX12_init_232 rfl ?_
  refine jr_bipush (v := (7 : Int32)) hE dX12_init_233 (by decide) ?_
  refine jr_ldc2 (v := (4294967295 : Int64)) hE dX12_init_235 (by decide +kernel) ?_
  refine jr_last hE dX12_init_238 g78 (vp_lit (by decide)) (fun F80 g81 u82 => ?_)
  have g83 := jF.pL g81 (show _ = 7 from rfl) (by decide +kernel)
  have u84 := utr u82 u79
  have g85 := g36.nw n41 u84
  have g86 := g38.nx n41 u84 g83
  refine jr_putF (ty := .array .long) hE dX12_init_239 f48 g85 rfl hinit rfl (by decide +kernel) rfl rfl (Nat.le_of_ble_eq_true rfl) (fun F88 g89 u90 => ?_)
  have g89 : jF ((L ++ [q1]) ++ [q39]) F88 o (.inr (12, [.ref (A 0), .ref (A 1), .ref (A 2), .ref q1, .ref q39, .null, .null, .null, .null, .null, .int (0 : Int32), .null, .null, .null, .null, .null, .int (0 : Int32), .null, .null, .null, .null, .null, .null, .null, .int (0 : Int32), .null, .null, .null, .null, .int (0 : Int32), .int (0 : Int32), .int (0 : Int32), .null, .null, .null, .null, .null, .null, .null, .null, .null, .null, .null, .null, .null, .null, .null, .null, .null, .null, .null, .null, .null, .null, .null, .null, .null, .int (0 : Int32), .null, .null, .null, .null, .null, .null, .null, .null, .null, .null, .null, .null, .null, .null, .null, .null, .null, .null, .null, .null, .int (0 : Int32), .null, .null])) := g89
  have g91 := g86.put u90
  refine jr_aload_n hE dX12_init_242 0 rfl ?_
  refine jr_bipush (v := (8 : Int32)) hE dX12_init_243 (by decide) ?_
  refine jr_newa (ty := .long) (g := 2) (N := 8) (a0 := (8, .inr (.inl (fun _ => 0)))) hE dX12_init_245 (by decide +kernel) rfl rfl (fun _ e => by cases e) (fun _ => rfl) (by decide) (by decide) (by decide) ⟨by decide, by decide⟩ (fun q92 F93 n94 g95 u96 => ?_)
  have g97 := jF.pL0 g95 (fun j => lN ((cL12 5).getD j 0))
  refine jr_dup hE dX12_init_247 rfl ?_
  refine jr_iconst (v := (0 : Int32)) hE dX12_init_248 (by decide) ?_
  refine jr_ldc2 (v := (3221225228 : Int64)) hE dX12_init_249 (by decide +kernel) ?_
  refine jr_last hE dX12_init_252 g97 (vp_lit (by decide)) (fun F98 g99 u100 => ?_)
  have g101 := jF.pL g99 (show _ = 0 from rfl) (by decide +kernel)
  have u102 := utr u100 u96
  refine jr_dup hE dX12_init_253 rfl ?_
  refine jr_iconst (v := (1 : Int32)) hE dX12_init_254 (by decide) ?_
  refine jr_ldc2 (v := (4294967295 : Int64)) hE dX12_init_255 (by decide +kernel) ?_
  refine jr_last hE dX12_init_258 g101 (vp_lit (by decide)) (fun F103 g104 u105 => ?_)
  have g106 := jF.pL g104 (show _ = 1 from rfl) (by decide +kernel)
  have u107 := utr u105 u102
  refine jr_dup hE dX12_init_259 rfl ?_
  refine jr_iconst (v := (2 : Int32)) hE dX12_init_260 (by decide) ?_
  refine jr_ldc2 (v := (4294967295 : Int64)) hE dX12_init_261 (by decide +kernel) ?_
  refine jr_last hE dX12_init_264 g106 (vp_lit (by decide)) (fun F108 g109 u110 => ?_)
  have g111 := jF.pL g109 (show _ = 2 from rfl) (by decide +kernel)
  have u112 := utr u110 u107
  refine jr_dup hE dX12_init_265 rfl ?_
  refine jr_iconst (v := (3 : Int32)) hE dX12_init_266 (by decide) ?_
  refine jr_ldc2 (v := (4294967295 : Int64)) hE dX12_init_267 (by decide +kernel) ?_
  refine jr_last hE dX12_init_270 g111 (vp_lit (by decide)) (fun F113 g114 u115 => ?_)
  have g116 := jF.pL g114 (show _ = 3 from rfl) (by decide +kernel)
  have u117 := utr u115 u112
  refine jr_dup hE dX12_init_271 rfl ?_
  refine jr_iconst (v := (4 : Int32)) hE dX12_init_272 (by decide) ?_
  refine jr_ldc2 (v := (4294967295 : Int64)) hE dX12_init_273 (by decide +kernel) ?_
  refine jr_last hE dX12_init_276 g116 (vp_lit (by decide)) (fun F118 g119 u120 => ?_)
  have g121 := jF.pL g119 (show _ = 4 from rfl) (by decide +kernel)
  have u122 := utr u120 u117
  refine jr_dup hE dX12_init_277 rfl ?_
  refine jr_iconst (v := (5 : Int32)) hE dX12_init_278 (by decide) ?_
  refine jr_ldc2 (v := (4294967295 : Int64)) hE dX12_init_279 (by decide +kernel) ?_
  refine jr_last hE dX12_init_282 g121 (vp_lit (by decide)) (fun F123 g124 u125 => ?_)
  have g126 := jF.pL g124 (show _ = 5 from rfl) (by decide +kernel)
  have u127 := utr u125 u122
  refine jr_dup hE dX12_init_283 rfl ?_
  refine jr_bipush (v := (6 : Int32)) hE dX12_init_284 (by decide) ?_
  refine jr_ldc2 (v := (4294967295 : Int64)) hE dX12_init_286 (by decide +kernel) ?_
  refine jr_last hE dX12_init_289 g126 (vp_lit (by decide)) (fun F128 g129 u130 => ?_)
  have g131 := jF.pL g129 (show _ = 6 from rfl) (by decide +kernel)
  have u132 := utr u130 u127
  refine jr_dup hE dX12_init_290 rfl ?_
  refine jr_bipush (v := (7 : Int32)) hE dX12_init_291 (by decide) ?_
  refine jr_ldc2 (v := (1073741823 : Int64)) hE dX12_init_293 (by decide +kernel) ?_
  refine jr_last hE dX12_init_296 g131 (vp_lit (by decide)) (fun F133 g134 u135 => ?_)
  have g136 := jF.pL g134 (show _ = 7 from rfl) (by decide +kernel)
  have u137 := utr u135 u132
  have g138 := g89.nw n94 u137
  have g139 := g91.nx n94 u137 g136
  refine jr_putF (ty := .array .long) hE dX12_init_297 f55 g138 rfl hinit rfl (by decide +kernel) rfl rfl (Nat.le_of_ble_eq_true rfl) (fun F141 g142 u143 => ?_)
  have g142 : jF (((L ++ [q1]) ++ [q39]) ++ [q92]) F141 o (.inr (12, [.ref (A 0), .ref (A 1), .ref (A 2), .ref q1, .ref q39, .ref q92, .null, .null, .null, .null, .int (0 : Int32), .null, .null, .null, .null, .null, .int (0 : Int32), .null, .null, .null, .null, .null, .null, .null, .int (0 : Int32), .null, .null, .null, .null, .int (0 : Int32), .int (0 : Int32), .int (0 : Int32), .null, .null, .null, .null, .null, .null, .null, .null, .null, .null, .null, .null, .null, .null, .null, .null, .null, .null, .null, .null, .null, .null, .null, .null, .null, .int (0 : Int32), .null, .null, .null, .null, .null, .null, .null, .null, .null, .null, .null, .null, .null, .null, .null, .null, .null, .null, .null, .null, .int (0 : Int32), .null, .null])) := g142
  have g144 := g139.put u143
  exact kk _ _ _ g144 g142
set_option maxHeartbeats 4000000 in
set_option maxRecDepth 100000 in
theorem i12_2 {E : jE} {G : Nat → ClassId} (hE : jOk E G ({ frames := 1, cells := 73, slots := 4867, locals := 20 }) cX12_init 1 RX12 wsX12_init) (hinit : jIn E) {L0 L : List Nat} {F0 F : Nat → va_E} {o : Nat} {A : Nat → Nat} (g : gS L0 F0 o 6 A (tX12 G) L F) (ho : jF L F o (.inr (12, [.ref (A 0), .ref (A 1), .ref (A 2), .ref (A 3), .ref (A 4), .ref (A 5), .null, .null, .null, .null, .int (0 : Int32), .null, .null, .null, .null, .null, .int (0 : Int32), .null, .null, .null, .null, .null, .null, .null, .int (0 : Int32), .null, .null, .null, .null, .int (0 : Int32), .int (0 : Int32), .int (0 : Int32), .null, .null, .null, .null, .null, .null, .null, .null, .null, .null, .null, .null, .null, .null, .null, .null, .null, .null, .null, .null, .null, .null, .null, .null, .null, .int (0 : Int32), .null, .null, .null, .null, .null, .null, .null, .null, .null, .null, .null, .null, .null, .null, .null, .null, .null, .null, .null, .null, .int (0 : Int32), .null, .null]))) (kk : ∀ (A1 : Nat → Nat) (L1 : List Nat) (F1 : Nat → va_E), (gS L0 F0 o 13 A1 (tX12 G) L1 F1) → (jF L1 F1 o (.inr (12, [.ref (A1 0), .ref (A1 1), .ref (A1 2), .ref (A1 3), .ref (A1 4), .ref (A1 5), .ref (A1 6), .ref (A1 7), .ref (A1 8), .ref (A1 9), .int (0 : Int32), .ref (A1 10), .ref (A1 11), .ref (A1 12), .null, .null, .int (0 : Int32), .null, .null, .null, .null, .null, .null, .null, .int (0 : Int32), .null, .null, .null, .null, .int (0 : Int32), .int (0 : Int32), .int (0 : Int32), .null, .null, .null, .null, .null, .null, .null, .null, .null, .null, .null, .null, .null, .null, .null, .null, .null, .null, .null, .null, .null, .null, .null, .null, .null, .int (0 : Int32), .null, .null, .null, .null, .null, .null, .null, .null, .null, .null, .null, .null, .null, .null, .null, .null, .null, .null, .null, .null, .int (0 : Int32), .null, .null]))) → J E L1 F1 13 1966 458 [(0, .ref o)] []) : J E L F 6 42 300 [(0, .ref o)] [] := by
  have f74 : jFl RX12 wsX12_init 74 12 6 := ⟨rfl, by decide, by decide +kernel, by decide +kernel⟩
  have f93 : jFl RX12 wsX12_init 93 12 7 := ⟨rfl, by decide, by decide +kernel, by decide +kernel⟩
  have f96 : jFl RX12 wsX12_init 96 12 8 := ⟨rfl, by decide, by decide +kernel, by decide +kernel⟩
  have f100 : jFl RX12 wsX12_init 100 12 9 := ⟨rfl, by decide, by decide +kernel, by decide +kernel⟩
  have f103 : jFl RX12 wsX12_init 103 12 11 := ⟨rfl, by decide, by decide +kernel, by decide +kernel⟩
  have f106 : jFl RX12 wsX12_init 106 12 12 := ⟨rfl, by decide, by decide +kernel, by decide +kernel⟩
  have f109 : jFl RX12 wsX12_init 109 12 13 := ⟨rfl, by decide, by decide +kernel, by decide +kernel⟩
  refine jr_aload_n hE dX12_init_300 0 rfl ?_
  refine jr_bipush (v := (8 : Int32)) hE dX12_init_301 (by decide) ?_
  refine jr_newa (ty := .long) (g := 2) (N := 8) (a0 := (8, .inr (.inl (fun _ => 0)))) hE dX12_init_303 (by decide +kernel) rfl rfl (fun _ e => by cases e) (fun _ => rfl) (by decide) (by decide) (by decide) ⟨by decide, by decide⟩ (fun q1 F2 n3 g4 u5 => ?_)
  have g6 := jF.pL0 g4 (fun j => lN ((cL12 6).getD j 0))
  refine jr_dup hE dX12_init_305 rfl ?_
  refine jr_iconst (v := (0 : Int32)) hE dX12_init_306 (by decide) ?_
  refine jr_ldc2 (v := (385357720 : Int64)) hE dX12_init_307 (by decide +kernel) ?_
  refine jr_last hE dX12_init_310 g6 (vp_lit (by decide)) (fun F7 g8 u9 => ?_)
  have g10 := jF.pL g8 (show _ = 0 from rfl) (by decide +kernel)
  have u11 := utr u9 u5
  refine jr_dup hE dX12_init_311 rfl ?_
  refine jr_iconst (v := (1 : Int32)) hE dX12_init_312 (by decide) ?_
  refine jr_ldc2 (v := (1509065051 : Int64)) hE dX12_init_313 (by decide +kernel) ?_
  refine jr_last hE dX12_init_316 g10 (vp_lit (by decide)) (fun F12 g13 u14 => ?_)
  have g15 := jF.pL g13 (show _ = 1 from rfl) (by decide +kernel)
  have u16 := utr u14 u11
  refine jr_dup hE dX12_init_317 rfl ?_
  refine jr_iconst (v := (2 : Int32)) hE dX12_init_318 (by decide) ?_
  refine jr_ldc2 (v := (768485593 : Int64)) hE dX12_init_319 (by decide +kernel) ?_
  refine jr_last hE dX12_init_322 g15 (vp_lit (by decide)) (fun F17 g18 u19 => ?_)
  have g20 := jF.pL g18 (show _ = 2 from rfl) (by decide +kernel)
  have u21 := utr u19 u16
  refine jr_dup hE dX12_init_323 rfl ?_
  refine jr_iconst (v := (3 : Int32)) hE dX12_init_324 (by decide) ?_
  refine jr_ldc2 (v := (43777243 : Int64)) hE dX12_init_325 (by decide +kernel) ?_
  refine jr_last hE dX12_init_328 g20 (vp_lit (by decide)) (fun F22 g23 u24 => ?_)
  have g25 := jF.pL g23 (show _ = 3 from rfl) (by decide +kernel)
  have u26 := utr u24 u21
  refine jr_dup hE dX12_init_329 rfl ?_
  refine jr_iconst (v := (4 : Int32)) hE dX12_init_330 (by decide) ?_
  refine jr_ldc2 (v := (3464956679 : Int64)) hE dX12_init_331 (by decide +kernel) ?_
  refine jr_last hE dX12_init_334 g25 (vp_lit (by decide)) (fun F27 g28 u29 => ?_)
  have g30 := jF.pL g28 (show _ = 4 from rfl) (by decide +kernel)
  have u31 := utr u29 u26
  refine jr_dup hE dX12_init_335 rfl ?_
  refine jr_iconst (v := (5 : Int32)) hE dX12_init_336 (by decide) ?_
  refine jr_ldc2 (v := (1436574357 : Int64)) hE dX12_init_337 (by decide +kernel) ?_
  refine jr_last hE dX12_init_340 g30 (vp_lit (by decide)) (fun F32 g33 u34 => ?_)
  have g35 := jF.pL g33 (show _ = 5 from rfl) (by decide +kernel)
  have u36 := utr u34 u31
  refine jr_dup hE dX12_init_341 rfl ?_
  refine jr_bipush (v := (6 : Int32)) hE dX12_init_342 (by decide) ?_
  refine jr_ldc2 (v := (4191992748 : Int64)) hE dX12_init_344 (by decide +kernel) ?_
  refine jr_last hE dX12_init_347 g35 (vp_lit (by decide)) (fun F37 g38 u39 => ?_)
  have g40 := jF.pL g38 (show _ = 6 from rfl) (by decide +kernel)
  have u41 := utr u39 u36
  refine jr_dup hE dX12_init_348 rfl ?_
  refine jr_bipush (v := (7 : Int32)) hE dX12_init_349 (by decide) ?_
  refine jr_ldc2 (v := (2042521214 : Int64)) hE dX12_init_351 (by decide +kernel) ?_
  refine jr_last hE dX12_init_354 g40 (vp_lit (by decide)) (fun F42 g43 u44 => ?_)
  have g45 := jF.pL g43 (show _ = 7 from rfl) (by decide +kernel)
  have u46 := utr u44 u41
  have g47 := ho.nw n3 u46
  have g48 := g.nx n3 u46 g45
  refine jr_putF (ty := .array .long) hE dX12_init_355 f74 g47 rfl hinit rfl (by decide +kernel) rfl rfl (Nat.le_of_ble_eq_true rfl) (fun F50 g51 u52 => ?_)
  have g51 : jF (L ++ [q1]) F50 o (.inr (12, [.ref (A 0), .ref (A 1), .ref (A 2), .ref (A 3), .ref (A 4), .ref (A 5), .ref q1, .null, .null, .null, .int (0 : Int32), .null, .null, .null, .null, .null, .int (0 : Int32), .null, .null, .null, .null, .null, .null, .null, .int (0 : Int32), .null, .null, .null, .null, .int (0 : Int32), .int (0 : Int32), .int (0 : Int32), .null, .null, .null, .null, .null, .null, .null, .null, .null, .null, .null, .null, .null, .null, .null, .null, .null, .null, .null, .null, .null, .null, .null, .null, .null, .int (0 : Int32), .null, .null, .null, .null, .null, .null, .null, .null, .null, .null, .null, .null, .null, .null, .null, .null, .null, .null, .null, .null, .int (0 : Int32), .null, .null])) := g51
  have g53 := g48.put u52
  refine jr_aload_n hE dX12_init_358 0 rfl ?_
  refine jr_bipush (v := (8 : Int32)) hE dX12_init_359 (by decide) ?_
  refine jr_newa (ty := .long) (g := 2) (N := 8) (a0 := (8, .inr (.inl (fun _ => 0)))) hE dX12_init_361 (by decide +kernel) rfl rfl (fun _ e => by cases e) (fun _ => rfl) (by decide) (by decide) (by decide) ⟨by decide, by decide⟩ (fun q54 F55 n56 g57 u58 => ?_)
  have g59 := jF.pL0 g57 (fun j => lN ((cL12 7).getD j 0))
  refine jr_dup hE dX12_init_363 rfl ?_
  refine jr_iconst (v := (0 : Int32)) hE dX12_init_364 (by decide) ?_
  refine jr_ldc2 (v := (4212184248 : Int64)) hE dX12_init_365 (by decide +kernel) ?_
  refine jr_last hE dX12_init_368 g59 (vp_lit (by decide)) (fun F60 g61 u62 => ?_)
  have g63 := jF.pL g61 (show _ = 0 from rfl) (by decide +kernel)
  have u64 := utr u62 u58
  refine jr_dup hE dX12_init_369 rfl ?_
  refine jr_iconst (v := (1 : Int32)) hE dX12_init_370 (by decide) ?_
  refine jr_ldc2 (v := (2621952143 : Int64)) hE dX12_init_371 (by decide +kernel) ?_
  refine jr_last hE dX12_init_374 g63 (vp_lit (by decide)) (fun F65 g66 u67 => ?_)
  have g68 := jF.pL g66 (show _ = 1 from rfl) (by decide +kernel)
  have u69 := utr u67 u64
  refine jr_dup hE dX12_init_375 rfl ?_
  refine jr_iconst (v := (2 : Int32)) hE dX12_init_376 (by decide) ?_
  refine jr_ldc2 (v := (2793755673 : Int64)) hE dX12_init_377 (by decide +kernel) ?_
  refine jr_last hE dX12_init_380 g68 (vp_lit (by decide)) (fun F70 g71 u72 => ?_)
  have g73 := jF.pL g71 (show _ = 2 from rfl) (by decide +kernel)
  have u74 := utr u72 u69
  refine jr_dup hE dX12_init_381 rfl ?_
  refine jr_iconst (v := (3 : Int32)) hE dX12_init_382 (by decide) ?_
  refine jr_ldc2 (v := (4246189128 : Int64)) hE dX12_init_383 (by decide +kernel) ?_
  refine jr_last hE dX12_init_386 g73 (vp_lit (by decide)) (fun F75 g76 u77 => ?_)
  have g78 := jF.pL g76 (show _ = 3 from rfl) (by decide +kernel)
  have u79 := utr u77 u74
  refine jr_dup hE dX12_init_387 rfl ?_
  refine jr_iconst (v := (4 : Int32)) hE dX12_init_388 (by decide) ?_
  refine jr_ldc2 (v := (235997352 : Int64)) hE dX12_init_389 (by decide +kernel) ?_
  refine jr_last hE dX12_init_392 g78 (vp_lit (by decide)) (fun F80 g81 u82 => ?_)
  have g83 := jF.pL g81 (show _ = 4 from rfl) (by decide +kernel)
  have u84 := utr u82 u79
  refine jr_dup hE dX12_init_393 rfl ?_
  refine jr_iconst (v := (5 : Int32)) hE dX12_init_394 (by decide) ?_
  refine jr_ldc2 (v := (1571093500 : Int64)) hE dX12_init_395 (by decide +kernel) ?_
  refine jr_last hE dX12_init_398 g83 (vp_lit (by decide)) (fun F85 g86 u87 => ?_)
  have g88 := jF.pL g86 (show _ = 5 from rfl) (by decide +kernel)
  have u89 := utr u87 u84
  refine jr_dup hE dX12_init_399 rfl ?_
  refine jr_bipush (v := (6 : Int32)) hE dX12_init_400 (by decide) ?_
  refine jr_ldc2 (v := (648266853 : Int64)) hE dX12_init_402 (by decide +kernel) ?_
  refine jr_last hE dX12_init_405 g88 (vp_lit (by decide)) (fun F90 g91 u92 => ?_)
  have g93 := jF.pL g91 (show _ = 6 from rfl) (by decide +kernel)
  have u94 := utr u92 u89
  refine jr_dup hE dX12_init_406 rfl ?_
  refine jr_bipush (v := (7 : Int32)) hE dX12_init_407 (by decide) ?_
  refine jr_ldc2 (v := (1211816567 : Int64)) hE dX12_init_409 (by decide +kernel) ?_
  refine jr_last hE dX12_init_412 g93 (vp_lit (by decide)) (fun F95 g96 u97 => ?_)
  have g98 := jF.pL g96 (show _ = 7 from rfl) (by decide +kernel)
  have u99 := utr u97 u94
  have g100 := g51.nw n56 u99
  have g101 := g53.nx n56 u99 g98
  refine jr_putF (ty := .array .long) hE dX12_init_413 f93 g100 rfl hinit rfl (by decide +kernel) rfl rfl (Nat.le_of_ble_eq_true rfl) (fun F103 g104 u105 => ?_)
  have g104 : jF ((L ++ [q1]) ++ [q54]) F103 o (.inr (12, [.ref (A 0), .ref (A 1), .ref (A 2), .ref (A 3), .ref (A 4), .ref (A 5), .ref q1, .ref q54, .null, .null, .int (0 : Int32), .null, .null, .null, .null, .null, .int (0 : Int32), .null, .null, .null, .null, .null, .null, .null, .int (0 : Int32), .null, .null, .null, .null, .int (0 : Int32), .int (0 : Int32), .int (0 : Int32), .null, .null, .null, .null, .null, .null, .null, .null, .null, .null, .null, .null, .null, .null, .null, .null, .null, .null, .null, .null, .null, .null, .null, .null, .null, .int (0 : Int32), .null, .null, .null, .null, .null, .null, .null, .null, .null, .null, .null, .null, .null, .null, .null, .null, .null, .null, .null, .null, .int (0 : Int32), .null, .null])) := g104
  have g106 := g101.put u105
  refine jr_aload_n hE dX12_init_416 0 rfl ?_
  refine jr_bipush (v := (16 : Int32)) hE dX12_init_417 (by decide) ?_
  refine jr_newa (ty := .int) (g := 1) (N := 16) (a0 := (16, .inl (fun _ => 0))) hE dX12_init_419 (by decide +kernel) rfl rfl (fun _ e => by cases e) (fun _ => rfl) (by decide) (by decide) (by decide) ⟨by decide, by decide⟩ (fun q107 F108 n109 g110 u111 => ?_)
  have g112 := g104.nw n109 u111
  have g113 := g106.nx n109 u111 g110
  refine jr_putF (ty := .array .int) hE dX12_init_421 f96 g112 rfl hinit rfl (by decide +kernel) rfl rfl (Nat.le_of_ble_eq_true rfl) (fun F115 g116 u117 => ?_)
  have g116 : jF (((L ++ [q1]) ++ [q54]) ++ [q107]) F115 o (.inr (12, [.ref (A 0), .ref (A 1), .ref (A 2), .ref (A 3), .ref (A 4), .ref (A 5), .ref q1, .ref q54, .ref q107, .null, .int (0 : Int32), .null, .null, .null, .null, .null, .int (0 : Int32), .null, .null, .null, .null, .null, .null, .null, .int (0 : Int32), .null, .null, .null, .null, .int (0 : Int32), .int (0 : Int32), .int (0 : Int32), .null, .null, .null, .null, .null, .null, .null, .null, .null, .null, .null, .null, .null, .null, .null, .null, .null, .null, .null, .null, .null, .null, .null, .null, .null, .int (0 : Int32), .null, .null, .null, .null, .null, .null, .null, .null, .null, .null, .null, .null, .null, .null, .null, .null, .null, .null, .null, .null, .int (0 : Int32), .null, .null])) := g116
  have g118 := g113.put u117
  refine jr_aload_n hE dX12_init_424 0 rfl ?_
  refine jr_sipush (v := (1600 : Int32)) hE dX12_init_425 (by decide) ?_
  refine jr_newa (ty := .int) (g := 1) (N := 1600) (a0 := (1600, .inl (fun _ => 0))) hE dX12_init_428 (by decide +kernel) rfl rfl (fun _ e => by cases e) (fun _ => rfl) (by decide) (by decide) (by decide) ⟨by decide, by decide⟩ (fun q119 F120 n121 g122 u123 => ?_)
  have g124 := g116.nw n121 u123
  have g125 := g118.nx n121 u123 g122
  refine jr_putF (ty := .array .int) hE dX12_init_430 f100 g124 rfl hinit rfl (by decide +kernel) rfl rfl (Nat.le_of_ble_eq_true rfl) (fun F127 g128 u129 => ?_)
  have g128 : jF ((((L ++ [q1]) ++ [q54]) ++ [q107]) ++ [q119]) F127 o (.inr (12, [.ref (A 0), .ref (A 1), .ref (A 2), .ref (A 3), .ref (A 4), .ref (A 5), .ref q1, .ref q54, .ref q107, .ref q119, .int (0 : Int32), .null, .null, .null, .null, .null, .int (0 : Int32), .null, .null, .null, .null, .null, .null, .null, .int (0 : Int32), .null, .null, .null, .null, .int (0 : Int32), .int (0 : Int32), .int (0 : Int32), .null, .null, .null, .null, .null, .null, .null, .null, .null, .null, .null, .null, .null, .null, .null, .null, .null, .null, .null, .null, .null, .null, .null, .null, .null, .int (0 : Int32), .null, .null, .null, .null, .null, .null, .null, .null, .null, .null, .null, .null, .null, .null, .null, .null, .null, .null, .null, .null, .int (0 : Int32), .null, .null])) := g128
  have g130 := g125.put u129
  refine jr_aload_n hE dX12_init_433 0 rfl ?_
  refine jr_sipush (v := (128 : Int32)) hE dX12_init_434 (by decide) ?_
  refine jr_newa (ty := .int) (g := 1) (N := 128) (a0 := (128, .inl (fun _ => 0))) hE dX12_init_437 (by decide +kernel) rfl rfl (fun _ e => by cases e) (fun _ => rfl) (by decide) (by decide) (by decide) ⟨by decide, by decide⟩ (fun q131 F132 n133 g134 u135 => ?_)
  have g136 := g128.nw n133 u135
  have g137 := g130.nx n133 u135 g134
  refine jr_putF (ty := .array .int) hE dX12_init_439 f103 g136 rfl hinit rfl (by decide +kernel) rfl rfl (Nat.le_of_ble_eq_true rfl) (fun F139 g140 u141 => ?_)
  have g140 : jF (((((L ++ [q1]) ++ [q54]) ++ [q107]) ++ [q119]) ++ [q131]) F139 o (.inr (12, [.ref (A 0), .ref (A 1), .ref (A 2), .ref (A 3), .ref (A 4), .ref (A 5), .ref q1, .ref q54, .ref q107, .ref q119, .int (0 : Int32), .ref q131, .null, .null, .null, .null, .int (0 : Int32), .null, .null, .null, .null, .null, .null, .null, .int (0 : Int32), .null, .null, .null, .null, .int (0 : Int32), .int (0 : Int32), .int (0 : Int32), .null, .null, .null, .null, .null, .null, .null, .null, .null, .null, .null, .null, .null, .null, .null, .null, .null, .null, .null, .null, .null, .null, .null, .null, .null, .int (0 : Int32), .null, .null, .null, .null, .null, .null, .null, .null, .null, .null, .null, .null, .null, .null, .null, .null, .null, .null, .null, .null, .int (0 : Int32), .null, .null])) := g140
  have g142 := g137.put u141
  refine jr_aload_n hE dX12_init_442 0 rfl ?_
  refine jr_sipush (v := (160 : Int32)) hE dX12_init_443 (by decide) ?_
  refine jr_newa (ty := .int) (g := 1) (N := 160) (a0 := (160, .inl (fun _ => 0))) hE dX12_init_446 (by decide +kernel) rfl rfl (fun _ e => by cases e) (fun _ => rfl) (by decide) (by decide) (by decide) ⟨by decide, by decide⟩ (fun q143 F144 n145 g146 u147 => ?_)
  have g148 := g140.nw n145 u147
  have g149 := g142.nx n145 u147 g146
  refine jr_putF (ty := .array .int) hE dX12_init_448 f106 g148 rfl hinit rfl (by decide +kernel) rfl rfl (Nat.le_of_ble_eq_true rfl) (fun F151 g152 u153 => ?_)
  have g152 : jF ((((((L ++ [q1]) ++ [q54]) ++ [q107]) ++ [q119]) ++ [q131]) ++ [q143]) F151 o (.inr (12, [.ref (A 0), .ref (A 1), .ref (A 2), .ref (A 3), .ref (A 4), .ref (A 5), .ref q1, .ref q54, .ref q107, .ref q119, .int (0 : Int32), .ref q131, .ref q143, .null, .null, .null, .int (0 : Int32), .null, .null, .null, .null, .null, .null, .null, .int (0 : Int32), .null, .null, .null, .null, .int (0 : Int32), .int (0 : Int32), .int (0 : Int32), .null, .null, .null, .null, .null, .null, .null, .null, .null, .null, .null, .null, .null, .null, .null, .null, .null, .null, .null, .null, .null, .null, .null, .null, .null, .int (0 : Int32), .null, .null, .null, .null, .null, .null, .null, .null, .null, .null, .null, .null, .null, .null, .null, .null, .null, .null, .null, .null, .int (0 : Int32), .null, .null])) := g152
  have g154 := g149.put u153
  refine jr_aload_n hE dX12_init_451 0 rfl ?_
  refine jr_iconst (v := (4 : Int32)) hE dX12_init_452 (by decide) ?_
  refine jr_newa (ty := .int) (g := 1) (N := 4) (a0 := (4, .inl (fun _ => 0))) hE dX12_init_453 (by decide +kernel) rfl rfl (fun _ e => by cases e) (fun _ => rfl) (by decide) (by decide) (by decide) ⟨by decide, by decide⟩ (fun q155 F156 n157 g158 u159 => ?_)
  have g160 := g152.nw n157 u159
  have g161 := g154.nx n157 u159 g158
  refine jr_putF (ty := .array .int) hE dX12_init_455 f109 g160 rfl hinit rfl (by decide +kernel) rfl rfl (Nat.le_of_ble_eq_true rfl) (fun F163 g164 u165 => ?_)
  have g164 : jF (((((((L ++ [q1]) ++ [q54]) ++ [q107]) ++ [q119]) ++ [q131]) ++ [q143]) ++ [q155]) F163 o (.inr (12, [.ref (A 0), .ref (A 1), .ref (A 2), .ref (A 3), .ref (A 4), .ref (A 5), .ref q1, .ref q54, .ref q107, .ref q119, .int (0 : Int32), .ref q131, .ref q143, .ref q155, .null, .null, .int (0 : Int32), .null, .null, .null, .null, .null, .null, .null, .int (0 : Int32), .null, .null, .null, .null, .int (0 : Int32), .int (0 : Int32), .int (0 : Int32), .null, .null, .null, .null, .null, .null, .null, .null, .null, .null, .null, .null, .null, .null, .null, .null, .null, .null, .null, .null, .null, .null, .null, .null, .null, .int (0 : Int32), .null, .null, .null, .null, .null, .null, .null, .null, .null, .null, .null, .null, .null, .null, .null, .null, .null, .null, .null, .null, .int (0 : Int32), .null, .null])) := g164
  have g166 := g161.put u165
  exact kk _ _ _ g166 g164
set_option maxHeartbeats 4000000 in
set_option maxRecDepth 100000 in
theorem i12_3 {E : jE} {G : Nat → ClassId} (hE : jOk E G ({ frames := 1, cells := 73, slots := 4867, locals := 20 }) cX12_init 1 RX12 wsX12_init) (hinit : jIn E) {L0 L : List Nat} {F0 F : Nat → va_E} {o : Nat} {A : Nat → Nat} (g : gS L0 F0 o 13 A (tX12 G) L F) (ho : jF L F o (.inr (12, [.ref (A 0), .ref (A 1), .ref (A 2), .ref (A 3), .ref (A 4), .ref (A 5), .ref (A 6), .ref (A 7), .ref (A 8), .ref (A 9), .int (0 : Int32), .ref (A 10), .ref (A 11), .ref (A 12), .null, .null, .int (0 : Int32), .null, .null, .null, .null, .null, .null, .null, .int (0 : Int32), .null, .null, .null, .null, .int (0 : Int32), .int (0 : Int32), .int (0 : Int32), .null, .null, .null, .null, .null, .null, .null, .null, .null, .null, .null, .null, .null, .null, .null, .null, .null, .null, .null, .null, .null, .null, .null, .null, .null, .int (0 : Int32), .null, .null, .null, .null, .null, .null, .null, .null, .null, .null, .null, .null, .null, .null, .null, .null, .null, .null, .null, .null, .int (0 : Int32), .null, .null]))) (kk : ∀ (A1 : Nat → Nat) (L1 : List Nat) (F1 : Nat → va_E), (gS L0 F0 o 36 A1 (tX12 G) L1 F1) → (jF L1 F1 o (.inr (12, [.ref (A1 0), .ref (A1 1), .ref (A1 2), .ref (A1 3), .ref (A1 4), .ref (A1 5), .ref (A1 6), .ref (A1 7), .ref (A1 8), .ref (A1 9), .int (0 : Int32), .ref (A1 10), .ref (A1 11), .ref (A1 12), .ref (A1 13), .ref (A1 14), .int (0 : Int32), .ref (A1 15), .ref (A1 16), .ref (A1 17), .ref (A1 18), .ref (A1 19), .ref (A1 20), .ref (A1 21), .int (0 : Int32), .ref (A1 22), .ref (A1 23), .ref (A1 24), .ref (A1 25), .int (0 : Int32), .int (0 : Int32), .int (0 : Int32), .ref (A1 26), .ref (A1 27), .ref (A1 28), .ref (A1 29), .ref (A1 30), .ref (A1 31), .ref (A1 32), .ref (A1 33), .ref (A1 34), .ref (A1 35), .null, .null, .null, .null, .null, .null, .null, .null, .null, .null, .null, .null, .null, .null, .null, .int (0 : Int32), .null, .null, .null, .null, .null, .null, .null, .null, .null, .null, .null, .null, .null, .null, .null, .null, .null, .null, .null, .null, .int (0 : Int32), .null, .null]))) → J E L1 F1 36 3148 643 [(0, .ref o)] []) : J E L F 13 1966 458 [(0, .ref o)] [] := by
  have f112 : jFl RX12 wsX12_init 112 12 14 := ⟨rfl, by decide, by decide +kernel, by decide +kernel⟩
  have f115 : jFl RX12 wsX12_init 115 12 15 := ⟨rfl, by decide, by decide +kernel, by decide +kernel⟩
  have f118 : jFl RX12 wsX12_init 118 12 17 := ⟨rfl, by decide, by decide +kernel, by decide +kernel⟩
  have f121 : jFl RX12 wsX12_init 121 12 18 := ⟨rfl, by decide, by decide +kernel, by decide +kernel⟩
  have f125 : jFl RX12 wsX12_init 125 12 19 := ⟨rfl, by decide, by decide +kernel, by decide +kernel⟩
  have f128 : jFl RX12 wsX12_init 128 12 20 := ⟨rfl, by decide, by decide +kernel, by decide +kernel⟩
  have f131 : jFl RX12 wsX12_init 131 12 21 := ⟨rfl, by decide, by decide +kernel, by decide +kernel⟩
  have f134 : jFl RX12 wsX12_init 134 12 22 := ⟨rfl, by decide, by decide +kernel, by decide +kernel⟩
  have f137 : jFl RX12 wsX12_init 137 12 23 := ⟨rfl, by decide, by decide +kernel, by decide +kernel⟩
  have f140 : jFl RX12 wsX12_init 140 12 25 := ⟨rfl, by decide, by decide +kernel, by decide +kernel⟩
  have f143 : jFl RX12 wsX12_init 143 12 26 := ⟨rfl, by decide, by decide +kernel, by decide +kernel⟩
  have f146 : jFl RX12 wsX12_init 146 12 27 := ⟨rfl, by decide, by decide +kernel, by decide +kernel⟩
  have f149 : jFl RX12 wsX12_init 149 12 28 := ⟨rfl, by decide, by decide +kernel, by decide +kernel⟩
  have f152 : jFl RX12 wsX12_init 152 12 32 := ⟨rfl, by decide, by decide +kernel, by decide +kernel⟩
  have f155 : jFl RX12 wsX12_init 155 12 33 := ⟨rfl, by decide, by decide +kernel, by decide +kernel⟩
  have f158 : jFl RX12 wsX12_init 158 12 34 := ⟨rfl, by decide, by decide +kernel, by decide +kernel⟩
  have f161 : jFl RX12 wsX12_init 161 12 35 := ⟨rfl, by decide, by decide +kernel, by decide +kernel⟩
  have f164 : jFl RX12 wsX12_init 164 12 36 := ⟨rfl, by decide, by decide +kernel, by decide +kernel⟩
  have f167 : jFl RX12 wsX12_init 167 12 37 := ⟨rfl, by decide, by decide +kernel, by decide +kernel⟩
  have f170 : jFl RX12 wsX12_init 170 12 38 := ⟨rfl, by decide, by decide +kernel, by decide +kernel⟩
  have f173 : jFl RX12 wsX12_init 173 12 39 := ⟨rfl, by decide, by decide +kernel, by decide +kernel⟩
  have f176 : jFl RX12 wsX12_init 176 12 40 := ⟨rfl, by decide, by decide +kernel, by decide +kernel⟩
  have f179 : jFl RX12 wsX12_init 179 12 41 := ⟨rfl, by decide, by decide +kernel, by decide +kernel⟩
  refine jr_aload_n hE dX12_init_458 0 rfl ?_
  refine jr_sipush (v := (256 : Int32)) hE dX12_init_459 (by decide) ?_
  refine jr_newa (ty := .int) (g := 1) (N := 256) (a0 := (256, .inl (fun _ => 0))) hE dX12_init_462 (by decide +kernel) rfl rfl (fun _ e => by cases e) (fun _ => rfl) (by decide) (by decide) (by decide) ⟨by decide, by decide⟩ (fun q1 F2 n3 g4 u5 => ?_)
  have g6 := ho.nw n3 u5
  have g7 := g.nx n3 u5 g4
  refine jr_putF (ty := .array .int) hE dX12_init_464 f112 g6 rfl hinit rfl (by decide +kernel) rfl rfl (Nat.le_of_ble_eq_true rfl) (fun F9 g10 u11 => ?_)
  have g10 : jF (L ++ [q1]) F9 o (.inr (12, [.ref (A 0), .ref (A 1), .ref (A 2), .ref (A 3), .ref (A 4), .ref (A 5), .ref (A 6), .ref (A 7), .ref (A 8), .ref (A 9), .int (0 : Int32), .ref (A 10), .ref (A 11), .ref (A 12), .ref q1, .null, .int (0 : Int32), .null, .null, .null, .null, .null, .null, .null, .int (0 : Int32), .null, .null, .null, .null, .int (0 : Int32), .int (0 : Int32), .int (0 : Int32), .null, .null, .null, .null, .null, .null, .null, .null, .null, .null, .null, .null, .null, .null, .null, .null, .null, .null, .null, .null, .null, .null, .null, .null, .null, .int (0 : Int32), .null, .null, .null, .null, .null, .null, .null, .null, .null, .null, .null, .null, .null, .null, .null, .null, .null, .null, .null, .null, .int (0 : Int32), .null, .null])) := g10
  have g12 := g7.put u11
  refine jr_aload_n hE dX12_init_467 0 rfl ?_
  refine jr_iconst (v := (4 : Int32)) hE dX12_init_468 (by decide) ?_
  refine jr_newa (ty := .long) (g := 2) (N := 4) (a0 := (4, .inr (.inl (fun _ => 0)))) hE dX12_init_469 (by decide +kernel) rfl rfl (fun _ e => by cases e) (fun _ => rfl) (by decide) (by decide) (by decide) ⟨by decide, by decide⟩ (fun q13 F14 n15 g16 u17 => ?_)
  have g18 := g10.nw n15 u17
  have g19 := g12.nx n15 u17 g16
  refine jr_putF (ty := .array .long) hE dX12_init_471 f115 g18 rfl hinit rfl (by decide +kernel) rfl rfl (Nat.le_of_ble_eq_true rfl) (fun F21 g22 u23 => ?_)
  have g22 : jF ((L ++ [q1]) ++ [q13]) F21 o (.inr (12, [.ref (A 0), .ref (A 1), .ref (A 2), .ref (A 3), .ref (A 4), .ref (A 5), .ref (A 6), .ref (A 7), .ref (A 8), .ref (A 9), .int (0 : Int32), .ref (A 10), .ref (A 11), .ref (A 12), .ref q1, .ref q13, .int (0 : Int32), .null, .null, .null, .null, .null, .null, .null, .int (0 : Int32), .null, .null, .null, .null, .int (0 : Int32), .int (0 : Int32), .int (0 : Int32), .null, .null, .null, .null, .null, .null, .null, .null, .null, .null, .null, .null, .null, .null, .null, .null, .null, .null, .null, .null, .null, .null, .null, .null, .null, .int (0 : Int32), .null, .null, .null, .null, .null, .null, .null, .null, .null, .null, .null, .null, .null, .null, .null, .null, .null, .null, .null, .null, .int (0 : Int32), .null, .null])) := g22
  have g24 := g19.put u23
  refine jr_aload_n hE dX12_init_474 0 rfl ?_
  refine jr_sipush (v := (132 : Int32)) hE dX12_init_475 (by decide) ?_
  refine jr_newa (ty := .int) (g := 1) (N := 132) (a0 := (132, .inl (fun _ => 0))) hE dX12_init_478 (by decide +kernel) rfl rfl (fun _ e => by cases e) (fun _ => rfl) (by decide) (by decide) (by decide) ⟨by decide, by decide⟩ (fun q25 F26 n27 g28 u29 => ?_)
  have g30 := g22.nw n27 u29
  have g31 := g24.nx n27 u29 g28
  refine jr_putF (ty := .array .int) hE dX12_init_480 f118 g30 rfl hinit rfl (by decide +kernel) rfl rfl (Nat.le_of_ble_eq_true rfl) (fun F33 g34 u35 => ?_)
  have g34 : jF (((L ++ [q1]) ++ [q13]) ++ [q25]) F33 o (.inr (12, [.ref (A 0), .ref (A 1), .ref (A 2), .ref (A 3), .ref (A 4), .ref (A 5), .ref (A 6), .ref (A 7), .ref (A 8), .ref (A 9), .int (0 : Int32), .ref (A 10), .ref (A 11), .ref (A 12), .ref q1, .ref q13, .int (0 : Int32), .ref q25, .null, .null, .null, .null, .null, .null, .int (0 : Int32), .null, .null, .null, .null, .int (0 : Int32), .int (0 : Int32), .int (0 : Int32), .null, .null, .null, .null, .null, .null, .null, .null, .null, .null, .null, .null, .null, .null, .null, .null, .null, .null, .null, .null, .null, .null, .null, .null, .null, .int (0 : Int32), .null, .null, .null, .null, .null, .null, .null, .null, .null, .null, .null, .null, .null, .null, .null, .null, .null, .null, .null, .null, .int (0 : Int32), .null, .null])) := g34
  have g36 := g31.put u35
  refine jr_aload_n hE dX12_init_483 0 rfl ?_
  refine jr_iconst (v := (4 : Int32)) hE dX12_init_484 (by decide) ?_
  refine jr_newa (ty := .boolean) (g := 3) (N := 4) (a0 := (4, .inl (fun _ => 0))) hE dX12_init_485 (by decide +kernel) rfl rfl (fun _ e => by cases e) (fun _ => rfl) (by decide) (by decide) (by decide) ⟨by decide, by decide⟩ (fun q37 F38 n39 g40 u41 => ?_)
  have g42 := g34.nw n39 u41
  have g43 := g36.nx n39 u41 g40
  refine jr_putF (ty := .array .boolean) hE dX12_init_487 f121 g42 rfl hinit rfl (by decide +kernel) rfl rfl (Nat.le_of_ble_eq_true rfl) (fun F45 g46 u47 => ?_)
  have g46 : jF ((((L ++ [q1]) ++ [q13]) ++ [q25]) ++ [q37]) F45 o (.inr (12, [.ref (A 0), .ref (A 1), .ref (A 2), .ref (A 3), .ref (A 4), .ref (A 5), .ref (A 6), .ref (A 7), .ref (A 8), .ref (A 9), .int (0 : Int32), .ref (A 10), .ref (A 11), .ref (A 12), .ref q1, .ref q13, .int (0 : Int32), .ref q25, .ref q37, .null, .null, .null, .null, .null, .int (0 : Int32), .null, .null, .null, .null, .int (0 : Int32), .int (0 : Int32), .int (0 : Int32), .null, .null, .null, .null, .null, .null, .null, .null, .null, .null, .null, .null, .null, .null, .null, .null, .null, .null, .null, .null, .null, .null, .null, .null, .null, .int (0 : Int32), .null, .null, .null, .null, .null, .null, .null, .null, .null, .null, .null, .null, .null, .null, .null, .null, .null, .null, .null, .null, .int (0 : Int32), .null, .null])) := g46
  have g48 := g43.put u47
  refine jr_aload_n hE dX12_init_490 0 rfl ?_
  refine jr_bipush (v := (32 : Int32)) hE dX12_init_491 (by decide) ?_
  refine jr_newa (ty := .long) (g := 2) (N := 32) (a0 := (32, .inr (.inl (fun _ => 0)))) hE dX12_init_493 (by decide +kernel) rfl rfl (fun _ e => by cases e) (fun _ => rfl) (by decide) (by decide) (by decide) ⟨by decide, by decide⟩ (fun q49 F50 n51 g52 u53 => ?_)
  have g54 := g46.nw n51 u53
  have g55 := g48.nx n51 u53 g52
  refine jr_putF (ty := .array .long) hE dX12_init_495 f125 g54 rfl hinit rfl (by decide +kernel) rfl rfl (Nat.le_of_ble_eq_true rfl) (fun F57 g58 u59 => ?_)
  have g58 : jF (((((L ++ [q1]) ++ [q13]) ++ [q25]) ++ [q37]) ++ [q49]) F57 o (.inr (12, [.ref (A 0), .ref (A 1), .ref (A 2), .ref (A 3), .ref (A 4), .ref (A 5), .ref (A 6), .ref (A 7), .ref (A 8), .ref (A 9), .int (0 : Int32), .ref (A 10), .ref (A 11), .ref (A 12), .ref q1, .ref q13, .int (0 : Int32), .ref q25, .ref q37, .ref q49, .null, .null, .null, .null, .int (0 : Int32), .null, .null, .null, .null, .int (0 : Int32), .int (0 : Int32), .int (0 : Int32), .null, .null, .null, .null, .null, .null, .null, .null, .null, .null, .null, .null, .null, .null, .null, .null, .null, .null, .null, .null, .null, .null, .null, .null, .null, .int (0 : Int32), .null, .null, .null, .null, .null, .null, .null, .null, .null, .null, .null, .null, .null, .null, .null, .null, .null, .null, .null, .null, .int (0 : Int32), .null, .null])) := g58
  have g60 := g55.put u59
  refine jr_aload_n hE dX12_init_498 0 rfl ?_
  refine jr_bipush (v := (32 : Int32)) hE dX12_init_499 (by decide) ?_
  refine jr_newa (ty := .long) (g := 2) (N := 32) (a0 := (32, .inr (.inl (fun _ => 0)))) hE dX12_init_501 (by decide +kernel) rfl rfl (fun _ e => by cases e) (fun _ => rfl) (by decide) (by decide) (by decide) ⟨by decide, by decide⟩ (fun q61 F62 n63 g64 u65 => ?_)
  have g66 := g58.nw n63 u65
  have g67 := g60.nx n63 u65 g64
  refine jr_putF (ty := .array .long) hE dX12_init_503 f128 g66 rfl hinit rfl (by decide +kernel) rfl rfl (Nat.le_of_ble_eq_true rfl) (fun F69 g70 u71 => ?_)
  have g70 : jF ((((((L ++ [q1]) ++ [q13]) ++ [q25]) ++ [q37]) ++ [q49]) ++ [q61]) F69 o (.inr (12, [.ref (A 0), .ref (A 1), .ref (A 2), .ref (A 3), .ref (A 4), .ref (A 5), .ref (A 6), .ref (A 7), .ref (A 8), .ref (A 9), .int (0 : Int32), .ref (A 10), .ref (A 11), .ref (A 12), .ref q1, .ref q13, .int (0 : Int32), .ref q25, .ref q37, .ref q49, .ref q61, .null, .null, .null, .int (0 : Int32), .null, .null, .null, .null, .int (0 : Int32), .int (0 : Int32), .int (0 : Int32), .null, .null, .null, .null, .null, .null, .null, .null, .null, .null, .null, .null, .null, .null, .null, .null, .null, .null, .null, .null, .null, .null, .null, .null, .null, .int (0 : Int32), .null, .null, .null, .null, .null, .null, .null, .null, .null, .null, .null, .null, .null, .null, .null, .null, .null, .null, .null, .null, .int (0 : Int32), .null, .null])) := g70
  have g72 := g67.put u71
  refine jr_aload_n hE dX12_init_506 0 rfl ?_
  refine jr_sipush (v := (264 : Int32)) hE dX12_init_507 (by decide) ?_
  refine jr_newa (ty := .int) (g := 1) (N := 264) (a0 := (264, .inl (fun _ => 0))) hE dX12_init_510 (by decide +kernel) rfl rfl (fun _ e => by cases e) (fun _ => rfl) (by decide) (by decide) (by decide) ⟨by decide, by decide⟩ (fun q73 F74 n75 g76 u77 => ?_)
  have g78 := g70.nw n75 u77
  have g79 := g72.nx n75 u77 g76
  refine jr_putF (ty := .array .int) hE dX12_init_512 f131 g78 rfl hinit rfl (by decide +kernel) rfl rfl (Nat.le_of_ble_eq_true rfl) (fun F81 g82 u83 => ?_)
  have g82 : jF (((((((L ++ [q1]) ++ [q13]) ++ [q25]) ++ [q37]) ++ [q49]) ++ [q61]) ++ [q73]) F81 o (.inr (12, [.ref (A 0), .ref (A 1), .ref (A 2), .ref (A 3), .ref (A 4), .ref (A 5), .ref (A 6), .ref (A 7), .ref (A 8), .ref (A 9), .int (0 : Int32), .ref (A 10), .ref (A 11), .ref (A 12), .ref q1, .ref q13, .int (0 : Int32), .ref q25, .ref q37, .ref q49, .ref q61, .ref q73, .null, .null, .int (0 : Int32), .null, .null, .null, .null, .int (0 : Int32), .int (0 : Int32), .int (0 : Int32), .null, .null, .null, .null, .null, .null, .null, .null, .null, .null, .null, .null, .null, .null, .null, .null, .null, .null, .null, .null, .null, .null, .null, .null, .null, .int (0 : Int32), .null, .null, .null, .null, .null, .null, .null, .null, .null, .null, .null, .null, .null, .null, .null, .null, .null, .null, .null, .null, .int (0 : Int32), .null, .null])) := g82
  have g84 := g79.put u83
  refine jr_aload_n hE dX12_init_515 0 rfl ?_
  refine jr_iconst (v := (4 : Int32)) hE dX12_init_516 (by decide) ?_
  refine jr_newa (ty := .boolean) (g := 3) (N := 4) (a0 := (4, .inl (fun _ => 0))) hE dX12_init_517 (by decide +kernel) rfl rfl (fun _ e => by cases e) (fun _ => rfl) (by decide) (by decide) (by decide) ⟨by decide, by decide⟩ (fun q85 F86 n87 g88 u89 => ?_)
  have g90 := g82.nw n87 u89
  have g91 := g84.nx n87 u89 g88
  refine jr_putF (ty := .array .boolean) hE dX12_init_519 f134 g90 rfl hinit rfl (by decide +kernel) rfl rfl (Nat.le_of_ble_eq_true rfl) (fun F93 g94 u95 => ?_)
  have g94 : jF ((((((((L ++ [q1]) ++ [q13]) ++ [q25]) ++ [q37]) ++ [q49]) ++ [q61]) ++ [q73]) ++ [q85]) F93 o (.inr (12, [.ref (A 0), .ref (A 1), .ref (A 2), .ref (A 3), .ref (A 4), .ref (A 5), .ref (A 6), .ref (A 7), .ref (A 8), .ref (A 9), .int (0 : Int32), .ref (A 10), .ref (A 11), .ref (A 12), .ref q1, .ref q13, .int (0 : Int32), .ref q25, .ref q37, .ref q49, .ref q61, .ref q73, .ref q85, .null, .int (0 : Int32), .null, .null, .null, .null, .int (0 : Int32), .int (0 : Int32), .int (0 : Int32), .null, .null, .null, .null, .null, .null, .null, .null, .null, .null, .null, .null, .null, .null, .null, .null, .null, .null, .null, .null, .null, .null, .null, .null, .null, .int (0 : Int32), .null, .null, .null, .null, .null, .null, .null, .null, .null, .null, .null, .null, .null, .null, .null, .null, .null, .null, .null, .null, .int (0 : Int32), .null, .null])) := g94
  have g96 := g91.put u95
  refine jr_aload_n hE dX12_init_522 0 rfl ?_
  refine jr_sipush (v := (264 : Int32)) hE dX12_init_523 (by decide) ?_
  refine jr_newa (ty := .int) (g := 1) (N := 264) (a0 := (264, .inl (fun _ => 0))) hE dX12_init_526 (by decide +kernel) rfl rfl (fun _ e => by cases e) (fun _ => rfl) (by decide) (by decide) (by decide) ⟨by decide, by decide⟩ (fun q97 F98 n99 g100 u101 => ?_)
  have g102 := g94.nw n99 u101
  have g103 := g96.nx n99 u101 g100
  refine jr_putF (ty := .array .int) hE dX12_init_528 f137 g102 rfl hinit rfl (by decide +kernel) rfl rfl (Nat.le_of_ble_eq_true rfl) (fun F105 g106 u107 => ?_)
  have g106 : jF (((((((((L ++ [q1]) ++ [q13]) ++ [q25]) ++ [q37]) ++ [q49]) ++ [q61]) ++ [q73]) ++ [q85]) ++ [q97]) F105 o (.inr (12, [.ref (A 0), .ref (A 1), .ref (A 2), .ref (A 3), .ref (A 4), .ref (A 5), .ref (A 6), .ref (A 7), .ref (A 8), .ref (A 9), .int (0 : Int32), .ref (A 10), .ref (A 11), .ref (A 12), .ref q1, .ref q13, .int (0 : Int32), .ref q25, .ref q37, .ref q49, .ref q61, .ref q73, .ref q85, .ref q97, .int (0 : Int32), .null, .null, .null, .null, .int (0 : Int32), .int (0 : Int32), .int (0 : Int32), .null, .null, .null, .null, .null, .null, .null, .null, .null, .null, .null, .null, .null, .null, .null, .null, .null, .null, .null, .null, .null, .null, .null, .null, .null, .int (0 : Int32), .null, .null, .null, .null, .null, .null, .null, .null, .null, .null, .null, .null, .null, .null, .null, .null, .null, .null, .null, .null, .int (0 : Int32), .null, .null])) := g106
  have g108 := g103.put u107
  refine jr_aload_n hE dX12_init_531 0 rfl ?_
  refine jr_bipush (v := (66 : Int32)) hE dX12_init_532 (by decide) ?_
  refine jr_newa (ty := .int) (g := 1) (N := 66) (a0 := (66, .inl (fun _ => 0))) hE dX12_init_534 (by decide +kernel) rfl rfl (fun _ e => by cases e) (fun _ => rfl) (by decide) (by decide) (by decide) ⟨by decide, by decide⟩ (fun q109 F110 n111 g112 u113 => ?_)
  have g114 := g106.nw n111 u113
  have g115 := g108.nx n111 u113 g112
  refine jr_putF (ty := .array .int) hE dX12_init_536 f140 g114 rfl hinit rfl (by decide +kernel) rfl rfl (Nat.le_of_ble_eq_true rfl) (fun F117 g118 u119 => ?_)
  have g118 : jF ((((((((((L ++ [q1]) ++ [q13]) ++ [q25]) ++ [q37]) ++ [q49]) ++ [q61]) ++ [q73]) ++ [q85]) ++ [q97]) ++ [q109]) F117 o (.inr (12, [.ref (A 0), .ref (A 1), .ref (A 2), .ref (A 3), .ref (A 4), .ref (A 5), .ref (A 6), .ref (A 7), .ref (A 8), .ref (A 9), .int (0 : Int32), .ref (A 10), .ref (A 11), .ref (A 12), .ref q1, .ref q13, .int (0 : Int32), .ref q25, .ref q37, .ref q49, .ref q61, .ref q73, .ref q85, .ref q97, .int (0 : Int32), .ref q109, .null, .null, .null, .int (0 : Int32), .int (0 : Int32), .int (0 : Int32), .null, .null, .null, .null, .null, .null, .null, .null, .null, .null, .null, .null, .null, .null, .null, .null, .null, .null, .null, .null, .null, .null, .null, .null, .null, .int (0 : Int32), .null, .null, .null, .null, .null, .null, .null, .null, .null, .null, .null, .null, .null, .null, .null, .null, .null, .null, .null, .null, .int (0 : Int32), .null, .null])) := g118
  have g120 := g115.put u119
  refine jr_aload_n hE dX12_init_539 0 rfl ?_
  refine jr_bipush (v := (8 : Int32)) hE dX12_init_540 (by decide) ?_
  refine jr_newa (ty := .long) (g := 2) (N := 8) (a0 := (8, .inr (.inl (fun _ => 0)))) hE dX12_init_542 (by decide +kernel) rfl rfl (fun _ e => by cases e) (fun _ => rfl) (by decide) (by decide) (by decide) ⟨by decide, by decide⟩ (fun q121 F122 n123 g124 u125 => ?_)
  have g126 := g118.nw n123 u125
  have g127 := g120.nx n123 u125 g124
  refine jr_putF (ty := .array .long) hE dX12_init_544 f143 g126 rfl hinit rfl (by decide +kernel) rfl rfl (Nat.le_of_ble_eq_true rfl) (fun F129 g130 u131 => ?_)
  have g130 : jF (((((((((((L ++ [q1]) ++ [q13]) ++ [q25]) ++ [q37]) ++ [q49]) ++ [q61]) ++ [q73]) ++ [q85]) ++ [q97]) ++ [q109]) ++ [q121]) F129 o (.inr (12, [.ref (A 0), .ref (A 1), .ref (A 2), .ref (A 3), .ref (A 4), .ref (A 5), .ref (A 6), .ref (A 7), .ref (A 8), .ref (A 9), .int (0 : Int32), .ref (A 10), .ref (A 11), .ref (A 12), .ref q1, .ref q13, .int (0 : Int32), .ref q25, .ref q37, .ref q49, .ref q61, .ref q73, .ref q85, .ref q97, .int (0 : Int32), .ref q109, .ref q121, .null, .null, .int (0 : Int32), .int (0 : Int32), .int (0 : Int32), .null, .null, .null, .null, .null, .null, .null, .null, .null, .null, .null, .null, .null, .null, .null, .null, .null, .null, .null, .null, .null, .null, .null, .null, .null, .int (0 : Int32), .null, .null, .null, .null, .null, .null, .null, .null, .null, .null, .null, .null, .null, .null, .null, .null, .null, .null, .null, .null, .int (0 : Int32), .null, .null])) := g130
  have g132 := g127.put u131
  refine jr_aload_n hE dX12_init_547 0 rfl ?_
  refine jr_bipush (v := (8 : Int32)) hE dX12_init_548 (by decide) ?_
  refine jr_newa (ty := .long) (g := 2) (N := 8) (a0 := (8, .inr (.inl (fun _ => 0)))) hE dX12_init_550 (by decide +kernel) rfl rfl (fun _ e => by cases e) (fun _ => rfl) (by decide) (by decide) (by decide) ⟨by decide, by decide⟩ (fun q133 F134 n135 g136 u137 => ?_)
  have g138 := g130.nw n135 u137
  have g139 := g132.nx n135 u137 g136
  refine jr_putF (ty := .array .long) hE dX12_init_552 f146 g138 rfl hinit rfl (by decide +kernel) rfl rfl (Nat.le_of_ble_eq_true rfl) (fun F141 g142 u143 => ?_)
  have g142 : jF ((((((((((((L ++ [q1]) ++ [q13]) ++ [q25]) ++ [q37]) ++ [q49]) ++ [q61]) ++ [q73]) ++ [q85]) ++ [q97]) ++ [q109]) ++ [q121]) ++ [q133]) F141 o (.inr (12, [.ref (A 0), .ref (A 1), .ref (A 2), .ref (A 3), .ref (A 4), .ref (A 5), .ref (A 6), .ref (A 7), .ref (A 8), .ref (A 9), .int (0 : Int32), .ref (A 10), .ref (A 11), .ref (A 12), .ref q1, .ref q13, .int (0 : Int32), .ref q25, .ref q37, .ref q49, .ref q61, .ref q73, .ref q85, .ref q97, .int (0 : Int32), .ref q109, .ref q121, .ref q133, .null, .int (0 : Int32), .int (0 : Int32), .int (0 : Int32), .null, .null, .null, .null, .null, .null, .null, .null, .null, .null, .null, .null, .null, .null, .null, .null, .null, .null, .null, .null, .null, .null, .null, .null, .null, .int (0 : Int32), .null, .null, .null, .null, .null, .null, .null, .null, .null, .null, .null, .null, .null, .null, .null, .null, .null, .null, .null, .null, .int (0 : Int32), .null, .null])) := g142
  have g144 := g139.put u143
  refine jr_aload_n hE dX12_init_555 0 rfl ?_
  refine jr_bipush (v := (8 : Int32)) hE dX12_init_556 (by decide) ?_
  refine jr_newa (ty := .long) (g := 2) (N := 8) (a0 := (8, .inr (.inl (fun _ => 0)))) hE dX12_init_558 (by decide +kernel) rfl rfl (fun _ e => by cases e) (fun _ => rfl) (by decide) (by decide) (by decide) ⟨by decide, by decide⟩ (fun q145 F146 n147 g148 u149 => ?_)
  have g150 := g142.nw n147 u149
  have g151 := g144.nx n147 u149 g148
  refine jr_putF (ty := .array .long) hE dX12_init_560 f149 g150 rfl hinit rfl (by decide +kernel) rfl rfl (Nat.le_of_ble_eq_true rfl) (fun F153 g154 u155 => ?_)
  have g154 : jF (((((((((((((L ++ [q1]) ++ [q13]) ++ [q25]) ++ [q37]) ++ [q49]) ++ [q61]) ++ [q73]) ++ [q85]) ++ [q97]) ++ [q109]) ++ [q121]) ++ [q133]) ++ [q145]) F153 o (.inr (12, [.ref (A 0), .ref (A 1), .ref (A 2), .ref (A 3), .ref (A 4), .ref (A 5), .ref (A 6), .ref (A 7), .ref (A 8), .ref (A 9), .int (0 : Int32), .ref (A 10), .ref (A 11), .ref (A 12), .ref q1, .ref q13, .int (0 : Int32), .ref q25, .ref q37, .ref q49, .ref q61, .ref q73, .ref q85, .ref q97, .int (0 : Int32), .ref q109, .ref q121, .ref q133, .ref q145, .int (0 : Int32), .int (0 : Int32), .int (0 : Int32), .null, .null, .null, .null, .null, .null, .null, .null, .null, .null, .null, .null, .null, .null, .null, .null, .null, .null, .null, .null, .null, .null, .null, .null, .null, .int (0 : Int32), .null, .null, .null, .null, .null, .null, .null, .null, .null, .null, .null, .null, .null, .null, .null, .null, .null, .null, .null, .null, .int (0 : Int32), .null, .null])) := g154
  have g156 := g151.put u155
  refine jr_aload_n hE dX12_init_563 0 rfl ?_
  refine jr_bipush (v := (18 : Int32)) hE dX12_init_564 (by decide) ?_
  refine jr_newa (ty := .long) (g := 2) (N := 18) (a0 := (18, .inr (.inl (fun _ => 0)))) hE dX12_init_566 (by decide +kernel) rfl rfl (fun _ e => by cases e) (fun _ => rfl) (by decide) (by decide) (by decide) ⟨by decide, by decide⟩ (fun q157 F158 n159 g160 u161 => ?_)
  have g162 := g154.nw n159 u161
  have g163 := g156.nx n159 u161 g160
  refine jr_putF (ty := .array .long) hE dX12_init_568 f152 g162 rfl hinit rfl (by decide +kernel) rfl rfl (Nat.le_of_ble_eq_true rfl) (fun F165 g166 u167 => ?_)
  have g166 : jF ((((((((((((((L ++ [q1]) ++ [q13]) ++ [q25]) ++ [q37]) ++ [q49]) ++ [q61]) ++ [q73]) ++ [q85]) ++ [q97]) ++ [q109]) ++ [q121]) ++ [q133]) ++ [q145]) ++ [q157]) F165 o (.inr (12, [.ref (A 0), .ref (A 1), .ref (A 2), .ref (A 3), .ref (A 4), .ref (A 5), .ref (A 6), .ref (A 7), .ref (A 8), .ref (A 9), .int (0 : Int32), .ref (A 10), .ref (A 11), .ref (A 12), .ref q1, .ref q13, .int (0 : Int32), .ref q25, .ref q37, .ref q49, .ref q61, .ref q73, .ref q85, .ref q97, .int (0 : Int32), .ref q109, .ref q121, .ref q133, .ref q145, .int (0 : Int32), .int (0 : Int32), .int (0 : Int32), .ref q157, .null, .null, .null, .null, .null, .null, .null, .null, .null, .null, .null, .null, .null, .null, .null, .null, .null, .null, .null, .null, .null, .null, .null, .null, .int (0 : Int32), .null, .null, .null, .null, .null, .null, .null, .null, .null, .null, .null, .null, .null, .null, .null, .null, .null, .null, .null, .null, .int (0 : Int32), .null, .null])) := g166
  have g168 := g163.put u167
  refine jr_aload_n hE dX12_init_571 0 rfl ?_
  refine jr_bipush (v := (18 : Int32)) hE dX12_init_572 (by decide) ?_
  refine jr_newa (ty := .long) (g := 2) (N := 18) (a0 := (18, .inr (.inl (fun _ => 0)))) hE dX12_init_574 (by decide +kernel) rfl rfl (fun _ e => by cases e) (fun _ => rfl) (by decide) (by decide) (by decide) ⟨by decide, by decide⟩ (fun q169 F170 n171 g172 u173 => ?_)
  have g174 := g166.nw n171 u173
  have g175 := g168.nx n171 u173 g172
  refine jr_putF (ty := .array .long) hE dX12_init_576 f155 g174 rfl hinit rfl (by decide +kernel) rfl rfl (Nat.le_of_ble_eq_true rfl) (fun F177 g178 u179 => ?_)
  have g178 : jF (((((((((((((((L ++ [q1]) ++ [q13]) ++ [q25]) ++ [q37]) ++ [q49]) ++ [q61]) ++ [q73]) ++ [q85]) ++ [q97]) ++ [q109]) ++ [q121]) ++ [q133]) ++ [q145]) ++ [q157]) ++ [q169]) F177 o (.inr (12, [.ref (A 0), .ref (A 1), .ref (A 2), .ref (A 3), .ref (A 4), .ref (A 5), .ref (A 6), .ref (A 7), .ref (A 8), .ref (A 9), .int (0 : Int32), .ref (A 10), .ref (A 11), .ref (A 12), .ref q1, .ref q13, .int (0 : Int32), .ref q25, .ref q37, .ref q49, .ref q61, .ref q73, .ref q85, .ref q97, .int (0 : Int32), .ref q109, .ref q121, .ref q133, .ref q145, .int (0 : Int32), .int (0 : Int32), .int (0 : Int32), .ref q157, .ref q169, .null, .null, .null, .null, .null, .null, .null, .null, .null, .null, .null, .null, .null, .null, .null, .null, .null, .null, .null, .null, .null, .null, .null, .int (0 : Int32), .null, .null, .null, .null, .null, .null, .null, .null, .null, .null, .null, .null, .null, .null, .null, .null, .null, .null, .null, .null, .int (0 : Int32), .null, .null])) := g178
  have g180 := g175.put u179
  refine jr_aload_n hE dX12_init_579 0 rfl ?_
  refine jr_bipush (v := (8 : Int32)) hE dX12_init_580 (by decide) ?_
  refine jr_newa (ty := .long) (g := 2) (N := 8) (a0 := (8, .inr (.inl (fun _ => 0)))) hE dX12_init_582 (by decide +kernel) rfl rfl (fun _ e => by cases e) (fun _ => rfl) (by decide) (by decide) (by decide) ⟨by decide, by decide⟩ (fun q181 F182 n183 g184 u185 => ?_)
  have g186 := g178.nw n183 u185
  have g187 := g180.nx n183 u185 g184
  refine jr_putF (ty := .array .long) hE dX12_init_584 f158 g186 rfl hinit rfl (by decide +kernel) rfl rfl (Nat.le_of_ble_eq_true rfl) (fun F189 g190 u191 => ?_)
  have g190 : jF ((((((((((((((((L ++ [q1]) ++ [q13]) ++ [q25]) ++ [q37]) ++ [q49]) ++ [q61]) ++ [q73]) ++ [q85]) ++ [q97]) ++ [q109]) ++ [q121]) ++ [q133]) ++ [q145]) ++ [q157]) ++ [q169]) ++ [q181]) F189 o (.inr (12, [.ref (A 0), .ref (A 1), .ref (A 2), .ref (A 3), .ref (A 4), .ref (A 5), .ref (A 6), .ref (A 7), .ref (A 8), .ref (A 9), .int (0 : Int32), .ref (A 10), .ref (A 11), .ref (A 12), .ref q1, .ref q13, .int (0 : Int32), .ref q25, .ref q37, .ref q49, .ref q61, .ref q73, .ref q85, .ref q97, .int (0 : Int32), .ref q109, .ref q121, .ref q133, .ref q145, .int (0 : Int32), .int (0 : Int32), .int (0 : Int32), .ref q157, .ref q169, .ref q181, .null, .null, .null, .null, .null, .null, .null, .null, .null, .null, .null, .null, .null, .null, .null, .null, .null, .null, .null, .null, .null, .null, .int (0 : Int32), .null, .null, .null, .null, .null, .null, .null, .null, .null, .null, .null, .null, .null, .null, .null, .null, .null, .null, .null, .null, .int (0 : Int32), .null, .null])) := g190
  have g192 := g187.put u191
  refine jr_aload_n hE dX12_init_587 0 rfl ?_
  refine jr_bipush (v := (8 : Int32)) hE dX12_init_588 (by decide) ?_
  refine jr_newa (ty := .long) (g := 2) (N := 8) (a0 := (8, .inr (.inl (fun _ => 0)))) hE dX12_init_590 (by decide +kernel) rfl rfl (fun _ e => by cases e) (fun _ => rfl) (by decide) (by decide) (by decide) ⟨by decide, by decide⟩ (fun q193 F194 n195 g196 u197 => ?_)
  have g198 := g190.nw n195 u197
  have g199 := g192.nx n195 u197 g196
  refine jr_putF (ty := .array .long) hE dX12_init_592 f161 g198 rfl hinit rfl (by decide +kernel) rfl rfl (Nat.le_of_ble_eq_true rfl) (fun F201 g202 u203 => ?_)
  have g202 : jF (((((((((((((((((L ++ [q1]) ++ [q13]) ++ [q25]) ++ [q37]) ++ [q49]) ++ [q61]) ++ [q73]) ++ [q85]) ++ [q97]) ++ [q109]) ++ [q121]) ++ [q133]) ++ [q145]) ++ [q157]) ++ [q169]) ++ [q181]) ++ [q193]) F201 o (.inr (12, [.ref (A 0), .ref (A 1), .ref (A 2), .ref (A 3), .ref (A 4), .ref (A 5), .ref (A 6), .ref (A 7), .ref (A 8), .ref (A 9), .int (0 : Int32), .ref (A 10), .ref (A 11), .ref (A 12), .ref q1, .ref q13, .int (0 : Int32), .ref q25, .ref q37, .ref q49, .ref q61, .ref q73, .ref q85, .ref q97, .int (0 : Int32), .ref q109, .ref q121, .ref q133, .ref q145, .int (0 : Int32), .int (0 : Int32), .int (0 : Int32), .ref q157, .ref q169, .ref q181, .ref q193, .null, .null, .null, .null, .null, .null, .null, .null, .null, .null, .null, .null, .null, .null, .null, .null, .null, .null, .null, .null, .null, .int (0 : Int32), .null, .null, .null, .null, .null, .null, .null, .null, .null, .null, .null, .null, .null, .null, .null, .null, .null, .null, .null, .null, .int (0 : Int32), .null, .null])) := g202
  have g204 := g199.put u203
  refine jr_aload_n hE dX12_init_595 0 rfl ?_
  refine jr_bipush (v := (8 : Int32)) hE dX12_init_596 (by decide) ?_
  refine jr_newa (ty := .long) (g := 2) (N := 8) (a0 := (8, .inr (.inl (fun _ => 0)))) hE dX12_init_598 (by decide +kernel) rfl rfl (fun _ e => by cases e) (fun _ => rfl) (by decide) (by decide) (by decide) ⟨by decide, by decide⟩ (fun q205 F206 n207 g208 u209 => ?_)
  have g210 := g202.nw n207 u209
  have g211 := g204.nx n207 u209 g208
  refine jr_putF (ty := .array .long) hE dX12_init_600 f164 g210 rfl hinit rfl (by decide +kernel) rfl rfl (Nat.le_of_ble_eq_true rfl) (fun F213 g214 u215 => ?_)
  have g214 : jF ((((((((((((((((((L ++ [q1]) ++ [q13]) ++ [q25]) ++ [q37]) ++ [q49]) ++ [q61]) ++ [q73]) ++ [q85]) ++ [q97]) ++ [q109]) ++ [q121]) ++ [q133]) ++ [q145]) ++ [q157]) ++ [q169]) ++ [q181]) ++ [q193]) ++ [q205]) F213 o (.inr (12, [.ref (A 0), .ref (A 1), .ref (A 2), .ref (A 3), .ref (A 4), .ref (A 5), .ref (A 6), .ref (A 7), .ref (A 8), .ref (A 9), .int (0 : Int32), .ref (A 10), .ref (A 11), .ref (A 12), .ref q1, .ref q13, .int (0 : Int32), .ref q25, .ref q37, .ref q49, .ref q61, .ref q73, .ref q85, .ref q97, .int (0 : Int32), .ref q109, .ref q121, .ref q133, .ref q145, .int (0 : Int32), .int (0 : Int32), .int (0 : Int32), .ref q157, .ref q169, .ref q181, .ref q193, .ref q205, .null, .null, .null, .null, .null, .null, .null, .null, .null, .null, .null, .null, .null, .null, .null, .null, .null, .null, .null, .null, .int (0 : Int32), .null, .null, .null, .null, .null, .null, .null, .null, .null, .null, .null, .null, .null, .null, .null, .null, .null, .null, .null, .null, .int (0 : Int32), .null, .null])) := g214
  have g216 := g211.put u215
  refine jr_aload_n hE dX12_init_603 0 rfl ?_
  refine jr_bipush (v := (8 : Int32)) hE dX12_init_604 (by decide) ?_
  refine jr_newa (ty := .long) (g := 2) (N := 8) (a0 := (8, .inr (.inl (fun _ => 0)))) hE dX12_init_606 (by decide +kernel) rfl rfl (fun _ e => by cases e) (fun _ => rfl) (by decide) (by decide) (by decide) ⟨by decide, by decide⟩ (fun q217 F218 n219 g220 u221 => ?_)
  have g222 := g214.nw n219 u221
  have g223 := g216.nx n219 u221 g220
  refine jr_putF (ty := .array .long) hE dX12_init_608 f167 g222 rfl hinit rfl (by decide +kernel) rfl rfl (Nat.le_of_ble_eq_true rfl) (fun F225 g226 u227 => ?_)
  have g226 : jF (((((((((((((((((((L ++ [q1]) ++ [q13]) ++ [q25]) ++ [q37]) ++ [q49]) ++ [q61]) ++ [q73]) ++ [q85]) ++ [q97]) ++ [q109]) ++ [q121]) ++ [q133]) ++ [q145]) ++ [q157]) ++ [q169]) ++ [q181]) ++ [q193]) ++ [q205]) ++ [q217]) F225 o (.inr (12, [.ref (A 0), .ref (A 1), .ref (A 2), .ref (A 3), .ref (A 4), .ref (A 5), .ref (A 6), .ref (A 7), .ref (A 8), .ref (A 9), .int (0 : Int32), .ref (A 10), .ref (A 11), .ref (A 12), .ref q1, .ref q13, .int (0 : Int32), .ref q25, .ref q37, .ref q49, .ref q61, .ref q73, .ref q85, .ref q97, .int (0 : Int32), .ref q109, .ref q121, .ref q133, .ref q145, .int (0 : Int32), .int (0 : Int32), .int (0 : Int32), .ref q157, .ref q169, .ref q181, .ref q193, .ref q205, .ref q217, .null, .null, .null, .null, .null, .null, .null, .null, .null, .null, .null, .null, .null, .null, .null, .null, .null, .null, .null, .int (0 : Int32), .null, .null, .null, .null, .null, .null, .null, .null, .null, .null, .null, .null, .null, .null, .null, .null, .null, .null, .null, .null, .int (0 : Int32), .null, .null])) := g226
  have g228 := g223.put u227
  refine jr_aload_n hE dX12_init_611 0 rfl ?_
  refine jr_bipush (v := (8 : Int32)) hE dX12_init_612 (by decide) ?_
  refine jr_newa (ty := .long) (g := 2) (N := 8) (a0 := (8, .inr (.inl (fun _ => 0)))) hE dX12_init_614 (by decide +kernel) rfl rfl (fun _ e => by cases e) (fun _ => rfl) (by decide) (by decide) (by decide) ⟨by decide, by decide⟩ (fun q229 F230 n231 g232 u233 => ?_)
  have g234 := g226.nw n231 u233
  have g235 := g228.nx n231 u233 g232
  refine jr_putF (ty := .array .long) hE dX12_init_616 f170 g234 rfl hinit rfl (by decide +kernel) rfl rfl (Nat.le_of_ble_eq_true rfl) (fun F237 g238 u239 => ?_)
  have g238 : jF ((((((((((((((((((((L ++ [q1]) ++ [q13]) ++ [q25]) ++ [q37]) ++ [q49]) ++ [q61]) ++ [q73]) ++ [q85]) ++ [q97]) ++ [q109]) ++ [q121]) ++ [q133]) ++ [q145]) ++ [q157]) ++ [q169]) ++ [q181]) ++ [q193]) ++ [q205]) ++ [q217]) ++ [q229]) F237 o (.inr (12, [.ref (A 0), .ref (A 1), .ref (A 2), .ref (A 3), .ref (A 4), .ref (A 5), .ref (A 6), .ref (A 7), .ref (A 8), .ref (A 9), .int (0 : Int32), .ref (A 10), .ref (A 11), .ref (A 12), .ref q1, .ref q13, .int (0 : Int32), .ref q25, .ref q37, .ref q49, .ref q61, .ref q73, .ref q85, .ref q97, .int (0 : Int32), .ref q109, .ref q121, .ref q133, .ref q145, .int (0 : Int32), .int (0 : Int32), .int (0 : Int32), .ref q157, .ref q169, .ref q181, .ref q193, .ref q205, .ref q217, .ref q229, .null, .null, .null, .null, .null, .null, .null, .null, .null, .null, .null, .null, .null, .null, .null, .null, .null, .null, .int (0 : Int32), .null, .null, .null, .null, .null, .null, .null, .null, .null, .null, .null, .null, .null, .null, .null, .null, .null, .null, .null, .null, .int (0 : Int32), .null, .null])) := g238
  have g240 := g235.put u239
  refine jr_aload_n hE dX12_init_619 0 rfl ?_
  refine jr_bipush (v := (8 : Int32)) hE dX12_init_620 (by decide) ?_
  refine jr_newa (ty := .long) (g := 2) (N := 8) (a0 := (8, .inr (.inl (fun _ => 0)))) hE dX12_init_622 (by decide +kernel) rfl rfl (fun _ e => by cases e) (fun _ => rfl) (by decide) (by decide) (by decide) ⟨by decide, by decide⟩ (fun q241 F242 n243 g244 u245 => ?_)
  have g246 := g238.nw n243 u245
  have g247 := g240.nx n243 u245 g244
  refine jr_putF (ty := .array .long) hE dX12_init_624 f173 g246 rfl hinit rfl (by decide +kernel) rfl rfl (Nat.le_of_ble_eq_true rfl) (fun F249 g250 u251 => ?_)
  have g250 : jF (((((((((((((((((((((L ++ [q1]) ++ [q13]) ++ [q25]) ++ [q37]) ++ [q49]) ++ [q61]) ++ [q73]) ++ [q85]) ++ [q97]) ++ [q109]) ++ [q121]) ++ [q133]) ++ [q145]) ++ [q157]) ++ [q169]) ++ [q181]) ++ [q193]) ++ [q205]) ++ [q217]) ++ [q229]) ++ [q241]) F249 o (.inr (12, [.ref (A 0), .ref (A 1), .ref (A 2), .ref (A 3), .ref (A 4), .ref (A 5), .ref (A 6), .ref (A 7), .ref (A 8), .ref (A 9), .int (0 : Int32), .ref (A 10), .ref (A 11), .ref (A 12), .ref q1, .ref q13, .int (0 : Int32), .ref q25, .ref q37, .ref q49, .ref q61, .ref q73, .ref q85, .ref q97, .int (0 : Int32), .ref q109, .ref q121, .ref q133, .ref q145, .int (0 : Int32), .int (0 : Int32), .int (0 : Int32), .ref q157, .ref q169, .ref q181, .ref q193, .ref q205, .ref q217, .ref q229, .ref q241, .null, .null, .null, .null, .null, .null, .null, .null, .null, .null, .null, .null, .null, .null, .null, .null, .null, .int (0 : Int32), .null, .null, .null, .null, .null, .null, .null, .null, .null, .null, .null, .null, .null, .null, .null, .null, .null, .null, .null, .null, .int (0 : Int32), .null, .null])) := g250
  have g252 := g247.put u251
  refine jr_aload_n hE dX12_init_627 0 rfl ?_
  refine jr_bipush (v := (8 : Int32)) hE dX12_init_628 (by decide) ?_
  refine jr_newa (ty := .long) (g := 2) (N := 8) (a0 := (8, .inr (.inl (fun _ => 0)))) hE dX12_init_630 (by decide +kernel) rfl rfl (fun _ e => by cases e) (fun _ => rfl) (by decide) (by decide) (by decide) ⟨by decide, by decide⟩ (fun q253 F254 n255 g256 u257 => ?_)
  have g258 := g250.nw n255 u257
  have g259 := g252.nx n255 u257 g256
  refine jr_putF (ty := .array .long) hE dX12_init_632 f176 g258 rfl hinit rfl (by decide +kernel) rfl rfl (Nat.le_of_ble_eq_true rfl) (fun F261 g262 u263 => ?_)
  have g262 : jF ((((((((((((((((((((((L ++ [q1]) ++ [q13]) ++ [q25]) ++ [q37]) ++ [q49]) ++ [q61]) ++ [q73]) ++ [q85]) ++ [q97]) ++ [q109]) ++ [q121]) ++ [q133]) ++ [q145]) ++ [q157]) ++ [q169]) ++ [q181]) ++ [q193]) ++ [q205]) ++ [q217]) ++ [q229]) ++ [q241]) ++ [q253]) F261 o (.inr (12, [.ref (A 0), .ref (A 1), .ref (A 2), .ref (A 3), .ref (A 4), .ref (A 5), .ref (A 6), .ref (A 7), .ref (A 8), .ref (A 9), .int (0 : Int32), .ref (A 10), .ref (A 11), .ref (A 12), .ref q1, .ref q13, .int (0 : Int32), .ref q25, .ref q37, .ref q49, .ref q61, .ref q73, .ref q85, .ref q97, .int (0 : Int32), .ref q109, .ref q121, .ref q133, .ref q145, .int (0 : Int32), .int (0 : Int32), .int (0 : Int32), .ref q157, .ref q169, .ref q181, .ref q193, .ref q205, .ref q217, .ref q229, .ref q241, .ref q253, .null, .null, .null, .null, .null, .null, .null, .null, .null, .null, .null, .null, .null, .null, .null, .null, .int (0 : Int32), .null, .null, .null, .null, .null, .null, .null, .null, .null, .null, .null, .null, .null, .null, .null, .null, .null, .null, .null, .null, .int (0 : Int32), .null, .null])) := g262
  have g264 := g259.put u263
  refine jr_aload_n hE dX12_init_635 0 rfl ?_
  refine jr_bipush (v := (8 : Int32)) hE dX12_init_636 (by decide) ?_
  refine jr_newa (ty := .long) (g := 2) (N := 8) (a0 := (8, .inr (.inl (fun _ => 0)))) hE dX12_init_638 (by decide +kernel) rfl rfl (fun _ e => by cases e) (fun _ => rfl) (by decide) (by decide) (by decide) ⟨by decide, by decide⟩ (fun q265 F266 n267 g268 u269 => ?_)
  have g270 := g262.nw n267 u269
  have g271 := g264.nx n267 u269 g268
  refine jr_putF (ty := .array .long) hE dX12_init_640 f179 g270 rfl hinit rfl (by decide +kernel) rfl rfl (Nat.le_of_ble_eq_true rfl) (fun F273 g274 u275 => ?_)
  have g274 : jF (((((((((((((((((((((((L ++ [q1]) ++ [q13]) ++ [q25]) ++ [q37]) ++ [q49]) ++ [q61]) ++ [q73]) ++ [q85]) ++ [q97]) ++ [q109]) ++ [q121]) ++ [q133]) ++ [q145]) ++ [q157]) ++ [q169]) ++ [q181]) ++ [q193]) ++ [q205]) ++ [q217]) ++ [q229]) ++ [q241]) ++ [q253]) ++ [q265]) F273 o (.inr (12, [.ref (A 0), .ref (A 1), .ref (A 2), .ref (A 3), .ref (A 4), .ref (A 5), .ref (A 6), .ref (A 7), .ref (A 8), .ref (A 9), .int (0 : Int32), .ref (A 10), .ref (A 11), .ref (A 12), .ref q1, .ref q13, .int (0 : Int32), .ref q25, .ref q37, .ref q49, .ref q61, .ref q73, .ref q85, .ref q97, .int (0 : Int32), .ref q109, .ref q121, .ref q133, .ref q145, .int (0 : Int32), .int (0 : Int32), .int (0 : Int32), .ref q157, .ref q169, .ref q181, .ref q193, .ref q205, .ref q217, .ref q229, .ref q241, .ref q253, .ref q265, .null, .null, .null, .null, .null, .null, .null, .null, .null, .null, .null, .null, .null, .null, .null, .int (0 : Int32), .null, .null, .null, .null, .null, .null, .null, .null, .null, .null, .null, .null, .null, .null, .null, .null, .null, .null, .null, .null, .int (0 : Int32), .null, .null])) := g274
  have g276 := g271.put u275
  exact kk _ _ _ g276 g274
set_option maxHeartbeats 4000000 in
set_option maxRecDepth 100000 in
theorem i12_4 {E : jE} {G : Nat → ClassId} (hE : jOk E G ({ frames := 1, cells := 73, slots := 4867, locals := 20 }) cX12_init 1 RX12 wsX12_init) (hinit : jIn E) {L0 L : List Nat} {F0 F : Nat → va_E} {o : Nat} {A : Nat → Nat} (g : gS L0 F0 o 36 A (tX12 G) L F) (ho : jF L F o (.inr (12, [.ref (A 0), .ref (A 1), .ref (A 2), .ref (A 3), .ref (A 4), .ref (A 5), .ref (A 6), .ref (A 7), .ref (A 8), .ref (A 9), .int (0 : Int32), .ref (A 10), .ref (A 11), .ref (A 12), .ref (A 13), .ref (A 14), .int (0 : Int32), .ref (A 15), .ref (A 16), .ref (A 17), .ref (A 18), .ref (A 19), .ref (A 20), .ref (A 21), .int (0 : Int32), .ref (A 22), .ref (A 23), .ref (A 24), .ref (A 25), .int (0 : Int32), .int (0 : Int32), .int (0 : Int32), .ref (A 26), .ref (A 27), .ref (A 28), .ref (A 29), .ref (A 30), .ref (A 31), .ref (A 32), .ref (A 33), .ref (A 34), .ref (A 35), .null, .null, .null, .null, .null, .null, .null, .null, .null, .null, .null, .null, .null, .null, .null, .int (0 : Int32), .null, .null, .null, .null, .null, .null, .null, .null, .null, .null, .null, .null, .null, .null, .null, .null, .null, .null, .null, .null, .int (0 : Int32), .null, .null]))) (kk : ∀ (A1 : Nat → Nat) (L1 : List Nat) (F1 : Nat → va_E), (gS L0 F0 o 45 A1 (tX12 G) L1 F1) → (jF L1 F1 o (.inr (12, [.ref (A1 0), .ref (A1 1), .ref (A1 2), .ref (A1 3), .ref (A1 4), .ref (A1 5), .ref (A1 6), .ref (A1 7), .ref (A1 8), .ref (A1 9), .int (0 : Int32), .ref (A1 10), .ref (A1 11), .ref (A1 12), .ref (A1 13), .ref (A1 14), .int (0 : Int32), .ref (A1 15), .ref (A1 16), .ref (A1 17), .ref (A1 18), .ref (A1 19), .ref (A1 20), .ref (A1 21), .int (0 : Int32), .ref (A1 22), .ref (A1 23), .ref (A1 24), .ref (A1 25), .int (0 : Int32), .int (0 : Int32), .int (0 : Int32), .ref (A1 26), .ref (A1 27), .ref (A1 28), .ref (A1 29), .ref (A1 30), .ref (A1 31), .ref (A1 32), .ref (A1 33), .ref (A1 34), .ref (A1 35), .ref (A1 36), .ref (A1 37), .ref (A1 38), .ref (A1 39), .ref (A1 40), .ref (A1 41), .ref (A1 42), .ref (A1 43), .ref (A1 44), .null, .null, .null, .null, .null, .null, .int (0 : Int32), .null, .null, .null, .null, .null, .null, .null, .null, .null, .null, .null, .null, .null, .null, .null, .null, .null, .null, .null, .null, .int (0 : Int32), .null, .null]))) → J E L1 F1 45 3221 798 [(0, .ref o)] []) : J E L F 36 3148 643 [(0, .ref o)] [] := by
  have f182 : jFl RX12 wsX12_init 182 12 42 := ⟨rfl, by decide, by decide +kernel, by decide +kernel⟩
  have f185 : jFl RX12 wsX12_init 185 12 43 := ⟨rfl, by decide, by decide +kernel, by decide +kernel⟩
  have f188 : jFl RX12 wsX12_init 188 12 44 := ⟨rfl, by decide, by decide +kernel, by decide +kernel⟩
  have f191 : jFl RX12 wsX12_init 191 12 45 := ⟨rfl, by decide, by decide +kernel, by decide +kernel⟩
  have f194 : jFl RX12 wsX12_init 194 12 46 := ⟨rfl, by decide, by decide +kernel, by decide +kernel⟩
  have f197 : jFl RX12 wsX12_init 197 12 47 := ⟨rfl, by decide, by decide +kernel, by decide +kernel⟩
  have f202 : jFl RX12 wsX12_init 202 12 48 := ⟨rfl, by decide, by decide +kernel, by decide +kernel⟩
  have f205 : jFl RX12 wsX12_init 205 12 49 := ⟨rfl, by decide, by decide +kernel, by decide +kernel⟩
  have f208 : jFl RX12 wsX12_init 208 12 50 := ⟨rfl, by decide, by decide +kernel, by decide +kernel⟩
  refine jr_aload_n hE dX12_init_643 0 rfl ?_
  refine jr_bipush (v := (8 : Int32)) hE dX12_init_644 (by decide) ?_
  refine jr_newa (ty := .long) (g := 2) (N := 8) (a0 := (8, .inr (.inl (fun _ => 0)))) hE dX12_init_646 (by decide +kernel) rfl rfl (fun _ e => by cases e) (fun _ => rfl) (by decide) (by decide) (by decide) ⟨by decide, by decide⟩ (fun q1 F2 n3 g4 u5 => ?_)
  have g6 := ho.nw n3 u5
  have g7 := g.nx n3 u5 g4
  refine jr_putF (ty := .array .long) hE dX12_init_648 f182 g6 rfl hinit rfl (by decide +kernel) rfl rfl (Nat.le_of_ble_eq_true rfl) (fun F9 g10 u11 => ?_)
  have g10 : jF (L ++ [q1]) F9 o (.inr (12, [.ref (A 0), .ref (A 1), .ref (A 2), .ref (A 3), .ref (A 4), .ref (A 5), .ref (A 6), .ref (A 7), .ref (A 8), .ref (A 9), .int (0 : Int32), .ref (A 10), .ref (A 11), .ref (A 12), .ref (A 13), .ref (A 14), .int (0 : Int32), .ref (A 15), .ref (A 16), .ref (A 17), .ref (A 18), .ref (A 19), .ref (A 20), .ref (A 21), .int (0 : Int32), .ref (A 22), .ref (A 23), .ref (A 24), .ref (A 25), .int (0 : Int32), .int (0 : Int32), .int (0 : Int32), .ref (A 26), .ref (A 27), .ref (A 28), .ref (A 29), .ref (A 30), .ref (A 31), .ref (A 32), .ref (A 33), .ref (A 34), .ref (A 35), .ref q1, .null, .null, .null, .null, .null, .null, .null, .null, .null, .null, .null, .null, .null, .null, .int (0 : Int32), .null, .null, .null, .null, .null, .null, .null, .null, .null, .null, .null, .null, .null, .null, .null, .null, .null, .null, .null, .null, .int (0 : Int32), .null, .null])) := g10
  have g12 := g7.put u11
  refine jr_aload_n hE dX12_init_651 0 rfl ?_
  refine jr_bipush (v := (8 : Int32)) hE dX12_init_652 (by decide) ?_
  refine jr_newa (ty := .long) (g := 2) (N := 8) (a0 := (8, .inr (.inl (fun _ => 0)))) hE dX12_init_654 (by decide +kernel) rfl rfl (fun _ e => by cases e) (fun _ => rfl) (by decide) (by decide) (by decide) ⟨by decide, by decide⟩ (fun q13 F14 n15 g16 u17 => ?_)
  have g18 := g10.nw n15 u17
  have g19 := g12.nx n15 u17 g16
  refine jr_putF (ty := .array .long) hE dX12_init_656 f185 g18 rfl hinit rfl (by decide +kernel) rfl rfl (Nat.le_of_ble_eq_true rfl) (fun F21 g22 u23 => ?_)
  have g22 : jF ((L ++ [q1]) ++ [q13]) F21 o (.inr (12, [.ref (A 0), .ref (A 1), .ref (A 2), .ref (A 3), .ref (A 4), .ref (A 5), .ref (A 6), .ref (A 7), .ref (A 8), .ref (A 9), .int (0 : Int32), .ref (A 10), .ref (A 11), .ref (A 12), .ref (A 13), .ref (A 14), .int (0 : Int32), .ref (A 15), .ref (A 16), .ref (A 17), .ref (A 18), .ref (A 19), .ref (A 20), .ref (A 21), .int (0 : Int32), .ref (A 22), .ref (A 23), .ref (A 24), .ref (A 25), .int (0 : Int32), .int (0 : Int32), .int (0 : Int32), .ref (A 26), .ref (A 27), .ref (A 28), .ref (A 29), .ref (A 30), .ref (A 31), .ref (A 32), .ref (A 33), .ref (A 34), .ref (A 35), .ref q1, .ref q13, .null, .null, .null, .null, .null, .null, .null, .null, .null, .null, .null, .null, .null, .int (0 : Int32), .null, .null, .null, .null, .null, .null, .null, .null, .null, .null, .null, .null, .null, .null, .null, .null, .null, .null, .null, .null, .int (0 : Int32), .null, .null])) := g22
  have g24 := g19.put u23
  refine jr_aload_n hE dX12_init_659 0 rfl ?_
  refine jr_bipush (v := (8 : Int32)) hE dX12_init_660 (by decide) ?_
  refine jr_newa (ty := .long) (g := 2) (N := 8) (a0 := (8, .inr (.inl (fun _ => 0)))) hE dX12_init_662 (by decide +kernel) rfl rfl (fun _ e => by cases e) (fun _ => rfl) (by decide) (by decide) (by decide) ⟨by decide, by decide⟩ (fun q25 F26 n27 g28 u29 => ?_)
  have g30 := g22.nw n27 u29
  have g31 := g24.nx n27 u29 g28
  refine jr_putF (ty := .array .long) hE dX12_init_664 f188 g30 rfl hinit rfl (by decide +kernel) rfl rfl (Nat.le_of_ble_eq_true rfl) (fun F33 g34 u35 => ?_)
  have g34 : jF (((L ++ [q1]) ++ [q13]) ++ [q25]) F33 o (.inr (12, [.ref (A 0), .ref (A 1), .ref (A 2), .ref (A 3), .ref (A 4), .ref (A 5), .ref (A 6), .ref (A 7), .ref (A 8), .ref (A 9), .int (0 : Int32), .ref (A 10), .ref (A 11), .ref (A 12), .ref (A 13), .ref (A 14), .int (0 : Int32), .ref (A 15), .ref (A 16), .ref (A 17), .ref (A 18), .ref (A 19), .ref (A 20), .ref (A 21), .int (0 : Int32), .ref (A 22), .ref (A 23), .ref (A 24), .ref (A 25), .int (0 : Int32), .int (0 : Int32), .int (0 : Int32), .ref (A 26), .ref (A 27), .ref (A 28), .ref (A 29), .ref (A 30), .ref (A 31), .ref (A 32), .ref (A 33), .ref (A 34), .ref (A 35), .ref q1, .ref q13, .ref q25, .null, .null, .null, .null, .null, .null, .null, .null, .null, .null, .null, .null, .int (0 : Int32), .null, .null, .null, .null, .null, .null, .null, .null, .null, .null, .null, .null, .null, .null, .null, .null, .null, .null, .null, .null, .int (0 : Int32), .null, .null])) := g34
  have g36 := g31.put u35
  refine jr_aload_n hE dX12_init_667 0 rfl ?_
  refine jr_bipush (v := (8 : Int32)) hE dX12_init_668 (by decide) ?_
  refine jr_newa (ty := .long) (g := 2) (N := 8) (a0 := (8, .inr (.inl (fun _ => 0)))) hE dX12_init_670 (by decide +kernel) rfl rfl (fun _ e => by cases e) (fun _ => rfl) (by decide) (by decide) (by decide) ⟨by decide, by decide⟩ (fun q37 F38 n39 g40 u41 => ?_)
  have g42 := g34.nw n39 u41
  have g43 := g36.nx n39 u41 g40
  refine jr_putF (ty := .array .long) hE dX12_init_672 f191 g42 rfl hinit rfl (by decide +kernel) rfl rfl (Nat.le_of_ble_eq_true rfl) (fun F45 g46 u47 => ?_)
  have g46 : jF ((((L ++ [q1]) ++ [q13]) ++ [q25]) ++ [q37]) F45 o (.inr (12, [.ref (A 0), .ref (A 1), .ref (A 2), .ref (A 3), .ref (A 4), .ref (A 5), .ref (A 6), .ref (A 7), .ref (A 8), .ref (A 9), .int (0 : Int32), .ref (A 10), .ref (A 11), .ref (A 12), .ref (A 13), .ref (A 14), .int (0 : Int32), .ref (A 15), .ref (A 16), .ref (A 17), .ref (A 18), .ref (A 19), .ref (A 20), .ref (A 21), .int (0 : Int32), .ref (A 22), .ref (A 23), .ref (A 24), .ref (A 25), .int (0 : Int32), .int (0 : Int32), .int (0 : Int32), .ref (A 26), .ref (A 27), .ref (A 28), .ref (A 29), .ref (A 30), .ref (A 31), .ref (A 32), .ref (A 33), .ref (A 34), .ref (A 35), .ref q1, .ref q13, .ref q25, .ref q37, .null, .null, .null, .null, .null, .null, .null, .null, .null, .null, .null, .int (0 : Int32), .null, .null, .null, .null, .null, .null, .null, .null, .null, .null, .null, .null, .null, .null, .null, .null, .null, .null, .null, .null, .int (0 : Int32), .null, .null])) := g46
  have g48 := g43.put u47
  refine jr_aload_n hE dX12_init_675 0 rfl ?_
  refine jr_bipush (v := (8 : Int32)) hE dX12_init_676 (by decide) ?_
  refine jr_newa (ty := .long) (g := 2) (N := 8) (a0 := (8, .inr (.inl (fun _ => 0)))) hE dX12_init_678 (by decide +kernel) rfl rfl (fun _ e => by cases e) (fun _ => rfl) (by decide) (by decide) (by decide) ⟨by decide, by decide⟩ (fun q49 F50 n51 g52 u53 => ?_)
  have g54 := g46.nw n51 u53
  have g55 := g48.nx n51 u53 g52
  refine jr_putF (ty := .array .long) hE dX12_init_680 f194 g54 rfl hinit rfl (by decide +kernel) rfl rfl (Nat.le_of_ble_eq_true rfl) (fun F57 g58 u59 => ?_)
  have g58 : jF (((((L ++ [q1]) ++ [q13]) ++ [q25]) ++ [q37]) ++ [q49]) F57 o (.inr (12, [.ref (A 0), .ref (A 1), .ref (A 2), .ref (A 3), .ref (A 4), .ref (A 5), .ref (A 6), .ref (A 7), .ref (A 8), .ref (A 9), .int (0 : Int32), .ref (A 10), .ref (A 11), .ref (A 12), .ref (A 13), .ref (A 14), .int (0 : Int32), .ref (A 15), .ref (A 16), .ref (A 17), .ref (A 18), .ref (A 19), .ref (A 20), .ref (A 21), .int (0 : Int32), .ref (A 22), .ref (A 23), .ref (A 24), .ref (A 25), .int (0 : Int32), .int (0 : Int32), .int (0 : Int32), .ref (A 26), .ref (A 27), .ref (A 28), .ref (A 29), .ref (A 30), .ref (A 31), .ref (A 32), .ref (A 33), .ref (A 34), .ref (A 35), .ref q1, .ref q13, .ref q25, .ref q37, .ref q49, .null, .null, .null, .null, .null, .null, .null, .null, .null, .null, .int (0 : Int32), .null, .null, .null, .null, .null, .null, .null, .null, .null, .null, .null, .null, .null, .null, .null, .null, .null, .null, .null, .null, .int (0 : Int32), .null, .null])) := g58
  have g60 := g55.put u59
  refine jr_aload_n hE dX12_init_683 0 rfl ?_
  refine jr_bipush (v := (8 : Int32)) hE dX12_init_684 (by decide) ?_
  refine jr_newa (ty := .long) (g := 2) (N := 8) (a0 := (8, .inr (.inl (fun _ => 0)))) hE dX12_init_686 (by decide +kernel) rfl rfl (fun _ e => by cases e) (fun _ => rfl) (by decide) (by decide) (by decide) ⟨by decide, by decide⟩ (fun q61 F62 n63 g64 u65 => ?_)
  have g66 := g58.nw n63 u65
  have g67 := g60.nx n63 u65 g64
  refine jr_putF (ty := .array .long) hE dX12_init_688 f197 g66 rfl hinit rfl (by decide +kernel) rfl rfl (Nat.le_of_ble_eq_true rfl) (fun F69 g70 u71 => ?_)
  have g70 : jF ((((((L ++ [q1]) ++ [q13]) ++ [q25]) ++ [q37]) ++ [q49]) ++ [q61]) F69 o (.inr (12, [.ref (A 0), .ref (A 1), .ref (A 2), .ref (A 3), .ref (A 4), .ref (A 5), .ref (A 6), .ref (A 7), .ref (A 8), .ref (A 9), .int (0 : Int32), .ref (A 10), .ref (A 11), .ref (A 12), .ref (A 13), .ref (A 14), .int (0 : Int32), .ref (A 15), .ref (A 16), .ref (A 17), .ref (A 18), .ref (A 19), .ref (A 20), .ref (A 21), .int (0 : Int32), .ref (A 22), .ref (A 23), .ref (A 24), .ref (A 25), .int (0 : Int32), .int (0 : Int32), .int (0 : Int32), .ref (A 26), .ref (A 27), .ref (A 28), .ref (A 29), .ref (A 30), .ref (A 31), .ref (A 32), .ref (A 33), .ref (A 34), .ref (A 35), .ref q1, .ref q13, .ref q25, .ref q37, .ref q49, .ref q61, .null, .null, .null, .null, .null, .null, .null, .null, .null, .int (0 : Int32), .null, .null, .null, .null, .null, .null, .null, .null, .null, .null, .null, .null, .null, .null, .null, .null, .null, .null, .null, .null, .int (0 : Int32), .null, .null])) := g70
  have g72 := g67.put u71
  refine jr_aload_n hE dX12_init_691 0 rfl ?_
  refine jr_bipush (v := (8 : Int32)) hE dX12_init_692 (by decide) ?_
  refine jr_newa (ty := .long) (g := 2) (N := 8) (a0 := (8, .inr (.inl (fun _ => 0)))) hE dX12_init_694 (by decide +kernel) rfl rfl (fun _ e => by cases e) (fun _ => rfl) (by decide) (by decide) (by decide) ⟨by decide, by decide⟩ (fun q73 F74 n75 g76 u77 => ?_)
  have g78 := jF.pL0 g76 (fun j => lN ((cL12 48).getD j 0))
  refine jr_dup hE dX12_init_696 rfl ?_
  refine jr_iconst (v := (0 : Int32)) hE dX12_init_697 (by decide) ?_
  refine jr_ldc2 (v := (7 : Int64)) hE dX12_init_698 (by decide +kernel) ?_
  refine jr_last hE dX12_init_701 g78 (vp_lit (by decide)) (fun F79 g80 u81 => ?_)
  have g82 := jF.pL g80 (show _ = 0 from rfl) (by decide +kernel)
  have u83 := utr u81 u77
  refine jr_dup hE dX12_init_702 rfl ?_
  refine jr_iconst (v := (1 : Int32)) hE dX12_init_703 (by decide) ?_
  refine jr_lconst (v := (0 : Int64)) hE dX12_init_704 (by decide) ?_
  refine jr_last hE dX12_init_705 g82 (vp_lit (by decide)) (fun F84 g85 u86 => ?_)
  have g87 := jF.pL g85 (show _ = 1 from rfl) (by decide +kernel)
  have u88 := utr u86 u83
  refine jr_dup hE dX12_init_706 rfl ?_
  refine jr_iconst (v := (2 : Int32)) hE dX12_init_707 (by decide) ?_
  refine jr_lconst (v := (0 : Int64)) hE dX12_init_708 (by decide) ?_
  refine jr_last hE dX12_init_709 g87 (vp_lit (by decide)) (fun F89 g90 u91 => ?_)
  have g92 := jF.pL g90 (show _ = 2 from rfl) (by decide +kernel)
  have u93 := utr u91 u88
  refine jr_dup hE dX12_init_710 rfl ?_
  refine jr_iconst (v := (3 : Int32)) hE dX12_init_711 (by decide) ?_
  refine jr_lconst (v := (0 : Int64)) hE dX12_init_712 (by decide) ?_
  refine jr_last hE dX12_init_713 g92 (vp_lit (by decide)) (fun F94 g95 u96 => ?_)
  have g97 := jF.pL g95 (show _ = 3 from rfl) (by decide +kernel)
  have u98 := utr u96 u93
  refine jr_dup hE dX12_init_714 rfl ?_
  refine jr_iconst (v := (4 : Int32)) hE dX12_init_715 (by decide) ?_
  refine jr_lconst (v := (0 : Int64)) hE dX12_init_716 (by decide) ?_
  refine jr_last hE dX12_init_717 g97 (vp_lit (by decide)) (fun F99 g100 u101 => ?_)
  have g102 := jF.pL g100 (show _ = 4 from rfl) (by decide +kernel)
  have u103 := utr u101 u98
  refine jr_dup hE dX12_init_718 rfl ?_
  refine jr_iconst (v := (5 : Int32)) hE dX12_init_719 (by decide) ?_
  refine jr_lconst (v := (0 : Int64)) hE dX12_init_720 (by decide) ?_
  refine jr_last hE dX12_init_721 g102 (vp_lit (by decide)) (fun F104 g105 u106 => ?_)
  have g107 := jF.pL g105 (show _ = 5 from rfl) (by decide +kernel)
  have u108 := utr u106 u103
  refine jr_dup hE dX12_init_722 rfl ?_
  refine jr_bipush (v := (6 : Int32)) hE dX12_init_723 (by decide) ?_
  refine jr_lconst (v := (0 : Int64)) hE dX12_init_725 (by decide) ?_
  refine jr_last hE dX12_init_726 g107 (vp_lit (by decide)) (fun F109 g110 u111 => ?_)
  have g112 := jF.pL g110 (show _ = 6 from rfl) (by decide +kernel)
  have u113 := utr u111 u108
  refine jr_dup hE dX12_init_727 rfl ?_
  refine jr_bipush (v := (7 : Int32)) hE dX12_init_728 (by decide) ?_
  refine jr_lconst (v := (0 : Int64)) hE dX12_init_730 (by decide) ?_
  refine jr_last hE dX12_init_731 g112 (vp_lit (by decide)) (fun F114 g115 u116 => ?_)
  have g117 := jF.pL g115 (show _ = 7 from rfl) (by decide +kernel)
  have u118 := utr u116 u113
  have g119 := g70.nw n75 u118
  have g120 := g72.nx n75 u118 g117
  refine jr_putF (ty := .array .long) hE dX12_init_732 f202 g119 rfl hinit rfl (by decide +kernel) rfl rfl (Nat.le_of_ble_eq_true rfl) (fun F122 g123 u124 => ?_)
  have g123 : jF (((((((L ++ [q1]) ++ [q13]) ++ [q25]) ++ [q37]) ++ [q49]) ++ [q61]) ++ [q73]) F122 o (.inr (12, [.ref (A 0), .ref (A 1), .ref (A 2), .ref (A 3), .ref (A 4), .ref (A 5), .ref (A 6), .ref (A 7), .ref (A 8), .ref (A 9), .int (0 : Int32), .ref (A 10), .ref (A 11), .ref (A 12), .ref (A 13), .ref (A 14), .int (0 : Int32), .ref (A 15), .ref (A 16), .ref (A 17), .ref (A 18), .ref (A 19), .ref (A 20), .ref (A 21), .int (0 : Int32), .ref (A 22), .ref (A 23), .ref (A 24), .ref (A 25), .int (0 : Int32), .int (0 : Int32), .int (0 : Int32), .ref (A 26), .ref (A 27), .ref (A 28), .ref (A 29), .ref (A 30), .ref (A 31), .ref (A 32), .ref (A 33), .ref (A 34), .ref (A 35), .ref q1, .ref q13, .ref q25, .ref q37, .ref q49, .ref q61, .ref q73, .null, .null, .null, .null, .null, .null, .null, .null, .int (0 : Int32), .null, .null, .null, .null, .null, .null, .null, .null, .null, .null, .null, .null, .null, .null, .null, .null, .null, .null, .null, .null, .int (0 : Int32), .null, .null])) := g123
  have g125 := g120.put u124
  refine jr_aload_n hE dX12_init_735 0 rfl ?_
  refine jr_bipush (v := (8 : Int32)) hE dX12_init_736 (by decide) ?_
  refine jr_newa (ty := .long) (g := 2) (N := 8) (a0 := (8, .inr (.inl (fun _ => 0)))) hE dX12_init_738 (by decide +kernel) rfl rfl (fun _ e => by cases e) (fun _ => rfl) (by decide) (by decide) (by decide) ⟨by decide, by decide⟩ (fun q126 F127 n128 g129 u130 => ?_)
  have g131 := g123.nw n128 u130
  have g132 := g125.nx n128 u130 g129
  refine jr_putF (ty := .array .long) hE dX12_init_740 f205 g131 rfl hinit rfl (by decide +kernel) rfl rfl (Nat.le_of_ble_eq_true rfl) (fun F134 g135 u136 => ?_)
  have g135 : jF ((((((((L ++ [q1]) ++ [q13]) ++ [q25]) ++ [q37]) ++ [q49]) ++ [q61]) ++ [q73]) ++ [q126]) F134 o (.inr (12, [.ref (A 0), .ref (A 1), .ref (A 2), .ref (A 3), .ref (A 4), .ref (A 5), .ref (A 6), .ref (A 7), .ref (A 8), .ref (A 9), .int (0 : Int32), .ref (A 10), .ref (A 11), .ref (A 12), .ref (A 13), .ref (A 14), .int (0 : Int32), .ref (A 15), .ref (A 16), .ref (A 17), .ref (A 18), .ref (A 19), .ref (A 20), .ref (A 21), .int (0 : Int32), .ref (A 22), .ref (A 23), .ref (A 24), .ref (A 25), .int (0 : Int32), .int (0 : Int32), .int (0 : Int32), .ref (A 26), .ref (A 27), .ref (A 28), .ref (A 29), .ref (A 30), .ref (A 31), .ref (A 32), .ref (A 33), .ref (A 34), .ref (A 35), .ref q1, .ref q13, .ref q25, .ref q37, .ref q49, .ref q61, .ref q73, .ref q126, .null, .null, .null, .null, .null, .null, .null, .int (0 : Int32), .null, .null, .null, .null, .null, .null, .null, .null, .null, .null, .null, .null, .null, .null, .null, .null, .null, .null, .null, .null, .int (0 : Int32), .null, .null])) := g135
  have g137 := g132.put u136
  refine jr_aload_n hE dX12_init_743 0 rfl ?_
  refine jr_bipush (v := (9 : Int32)) hE dX12_init_744 (by decide) ?_
  refine jr_newa (ty := .int) (g := 1) (N := 9) (a0 := (9, .inl (fun _ => 0))) hE dX12_init_746 (by decide +kernel) rfl rfl (fun _ e => by cases e) (fun _ => rfl) (by decide) (by decide) (by decide) ⟨by decide, by decide⟩ (fun q138 F139 n140 g141 u142 => ?_)
  have g143 := jF.pI0 g141 (fun j => nI (tAt j))
  refine jr_dup hE dX12_init_748 rfl ?_
  refine jr_iconst (v := (0 : Int32)) hE dX12_init_749 (by decide) ?_
  refine jr_iconst (v := (0 : Int32)) hE dX12_init_750 (by decide) ?_
  refine jr_iast hE dX12_init_751 g143 (vp_lit (by decide)) (fun F144 g145 u146 => ?_)
  have g147 := jF.pI g145 (show _ = 0 from rfl) (by decide +kernel)
  have u148 := utr u146 u142
  refine jr_dup hE dX12_init_752 rfl ?_
  refine jr_iconst (v := (1 : Int32)) hE dX12_init_753 (by decide) ?_
  refine jr_bipush (v := (11 : Int32)) hE dX12_init_754 (by decide) ?_
  refine jr_iast hE dX12_init_756 g147 (vp_lit (by decide)) (fun F149 g150 u151 => ?_)
  have g152 := jF.pI g150 (show _ = 1 from rfl) (by decide +kernel)
  have u153 := utr u151 u148
  refine jr_dup hE dX12_init_757 rfl ?_
  refine jr_iconst (v := (2 : Int32)) hE dX12_init_758 (by decide) ?_
  refine jr_bipush (v := (24 : Int32)) hE dX12_init_759 (by decide) ?_
  refine jr_iast hE dX12_init_761 g152 (vp_lit (by decide)) (fun F154 g155 u156 => ?_)
  have g157 := jF.pI g155 (show _ = 2 from rfl) (by decide +kernel)
  have u158 := utr u156 u153
  refine jr_dup hE dX12_init_762 rfl ?_
  refine jr_iconst (v := (3 : Int32)) hE dX12_init_763 (by decide) ?_
  refine jr_bipush (v := (41 : Int32)) hE dX12_init_764 (by decide) ?_
  refine jr_iast hE dX12_init_766 g157 (vp_lit (by decide)) (fun F159 g160 u161 => ?_)
  have g162 := jF.pI g160 (show _ = 3 from rfl) (by decide +kernel)
  have u163 := utr u161 u158
  refine jr_dup hE dX12_init_767 rfl ?_
  refine jr_iconst (v := (4 : Int32)) hE dX12_init_768 (by decide) ?_
  refine jr_bipush (v := (52 : Int32)) hE dX12_init_769 (by decide) ?_
  refine jr_iast hE dX12_init_771 g162 (vp_lit (by decide)) (fun F164 g165 u166 => ?_)
  have g167 := jF.pI g165 (show _ = 4 from rfl) (by decide +kernel)
  have u168 := utr u166 u163
  refine jr_dup hE dX12_init_772 rfl ?_
  refine jr_iconst (v := (5 : Int32)) hE dX12_init_773 (by decide) ?_
  refine jr_bipush (v := (70 : Int32)) hE dX12_init_774 (by decide) ?_
  refine jr_iast hE dX12_init_776 g167 (vp_lit (by decide)) (fun F169 g170 u171 => ?_)
  have g172 := jF.pI g170 (show _ = 5 from rfl) (by decide +kernel)
  have u173 := utr u171 u168
  refine jr_dup hE dX12_init_777 rfl ?_
  refine jr_bipush (v := (6 : Int32)) hE dX12_init_778 (by decide) ?_
  refine jr_bipush (v := (79 : Int32)) hE dX12_init_780 (by decide) ?_
  refine jr_iast hE dX12_init_782 g172 (vp_lit (by decide)) (fun F174 g175 u176 => ?_)
  have g177 := jF.pI g175 (show _ = 6 from rfl) (by decide +kernel)
  have u178 := utr u176 u173
  refine jr_dup hE dX12_init_783 rfl ?_
  refine jr_bipush (v := (7 : Int32)) hE dX12_init_784 (by decide) ?_
  refine jr_bipush (v := (90 : Int32)) hE dX12_init_786 (by decide) ?_
  refine jr_iast hE dX12_init_788 g177 (vp_lit (by decide)) (fun F179 g180 u181 => ?_)
  have g182 := jF.pI g180 (show _ = 7 from rfl) (by decide +kernel)
  have u183 := utr u181 u178
  refine jr_dup hE dX12_init_789 rfl ?_
  refine jr_bipush (v := (8 : Int32)) hE dX12_init_790 (by decide) ?_
  refine jr_bipush (v := (105 : Int32)) hE dX12_init_792 (by decide) ?_
  refine jr_iast hE dX12_init_794 g182 (vp_lit (by decide)) (fun F184 g185 u186 => ?_)
  have g187 := jF.pI g185 (show _ = 8 from rfl) (by decide +kernel)
  have u188 := utr u186 u183
  have g189 := g135.nw n140 u188
  have g190 := g137.nx n140 u188 g187
  refine jr_putF (ty := .array .int) hE dX12_init_795 f208 g189 rfl hinit rfl (by decide +kernel) rfl rfl (Nat.le_of_ble_eq_true rfl) (fun F192 g193 u194 => ?_)
  have g193 : jF (((((((((L ++ [q1]) ++ [q13]) ++ [q25]) ++ [q37]) ++ [q49]) ++ [q61]) ++ [q73]) ++ [q126]) ++ [q138]) F192 o (.inr (12, [.ref (A 0), .ref (A 1), .ref (A 2), .ref (A 3), .ref (A 4), .ref (A 5), .ref (A 6), .ref (A 7), .ref (A 8), .ref (A 9), .int (0 : Int32), .ref (A 10), .ref (A 11), .ref (A 12), .ref (A 13), .ref (A 14), .int (0 : Int32), .ref (A 15), .ref (A 16), .ref (A 17), .ref (A 18), .ref (A 19), .ref (A 20), .ref (A 21), .int (0 : Int32), .ref (A 22), .ref (A 23), .ref (A 24), .ref (A 25), .int (0 : Int32), .int (0 : Int32), .int (0 : Int32), .ref (A 26), .ref (A 27), .ref (A 28), .ref (A 29), .ref (A 30), .ref (A 31), .ref (A 32), .ref (A 33), .ref (A 34), .ref (A 35), .ref q1, .ref q13, .ref q25, .ref q37, .ref q49, .ref q61, .ref q73, .ref q126, .ref q138, .null, .null, .null, .null, .null, .null, .int (0 : Int32), .null, .null, .null, .null, .null, .null, .null, .null, .null, .null, .null, .null, .null, .null, .null, .null, .null, .null, .null, .null, .int (0 : Int32), .null, .null])) := g193
  have g195 := g190.put u194
  exact kk _ _ _ g195 g193
set_option maxHeartbeats 4000000 in
set_option maxRecDepth 100000 in
theorem i12_5 {E : jE} {G : Nat → ClassId} (hE : jOk E G ({ frames := 1, cells := 73, slots := 4867, locals := 20 }) cX12_init 1 RX12 wsX12_init) (hinit : jIn E) {L0 L : List Nat} {F0 F : Nat → va_E} {o : Nat} {A : Nat → Nat} (g : gS L0 F0 o 45 A (tX12 G) L F) (ho : jF L F o (.inr (12, [.ref (A 0), .ref (A 1), .ref (A 2), .ref (A 3), .ref (A 4), .ref (A 5), .ref (A 6), .ref (A 7), .ref (A 8), .ref (A 9), .int (0 : Int32), .ref (A 10), .ref (A 11), .ref (A 12), .ref (A 13), .ref (A 14), .int (0 : Int32), .ref (A 15), .ref (A 16), .ref (A 17), .ref (A 18), .ref (A 19), .ref (A 20), .ref (A 21), .int (0 : Int32), .ref (A 22), .ref (A 23), .ref (A 24), .ref (A 25), .int (0 : Int32), .int (0 : Int32), .int (0 : Int32), .ref (A 26), .ref (A 27), .ref (A 28), .ref (A 29), .ref (A 30), .ref (A 31), .ref (A 32), .ref (A 33), .ref (A 34), .ref (A 35), .ref (A 36), .ref (A 37), .ref (A 38), .ref (A 39), .ref (A 40), .ref (A 41), .ref (A 42), .ref (A 43), .ref (A 44), .null, .null, .null, .null, .null, .null, .int (0 : Int32), .null, .null, .null, .null, .null, .null, .null, .null, .null, .null, .null, .null, .null, .null, .null, .null, .null, .null, .null, .null, .int (0 : Int32), .null, .null]))) (kk : ∀ (A1 : Nat → Nat) (L1 : List Nat) (F1 : Nat → va_E) (q : Nat) (Fq : Nat → va_E), (gS L0 F0 o 45 A1 (tX12 G) L1 F1) → (jF L1 F1 o (.inr (12, [.ref (A1 0), .ref (A1 1), .ref (A1 2), .ref (A1 3), .ref (A1 4), .ref (A1 5), .ref (A1 6), .ref (A1 7), .ref (A1 8), .ref (A1 9), .int (0 : Int32), .ref (A1 10), .ref (A1 11), .ref (A1 12), .ref (A1 13), .ref (A1 14), .int (0 : Int32), .ref (A1 15), .ref (A1 16), .ref (A1 17), .ref (A1 18), .ref (A1 19), .ref (A1 20), .ref (A1 21), .int (0 : Int32), .ref (A1 22), .ref (A1 23), .ref (A1 24), .ref (A1 25), .int (0 : Int32), .int (0 : Int32), .int (0 : Int32), .ref (A1 26), .ref (A1 27), .ref (A1 28), .ref (A1 29), .ref (A1 30), .ref (A1 31), .ref (A1 32), .ref (A1 33), .ref (A1 34), .ref (A1 35), .ref (A1 36), .ref (A1 37), .ref (A1 38), .ref (A1 39), .ref (A1 40), .ref (A1 41), .ref (A1 42), .ref (A1 43), .ref (A1 44), .null, .null, .null, .null, .null, .null, .int (0 : Int32), .null, .null, .null, .null, .null, .null, .null, .null, .null, .null, .null, .null, .null, .null, .null, .null, .null, .null, .null, .null, .int (0 : Int32), .null, .null]))) → (q ∉ L1) → (∀ x, x ≠ q → Fq x = F1 x) → (jF (L1 ++ [q]) Fq q (.inl (G 1, 105, .inl (ptI 32 (fun j => nI (tBt j)))))) → J E (L1 ++ [q]) Fq 46 3326 989 [(0, .ref o)] [.ref q, .ref o]) : J E L F 45 3221 798 [(0, .ref o)] [] := by
  refine jr_aload_n hE dX12_init_798 0 rfl ?_
  refine jr_bipush (v := (105 : Int32)) hE dX12_init_799 (by decide) ?_
  refine jr_newa (ty := .int) (g := 1) (N := 105) (a0 := (105, .inl (fun _ => 0))) hE dX12_init_801 (by decide +kernel) rfl rfl (fun _ e => by cases e) (fun _ => rfl) (by decide) (by decide) (by decide) ⟨by decide, by decide⟩ (fun q1 F2 n3 g4 u5 => ?_)
  have g6 := jF.pI0 g4 (fun j => nI (tBt j))
  refine jr_dup hE dX12_init_803 rfl ?_
  refine jr_iconst (v := (0 : Int32)) hE dX12_init_804 (by decide) ?_
  refine jr_bipush (v := (66 : Int32)) hE dX12_init_805 (by decide) ?_
  refine jr_iast hE dX12_init_807 g6 (vp_lit (by decide)) (fun F7 g8 u9 => ?_)
  have g10 := jF.pI g8 (show _ = 0 from rfl) (by decide +kernel)
  have u11 := utr u9 u5
  refine jr_dup hE dX12_init_808 rfl ?_
  refine jr_iconst (v := (1 : Int32)) hE dX12_init_809 (by decide) ?_
  refine jr_bipush (v := (73 : Int32)) hE dX12_init_810 (by decide) ?_
  refine jr_iast hE dX12_init_812 g10 (vp_lit (by decide)) (fun F12 g13 u14 => ?_)
  have g15 := jF.pI g13 (show _ = 1 from rfl) (by decide +kernel)
  have u16 := utr u14 u11
  refine jr_dup hE dX12_init_813 rfl ?_
  refine jr_iconst (v := (2 : Int32)) hE dX12_init_814 (by decide) ?_
  refine jr_bipush (v := (80 : Int32)) hE dX12_init_815 (by decide) ?_
  refine jr_iast hE dX12_init_817 g15 (vp_lit (by decide)) (fun F17 g18 u19 => ?_)
  have g20 := jF.pI g18 (show _ = 2 from rfl) (by decide +kernel)
  have u21 := utr u19 u16
  refine jr_dup hE dX12_init_818 rfl ?_
  refine jr_iconst (v := (3 : Int32)) hE dX12_init_819 (by decide) ?_
  refine jr_bipush (v := (48 : Int32)) hE dX12_init_820 (by decide) ?_
  refine jr_iast hE dX12_init_822 g20 (vp_lit (by decide)) (fun F22 g23 u24 => ?_)
  have g25 := jF.pI g23 (show _ = 3 from rfl) (by decide +kernel)
  have u26 := utr u24 u21
  refine jr_dup hE dX12_init_823 rfl ?_
  refine jr_iconst (v := (4 : Int32)) hE dX12_init_824 (by decide) ?_
  refine jr_bipush (v := (51 : Int32)) hE dX12_init_825 (by decide) ?_
  refine jr_iast hE dX12_init_827 g25 (vp_lit (by decide)) (fun F27 g28 u29 => ?_)
  have g30 := jF.pI g28 (show _ = 4 from rfl) (by decide +kernel)
  have u31 := utr u29 u26
  refine jr_dup hE dX12_init_828 rfl ?_
  refine jr_iconst (v := (5 : Int32)) hE dX12_init_829 (by decide) ?_
  refine jr_bipush (v := (52 : Int32)) hE dX12_init_830 (by decide) ?_
  refine jr_iast hE dX12_init_832 g30 (vp_lit (by decide)) (fun F32 g33 u34 => ?_)
  have g35 := jF.pI g33 (show _ = 5 from rfl) (by decide +kernel)
  have u36 := utr u34 u31
  refine jr_dup hE dX12_init_833 rfl ?_
  refine jr_bipush (v := (6 : Int32)) hE dX12_init_834 (by decide) ?_
  refine jr_bipush (v := (48 : Int32)) hE dX12_init_836 (by decide) ?_
  refine jr_iast hE dX12_init_838 g35 (vp_lit (by decide)) (fun F37 g38 u39 => ?_)
  have g40 := jF.pI g38 (show _ = 6 from rfl) (by decide +kernel)
  have u41 := utr u39 u36
  refine jr_dup hE dX12_init_839 rfl ?_
  refine jr_bipush (v := (7 : Int32)) hE dX12_init_840 (by decide) ?_
  refine jr_bipush (v := (47 : Int32)) hE dX12_init_842 (by decide) ?_
  refine jr_iast hE dX12_init_844 g40 (vp_lit (by decide)) (fun F42 g43 u44 => ?_)
  have g45 := jF.pI g43 (show _ = 7 from rfl) (by decide +kernel)
  have u46 := utr u44 u41
  refine jr_dup hE dX12_init_845 rfl ?_
  refine jr_bipush (v := (8 : Int32)) hE dX12_init_846 (by decide) ?_
  refine jr_bipush (v := (97 : Int32)) hE dX12_init_848 (by decide) ?_
  refine jr_iast hE dX12_init_850 g45 (vp_lit (by decide)) (fun F47 g48 u49 => ?_)
  have g50 := jF.pI g48 (show _ = 8 from rfl) (by decide +kernel)
  have u51 := utr u49 u46
  refine jr_dup hE dX12_init_851 rfl ?_
  refine jr_bipush (v := (9 : Int32)) hE dX12_init_852 (by decide) ?_
  refine jr_bipush (v := (117 : Int32)) hE dX12_init_854 (by decide) ?_
  refine jr_iast hE dX12_init_856 g50 (vp_lit (by decide)) (fun F52 g53 u54 => ?_)
  have g55 := jF.pI g53 (show _ = 9 from rfl) (by decide +kernel)
  have u56 := utr u54 u51
  refine jr_dup hE dX12_init_857 rfl ?_
  refine jr_bipush (v := (10 : Int32)) hE dX12_init_858 (by decide) ?_
  refine jr_bipush (v := (120 : Int32)) hE dX12_init_860 (by decide) ?_
  refine jr_iast hE dX12_init_862 g55 (vp_lit (by decide)) (fun F57 g58 u59 => ?_)
  have g60 := jF.pI g58 (show _ = 10 from rfl) (by decide +kernel)
  have u61 := utr u59 u56
  refine jr_dup hE dX12_init_863 rfl ?_
  refine jr_bipush (v := (11 : Int32)) hE dX12_init_864 (by decide) ?_
  refine jr_bipush (v := (66 : Int32)) hE dX12_init_866 (by decide) ?_
  refine jr_iast hE dX12_init_868 g60 (vp_lit (by decide)) (fun F62 g63 u64 => ?_)
  have g65 := jF.pI g63 (show _ = 11 from rfl) (by decide +kernel)
  have u66 := utr u64 u61
  refine jr_dup hE dX12_init_869 rfl ?_
  refine jr_bipush (v := (12 : Int32)) hE dX12_init_870 (by decide) ?_
  refine jr_bipush (v := (73 : Int32)) hE dX12_init_872 (by decide) ?_
  refine jr_iast hE dX12_init_874 g65 (vp_lit (by decide)) (fun F67 g68 u69 => ?_)
  have g70 := jF.pI g68 (show _ = 12 from rfl) (by decide +kernel)
  have u71 := utr u69 u66
  refine jr_dup hE dX12_init_875 rfl ?_
  refine jr_bipush (v := (13 : Int32)) hE dX12_init_876 (by decide) ?_
  refine jr_bipush (v := (80 : Int32)) hE dX12_init_878 (by decide) ?_
  refine jr_iast hE dX12_init_880 g70 (vp_lit (by decide)) (fun F72 g73 u74 => ?_)
  have g75 := jF.pI g73 (show _ = 13 from rfl) (by decide +kernel)
  have u76 := utr u74 u71
  refine jr_dup hE dX12_init_881 rfl ?_
  refine jr_bipush (v := (14 : Int32)) hE dX12_init_882 (by decide) ?_
  refine jr_bipush (v := (48 : Int32)) hE dX12_init_884 (by decide) ?_
  refine jr_iast hE dX12_init_886 g75 (vp_lit (by decide)) (fun F77 g78 u79 => ?_)
  have g80 := jF.pI g78 (show _ = 14 from rfl) (by decide +kernel)
  have u81 := utr u79 u76
  refine jr_dup hE dX12_init_887 rfl ?_
  refine jr_bipush (v := (15 : Int32)) hE dX12_init_888 (by decide) ?_
  refine jr_bipush (v := (51 : Int32)) hE dX12_init_890 (by decide) ?_
  refine jr_iast hE dX12_init_892 g80 (vp_lit (by decide)) (fun F82 g83 u84 => ?_)
  have g85 := jF.pI g83 (show _ = 15 from rfl) (by decide +kernel)
  have u86 := utr u84 u81
  refine jr_dup hE dX12_init_893 rfl ?_
  refine jr_bipush (v := (16 : Int32)) hE dX12_init_894 (by decide) ?_
  refine jr_bipush (v := (52 : Int32)) hE dX12_init_896 (by decide) ?_
  refine jr_iast hE dX12_init_898 g85 (vp_lit (by decide)) (fun F87 g88 u89 => ?_)
  have g90 := jF.pI g88 (show _ = 16 from rfl) (by decide +kernel)
  have u91 := utr u89 u86
  refine jr_dup hE dX12_init_899 rfl ?_
  refine jr_bipush (v := (17 : Int32)) hE dX12_init_900 (by decide) ?_
  refine jr_bipush (v := (48 : Int32)) hE dX12_init_902 (by decide) ?_
  refine jr_iast hE dX12_init_904 g90 (vp_lit (by decide)) (fun F92 g93 u94 => ?_)
  have g95 := jF.pI g93 (show _ = 17 from rfl) (by decide +kernel)
  have u96 := utr u94 u91
  refine jr_dup hE dX12_init_905 rfl ?_
  refine jr_bipush (v := (18 : Int32)) hE dX12_init_906 (by decide) ?_
  refine jr_bipush (v := (47 : Int32)) hE dX12_init_908 (by decide) ?_
  refine jr_iast hE dX12_init_910 g95 (vp_lit (by decide)) (fun F97 g98 u99 => ?_)
  have g100 := jF.pI g98 (show _ = 18 from rfl) (by decide +kernel)
  have u101 := utr u99 u96
  refine jr_dup hE dX12_init_911 rfl ?_
  refine jr_bipush (v := (19 : Int32)) hE dX12_init_912 (by decide) ?_
  refine jr_bipush (v := (110 : Int32)) hE dX12_init_914 (by decide) ?_
  refine jr_iast hE dX12_init_916 g100 (vp_lit (by decide)) (fun F102 g103 u104 => ?_)
  have g105 := jF.pI g103 (show _ = 19 from rfl) (by decide +kernel)
  have u106 := utr u104 u101
  refine jr_dup hE dX12_init_917 rfl ?_
  refine jr_bipush (v := (20 : Int32)) hE dX12_init_918 (by decide) ?_
  refine jr_bipush (v := (111 : Int32)) hE dX12_init_920 (by decide) ?_
  refine jr_iast hE dX12_init_922 g105 (vp_lit (by decide)) (fun F107 g108 u109 => ?_)
  have g110 := jF.pI g108 (show _ = 20 from rfl) (by decide +kernel)
  have u111 := utr u109 u106
  refine jr_dup hE dX12_init_923 rfl ?_
  refine jr_bipush (v := (21 : Int32)) hE dX12_init_924 (by decide) ?_
  refine jr_bipush (v := (110 : Int32)) hE dX12_init_926 (by decide) ?_
  refine jr_iast hE dX12_init_928 g110 (vp_lit (by decide)) (fun F112 g113 u114 => ?_)
  have g115 := jF.pI g113 (show _ = 21 from rfl) (by decide +kernel)
  have u116 := utr u114 u111
  refine jr_dup hE dX12_init_929 rfl ?_
  refine jr_bipush (v := (22 : Int32)) hE dX12_init_930 (by decide) ?_
  refine jr_bipush (v := (99 : Int32)) hE dX12_init_932 (by decide) ?_
  refine jr_iast hE dX12_init_934 g115 (vp_lit (by decide)) (fun F117 g118 u119 => ?_)
  have g120 := jF.pI g118 (show _ = 22 from rfl) (by decide +kernel)
  have u121 := utr u119 u116
  refine jr_dup hE dX12_init_935 rfl ?_
  refine jr_bipush (v := (23 : Int32)) hE dX12_init_936 (by decide) ?_
  refine jr_bipush (v := (101 : Int32)) hE dX12_init_938 (by decide) ?_
  refine jr_iast hE dX12_init_940 g120 (vp_lit (by decide)) (fun F122 g123 u124 => ?_)
  have g125 := jF.pI g123 (show _ = 23 from rfl) (by decide +kernel)
  have u126 := utr u124 u121
  refine jr_dup hE dX12_init_941 rfl ?_
  refine jr_bipush (v := (24 : Int32)) hE dX12_init_942 (by decide) ?_
  refine jr_bipush (v := (66 : Int32)) hE dX12_init_944 (by decide) ?_
  refine jr_iast hE dX12_init_946 g125 (vp_lit (by decide)) (fun F127 g128 u129 => ?_)
  have g130 := jF.pI g128 (show _ = 24 from rfl) (by decide +kernel)
  have u131 := utr u129 u126
  refine jr_dup hE dX12_init_947 rfl ?_
  refine jr_bipush (v := (25 : Int32)) hE dX12_init_948 (by decide) ?_
  refine jr_bipush (v := (73 : Int32)) hE dX12_init_950 (by decide) ?_
  refine jr_iast hE dX12_init_952 g130 (vp_lit (by decide)) (fun F132 g133 u134 => ?_)
  have g135 := jF.pI g133 (show _ = 25 from rfl) (by decide +kernel)
  have u136 := utr u134 u131
  refine jr_dup hE dX12_init_953 rfl ?_
  refine jr_bipush (v := (26 : Int32)) hE dX12_init_954 (by decide) ?_
  refine jr_bipush (v := (80 : Int32)) hE dX12_init_956 (by decide) ?_
  refine jr_iast hE dX12_init_958 g135 (vp_lit (by decide)) (fun F137 g138 u139 => ?_)
  have g140 := jF.pI g138 (show _ = 26 from rfl) (by decide +kernel)
  have u141 := utr u139 u136
  refine jr_dup hE dX12_init_959 rfl ?_
  refine jr_bipush (v := (27 : Int32)) hE dX12_init_960 (by decide) ?_
  refine jr_bipush (v := (48 : Int32)) hE dX12_init_962 (by decide) ?_
  refine jr_iast hE dX12_init_964 g140 (vp_lit (by decide)) (fun F142 g143 u144 => ?_)
  have g145 := jF.pI g143 (show _ = 27 from rfl) (by decide +kernel)
  have u146 := utr u144 u141
  refine jr_dup hE dX12_init_965 rfl ?_
  refine jr_bipush (v := (28 : Int32)) hE dX12_init_966 (by decide) ?_
  refine jr_bipush (v := (51 : Int32)) hE dX12_init_968 (by decide) ?_
  refine jr_iast hE dX12_init_970 g145 (vp_lit (by decide)) (fun F147 g148 u149 => ?_)
  have g150 := jF.pI g148 (show _ = 28 from rfl) (by decide +kernel)
  have u151 := utr u149 u146
  refine jr_dup hE dX12_init_971 rfl ?_
  refine jr_bipush (v := (29 : Int32)) hE dX12_init_972 (by decide) ?_
  refine jr_bipush (v := (52 : Int32)) hE dX12_init_974 (by decide) ?_
  refine jr_iast hE dX12_init_976 g150 (vp_lit (by decide)) (fun F152 g153 u154 => ?_)
  have g155 := jF.pI g153 (show _ = 29 from rfl) (by decide +kernel)
  have u156 := utr u154 u151
  refine jr_dup hE dX12_init_977 rfl ?_
  refine jr_bipush (v := (30 : Int32)) hE dX12_init_978 (by decide) ?_
  refine jr_bipush (v := (48 : Int32)) hE dX12_init_980 (by decide) ?_
  refine jr_iast hE dX12_init_982 g155 (vp_lit (by decide)) (fun F157 g158 u159 => ?_)
  have g160 := jF.pI g158 (show _ = 30 from rfl) (by decide +kernel)
  have u161 := utr u159 u156
  refine jr_dup hE dX12_init_983 rfl ?_
  refine jr_bipush (v := (31 : Int32)) hE dX12_init_984 (by decide) ?_
  refine jr_bipush (v := (47 : Int32)) hE dX12_init_986 (by decide) ?_
  refine jr_iast hE dX12_init_988 g160 (vp_lit (by decide)) (fun F162 g163 u164 => ?_)
  have g165 := jF.pI g163 (show _ = 31 from rfl) (by decide +kernel)
  have u166 := utr u164 u161
  exact kk _ _ _ _ _ g ho n3 u166 g165
set_option maxHeartbeats 4000000 in
set_option maxRecDepth 100000 in
theorem i12_6 {E : jE} {G : Nat → ClassId} (hE : jOk E G ({ frames := 1, cells := 73, slots := 4867, locals := 20 }) cX12_init 1 RX12 wsX12_init) (hinit : jIn E) {L0 L : List Nat} {F0 F : Nat → va_E} {o : Nat} {A : Nat → Nat} {q : Nat} {Fq : Nat → va_E} (g : gS L0 F0 o 45 A (tX12 G) L F) (ho : jF L F o (.inr (12, [.ref (A 0), .ref (A 1), .ref (A 2), .ref (A 3), .ref (A 4), .ref (A 5), .ref (A 6), .ref (A 7), .ref (A 8), .ref (A 9), .int (0 : Int32), .ref (A 10), .ref (A 11), .ref (A 12), .ref (A 13), .ref (A 14), .int (0 : Int32), .ref (A 15), .ref (A 16), .ref (A 17), .ref (A 18), .ref (A 19), .ref (A 20), .ref (A 21), .int (0 : Int32), .ref (A 22), .ref (A 23), .ref (A 24), .ref (A 25), .int (0 : Int32), .int (0 : Int32), .int (0 : Int32), .ref (A 26), .ref (A 27), .ref (A 28), .ref (A 29), .ref (A 30), .ref (A 31), .ref (A 32), .ref (A 33), .ref (A 34), .ref (A 35), .ref (A 36), .ref (A 37), .ref (A 38), .ref (A 39), .ref (A 40), .ref (A 41), .ref (A 42), .ref (A 43), .ref (A 44), .null, .null, .null, .null, .null, .null, .int (0 : Int32), .null, .null, .null, .null, .null, .null, .null, .null, .null, .null, .null, .null, .null, .null, .null, .null, .null, .null, .null, .null, .int (0 : Int32), .null, .null]))) (nq : q ∉ L) (uq : ∀ x, x ≠ q → Fq x = F x) (hq : jF (L ++ [q]) Fq q (.inl (G 1, 105, .inl (ptI 32 (fun j => nI (tBt j)))))) (kk : ∀ (A1 : Nat → Nat) (L1 : List Nat) (F1 : Nat → va_E) (q : Nat) (Fq : Nat → va_E), (gS L0 F0 o 45 A1 (tX12 G) L1 F1) → (jF L1 F1 o (.inr (12, [.ref (A1 0), .ref (A1 1), .ref (A1 2), .ref (A1 3), .ref (A1 4), .ref (A1 5), .ref (A1 6), .ref (A1 7), .ref (A1 8), .ref (A1 9), .int (0 : Int32), .ref (A1 10), .ref (A1 11), .ref (A1 12), .ref (A1 13), .ref (A1 14), .int (0 : Int32), .ref (A1 15), .ref (A1 16), .ref (A1 17), .ref (A1 18), .ref (A1 19), .ref (A1 20), .ref (A1 21), .int (0 : Int32), .ref (A1 22), .ref (A1 23), .ref (A1 24), .ref (A1 25), .int (0 : Int32), .int (0 : Int32), .int (0 : Int32), .ref (A1 26), .ref (A1 27), .ref (A1 28), .ref (A1 29), .ref (A1 30), .ref (A1 31), .ref (A1 32), .ref (A1 33), .ref (A1 34), .ref (A1 35), .ref (A1 36), .ref (A1 37), .ref (A1 38), .ref (A1 39), .ref (A1 40), .ref (A1 41), .ref (A1 42), .ref (A1 43), .ref (A1 44), .null, .null, .null, .null, .null, .null, .int (0 : Int32), .null, .null, .null, .null, .null, .null, .null, .null, .null, .null, .null, .null, .null, .null, .null, .null, .null, .null, .null, .null, .int (0 : Int32), .null, .null]))) → (q ∉ L1) → (∀ x, x ≠ q → Fq x = F1 x) → (jF (L1 ++ [q]) Fq q (.inl (G 1, 105, .inl (ptI 65 (fun j => nI (tBt j)))))) → J E (L1 ++ [q]) Fq 46 3326 1187 [(0, .ref o)] [.ref q, .ref o]) : J E (L ++ [q]) Fq 46 3326 989 [(0, .ref o)] [.ref q, .ref o] := by
  refine jr_dup hE dX12_init_989 rfl ?_
  refine jr_bipush (v := (32 : Int32)) hE dX12_init_990 (by decide) ?_
  refine jr_bipush (v := (99 : Int32)) hE dX12_init_992 (by decide) ?_
  refine jr_iast hE dX12_init_994 hq (vp_lit (by decide)) (fun F1 g2 u3 => ?_)
  have g4 := jF.pI g2 (show _ = 32 from rfl) (by decide +kernel)
  have u5 := utr u3 uq
  refine jr_dup hE dX12_init_995 rfl ?_
  refine jr_bipush (v := (33 : Int32)) hE dX12_init_996 (by decide) ?_
  refine jr_bipush (v := (104 : Int32)) hE dX12_init_998 (by decide) ?_
  refine jr_iast hE dX12_init_1000 g4 (vp_lit (by decide)) (fun F6 g7 u8 => ?_)
  have g9 := jF.pI g7 (show _ = 33 from rfl) (by decide +kernel)
  have u10 := utr u8 u5
  refine jr_dup hE dX12_init_1001 rfl ?_
  refine jr_bipush (v := (34 : Int32)) hE dX12_init_1002 (by decide) ?_
  refine jr_bipush (v := (97 : Int32)) hE dX12_init_1004 (by decide) ?_
  refine jr_iast hE dX12_init_1006 g9 (vp_lit (by decide)) (fun F11 g12 u13 => ?_)
  have g14 := jF.pI g12 (show _ = 34 from rfl) (by decide +kernel)
  have u15 := utr u13 u10
  refine jr_dup hE dX12_init_1007 rfl ?_
  refine jr_bipush (v := (35 : Int32)) hE dX12_init_1008 (by decide) ?_
  refine jr_bipush (v := (108 : Int32)) hE dX12_init_1010 (by decide) ?_
  refine jr_iast hE dX12_init_1012 g14 (vp_lit (by decide)) (fun F16 g17 u18 => ?_)
  have g19 := jF.pI g17 (show _ = 35 from rfl) (by decide +kernel)
  have u20 := utr u18 u15
  refine jr_dup hE dX12_init_1013 rfl ?_
  refine jr_bipush (v := (36 : Int32)) hE dX12_init_1014 (by decide) ?_
  refine jr_bipush (v := (108 : Int32)) hE dX12_init_1016 (by decide) ?_
  refine jr_iast hE dX12_init_1018 g19 (vp_lit (by decide)) (fun F21 g22 u23 => ?_)
  have g24 := jF.pI g22 (show _ = 36 from rfl) (by decide +kernel)
  have u25 := utr u23 u20
  refine jr_dup hE dX12_init_1019 rfl ?_
  refine jr_bipush (v := (37 : Int32)) hE dX12_init_1020 (by decide) ?_
  refine jr_bipush (v := (101 : Int32)) hE dX12_init_1022 (by decide) ?_
  refine jr_iast hE dX12_init_1024 g24 (vp_lit (by decide)) (fun F26 g27 u28 => ?_)
  have g29 := jF.pI g27 (show _ = 37 from rfl) (by decide +kernel)
  have u30 := utr u28 u25
  refine jr_dup hE dX12_init_1025 rfl ?_
  refine jr_bipush (v := (38 : Int32)) hE dX12_init_1026 (by decide) ?_
  refine jr_bipush (v := (110 : Int32)) hE dX12_init_1028 (by decide) ?_
  refine jr_iast hE dX12_init_1030 g29 (vp_lit (by decide)) (fun F31 g32 u33 => ?_)
  have g34 := jF.pI g32 (show _ = 38 from rfl) (by decide +kernel)
  have u35 := utr u33 u30
  refine jr_dup hE dX12_init_1031 rfl ?_
  refine jr_bipush (v := (39 : Int32)) hE dX12_init_1032 (by decide) ?_
  refine jr_bipush (v := (103 : Int32)) hE dX12_init_1034 (by decide) ?_
  refine jr_iast hE dX12_init_1036 g34 (vp_lit (by decide)) (fun F36 g37 u38 => ?_)
  have g39 := jF.pI g37 (show _ = 39 from rfl) (by decide +kernel)
  have u40 := utr u38 u35
  refine jr_dup hE dX12_init_1037 rfl ?_
  refine jr_bipush (v := (40 : Int32)) hE dX12_init_1038 (by decide) ?_
  refine jr_bipush (v := (101 : Int32)) hE dX12_init_1040 (by decide) ?_
  refine jr_iast hE dX12_init_1042 g39 (vp_lit (by decide)) (fun F41 g42 u43 => ?_)
  have g44 := jF.pI g42 (show _ = 40 from rfl) (by decide +kernel)
  have u45 := utr u43 u40
  refine jr_dup hE dX12_init_1043 rfl ?_
  refine jr_bipush (v := (41 : Int32)) hE dX12_init_1044 (by decide) ?_
  refine jr_bipush (v := (75 : Int32)) hE dX12_init_1046 (by decide) ?_
  refine jr_iast hE dX12_init_1048 g44 (vp_lit (by decide)) (fun F46 g47 u48 => ?_)
  have g49 := jF.pI g47 (show _ = 41 from rfl) (by decide +kernel)
  have u50 := utr u48 u45
  refine jr_dup hE dX12_init_1049 rfl ?_
  refine jr_bipush (v := (42 : Int32)) hE dX12_init_1050 (by decide) ?_
  refine jr_bipush (v := (101 : Int32)) hE dX12_init_1052 (by decide) ?_
  refine jr_iast hE dX12_init_1054 g49 (vp_lit (by decide)) (fun F51 g52 u53 => ?_)
  have g54 := jF.pI g52 (show _ = 42 from rfl) (by decide +kernel)
  have u55 := utr u53 u50
  refine jr_dup hE dX12_init_1055 rfl ?_
  refine jr_bipush (v := (43 : Int32)) hE dX12_init_1056 (by decide) ?_
  refine jr_bipush (v := (121 : Int32)) hE dX12_init_1058 (by decide) ?_
  refine jr_iast hE dX12_init_1060 g54 (vp_lit (by decide)) (fun F56 g57 u58 => ?_)
  have g59 := jF.pI g57 (show _ = 43 from rfl) (by decide +kernel)
  have u60 := utr u58 u55
  refine jr_dup hE dX12_init_1061 rfl ?_
  refine jr_bipush (v := (44 : Int32)) hE dX12_init_1062 (by decide) ?_
  refine jr_bipush (v := (65 : Int32)) hE dX12_init_1064 (by decide) ?_
  refine jr_iast hE dX12_init_1066 g59 (vp_lit (by decide)) (fun F61 g62 u63 => ?_)
  have g64 := jF.pI g62 (show _ = 44 from rfl) (by decide +kernel)
  have u65 := utr u63 u60
  refine jr_dup hE dX12_init_1067 rfl ?_
  refine jr_bipush (v := (45 : Int32)) hE dX12_init_1068 (by decide) ?_
  refine jr_bipush (v := (103 : Int32)) hE dX12_init_1070 (by decide) ?_
  refine jr_iast hE dX12_init_1072 g64 (vp_lit (by decide)) (fun F66 g67 u68 => ?_)
  have g69 := jF.pI g67 (show _ = 45 from rfl) (by decide +kernel)
  have u70 := utr u68 u65
  refine jr_dup hE dX12_init_1073 rfl ?_
  refine jr_bipush (v := (46 : Int32)) hE dX12_init_1074 (by decide) ?_
  refine jr_bipush (v := (103 : Int32)) hE dX12_init_1076 (by decide) ?_
  refine jr_iast hE dX12_init_1078 g69 (vp_lit (by decide)) (fun F71 g72 u73 => ?_)
  have g74 := jF.pI g72 (show _ = 46 from rfl) (by decide +kernel)
  have u75 := utr u73 u70
  refine jr_dup hE dX12_init_1079 rfl ?_
  refine jr_bipush (v := (47 : Int32)) hE dX12_init_1080 (by decide) ?_
  refine jr_bipush (v := (32 : Int32)) hE dX12_init_1082 (by decide) ?_
  refine jr_iast hE dX12_init_1084 g74 (vp_lit (by decide)) (fun F76 g77 u78 => ?_)
  have g79 := jF.pI g77 (show _ = 47 from rfl) (by decide +kernel)
  have u80 := utr u78 u75
  refine jr_dup hE dX12_init_1085 rfl ?_
  refine jr_bipush (v := (48 : Int32)) hE dX12_init_1086 (by decide) ?_
  refine jr_bipush (v := (108 : Int32)) hE dX12_init_1088 (by decide) ?_
  refine jr_iast hE dX12_init_1090 g79 (vp_lit (by decide)) (fun F81 g82 u83 => ?_)
  have g84 := jF.pI g82 (show _ = 48 from rfl) (by decide +kernel)
  have u85 := utr u83 u80
  refine jr_dup hE dX12_init_1091 rfl ?_
  refine jr_bipush (v := (49 : Int32)) hE dX12_init_1092 (by decide) ?_
  refine jr_bipush (v := (105 : Int32)) hE dX12_init_1094 (by decide) ?_
  refine jr_iast hE dX12_init_1096 g84 (vp_lit (by decide)) (fun F86 g87 u88 => ?_)
  have g89 := jF.pI g87 (show _ = 49 from rfl) (by decide +kernel)
  have u90 := utr u88 u85
  refine jr_dup hE dX12_init_1097 rfl ?_
  refine jr_bipush (v := (50 : Int32)) hE dX12_init_1098 (by decide) ?_
  refine jr_bipush (v := (115 : Int32)) hE dX12_init_1100 (by decide) ?_
  refine jr_iast hE dX12_init_1102 g89 (vp_lit (by decide)) (fun F91 g92 u93 => ?_)
  have g94 := jF.pI g92 (show _ = 50 from rfl) (by decide +kernel)
  have u95 := utr u93 u90
  refine jr_dup hE dX12_init_1103 rfl ?_
  refine jr_bipush (v := (51 : Int32)) hE dX12_init_1104 (by decide) ?_
  refine jr_bipush (v := (116 : Int32)) hE dX12_init_1106 (by decide) ?_
  refine jr_iast hE dX12_init_1108 g94 (vp_lit (by decide)) (fun F96 g97 u98 => ?_)
  have g99 := jF.pI g97 (show _ = 51 from rfl) (by decide +kernel)
  have u100 := utr u98 u95
  refine jr_dup hE dX12_init_1109 rfl ?_
  refine jr_bipush (v := (52 : Int32)) hE dX12_init_1110 (by decide) ?_
  refine jr_bipush (v := (75 : Int32)) hE dX12_init_1112 (by decide) ?_
  refine jr_iast hE dX12_init_1114 g99 (vp_lit (by decide)) (fun F101 g102 u103 => ?_)
  have g104 := jF.pI g102 (show _ = 52 from rfl) (by decide +kernel)
  have u105 := utr u103 u100
  refine jr_dup hE dX12_init_1115 rfl ?_
  refine jr_bipush (v := (53 : Int32)) hE dX12_init_1116 (by decide) ?_
  refine jr_bipush (v := (101 : Int32)) hE dX12_init_1118 (by decide) ?_
  refine jr_iast hE dX12_init_1120 g104 (vp_lit (by decide)) (fun F106 g107 u108 => ?_)
  have g109 := jF.pI g107 (show _ = 53 from rfl) (by decide +kernel)
  have u110 := utr u108 u105
  refine jr_dup hE dX12_init_1121 rfl ?_
  refine jr_bipush (v := (54 : Int32)) hE dX12_init_1122 (by decide) ?_
  refine jr_bipush (v := (121 : Int32)) hE dX12_init_1124 (by decide) ?_
  refine jr_iast hE dX12_init_1126 g109 (vp_lit (by decide)) (fun F111 g112 u113 => ?_)
  have g114 := jF.pI g112 (show _ = 54 from rfl) (by decide +kernel)
  have u115 := utr u113 u110
  refine jr_dup hE dX12_init_1127 rfl ?_
  refine jr_bipush (v := (55 : Int32)) hE dX12_init_1128 (by decide) ?_
  refine jr_bipush (v := (65 : Int32)) hE dX12_init_1130 (by decide) ?_
  refine jr_iast hE dX12_init_1132 g114 (vp_lit (by decide)) (fun F116 g117 u118 => ?_)
  have g119 := jF.pI g117 (show _ = 55 from rfl) (by decide +kernel)
  have u120 := utr u118 u115
  refine jr_dup hE dX12_init_1133 rfl ?_
  refine jr_bipush (v := (56 : Int32)) hE dX12_init_1134 (by decide) ?_
  refine jr_bipush (v := (103 : Int32)) hE dX12_init_1136 (by decide) ?_
  refine jr_iast hE dX12_init_1138 g119 (vp_lit (by decide)) (fun F121 g122 u123 => ?_)
  have g124 := jF.pI g122 (show _ = 56 from rfl) (by decide +kernel)
  have u125 := utr u123 u120
  refine jr_dup hE dX12_init_1139 rfl ?_
  refine jr_bipush (v := (57 : Int32)) hE dX12_init_1140 (by decide) ?_
  refine jr_bipush (v := (103 : Int32)) hE dX12_init_1142 (by decide) ?_
  refine jr_iast hE dX12_init_1144 g124 (vp_lit (by decide)) (fun F126 g127 u128 => ?_)
  have g129 := jF.pI g127 (show _ = 57 from rfl) (by decide +kernel)
  have u130 := utr u128 u125
  refine jr_dup hE dX12_init_1145 rfl ?_
  refine jr_bipush (v := (58 : Int32)) hE dX12_init_1146 (by decide) ?_
  refine jr_bipush (v := (32 : Int32)) hE dX12_init_1148 (by decide) ?_
  refine jr_iast hE dX12_init_1150 g129 (vp_lit (by decide)) (fun F131 g132 u133 => ?_)
  have g134 := jF.pI g132 (show _ = 58 from rfl) (by decide +kernel)
  have u135 := utr u133 u130
  refine jr_dup hE dX12_init_1151 rfl ?_
  refine jr_bipush (v := (59 : Int32)) hE dX12_init_1152 (by decide) ?_
  refine jr_bipush (v := (99 : Int32)) hE dX12_init_1154 (by decide) ?_
  refine jr_iast hE dX12_init_1156 g134 (vp_lit (by decide)) (fun F136 g137 u138 => ?_)
  have g139 := jF.pI g137 (show _ = 59 from rfl) (by decide +kernel)
  have u140 := utr u138 u135
  refine jr_dup hE dX12_init_1157 rfl ?_
  refine jr_bipush (v := (60 : Int32)) hE dX12_init_1158 (by decide) ?_
  refine jr_bipush (v := (111 : Int32)) hE dX12_init_1160 (by decide) ?_
  refine jr_iast hE dX12_init_1162 g139 (vp_lit (by decide)) (fun F141 g142 u143 => ?_)
  have g144 := jF.pI g142 (show _ = 60 from rfl) (by decide +kernel)
  have u145 := utr u143 u140
  refine jr_dup hE dX12_init_1163 rfl ?_
  refine jr_bipush (v := (61 : Int32)) hE dX12_init_1164 (by decide) ?_
  refine jr_bipush (v := (101 : Int32)) hE dX12_init_1166 (by decide) ?_
  refine jr_iast hE dX12_init_1168 g144 (vp_lit (by decide)) (fun F146 g147 u148 => ?_)
  have g149 := jF.pI g147 (show _ = 61 from rfl) (by decide +kernel)
  have u150 := utr u148 u145
  refine jr_dup hE dX12_init_1169 rfl ?_
  refine jr_bipush (v := (62 : Int32)) hE dX12_init_1170 (by decide) ?_
  refine jr_bipush (v := (102 : Int32)) hE dX12_init_1172 (by decide) ?_
  refine jr_iast hE dX12_init_1174 g149 (vp_lit (by decide)) (fun F151 g152 u153 => ?_)
  have g154 := jF.pI g152 (show _ = 62 from rfl) (by decide +kernel)
  have u155 := utr u153 u150
  refine jr_dup hE dX12_init_1175 rfl ?_
  refine jr_bipush (v := (63 : Int32)) hE dX12_init_1176 (by decide) ?_
  refine jr_bipush (v := (102 : Int32)) hE dX12_init_1178 (by decide) ?_
  refine jr_iast hE dX12_init_1180 g154 (vp_lit (by decide)) (fun F156 g157 u158 => ?_)
  have g159 := jF.pI g157 (show _ = 63 from rfl) (by decide +kernel)
  have u160 := utr u158 u155
  refine jr_dup hE dX12_init_1181 rfl ?_
  refine jr_bipush (v := (64 : Int32)) hE dX12_init_1182 (by decide) ?_
  refine jr_bipush (v := (105 : Int32)) hE dX12_init_1184 (by decide) ?_
  refine jr_iast hE dX12_init_1186 g159 (vp_lit (by decide)) (fun F161 g162 u163 => ?_)
  have g164 := jF.pI g162 (show _ = 64 from rfl) (by decide +kernel)
  have u165 := utr u163 u160
  exact kk _ _ _ _ _ g ho nq u165 g164
set_option maxHeartbeats 4000000 in
set_option maxRecDepth 100000 in
theorem i12_7 {E : jE} {G : Nat → ClassId} (hE : jOk E G ({ frames := 1, cells := 73, slots := 4867, locals := 20 }) cX12_init 1 RX12 wsX12_init) (hinit : jIn E) {L0 L : List Nat} {F0 F : Nat → va_E} {o : Nat} {A : Nat → Nat} {q : Nat} {Fq : Nat → va_E} (g : gS L0 F0 o 45 A (tX12 G) L F) (ho : jF L F o (.inr (12, [.ref (A 0), .ref (A 1), .ref (A 2), .ref (A 3), .ref (A 4), .ref (A 5), .ref (A 6), .ref (A 7), .ref (A 8), .ref (A 9), .int (0 : Int32), .ref (A 10), .ref (A 11), .ref (A 12), .ref (A 13), .ref (A 14), .int (0 : Int32), .ref (A 15), .ref (A 16), .ref (A 17), .ref (A 18), .ref (A 19), .ref (A 20), .ref (A 21), .int (0 : Int32), .ref (A 22), .ref (A 23), .ref (A 24), .ref (A 25), .int (0 : Int32), .int (0 : Int32), .int (0 : Int32), .ref (A 26), .ref (A 27), .ref (A 28), .ref (A 29), .ref (A 30), .ref (A 31), .ref (A 32), .ref (A 33), .ref (A 34), .ref (A 35), .ref (A 36), .ref (A 37), .ref (A 38), .ref (A 39), .ref (A 40), .ref (A 41), .ref (A 42), .ref (A 43), .ref (A 44), .null, .null, .null, .null, .null, .null, .int (0 : Int32), .null, .null, .null, .null, .null, .null, .null, .null, .null, .null, .null, .null, .null, .null, .null, .null, .null, .null, .null, .null, .int (0 : Int32), .null, .null]))) (nq : q ∉ L) (uq : ∀ x, x ≠ q → Fq x = F x) (hq : jF (L ++ [q]) Fq q (.inl (G 1, 105, .inl (ptI 65 (fun j => nI (tBt j)))))) (kk : ∀ (A1 : Nat → Nat) (L1 : List Nat) (F1 : Nat → va_E) (q : Nat) (Fq : Nat → va_E), (gS L0 F0 o 45 A1 (tX12 G) L1 F1) → (jF L1 F1 o (.inr (12, [.ref (A1 0), .ref (A1 1), .ref (A1 2), .ref (A1 3), .ref (A1 4), .ref (A1 5), .ref (A1 6), .ref (A1 7), .ref (A1 8), .ref (A1 9), .int (0 : Int32), .ref (A1 10), .ref (A1 11), .ref (A1 12), .ref (A1 13), .ref (A1 14), .int (0 : Int32), .ref (A1 15), .ref (A1 16), .ref (A1 17), .ref (A1 18), .ref (A1 19), .ref (A1 20), .ref (A1 21), .int (0 : Int32), .ref (A1 22), .ref (A1 23), .ref (A1 24), .ref (A1 25), .int (0 : Int32), .int (0 : Int32), .int (0 : Int32), .ref (A1 26), .ref (A1 27), .ref (A1 28), .ref (A1 29), .ref (A1 30), .ref (A1 31), .ref (A1 32), .ref (A1 33), .ref (A1 34), .ref (A1 35), .ref (A1 36), .ref (A1 37), .ref (A1 38), .ref (A1 39), .ref (A1 40), .ref (A1 41), .ref (A1 42), .ref (A1 43), .ref (A1 44), .null, .null, .null, .null, .null, .null, .int (0 : Int32), .null, .null, .null, .null, .null, .null, .null, .null, .null, .null, .null, .null, .null, .null, .null, .null, .null, .null, .null, .null, .int (0 : Int32), .null, .null]))) → (q ∉ L1) → (∀ x, x ≠ q → Fq x = F1 x) → (jF (L1 ++ [q]) Fq q (.inl (G 1, 105, .inl (ptI 98 (fun j => nI (tBt j)))))) → J E (L1 ++ [q]) Fq 46 3326 1385 [(0, .ref o)] [.ref q, .ref o]) : J E (L ++ [q]) Fq 46 3326 1187 [(0, .ref o)] [.ref q, .ref o] := by
  refine jr_dup hE dX12_init_1187 rfl ?_
  refine jr_bipush (v := (65 : Int32)) hE dX12_init_1188 (by decide) ?_
  refine jr_bipush (v := (99 : Int32)) hE dX12_init_1190 (by decide) ?_
  refine jr_iast hE dX12_init_1192 hq (vp_lit (by decide)) (fun F1 g2 u3 => ?_)
  have g4 := jF.pI g2 (show _ = 65 from rfl) (by decide +kernel)
  have u5 := utr u3 uq
  refine jr_dup hE dX12_init_1193 rfl ?_
  refine jr_bipush (v := (66 : Int32)) hE dX12_init_1194 (by decide) ?_
  refine jr_bipush (v := (105 : Int32)) hE dX12_init_1196 (by decide) ?_
  refine jr_iast hE dX12_init_1198 g4 (vp_lit (by decide)) (fun F6 g7 u8 => ?_)
  have g9 := jF.pI g7 (show _ = 66 from rfl) (by decide +kernel)
  have u10 := utr u8 u5
  refine jr_dup hE dX12_init_1199 rfl ?_
  refine jr_bipush (v := (67 : Int32)) hE dX12_init_1200 (by decide) ?_
  refine jr_bipush (v := (101 : Int32)) hE dX12_init_1202 (by decide) ?_
  refine jr_iast hE dX12_init_1204 g9 (vp_lit (by decide)) (fun F11 g12 u13 => ?_)
  have g14 := jF.pI g12 (show _ = 67 from rfl) (by decide +kernel)
  have u15 := utr u13 u10
  refine jr_dup hE dX12_init_1205 rfl ?_
  refine jr_bipush (v := (68 : Int32)) hE dX12_init_1206 (by decide) ?_
  refine jr_bipush (v := (110 : Int32)) hE dX12_init_1208 (by decide) ?_
  refine jr_iast hE dX12_init_1210 g14 (vp_lit (by decide)) (fun F16 g17 u18 => ?_)
  have g19 := jF.pI g17 (show _ = 68 from rfl) (by decide +kernel)
  have u20 := utr u18 u15
  refine jr_dup hE dX12_init_1211 rfl ?_
  refine jr_bipush (v := (69 : Int32)) hE dX12_init_1212 (by decide) ?_
  refine jr_bipush (v := (116 : Int32)) hE dX12_init_1214 (by decide) ?_
  refine jr_iast hE dX12_init_1216 g19 (vp_lit (by decide)) (fun F21 g22 u23 => ?_)
  have g24 := jF.pI g22 (show _ = 69 from rfl) (by decide +kernel)
  have u25 := utr u23 u20
  refine jr_dup hE dX12_init_1217 rfl ?_
  refine jr_bipush (v := (70 : Int32)) hE dX12_init_1218 (by decide) ?_
  refine jr_bipush (v := (77 : Int32)) hE dX12_init_1220 (by decide) ?_
  refine jr_iast hE dX12_init_1222 g24 (vp_lit (by decide)) (fun F26 g27 u28 => ?_)
  have g29 := jF.pI g27 (show _ = 70 from rfl) (by decide +kernel)
  have u30 := utr u28 u25
  refine jr_dup hE dX12_init_1223 rfl ?_
  refine jr_bipush (v := (71 : Int32)) hE dX12_init_1224 (by decide) ?_
  refine jr_bipush (v := (117 : Int32)) hE dX12_init_1226 (by decide) ?_
  refine jr_iast hE dX12_init_1228 g29 (vp_lit (by decide)) (fun F31 g32 u33 => ?_)
  have g34 := jF.pI g32 (show _ = 71 from rfl) (by decide +kernel)
  have u35 := utr u33 u30
  refine jr_dup hE dX12_init_1229 rfl ?_
  refine jr_bipush (v := (72 : Int32)) hE dX12_init_1230 (by decide) ?_
  refine jr_bipush (v := (83 : Int32)) hE dX12_init_1232 (by decide) ?_
  refine jr_iast hE dX12_init_1234 g34 (vp_lit (by decide)) (fun F36 g37 u38 => ?_)
  have g39 := jF.pI g37 (show _ = 72 from rfl) (by decide +kernel)
  have u40 := utr u38 u35
  refine jr_dup hE dX12_init_1235 rfl ?_
  refine jr_bipush (v := (73 : Int32)) hE dX12_init_1236 (by decide) ?_
  refine jr_bipush (v := (105 : Int32)) hE dX12_init_1238 (by decide) ?_
  refine jr_iast hE dX12_init_1240 g39 (vp_lit (by decide)) (fun F41 g42 u43 => ?_)
  have g44 := jF.pI g42 (show _ = 73 from rfl) (by decide +kernel)
  have u45 := utr u43 u40
  refine jr_dup hE dX12_init_1241 rfl ?_
  refine jr_bipush (v := (74 : Int32)) hE dX12_init_1242 (by decide) ?_
  refine jr_bipush (v := (103 : Int32)) hE dX12_init_1244 (by decide) ?_
  refine jr_iast hE dX12_init_1246 g44 (vp_lit (by decide)) (fun F46 g47 u48 => ?_)
  have g49 := jF.pI g47 (show _ = 74 from rfl) (by decide +kernel)
  have u50 := utr u48 u45
  refine jr_dup hE dX12_init_1247 rfl ?_
  refine jr_bipush (v := (75 : Int32)) hE dX12_init_1248 (by decide) ?_
  refine jr_bipush (v := (47 : Int32)) hE dX12_init_1250 (by decide) ?_
  refine jr_iast hE dX12_init_1252 g49 (vp_lit (by decide)) (fun F51 g52 u53 => ?_)
  have g54 := jF.pI g52 (show _ = 75 from rfl) (by decide +kernel)
  have u55 := utr u53 u50
  refine jr_dup hE dX12_init_1253 rfl ?_
  refine jr_bipush (v := (76 : Int32)) hE dX12_init_1254 (by decide) ?_
  refine jr_bipush (v := (97 : Int32)) hE dX12_init_1256 (by decide) ?_
  refine jr_iast hE dX12_init_1258 g54 (vp_lit (by decide)) (fun F56 g57 u58 => ?_)
  have g59 := jF.pI g57 (show _ = 76 from rfl) (by decide +kernel)
  have u60 := utr u58 u55
  refine jr_dup hE dX12_init_1259 rfl ?_
  refine jr_bipush (v := (77 : Int32)) hE dX12_init_1260 (by decide) ?_
  refine jr_bipush (v := (117 : Int32)) hE dX12_init_1262 (by decide) ?_
  refine jr_iast hE dX12_init_1264 g59 (vp_lit (by decide)) (fun F61 g62 u63 => ?_)
  have g64 := jF.pI g62 (show _ = 77 from rfl) (by decide +kernel)
  have u65 := utr u63 u60
  refine jr_dup hE dX12_init_1265 rfl ?_
  refine jr_bipush (v := (78 : Int32)) hE dX12_init_1266 (by decide) ?_
  refine jr_bipush (v := (120 : Int32)) hE dX12_init_1268 (by decide) ?_
  refine jr_iast hE dX12_init_1270 g64 (vp_lit (by decide)) (fun F66 g67 u68 => ?_)
  have g69 := jF.pI g67 (show _ = 78 from rfl) (by decide +kernel)
  have u70 := utr u68 u65
  refine jr_dup hE dX12_init_1271 rfl ?_
  refine jr_bipush (v := (79 : Int32)) hE dX12_init_1272 (by decide) ?_
  refine jr_bipush (v := (77 : Int32)) hE dX12_init_1274 (by decide) ?_
  refine jr_iast hE dX12_init_1276 g69 (vp_lit (by decide)) (fun F71 g72 u73 => ?_)
  have g74 := jF.pI g72 (show _ = 79 from rfl) (by decide +kernel)
  have u75 := utr u73 u70
  refine jr_dup hE dX12_init_1277 rfl ?_
  refine jr_bipush (v := (80 : Int32)) hE dX12_init_1278 (by decide) ?_
  refine jr_bipush (v := (117 : Int32)) hE dX12_init_1280 (by decide) ?_
  refine jr_iast hE dX12_init_1282 g74 (vp_lit (by decide)) (fun F76 g77 u78 => ?_)
  have g79 := jF.pI g77 (show _ = 80 from rfl) (by decide +kernel)
  have u80 := utr u78 u75
  refine jr_dup hE dX12_init_1283 rfl ?_
  refine jr_bipush (v := (81 : Int32)) hE dX12_init_1284 (by decide) ?_
  refine jr_bipush (v := (83 : Int32)) hE dX12_init_1286 (by decide) ?_
  refine jr_iast hE dX12_init_1288 g79 (vp_lit (by decide)) (fun F81 g82 u83 => ?_)
  have g84 := jF.pI g82 (show _ = 81 from rfl) (by decide +kernel)
  have u85 := utr u83 u80
  refine jr_dup hE dX12_init_1289 rfl ?_
  refine jr_bipush (v := (82 : Int32)) hE dX12_init_1290 (by decide) ?_
  refine jr_bipush (v := (105 : Int32)) hE dX12_init_1292 (by decide) ?_
  refine jr_iast hE dX12_init_1294 g84 (vp_lit (by decide)) (fun F86 g87 u88 => ?_)
  have g89 := jF.pI g87 (show _ = 82 from rfl) (by decide +kernel)
  have u90 := utr u88 u85
  refine jr_dup hE dX12_init_1295 rfl ?_
  refine jr_bipush (v := (83 : Int32)) hE dX12_init_1296 (by decide) ?_
  refine jr_bipush (v := (103 : Int32)) hE dX12_init_1298 (by decide) ?_
  refine jr_iast hE dX12_init_1300 g89 (vp_lit (by decide)) (fun F91 g92 u93 => ?_)
  have g94 := jF.pI g92 (show _ = 83 from rfl) (by decide +kernel)
  have u95 := utr u93 u90
  refine jr_dup hE dX12_init_1301 rfl ?_
  refine jr_bipush (v := (84 : Int32)) hE dX12_init_1302 (by decide) ?_
  refine jr_bipush (v := (47 : Int32)) hE dX12_init_1304 (by decide) ?_
  refine jr_iast hE dX12_init_1306 g94 (vp_lit (by decide)) (fun F96 g97 u98 => ?_)
  have g99 := jF.pI g97 (show _ = 84 from rfl) (by decide +kernel)
  have u100 := utr u98 u95
  refine jr_dup hE dX12_init_1307 rfl ?_
  refine jr_bipush (v := (85 : Int32)) hE dX12_init_1308 (by decide) ?_
  refine jr_bipush (v := (110 : Int32)) hE dX12_init_1310 (by decide) ?_
  refine jr_iast hE dX12_init_1312 g99 (vp_lit (by decide)) (fun F101 g102 u103 => ?_)
  have g104 := jF.pI g102 (show _ = 85 from rfl) (by decide +kernel)
  have u105 := utr u103 u100
  refine jr_dup hE dX12_init_1313 rfl ?_
  refine jr_bipush (v := (86 : Int32)) hE dX12_init_1314 (by decide) ?_
  refine jr_bipush (v := (111 : Int32)) hE dX12_init_1316 (by decide) ?_
  refine jr_iast hE dX12_init_1318 g104 (vp_lit (by decide)) (fun F106 g107 u108 => ?_)
  have g109 := jF.pI g107 (show _ = 86 from rfl) (by decide +kernel)
  have u110 := utr u108 u105
  refine jr_dup hE dX12_init_1319 rfl ?_
  refine jr_bipush (v := (87 : Int32)) hE dX12_init_1320 (by decide) ?_
  refine jr_bipush (v := (110 : Int32)) hE dX12_init_1322 (by decide) ?_
  refine jr_iast hE dX12_init_1324 g109 (vp_lit (by decide)) (fun F111 g112 u113 => ?_)
  have g114 := jF.pI g112 (show _ = 87 from rfl) (by decide +kernel)
  have u115 := utr u113 u110
  refine jr_dup hE dX12_init_1325 rfl ?_
  refine jr_bipush (v := (88 : Int32)) hE dX12_init_1326 (by decide) ?_
  refine jr_bipush (v := (99 : Int32)) hE dX12_init_1328 (by decide) ?_
  refine jr_iast hE dX12_init_1330 g114 (vp_lit (by decide)) (fun F116 g117 u118 => ?_)
  have g119 := jF.pI g117 (show _ = 88 from rfl) (by decide +kernel)
  have u120 := utr u118 u115
  refine jr_dup hE dX12_init_1331 rfl ?_
  refine jr_bipush (v := (89 : Int32)) hE dX12_init_1332 (by decide) ?_
  refine jr_bipush (v := (101 : Int32)) hE dX12_init_1334 (by decide) ?_
  refine jr_iast hE dX12_init_1336 g119 (vp_lit (by decide)) (fun F121 g122 u123 => ?_)
  have g124 := jF.pI g122 (show _ = 89 from rfl) (by decide +kernel)
  have u125 := utr u123 u120
  refine jr_dup hE dX12_init_1337 rfl ?_
  refine jr_bipush (v := (90 : Int32)) hE dX12_init_1338 (by decide) ?_
  refine jr_bipush (v := (77 : Int32)) hE dX12_init_1340 (by decide) ?_
  refine jr_iast hE dX12_init_1342 g124 (vp_lit (by decide)) (fun F126 g127 u128 => ?_)
  have g129 := jF.pI g127 (show _ = 90 from rfl) (by decide +kernel)
  have u130 := utr u128 u125
  refine jr_dup hE dX12_init_1343 rfl ?_
  refine jr_bipush (v := (91 : Int32)) hE dX12_init_1344 (by decide) ?_
  refine jr_bipush (v := (117 : Int32)) hE dX12_init_1346 (by decide) ?_
  refine jr_iast hE dX12_init_1348 g129 (vp_lit (by decide)) (fun F131 g132 u133 => ?_)
  have g134 := jF.pI g132 (show _ = 91 from rfl) (by decide +kernel)
  have u135 := utr u133 u130
  refine jr_dup hE dX12_init_1349 rfl ?_
  refine jr_bipush (v := (92 : Int32)) hE dX12_init_1350 (by decide) ?_
  refine jr_bipush (v := (83 : Int32)) hE dX12_init_1352 (by decide) ?_
  refine jr_iast hE dX12_init_1354 g134 (vp_lit (by decide)) (fun F136 g137 u138 => ?_)
  have g139 := jF.pI g137 (show _ = 92 from rfl) (by decide +kernel)
  have u140 := utr u138 u135
  refine jr_dup hE dX12_init_1355 rfl ?_
  refine jr_bipush (v := (93 : Int32)) hE dX12_init_1356 (by decide) ?_
  refine jr_bipush (v := (105 : Int32)) hE dX12_init_1358 (by decide) ?_
  refine jr_iast hE dX12_init_1360 g139 (vp_lit (by decide)) (fun F141 g142 u143 => ?_)
  have g144 := jF.pI g142 (show _ = 93 from rfl) (by decide +kernel)
  have u145 := utr u143 u140
  refine jr_dup hE dX12_init_1361 rfl ?_
  refine jr_bipush (v := (94 : Int32)) hE dX12_init_1362 (by decide) ?_
  refine jr_bipush (v := (103 : Int32)) hE dX12_init_1364 (by decide) ?_
  refine jr_iast hE dX12_init_1366 g144 (vp_lit (by decide)) (fun F146 g147 u148 => ?_)
  have g149 := jF.pI g147 (show _ = 94 from rfl) (by decide +kernel)
  have u150 := utr u148 u145
  refine jr_dup hE dX12_init_1367 rfl ?_
  refine jr_bipush (v := (95 : Int32)) hE dX12_init_1368 (by decide) ?_
  refine jr_bipush (v := (47 : Int32)) hE dX12_init_1370 (by decide) ?_
  refine jr_iast hE dX12_init_1372 g149 (vp_lit (by decide)) (fun F151 g152 u153 => ?_)
  have g154 := jF.pI g152 (show _ = 95 from rfl) (by decide +kernel)
  have u155 := utr u153 u150
  refine jr_dup hE dX12_init_1373 rfl ?_
  refine jr_bipush (v := (96 : Int32)) hE dX12_init_1374 (by decide) ?_
  refine jr_bipush (v := (110 : Int32)) hE dX12_init_1376 (by decide) ?_
  refine jr_iast hE dX12_init_1378 g154 (vp_lit (by decide)) (fun F156 g157 u158 => ?_)
  have g159 := jF.pI g157 (show _ = 96 from rfl) (by decide +kernel)
  have u160 := utr u158 u155
  refine jr_dup hE dX12_init_1379 rfl ?_
  refine jr_bipush (v := (97 : Int32)) hE dX12_init_1380 (by decide) ?_
  refine jr_bipush (v := (111 : Int32)) hE dX12_init_1382 (by decide) ?_
  refine jr_iast hE dX12_init_1384 g159 (vp_lit (by decide)) (fun F161 g162 u163 => ?_)
  have g164 := jF.pI g162 (show _ = 97 from rfl) (by decide +kernel)
  have u165 := utr u163 u160
  exact kk _ _ _ _ _ g ho nq u165 g164
set_option maxHeartbeats 4000000 in
set_option maxRecDepth 100000 in
theorem i12_8 {E : jE} {G : Nat → ClassId} (hE : jOk E G ({ frames := 1, cells := 73, slots := 4867, locals := 20 }) cX12_init 1 RX12 wsX12_init) (hinit : jIn E) {L0 L : List Nat} {F0 F : Nat → va_E} {o : Nat} {A : Nat → Nat} {q : Nat} {Fq : Nat → va_E} (g : gS L0 F0 o 45 A (tX12 G) L F) (ho : jF L F o (.inr (12, [.ref (A 0), .ref (A 1), .ref (A 2), .ref (A 3), .ref (A 4), .ref (A 5), .ref (A 6), .ref (A 7), .ref (A 8), .ref (A 9), .int (0 : Int32), .ref (A 10), .ref (A 11), .ref (A 12), .ref (A 13), .ref (A 14), .int (0 : Int32), .ref (A 15), .ref (A 16), .ref (A 17), .ref (A 18), .ref (A 19), .ref (A 20), .ref (A 21), .int (0 : Int32), .ref (A 22), .ref (A 23), .ref (A 24), .ref (A 25), .int (0 : Int32), .int (0 : Int32), .int (0 : Int32), .ref (A 26), .ref (A 27), .ref (A 28), .ref (A 29), .ref (A 30), .ref (A 31), .ref (A 32), .ref (A 33), .ref (A 34), .ref (A 35), .ref (A 36), .ref (A 37), .ref (A 38), .ref (A 39), .ref (A 40), .ref (A 41), .ref (A 42), .ref (A 43), .ref (A 44), .null, .null, .null, .null, .null, .null, .int (0 : Int32), .null, .null, .null, .null, .null, .null, .null, .null, .null, .null, .null, .null, .null, .null, .null, .null, .null, .null, .null, .null, .int (0 : Int32), .null, .null]))) (nq : q ∉ L) (uq : ∀ x, x ≠ q → Fq x = F x) (hq : jF (L ++ [q]) Fq q (.inl (G 1, 105, .inl (ptI 98 (fun j => nI (tBt j)))))) (kk : ∀ (A1 : Nat → Nat) (L1 : List Nat) (F1 : Nat → va_E) (q : Nat) (Fq : Nat → va_E), (gS L0 F0 o 46 A1 (tX12 G) L1 F1) → (jF L1 F1 o (.inr (12, [.ref (A1 0), .ref (A1 1), .ref (A1 2), .ref (A1 3), .ref (A1 4), .ref (A1 5), .ref (A1 6), .ref (A1 7), .ref (A1 8), .ref (A1 9), .int (0 : Int32), .ref (A1 10), .ref (A1 11), .ref (A1 12), .ref (A1 13), .ref (A1 14), .int (0 : Int32), .ref (A1 15), .ref (A1 16), .ref (A1 17), .ref (A1 18), .ref (A1 19), .ref (A1 20), .ref (A1 21), .int (0 : Int32), .ref (A1 22), .ref (A1 23), .ref (A1 24), .ref (A1 25), .int (0 : Int32), .int (0 : Int32), .int (0 : Int32), .ref (A1 26), .ref (A1 27), .ref (A1 28), .ref (A1 29), .ref (A1 30), .ref (A1 31), .ref (A1 32), .ref (A1 33), .ref (A1 34), .ref (A1 35), .ref (A1 36), .ref (A1 37), .ref (A1 38), .ref (A1 39), .ref (A1 40), .ref (A1 41), .ref (A1 42), .ref (A1 43), .ref (A1 44), .ref (A1 45), .null, .null, .null, .null, .null, .int (0 : Int32), .null, .null, .null, .null, .null, .null, .null, .null, .null, .null, .null, .null, .null, .null, .null, .null, .null, .null, .null, .null, .int (0 : Int32), .null, .null]))) → (q ∉ L1) → (∀ x, x ≠ q → Fq x = F1 x) → (jF (L1 ++ [q]) Fq q (.inl (G 1, 64, .inl (ptI 25 (fun j => jROUND.getD j 0))))) → J E (L1 ++ [q]) Fq 47 3390 1579 [(0, .ref o)] [.ref q, .ref o]) : J E (L ++ [q]) Fq 46 3326 1385 [(0, .ref o)] [.ref q, .ref o] := by
  have f211 : jFl RX12 wsX12_init 211 12 51 := ⟨rfl, by decide, by decide +kernel, by decide +kernel⟩
  refine jr_dup hE dX12_init_1385 rfl ?_
  refine jr_bipush (v := (98 : Int32)) hE dX12_init_1386 (by decide) ?_
  refine jr_bipush (v := (110 : Int32)) hE dX12_init_1388 (by decide) ?_
  refine jr_iast hE dX12_init_1390 hq (vp_lit (by decide)) (fun F1 g2 u3 => ?_)
  have g4 := jF.pI g2 (show _ = 98 from rfl) (by decide +kernel)
  have u5 := utr u3 uq
  refine jr_dup hE dX12_init_1391 rfl ?_
  refine jr_bipush (v := (99 : Int32)) hE dX12_init_1392 (by decide) ?_
  refine jr_bipush (v := (99 : Int32)) hE dX12_init_1394 (by decide) ?_
  refine jr_iast hE dX12_init_1396 g4 (vp_lit (by decide)) (fun F6 g7 u8 => ?_)
  have g9 := jF.pI g7 (show _ = 99 from rfl) (by decide +kernel)
  have u10 := utr u8 u5
  refine jr_dup hE dX12_init_1397 rfl ?_
  refine jr_bipush (v := (100 : Int32)) hE dX12_init_1398 (by decide) ?_
  refine jr_bipush (v := (101 : Int32)) hE dX12_init_1400 (by decide) ?_
  refine jr_iast hE dX12_init_1402 g9 (vp_lit (by decide)) (fun F11 g12 u13 => ?_)
  have g14 := jF.pI g12 (show _ = 100 from rfl) (by decide +kernel)
  have u15 := utr u13 u10
  refine jr_dup hE dX12_init_1403 rfl ?_
  refine jr_bipush (v := (101 : Int32)) hE dX12_init_1404 (by decide) ?_
  refine jr_bipush (v := (99 : Int32)) hE dX12_init_1406 (by decide) ?_
  refine jr_iast hE dX12_init_1408 g14 (vp_lit (by decide)) (fun F16 g17 u18 => ?_)
  have g19 := jF.pI g17 (show _ = 101 from rfl) (by decide +kernel)
  have u20 := utr u18 u15
  refine jr_dup hE dX12_init_1409 rfl ?_
  refine jr_bipush (v := (102 : Int32)) hE dX12_init_1410 (by decide) ?_
  refine jr_bipush (v := (111 : Int32)) hE dX12_init_1412 (by decide) ?_
  refine jr_iast hE dX12_init_1414 g19 (vp_lit (by decide)) (fun F21 g22 u23 => ?_)
  have g24 := jF.pI g22 (show _ = 102 from rfl) (by decide +kernel)
  have u25 := utr u23 u20
  refine jr_dup hE dX12_init_1415 rfl ?_
  refine jr_bipush (v := (103 : Int32)) hE dX12_init_1416 (by decide) ?_
  refine jr_bipush (v := (101 : Int32)) hE dX12_init_1418 (by decide) ?_
  refine jr_iast hE dX12_init_1420 g24 (vp_lit (by decide)) (fun F26 g27 u28 => ?_)
  have g29 := jF.pI g27 (show _ = 103 from rfl) (by decide +kernel)
  have u30 := utr u28 u25
  refine jr_dup hE dX12_init_1421 rfl ?_
  refine jr_bipush (v := (104 : Int32)) hE dX12_init_1422 (by decide) ?_
  refine jr_bipush (v := (102 : Int32)) hE dX12_init_1424 (by decide) ?_
  refine jr_iast hE dX12_init_1426 g29 (vp_lit (by decide)) (fun F31 g32 u33 => ?_)
  have g34 := jF.pI g32 (show _ = 104 from rfl) (by decide +kernel)
  have u35 := utr u33 u30
  have g36 := ho.nw nq u35
  have g37 := g.nx nq u35 g34
  refine jr_putF (ty := .array .int) hE dX12_init_1427 f211 g36 rfl hinit rfl (by decide +kernel) rfl rfl (Nat.le_of_ble_eq_true rfl) (fun F39 g40 u41 => ?_)
  have g40 : jF (L ++ [q]) F39 o (.inr (12, [.ref (A 0), .ref (A 1), .ref (A 2), .ref (A 3), .ref (A 4), .ref (A 5), .ref (A 6), .ref (A 7), .ref (A 8), .ref (A 9), .int (0 : Int32), .ref (A 10), .ref (A 11), .ref (A 12), .ref (A 13), .ref (A 14), .int (0 : Int32), .ref (A 15), .ref (A 16), .ref (A 17), .ref (A 18), .ref (A 19), .ref (A 20), .ref (A 21), .int (0 : Int32), .ref (A 22), .ref (A 23), .ref (A 24), .ref (A 25), .int (0 : Int32), .int (0 : Int32), .int (0 : Int32), .ref (A 26), .ref (A 27), .ref (A 28), .ref (A 29), .ref (A 30), .ref (A 31), .ref (A 32), .ref (A 33), .ref (A 34), .ref (A 35), .ref (A 36), .ref (A 37), .ref (A 38), .ref (A 39), .ref (A 40), .ref (A 41), .ref (A 42), .ref (A 43), .ref (A 44), .ref q, .null, .null, .null, .null, .null, .int (0 : Int32), .null, .null, .null, .null, .null, .null, .null, .null, .null, .null, .null, .null, .null, .null, .null, .null, .null, .null, .null, .null, .int (0 : Int32), .null, .null])) := g40
  have g42 := g37.put u41
  refine jr_aload_n hE dX12_init_1430 0 rfl ?_
  refine jr_bipush (v := (64 : Int32)) hE dX12_init_1431 (by decide) ?_
  refine jr_newa (ty := .int) (g := 1) (N := 64) (a0 := (64, .inl (fun _ => 0))) hE dX12_init_1433 (by decide +kernel) rfl rfl (fun _ e => by cases e) (fun _ => rfl) (by decide) (by decide) (by decide) ⟨by decide, by decide⟩ (fun q43 F44 n45 g46 u47 => ?_)
  have g48 := jF.pI0 g46 (fun j => jROUND.getD j 0)
  refine jr_dup hE dX12_init_1435 rfl ?_
  refine jr_iconst (v := (0 : Int32)) hE dX12_init_1436 (by decide) ?_
  refine jr_ldc (v := (1116352408 : Int32)) hE dX12_init_1437 (by decide +kernel) ?_
  refine jr_iast hE dX12_init_1439 g48 (vp_lit (by decide)) (fun F49 g50 u51 => ?_)
  have g52 := jF.pI g50 (show _ = 0 from rfl) (by decide +kernel)
  have u53 := utr u51 u47
  refine jr_dup hE dX12_init_1440 rfl ?_
  refine jr_iconst (v := (1 : Int32)) hE dX12_init_1441 (by decide) ?_
  refine jr_ldc (v := (1899447441 : Int32)) hE dX12_init_1442 (by decide +kernel) ?_
  refine jr_iast hE dX12_init_1444 g52 (vp_lit (by decide)) (fun F54 g55 u56 => ?_)
  have g57 := jF.pI g55 (show _ = 1 from rfl) (by decide +kernel)
  have u58 := utr u56 u53
  refine jr_dup hE dX12_init_1445 rfl ?_
  refine jr_iconst (v := (2 : Int32)) hE dX12_init_1446 (by decide) ?_
  refine jr_ldc (v := (-1245643825 : Int32)) hE dX12_init_1447 (by decide +kernel) ?_
  refine jr_iast hE dX12_init_1449 g57 (vp_lit (by decide)) (fun F59 g60 u61 => ?_)
  have g62 := jF.pI g60 (show _ = 2 from rfl) (by decide +kernel)
  have u63 := utr u61 u58
  refine jr_dup hE dX12_init_1450 rfl ?_
  refine jr_iconst (v := (3 : Int32)) hE dX12_init_1451 (by decide) ?_
  refine jr_ldc (v := (-373957723 : Int32)) hE dX12_init_1452 (by decide +kernel) ?_
  refine jr_iast hE dX12_init_1454 g62 (vp_lit (by decide)) (fun F64 g65 u66 => ?_)
  have g67 := jF.pI g65 (show _ = 3 from rfl) (by decide +kernel)
  have u68 := utr u66 u63
  refine jr_dup hE dX12_init_1455 rfl ?_
  refine jr_iconst (v := (4 : Int32)) hE dX12_init_1456 (by decide) ?_
  refine jr_ldc (v := (961987163 : Int32)) hE dX12_init_1457 (by decide +kernel) ?_
  refine jr_iast hE dX12_init_1459 g67 (vp_lit (by decide)) (fun F69 g70 u71 => ?_)
  have g72 := jF.pI g70 (show _ = 4 from rfl) (by decide +kernel)
  have u73 := utr u71 u68
  refine jr_dup hE dX12_init_1460 rfl ?_
  refine jr_iconst (v := (5 : Int32)) hE dX12_init_1461 (by decide) ?_
  refine jr_ldc (v := (1508970993 : Int32)) hE dX12_init_1462 (by decide +kernel) ?_
  refine jr_iast hE dX12_init_1464 g72 (vp_lit (by decide)) (fun F74 g75 u76 => ?_)
  have g77 := jF.pI g75 (show _ = 5 from rfl) (by decide +kernel)
  have u78 := utr u76 u73
  refine jr_dup hE dX12_init_1465 rfl ?_
  refine jr_bipush (v := (6 : Int32)) hE dX12_init_1466 (by decide) ?_
  refine jr_ldc (v := (-1841331548 : Int32)) hE dX12_init_1468 (by decide +kernel) ?_
  refine jr_iast hE dX12_init_1470 g77 (vp_lit (by decide)) (fun F79 g80 u81 => ?_)
  have g82 := jF.pI g80 (show _ = 6 from rfl) (by decide +kernel)
  have u83 := utr u81 u78
  refine jr_dup hE dX12_init_1471 rfl ?_
  refine jr_bipush (v := (7 : Int32)) hE dX12_init_1472 (by decide) ?_
  refine jr_ldc (v := (-1424204075 : Int32)) hE dX12_init_1474 (by decide +kernel) ?_
  refine jr_iast hE dX12_init_1476 g82 (vp_lit (by decide)) (fun F84 g85 u86 => ?_)
  have g87 := jF.pI g85 (show _ = 7 from rfl) (by decide +kernel)
  have u88 := utr u86 u83
  refine jr_dup hE dX12_init_1477 rfl ?_
  refine jr_bipush (v := (8 : Int32)) hE dX12_init_1478 (by decide) ?_
  refine jr_ldc (v := (-670586216 : Int32)) hE dX12_init_1480 (by decide +kernel) ?_
  refine jr_iast hE dX12_init_1482 g87 (vp_lit (by decide)) (fun F89 g90 u91 => ?_)
  have g92 := jF.pI g90 (show _ = 8 from rfl) (by decide +kernel)
  have u93 := utr u91 u88
  refine jr_dup hE dX12_init_1483 rfl ?_
  refine jr_bipush (v := (9 : Int32)) hE dX12_init_1484 (by decide) ?_
  refine jr_ldc (v := (310598401 : Int32)) hE dX12_init_1486 (by decide +kernel) ?_
  refine jr_iast hE dX12_init_1488 g92 (vp_lit (by decide)) (fun F94 g95 u96 => ?_)
  have g97 := jF.pI g95 (show _ = 9 from rfl) (by decide +kernel)
  have u98 := utr u96 u93
  refine jr_dup hE dX12_init_1489 rfl ?_
  refine jr_bipush (v := (10 : Int32)) hE dX12_init_1490 (by decide) ?_
  refine jr_ldc (v := (607225278 : Int32)) hE dX12_init_1492 (by decide +kernel) ?_
  refine jr_iast hE dX12_init_1494 g97 (vp_lit (by decide)) (fun F99 g100 u101 => ?_)
  have g102 := jF.pI g100 (show _ = 10 from rfl) (by decide +kernel)
  have u103 := utr u101 u98
  refine jr_dup hE dX12_init_1495 rfl ?_
  refine jr_bipush (v := (11 : Int32)) hE dX12_init_1496 (by decide) ?_
  refine jr_ldc (v := (1426881987 : Int32)) hE dX12_init_1498 (by decide +kernel) ?_
  refine jr_iast hE dX12_init_1500 g102 (vp_lit (by decide)) (fun F104 g105 u106 => ?_)
  have g107 := jF.pI g105 (show _ = 11 from rfl) (by decide +kernel)
  have u108 := utr u106 u103
  refine jr_dup hE dX12_init_1501 rfl ?_
  refine jr_bipush (v := (12 : Int32)) hE dX12_init_1502 (by decide) ?_
  refine jr_ldc (v := (1925078388 : Int32)) hE dX12_init_1504 (by decide +kernel) ?_
  refine jr_iast hE dX12_init_1506 g107 (vp_lit (by decide)) (fun F109 g110 u111 => ?_)
  have g112 := jF.pI g110 (show _ = 12 from rfl) (by decide +kernel)
  have u113 := utr u111 u108
  refine jr_dup hE dX12_init_1507 rfl ?_
  refine jr_bipush (v := (13 : Int32)) hE dX12_init_1508 (by decide) ?_
  refine jr_ldc (v := (-2132889090 : Int32)) hE dX12_init_1510 (by decide +kernel) ?_
  refine jr_iast hE dX12_init_1512 g112 (vp_lit (by decide)) (fun F114 g115 u116 => ?_)
  have g117 := jF.pI g115 (show _ = 13 from rfl) (by decide +kernel)
  have u118 := utr u116 u113
  refine jr_dup hE dX12_init_1513 rfl ?_
  refine jr_bipush (v := (14 : Int32)) hE dX12_init_1514 (by decide) ?_
  refine jr_ldc (v := (-1680079193 : Int32)) hE dX12_init_1516 (by decide +kernel) ?_
  refine jr_iast hE dX12_init_1518 g117 (vp_lit (by decide)) (fun F119 g120 u121 => ?_)
  have g122 := jF.pI g120 (show _ = 14 from rfl) (by decide +kernel)
  have u123 := utr u121 u118
  refine jr_dup hE dX12_init_1519 rfl ?_
  refine jr_bipush (v := (15 : Int32)) hE dX12_init_1520 (by decide) ?_
  refine jr_ldc (v := (-1046744716 : Int32)) hE dX12_init_1522 (by decide +kernel) ?_
  refine jr_iast hE dX12_init_1524 g122 (vp_lit (by decide)) (fun F124 g125 u126 => ?_)
  have g127 := jF.pI g125 (show _ = 15 from rfl) (by decide +kernel)
  have u128 := utr u126 u123
  refine jr_dup hE dX12_init_1525 rfl ?_
  refine jr_bipush (v := (16 : Int32)) hE dX12_init_1526 (by decide) ?_
  refine jr_ldc (v := (-459576895 : Int32)) hE dX12_init_1528 (by decide +kernel) ?_
  refine jr_iast hE dX12_init_1530 g127 (vp_lit (by decide)) (fun F129 g130 u131 => ?_)
  have g132 := jF.pI g130 (show _ = 16 from rfl) (by decide +kernel)
  have u133 := utr u131 u128
  refine jr_dup hE dX12_init_1531 rfl ?_
  refine jr_bipush (v := (17 : Int32)) hE dX12_init_1532 (by decide) ?_
  refine jr_ldc (v := (-272742522 : Int32)) hE dX12_init_1534 (by decide +kernel) ?_
  refine jr_iast hE dX12_init_1536 g132 (vp_lit (by decide)) (fun F134 g135 u136 => ?_)
  have g137 := jF.pI g135 (show _ = 17 from rfl) (by decide +kernel)
  have u138 := utr u136 u133
  refine jr_dup hE dX12_init_1537 rfl ?_
  refine jr_bipush (v := (18 : Int32)) hE dX12_init_1538 (by decide) ?_
  refine jr_ldc (v := (264347078 : Int32)) hE dX12_init_1540 (by decide +kernel) ?_
  refine jr_iast hE dX12_init_1542 g137 (vp_lit (by decide)) (fun F139 g140 u141 => ?_)
  have g142 := jF.pI g140 (show _ = 18 from rfl) (by decide +kernel)
  have u143 := utr u141 u138
  refine jr_dup hE dX12_init_1543 rfl ?_
  refine jr_bipush (v := (19 : Int32)) hE dX12_init_1544 (by decide) ?_
  refine jr_ldc (v := (604807628 : Int32)) hE dX12_init_1546 (by decide +kernel) ?_
  refine jr_iast hE dX12_init_1548 g142 (vp_lit (by decide)) (fun F144 g145 u146 => ?_)
  have g147 := jF.pI g145 (show _ = 19 from rfl) (by decide +kernel)
  have u148 := utr u146 u143
  refine jr_dup hE dX12_init_1549 rfl ?_
  refine jr_bipush (v := (20 : Int32)) hE dX12_init_1550 (by decide) ?_
  refine jr_ldc (v := (770255983 : Int32)) hE dX12_init_1552 (by decide +kernel) ?_
  refine jr_iast hE dX12_init_1554 g147 (vp_lit (by decide)) (fun F149 g150 u151 => ?_)
  have g152 := jF.pI g150 (show _ = 20 from rfl) (by decide +kernel)
  have u153 := utr u151 u148
  refine jr_dup hE dX12_init_1555 rfl ?_
  refine jr_bipush (v := (21 : Int32)) hE dX12_init_1556 (by decide) ?_
  refine jr_ldc (v := (1249150122 : Int32)) hE dX12_init_1558 (by decide +kernel) ?_
  refine jr_iast hE dX12_init_1560 g152 (vp_lit (by decide)) (fun F154 g155 u156 => ?_)
  have g157 := jF.pI g155 (show _ = 21 from rfl) (by decide +kernel)
  have u158 := utr u156 u153
  refine jr_dup hE dX12_init_1561 rfl ?_
  refine jr_bipush (v := (22 : Int32)) hE dX12_init_1562 (by decide) ?_
  refine jr_ldc (v := (1555081692 : Int32)) hE dX12_init_1564 (by decide +kernel) ?_
  refine jr_iast hE dX12_init_1566 g157 (vp_lit (by decide)) (fun F159 g160 u161 => ?_)
  have g162 := jF.pI g160 (show _ = 22 from rfl) (by decide +kernel)
  have u163 := utr u161 u158
  refine jr_dup hE dX12_init_1567 rfl ?_
  refine jr_bipush (v := (23 : Int32)) hE dX12_init_1568 (by decide) ?_
  refine jr_ldc (v := (1996064986 : Int32)) hE dX12_init_1570 (by decide +kernel) ?_
  refine jr_iast hE dX12_init_1572 g162 (vp_lit (by decide)) (fun F164 g165 u166 => ?_)
  have g167 := jF.pI g165 (show _ = 23 from rfl) (by decide +kernel)
  have u168 := utr u166 u163
  refine jr_dup hE dX12_init_1573 rfl ?_
  refine jr_bipush (v := (24 : Int32)) hE dX12_init_1574 (by decide) ?_
  refine jr_ldc (v := (-1740746414 : Int32)) hE dX12_init_1576 (by decide +kernel) ?_
  refine jr_iast hE dX12_init_1578 g167 (vp_lit (by decide)) (fun F169 g170 u171 => ?_)
  have g172 := jF.pI g170 (show _ = 24 from rfl) (by decide +kernel)
  have u173 := utr u171 u168
  exact kk _ _ _ _ _ g42 g40 n45 u173 g172
set_option maxHeartbeats 4000000 in
set_option maxRecDepth 100000 in
theorem i12_9 {E : jE} {G : Nat → ClassId} (hE : jOk E G ({ frames := 1, cells := 73, slots := 4867, locals := 20 }) cX12_init 1 RX12 wsX12_init) (hinit : jIn E) {L0 L : List Nat} {F0 F : Nat → va_E} {o : Nat} {A : Nat → Nat} {q : Nat} {Fq : Nat → va_E} (g : gS L0 F0 o 46 A (tX12 G) L F) (ho : jF L F o (.inr (12, [.ref (A 0), .ref (A 1), .ref (A 2), .ref (A 3), .ref (A 4), .ref (A 5), .ref (A 6), .ref (A 7), .ref (A 8), .ref (A 9), .int (0 : Int32), .ref (A 10), .ref (A 11), .ref (A 12), .ref (A 13), .ref (A 14), .int (0 : Int32), .ref (A 15), .ref (A 16), .ref (A 17), .ref (A 18), .ref (A 19), .ref (A 20), .ref (A 21), .int (0 : Int32), .ref (A 22), .ref (A 23), .ref (A 24), .ref (A 25), .int (0 : Int32), .int (0 : Int32), .int (0 : Int32), .ref (A 26), .ref (A 27), .ref (A 28), .ref (A 29), .ref (A 30), .ref (A 31), .ref (A 32), .ref (A 33), .ref (A 34), .ref (A 35), .ref (A 36), .ref (A 37), .ref (A 38), .ref (A 39), .ref (A 40), .ref (A 41), .ref (A 42), .ref (A 43), .ref (A 44), .ref (A 45), .null, .null, .null, .null, .null, .int (0 : Int32), .null, .null, .null, .null, .null, .null, .null, .null, .null, .null, .null, .null, .null, .null, .null, .null, .null, .null, .null, .null, .int (0 : Int32), .null, .null]))) (nq : q ∉ L) (uq : ∀ x, x ≠ q → Fq x = F x) (hq : jF (L ++ [q]) Fq q (.inl (G 1, 64, .inl (ptI 25 (fun j => jROUND.getD j 0))))) (kk : ∀ (A1 : Nat → Nat) (L1 : List Nat) (F1 : Nat → va_E) (q : Nat) (Fq : Nat → va_E), (gS L0 F0 o 46 A1 (tX12 G) L1 F1) → (jF L1 F1 o (.inr (12, [.ref (A1 0), .ref (A1 1), .ref (A1 2), .ref (A1 3), .ref (A1 4), .ref (A1 5), .ref (A1 6), .ref (A1 7), .ref (A1 8), .ref (A1 9), .int (0 : Int32), .ref (A1 10), .ref (A1 11), .ref (A1 12), .ref (A1 13), .ref (A1 14), .int (0 : Int32), .ref (A1 15), .ref (A1 16), .ref (A1 17), .ref (A1 18), .ref (A1 19), .ref (A1 20), .ref (A1 21), .int (0 : Int32), .ref (A1 22), .ref (A1 23), .ref (A1 24), .ref (A1 25), .int (0 : Int32), .int (0 : Int32), .int (0 : Int32), .ref (A1 26), .ref (A1 27), .ref (A1 28), .ref (A1 29), .ref (A1 30), .ref (A1 31), .ref (A1 32), .ref (A1 33), .ref (A1 34), .ref (A1 35), .ref (A1 36), .ref (A1 37), .ref (A1 38), .ref (A1 39), .ref (A1 40), .ref (A1 41), .ref (A1 42), .ref (A1 43), .ref (A1 44), .ref (A1 45), .null, .null, .null, .null, .null, .int (0 : Int32), .null, .null, .null, .null, .null, .null, .null, .null, .null, .null, .null, .null, .null, .null, .null, .null, .null, .null, .null, .null, .int (0 : Int32), .null, .null]))) → (q ∉ L1) → (∀ x, x ≠ q → Fq x = F1 x) → (jF (L1 ++ [q]) Fq q (.inl (G 1, 64, .inl (ptI 58 (fun j => jROUND.getD j 0))))) → J E (L1 ++ [q]) Fq 47 3390 1793 [(0, .ref o)] [.ref q, .ref o]) : J E (L ++ [q]) Fq 47 3390 1579 [(0, .ref o)] [.ref q, .ref o] := by
  refine jr_dup hE dX12_init_1579 rfl ?_
  refine jr_bipush (v := (25 : Int32)) hE dX12_init_1580 (by decide) ?_
  refine jr_ldc (v := (-1473132947 : Int32)) hE dX12_init_1582 (by decide +kernel) ?_
  refine jr_iast hE dX12_init_1584 hq (vp_lit (by decide)) (fun F1 g2 u3 => ?_)
  have g4 := jF.pI g2 (show _ = 25 from rfl) (by decide +kernel)
  have u5 := utr u3 uq
  refine jr_dup hE dX12_init_1585 rfl ?_
  refine jr_bipush (v := (26 : Int32)) hE dX12_init_1586 (by decide) ?_
  refine jr_ldc (v := (-1341970488 : Int32)) hE dX12_init_1588 (by decide +kernel) ?_
  refine jr_iast hE dX12_init_1590 g4 (vp_lit (by decide)) (fun F6 g7 u8 => ?_)
  have g9 := jF.pI g7 (show _ = 26 from rfl) (by decide +kernel)
  have u10 := utr u8 u5
  refine jr_dup hE dX12_init_1591 rfl ?_
  refine jr_bipush (v := (27 : Int32)) hE dX12_init_1592 (by decide) ?_
  refine jr_ldc (v := (-1084653625 : Int32)) hE dX12_init_1594 (by decide +kernel) ?_
  refine jr_iast hE dX12_init_1596 g9 (vp_lit (by decide)) (fun F11 g12 u13 => ?_)
  have g14 := jF.pI g12 (show _ = 27 from rfl) (by decide +kernel)
  have u15 := utr u13 u10
  refine jr_dup hE dX12_init_1597 rfl ?_
  refine jr_bipush (v := (28 : Int32)) hE dX12_init_1598 (by decide) ?_
  refine jr_ldc (v := (-958395405 : Int32)) hE dX12_init_1600 (by decide +kernel) ?_
  refine jr_iast hE dX12_init_1602 g14 (vp_lit (by decide)) (fun F16 g17 u18 => ?_)
  have g19 := jF.pI g17 (show _ = 28 from rfl) (by decide +kernel)
  have u20 := utr u18 u15
  refine jr_dup hE dX12_init_1603 rfl ?_
  refine jr_bipush (v := (29 : Int32)) hE dX12_init_1604 (by decide) ?_
  refine jr_ldc (v := (-710438585 : Int32)) hE dX12_init_1606 (by decide +kernel) ?_
  refine jr_iast hE dX12_init_1608 g19 (vp_lit (by decide)) (fun F21 g22 u23 => ?_)
  have g24 := jF.pI g22 (show _ = 29 from rfl) (by decide +kernel)
  have u25 := utr u23 u20
  refine jr_dup hE dX12_init_1609 rfl ?_
  refine jr_bipush (v := (30 : Int32)) hE dX12_init_1610 (by decide) ?_
  refine jr_ldc (v := (113926993 : Int32)) hE dX12_init_1612 (by decide +kernel) ?_
  refine jr_iast hE dX12_init_1614 g24 (vp_lit (by decide)) (fun F26 g27 u28 => ?_)
  have g29 := jF.pI g27 (show _ = 30 from rfl) (by decide +kernel)
  have u30 := utr u28 u25
  refine jr_dup hE dX12_init_1615 rfl ?_
  refine jr_bipush (v := (31 : Int32)) hE dX12_init_1616 (by decide) ?_
  refine jr_ldc (v := (338241895 : Int32)) hE dX12_init_1618 (by decide +kernel) ?_
  refine jr_iast hE dX12_init_1620 g29 (vp_lit (by decide)) (fun F31 g32 u33 => ?_)
  have g34 := jF.pI g32 (show _ = 31 from rfl) (by decide +kernel)
  have u35 := utr u33 u30
  refine jr_dup hE dX12_init_1621 rfl ?_
  refine jr_bipush (v := (32 : Int32)) hE dX12_init_1622 (by decide) ?_
  refine jr_ldc (v := (666307205 : Int32)) hE dX12_init_1624 (by decide +kernel) ?_
  refine jr_iast hE dX12_init_1626 g34 (vp_lit (by decide)) (fun F36 g37 u38 => ?_)
  have g39 := jF.pI g37 (show _ = 32 from rfl) (by decide +kernel)
  have u40 := utr u38 u35
  refine jr_dup hE dX12_init_1627 rfl ?_
  refine jr_bipush (v := (33 : Int32)) hE dX12_init_1628 (by decide) ?_
  refine jr_ldc (v := (773529912 : Int32)) hE dX12_init_1630 (by decide +kernel) ?_
  refine jr_iast hE dX12_init_1632 g39 (vp_lit (by decide)) (fun F41 g42 u43 => ?_)
  have g44 := jF.pI g42 (show _ = 33 from rfl) (by decide +kernel)
  have u45 := utr u43 u40
  refine jr_dup hE dX12_init_1633 rfl ?_
  refine jr_bipush (v := (34 : Int32)) hE dX12_init_1634 (by decide) ?_
  refine jr_ldc (v := (1294757372 : Int32)) hE dX12_init_1636 (by decide +kernel) ?_
  refine jr_iast hE dX12_init_1638 g44 (vp_lit (by decide)) (fun F46 g47 u48 => ?_)
  have g49 := jF.pI g47 (show _ = 34 from rfl) (by decide +kernel)
  have u50 := utr u48 u45
  refine jr_dup hE dX12_init_1639 rfl ?_
  refine jr_bipush (v := (35 : Int32)) hE dX12_init_1640 (by decide) ?_
  refine jr_ldc (v := (1396182291 : Int32)) hE dX12_init_1642 (by decide +kernel) ?_
  refine jr_iast hE dX12_init_1644 g49 (vp_lit (by decide)) (fun F51 g52 u53 => ?_)
  have g54 := jF.pI g52 (show _ = 35 from rfl) (by decide +kernel)
  have u55 := utr u53 u50
  refine jr_dup hE dX12_init_1645 rfl ?_
  refine jr_bipush (v := (36 : Int32)) hE dX12_init_1646 (by decide) ?_
  refine jr_ldc (v := (1695183700 : Int32)) hE dX12_init_1648 (by decide +kernel) ?_
  refine jr_iast hE dX12_init_1650 g54 (vp_lit (by decide)) (fun F56 g57 u58 => ?_)
  have g59 := jF.pI g57 (show _ = 36 from rfl) (by decide +kernel)
  have u60 := utr u58 u55
  refine jr_dup hE dX12_init_1651 rfl ?_
  refine jr_bipush (v := (37 : Int32)) hE dX12_init_1652 (by decide) ?_
  refine jr_ldc (v := (1986661051 : Int32)) hE dX12_init_1654 (by decide +kernel) ?_
  refine jr_iast hE dX12_init_1656 g59 (vp_lit (by decide)) (fun F61 g62 u63 => ?_)
  have g64 := jF.pI g62 (show _ = 37 from rfl) (by decide +kernel)
  have u65 := utr u63 u60
  refine jr_dup hE dX12_init_1657 rfl ?_
  refine jr_bipush (v := (38 : Int32)) hE dX12_init_1658 (by decide) ?_
  refine jr_ldc (v := (-2117940946 : Int32)) hE dX12_init_1660 (by decide +kernel) ?_
  refine jr_iast hE dX12_init_1662 g64 (vp_lit (by decide)) (fun F66 g67 u68 => ?_)
  have g69 := jF.pI g67 (show _ = 38 from rfl) (by decide +kernel)
  have u70 := utr u68 u65
  refine jr_dup hE dX12_init_1663 rfl ?_
  refine jr_bipush (v := (39 : Int32)) hE dX12_init_1664 (by decide) ?_
  refine jr_ldc (v := (-1838011259 : Int32)) hE dX12_init_1666 (by decide +kernel) ?_
  refine jr_iast hE dX12_init_1668 g69 (vp_lit (by decide)) (fun F71 g72 u73 => ?_)
  have g74 := jF.pI g72 (show _ = 39 from rfl) (by decide +kernel)
  have u75 := utr u73 u70
  refine jr_dup hE dX12_init_1669 rfl ?_
  refine jr_bipush (v := (40 : Int32)) hE dX12_init_1670 (by decide) ?_
  refine jr_ldc (v := (-1564481375 : Int32)) hE dX12_init_1672 (by decide +kernel) ?_
  refine jr_iast hE dX12_init_1674 g74 (vp_lit (by decide)) (fun F76 g77 u78 => ?_)
  have g79 := jF.pI g77 (show _ = 40 from rfl) (by decide +kernel)
  have u80 := utr u78 u75
  refine jr_dup hE dX12_init_1675 rfl ?_
  refine jr_bipush (v := (41 : Int32)) hE dX12_init_1676 (by decide) ?_
  refine jr_ldc (v := (-1474664885 : Int32)) hE dX12_init_1678 (by decide +kernel) ?_
  refine jr_iast hE dX12_init_1680 g79 (vp_lit (by decide)) (fun F81 g82 u83 => ?_)
  have g84 := jF.pI g82 (show _ = 41 from rfl) (by decide +kernel)
  have u85 := utr u83 u80
  refine jr_dup hE dX12_init_1681 rfl ?_
  refine jr_bipush (v := (42 : Int32)) hE dX12_init_1682 (by decide) ?_
  refine jr_ldcw (v := (-1035236496 : Int32)) hE dX12_init_1684 (by decide +kernel) ?_
  refine jr_iast hE dX12_init_1687 g84 (vp_lit (by decide)) (fun F86 g87 u88 => ?_)
  have g89 := jF.pI g87 (show _ = 42 from rfl) (by decide +kernel)
  have u90 := utr u88 u85
  refine jr_dup hE dX12_init_1688 rfl ?_
  refine jr_bipush (v := (43 : Int32)) hE dX12_init_1689 (by decide) ?_
  refine jr_ldcw (v := (-949202525 : Int32)) hE dX12_init_1691 (by decide +kernel) ?_
  refine jr_iast hE dX12_init_1694 g89 (vp_lit (by decide)) (fun F91 g92 u93 => ?_)
  have g94 := jF.pI g92 (show _ = 43 from rfl) (by decide +kernel)
  have u95 := utr u93 u90
  refine jr_dup hE dX12_init_1695 rfl ?_
  refine jr_bipush (v := (44 : Int32)) hE dX12_init_1696 (by decide) ?_
  refine jr_ldcw (v := (-778901479 : Int32)) hE dX12_init_1698 (by decide +kernel) ?_
  refine jr_iast hE dX12_init_1701 g94 (vp_lit (by decide)) (fun F96 g97 u98 => ?_)
  have g99 := jF.pI g97 (show _ = 44 from rfl) (by decide +kernel)
  have u100 := utr u98 u95
  refine jr_dup hE dX12_init_1702 rfl ?_
  refine jr_bipush (v := (45 : Int32)) hE dX12_init_1703 (by decide) ?_
  refine jr_ldcw (v := (-694614492 : Int32)) hE dX12_init_1705 (by decide +kernel) ?_
  refine jr_iast hE dX12_init_1708 g99 (vp_lit (by decide)) (fun F101 g102 u103 => ?_)
  have g104 := jF.pI g102 (show _ = 45 from rfl) (by decide +kernel)
  have u105 := utr u103 u100
  refine jr_dup hE dX12_init_1709 rfl ?_
  refine jr_bipush (v := (46 : Int32)) hE dX12_init_1710 (by decide) ?_
  refine jr_ldcw (v := (-200395387 : Int32)) hE dX12_init_1712 (by decide +kernel) ?_
  refine jr_iast hE dX12_init_1715 g104 (vp_lit (by decide)) (fun F106 g107 u108 => ?_)
  have g109 := jF.pI g107 (show _ = 46 from rfl) (by decide +kernel)
  have u110 := utr u108 u105
  refine jr_dup hE dX12_init_1716 rfl ?_
  refine jr_bipush (v := (47 : Int32)) hE dX12_init_1717 (by decide) ?_
  refine jr_ldcw (v := (275423344 : Int32)) hE dX12_init_1719 (by decide +kernel) ?_
  refine jr_iast hE dX12_init_1722 g109 (vp_lit (by decide)) (fun F111 g112 u113 => ?_)
  have g114 := jF.pI g112 (show _ = 47 from rfl) (by decide +kernel)
  have u115 := utr u113 u110
  refine jr_dup hE dX12_init_1723 rfl ?_
  refine jr_bipush (v := (48 : Int32)) hE dX12_init_1724 (by decide) ?_
  refine jr_ldcw (v := (430227734 : Int32)) hE dX12_init_1726 (by decide +kernel) ?_
  refine jr_iast hE dX12_init_1729 g114 (vp_lit (by decide)) (fun F116 g117 u118 => ?_)
  have g119 := jF.pI g117 (show _ = 48 from rfl) (by decide +kernel)
  have u120 := utr u118 u115
  refine jr_dup hE dX12_init_1730 rfl ?_
  refine jr_bipush (v := (49 : Int32)) hE dX12_init_1731 (by decide) ?_
  refine jr_ldcw (v := (506948616 : Int32)) hE dX12_init_1733 (by decide +kernel) ?_
  refine jr_iast hE dX12_init_1736 g119 (vp_lit (by decide)) (fun F121 g122 u123 => ?_)
  have g124 := jF.pI g122 (show _ = 49 from rfl) (by decide +kernel)
  have u125 := utr u123 u120
  refine jr_dup hE dX12_init_1737 rfl ?_
  refine jr_bipush (v := (50 : Int32)) hE dX12_init_1738 (by decide) ?_
  refine jr_ldcw (v := (659060556 : Int32)) hE dX12_init_1740 (by decide +kernel) ?_
  refine jr_iast hE dX12_init_1743 g124 (vp_lit (by decide)) (fun F126 g127 u128 => ?_)
  have g129 := jF.pI g127 (show _ = 50 from rfl) (by decide +kernel)
  have u130 := utr u128 u125
  refine jr_dup hE dX12_init_1744 rfl ?_
  refine jr_bipush (v := (51 : Int32)) hE dX12_init_1745 (by decide) ?_
  refine jr_ldcw (v := (883997877 : Int32)) hE dX12_init_1747 (by decide +kernel) ?_
  refine jr_iast hE dX12_init_1750 g129 (vp_lit (by decide)) (fun F131 g132 u133 => ?_)
  have g134 := jF.pI g132 (show _ = 51 from rfl) (by decide +kernel)
  have u135 := utr u133 u130
  refine jr_dup hE dX12_init_1751 rfl ?_
  refine jr_bipush (v := (52 : Int32)) hE dX12_init_1752 (by decide) ?_
  refine jr_ldcw (v := (958139571 : Int32)) hE dX12_init_1754 (by decide +kernel) ?_
  refine jr_iast hE dX12_init_1757 g134 (vp_lit (by decide)) (fun F136 g137 u138 => ?_)
  have g139 := jF.pI g137 (show _ = 52 from rfl) (by decide +kernel)
  have u140 := utr u138 u135
  refine jr_dup hE dX12_init_1758 rfl ?_
  refine jr_bipush (v := (53 : Int32)) hE dX12_init_1759 (by decide) ?_
  refine jr_ldcw (v := (1322822218 : Int32)) hE dX12_init_1761 (by decide +kernel) ?_
  refine jr_iast hE dX12_init_1764 g139 (vp_lit (by decide)) (fun F141 g142 u143 => ?_)
  have g144 := jF.pI g142 (show _ = 53 from rfl) (by decide +kernel)
  have u145 := utr u143 u140
  refine jr_dup hE dX12_init_1765 rfl ?_
  refine jr_bipush (v := (54 : Int32)) hE dX12_init_1766 (by decide) ?_
  refine jr_ldcw (v := (1537002063 : Int32)) hE dX12_init_1768 (by decide +kernel) ?_
  refine jr_iast hE dX12_init_1771 g144 (vp_lit (by decide)) (fun F146 g147 u148 => ?_)
  have g149 := jF.pI g147 (show _ = 54 from rfl) (by decide +kernel)
  have u150 := utr u148 u145
  refine jr_dup hE dX12_init_1772 rfl ?_
  refine jr_bipush (v := (55 : Int32)) hE dX12_init_1773 (by decide) ?_
  refine jr_ldcw (v := (1747873779 : Int32)) hE dX12_init_1775 (by decide +kernel) ?_
  refine jr_iast hE dX12_init_1778 g149 (vp_lit (by decide)) (fun F151 g152 u153 => ?_)
  have g154 := jF.pI g152 (show _ = 55 from rfl) (by decide +kernel)
  have u155 := utr u153 u150
  refine jr_dup hE dX12_init_1779 rfl ?_
  refine jr_bipush (v := (56 : Int32)) hE dX12_init_1780 (by decide) ?_
  refine jr_ldcw (v := (1955562222 : Int32)) hE dX12_init_1782 (by decide +kernel) ?_
  refine jr_iast hE dX12_init_1785 g154 (vp_lit (by decide)) (fun F156 g157 u158 => ?_)
  have g159 := jF.pI g157 (show _ = 56 from rfl) (by decide +kernel)
  have u160 := utr u158 u155
  refine jr_dup hE dX12_init_1786 rfl ?_
  refine jr_bipush (v := (57 : Int32)) hE dX12_init_1787 (by decide) ?_
  refine jr_ldcw (v := (2024104815 : Int32)) hE dX12_init_1789 (by decide +kernel) ?_
  refine jr_iast hE dX12_init_1792 g159 (vp_lit (by decide)) (fun F161 g162 u163 => ?_)
  have g164 := jF.pI g162 (show _ = 57 from rfl) (by decide +kernel)
  have u165 := utr u163 u160
  exact kk _ _ _ _ _ g ho nq u165 g164
set_option maxHeartbeats 4000000 in
set_option maxRecDepth 100000 in
theorem i12_10 {E : jE} {G : Nat → ClassId} (hE : jOk E G ({ frames := 1, cells := 73, slots := 4867, locals := 20 }) cX12_init 1 RX12 wsX12_init) (hinit : jIn E) {L0 L : List Nat} {F0 F : Nat → va_E} {o : Nat} {A : Nat → Nat} {q : Nat} {Fq : Nat → va_E} (g : gS L0 F0 o 46 A (tX12 G) L F) (ho : jF L F o (.inr (12, [.ref (A 0), .ref (A 1), .ref (A 2), .ref (A 3), .ref (A 4), .ref (A 5), .ref (A 6), .ref (A 7), .ref (A 8), .ref (A 9), .int (0 : Int32), .ref (A 10), .ref (A 11), .ref (A 12), .ref (A 13), .ref (A 14), .int (0 : Int32), .ref (A 15), .ref (A 16), .ref (A 17), .ref (A 18), .ref (A 19), .ref (A 20), .ref (A 21), .int (0 : Int32), .ref (A 22), .ref (A 23), .ref (A 24), .ref (A 25), .int (0 : Int32), .int (0 : Int32), .int (0 : Int32), .ref (A 26), .ref (A 27), .ref (A 28), .ref (A 29), .ref (A 30), .ref (A 31), .ref (A 32), .ref (A 33), .ref (A 34), .ref (A 35), .ref (A 36), .ref (A 37), .ref (A 38), .ref (A 39), .ref (A 40), .ref (A 41), .ref (A 42), .ref (A 43), .ref (A 44), .ref (A 45), .null, .null, .null, .null, .null, .int (0 : Int32), .null, .null, .null, .null, .null, .null, .null, .null, .null, .null, .null, .null, .null, .null, .null, .null, .null, .null, .null, .null, .int (0 : Int32), .null, .null]))) (nq : q ∉ L) (uq : ∀ x, x ≠ q → Fq x = F x) (hq : jF (L ++ [q]) Fq q (.inl (G 1, 64, .inl (ptI 58 (fun j => jROUND.getD j 0))))) (kk : ∀ (A1 : Nat → Nat) (L1 : List Nat) (F1 : Nat → va_E), (gS L0 F0 o 64 A1 (tX12 G) L1 F1) → (jF L1 F1 o (.inr (12, [.ref (A1 0), .ref (A1 1), .ref (A1 2), .ref (A1 3), .ref (A1 4), .ref (A1 5), .ref (A1 6), .ref (A1 7), .ref (A1 8), .ref (A1 9), .int (0 : Int32), .ref (A1 10), .ref (A1 11), .ref (A1 12), .ref (A1 13), .ref (A1 14), .int (0 : Int32), .ref (A1 15), .ref (A1 16), .ref (A1 17), .ref (A1 18), .ref (A1 19), .ref (A1 20), .ref (A1 21), .int (0 : Int32), .ref (A1 22), .ref (A1 23), .ref (A1 24), .ref (A1 25), .int (0 : Int32), .int (0 : Int32), .int (0 : Int32), .ref (A1 26), .ref (A1 27), .ref (A1 28), .ref (A1 29), .ref (A1 30), .ref (A1 31), .ref (A1 32), .ref (A1 33), .ref (A1 34), .ref (A1 35), .ref (A1 36), .ref (A1 37), .ref (A1 38), .ref (A1 39), .ref (A1 40), .ref (A1 41), .ref (A1 42), .ref (A1 43), .ref (A1 44), .ref (A1 45), .ref (A1 46), .ref (A1 47), .ref (A1 48), .ref (A1 49), .ref (A1 50), .int (0 : Int32), .ref (A1 51), .ref (A1 52), .ref (A1 53), .ref (A1 54), .ref (A1 55), .ref (A1 56), .ref (A1 57), .ref (A1 58), .ref (A1 59), .ref (A1 60), .ref (A1 61), .ref (A1 62), .ref (A1 63), .null, .null, .null, .null, .null, .null, .null, .int (0 : Int32), .null, .null]))) → J E L1 F1 64 4688 1976 [(0, .ref o)] []) : J E (L ++ [q]) Fq 47 3390 1793 [(0, .ref o)] [.ref q, .ref o] := by
  have f278 : jFl RX12 wsX12_init 278 12 52 := ⟨rfl, by decide, by decide +kernel, by decide +kernel⟩
  have f281 : jFl RX12 wsX12_init 281 12 53 := ⟨rfl, by decide, by decide +kernel, by decide +kernel⟩
  have f284 : jFl RX12 wsX12_init 284 12 54 := ⟨rfl, by decide, by decide +kernel, by decide +kernel⟩
  have f287 : jFl RX12 wsX12_init 287 12 55 := ⟨rfl, by decide, by decide +kernel, by decide +kernel⟩
  have f290 : jFl RX12 wsX12_init 290 12 56 := ⟨rfl, by decide, by decide +kernel, by decide +kernel⟩
  have f293 : jFl RX12 wsX12_init 293 12 58 := ⟨rfl, by decide, by decide +kernel, by decide +kernel⟩
  have f296 : jFl RX12 wsX12_init 296 12 59 := ⟨rfl, by decide, by decide +kernel, by decide +kernel⟩
  have f299 : jFl RX12 wsX12_init 299 12 60 := ⟨rfl, by decide, by decide +kernel, by decide +kernel⟩
  have f302 : jFl RX12 wsX12_init 302 12 61 := ⟨rfl, by decide, by decide +kernel, by decide +kernel⟩
  have f305 : jFl RX12 wsX12_init 305 12 62 := ⟨rfl, by decide, by decide +kernel, by decide +kernel⟩
  have f308 : jFl RX12 wsX12_init 308 12 63 := ⟨rfl, by decide, by decide +kernel, by decide +kernel⟩
  have f311 : jFl RX12 wsX12_init 311 12 64 := ⟨rfl, by decide, by decide +kernel, by decide +kernel⟩
  have f314 : jFl RX12 wsX12_init 314 12 65 := ⟨rfl, by decide, by decide +kernel, by decide +kernel⟩
  have f317 : jFl RX12 wsX12_init 317 12 66 := ⟨rfl, by decide, by decide +kernel, by decide +kernel⟩
  have f320 : jFl RX12 wsX12_init 320 12 67 := ⟨rfl, by decide, by decide +kernel, by decide +kernel⟩
  have f323 : jFl RX12 wsX12_init 323 12 68 := ⟨rfl, by decide, by decide +kernel, by decide +kernel⟩
  have f326 : jFl RX12 wsX12_init 326 12 69 := ⟨rfl, by decide, by decide +kernel, by decide +kernel⟩
  have f329 : jFl RX12 wsX12_init 329 12 70 := ⟨rfl, by decide, by decide +kernel, by decide +kernel⟩
  refine jr_dup hE dX12_init_1793 rfl ?_
  refine jr_bipush (v := (58 : Int32)) hE dX12_init_1794 (by decide) ?_
  refine jr_ldcw (v := (-2067236844 : Int32)) hE dX12_init_1796 (by decide +kernel) ?_
  refine jr_iast hE dX12_init_1799 hq (vp_lit (by decide)) (fun F1 g2 u3 => ?_)
  have g4 := jF.pI g2 (show _ = 58 from rfl) (by decide +kernel)
  have u5 := utr u3 uq
  refine jr_dup hE dX12_init_1800 rfl ?_
  refine jr_bipush (v := (59 : Int32)) hE dX12_init_1801 (by decide) ?_
  refine jr_ldcw (v := (-1933114872 : Int32)) hE dX12_init_1803 (by decide +kernel) ?_
  refine jr_iast hE dX12_init_1806 g4 (vp_lit (by decide)) (fun F6 g7 u8 => ?_)
  have g9 := jF.pI g7 (show _ = 59 from rfl) (by decide +kernel)
  have u10 := utr u8 u5
  refine jr_dup hE dX12_init_1807 rfl ?_
  refine jr_bipush (v := (60 : Int32)) hE dX12_init_1808 (by decide) ?_
  refine jr_ldcw (v := (-1866530822 : Int32)) hE dX12_init_1810 (by decide +kernel) ?_
  refine jr_iast hE dX12_init_1813 g9 (vp_lit (by decide)) (fun F11 g12 u13 => ?_)
  have g14 := jF.pI g12 (show _ = 60 from rfl) (by decide +kernel)
  have u15 := utr u13 u10
  refine jr_dup hE dX12_init_1814 rfl ?_
  refine jr_bipush (v := (61 : Int32)) hE dX12_init_1815 (by decide) ?_
  refine jr_ldcw (v := (-1538233109 : Int32)) hE dX12_init_1817 (by decide +kernel) ?_
  refine jr_iast hE dX12_init_1820 g14 (vp_lit (by decide)) (fun F16 g17 u18 => ?_)
  have g19 := jF.pI g17 (show _ = 61 from rfl) (by decide +kernel)
  have u20 := utr u18 u15
  refine jr_dup hE dX12_init_1821 rfl ?_
  refine jr_bipush (v := (62 : Int32)) hE dX12_init_1822 (by decide) ?_
  refine jr_ldcw (v := (-1090935817 : Int32)) hE dX12_init_1824 (by decide +kernel) ?_
  refine jr_iast hE dX12_init_1827 g19 (vp_lit (by decide)) (fun F21 g22 u23 => ?_)
  have g24 := jF.pI g22 (show _ = 62 from rfl) (by decide +kernel)
  have u25 := utr u23 u20
  refine jr_dup hE dX12_init_1828 rfl ?_
  refine jr_bipush (v := (63 : Int32)) hE dX12_init_1829 (by decide) ?_
  refine jr_ldcw (v := (-965641998 : Int32)) hE dX12_init_1831 (by decide +kernel) ?_
  refine jr_iast hE dX12_init_1834 g24 (vp_lit (by decide)) (fun F26 g27 u28 => ?_)
  have g29 := jF.pI g27 (show _ = 63 from rfl) (by decide +kernel)
  have u30 := utr u28 u25
  have g31 := ho.nw nq u30
  have g32 := g.nx nq u30 g29
  refine jr_putF (ty := .array .int) hE dX12_init_1835 f278 g31 rfl hinit rfl (by decide +kernel) rfl rfl (Nat.le_of_ble_eq_true rfl) (fun F34 g35 u36 => ?_)
  have g35 : jF (L ++ [q]) F34 o (.inr (12, [.ref (A 0), .ref (A 1), .ref (A 2), .ref (A 3), .ref (A 4), .ref (A 5), .ref (A 6), .ref (A 7), .ref (A 8), .ref (A 9), .int (0 : Int32), .ref (A 10), .ref (A 11), .ref (A 12), .ref (A 13), .ref (A 14), .int (0 : Int32), .ref (A 15), .ref (A 16), .ref (A 17), .ref (A 18), .ref (A 19), .ref (A 20), .ref (A 21), .int (0 : Int32), .ref (A 22), .ref (A 23), .ref (A 24), .ref (A 25), .int (0 : Int32), .int (0 : Int32), .int (0 : Int32), .ref (A 26), .ref (A 27), .ref (A 28), .ref (A 29), .ref (A 30), .ref (A 31), .ref (A 32), .ref (A 33), .ref (A 34), .ref (A 35), .ref (A 36), .ref (A 37), .ref (A 38), .ref (A 39), .ref (A 40), .ref (A 41), .ref (A 42), .ref (A 43), .ref (A 44), .ref (A 45), .ref q, .null, .null, .null, .null, .int (0 : Int32), .null, .null, .null, .null, .null, .null, .null, .null, .null, .null, .null, .null, .null, .null, .null, .null, .null, .null, .null, .null, .int (0 : Int32), .null, .null])) := g35
  have g37 := g32.put u36
  refine jr_aload_n hE dX12_init_1838 0 rfl ?_
  refine jr_bipush (v := (8 : Int32)) hE dX12_init_1839 (by decide) ?_
  refine jr_newa (ty := .int) (g := 1) (N := 8) (a0 := (8, .inl (fun _ => 0))) hE dX12_init_1841 (by decide +kernel) rfl rfl (fun _ e => by cases e) (fun _ => rfl) (by decide) (by decide) (by decide) ⟨by decide, by decide⟩ (fun q38 F39 n40 g41 u42 => ?_)
  have g43 := g35.nw n40 u42
  have g44 := g37.nx n40 u42 g41
  refine jr_putF (ty := .array .int) hE dX12_init_1843 f281 g43 rfl hinit rfl (by decide +kernel) rfl rfl (Nat.le_of_ble_eq_true rfl) (fun F46 g47 u48 => ?_)
  have g47 : jF ((L ++ [q]) ++ [q38]) F46 o (.inr (12, [.ref (A 0), .ref (A 1), .ref (A 2), .ref (A 3), .ref (A 4), .ref (A 5), .ref (A 6), .ref (A 7), .ref (A 8), .ref (A 9), .int (0 : Int32), .ref (A 10), .ref (A 11), .ref (A 12), .ref (A 13), .ref (A 14), .int (0 : Int32), .ref (A 15), .ref (A 16), .ref (A 17), .ref (A 18), .ref (A 19), .ref (A 20), .ref (A 21), .int (0 : Int32), .ref (A 22), .ref (A 23), .ref (A 24), .ref (A 25), .int (0 : Int32), .int (0 : Int32), .int (0 : Int32), .ref (A 26), .ref (A 27), .ref (A 28), .ref (A 29), .ref (A 30), .ref (A 31), .ref (A 32), .ref (A 33), .ref (A 34), .ref (A 35), .ref (A 36), .ref (A 37), .ref (A 38), .ref (A 39), .ref (A 40), .ref (A 41), .ref (A 42), .ref (A 43), .ref (A 44), .ref (A 45), .ref q, .ref q38, .null, .null, .null, .int (0 : Int32), .null, .null, .null, .null, .null, .null, .null, .null, .null, .null, .null, .null, .null, .null, .null, .null, .null, .null, .null, .null, .int (0 : Int32), .null, .null])) := g47
  have g49 := g44.put u48
  refine jr_aload_n hE dX12_init_1846 0 rfl ?_
  refine jr_bipush (v := (64 : Int32)) hE dX12_init_1847 (by decide) ?_
  refine jr_newa (ty := .int) (g := 1) (N := 64) (a0 := (64, .inl (fun _ => 0))) hE dX12_init_1849 (by decide +kernel) rfl rfl (fun _ e => by cases e) (fun _ => rfl) (by decide) (by decide) (by decide) ⟨by decide, by decide⟩ (fun q50 F51 n52 g53 u54 => ?_)
  have g55 := g47.nw n52 u54
  have g56 := g49.nx n52 u54 g53
  refine jr_putF (ty := .array .int) hE dX12_init_1851 f284 g55 rfl hinit rfl (by decide +kernel) rfl rfl (Nat.le_of_ble_eq_true rfl) (fun F58 g59 u60 => ?_)
  have g59 : jF (((L ++ [q]) ++ [q38]) ++ [q50]) F58 o (.inr (12, [.ref (A 0), .ref (A 1), .ref (A 2), .ref (A 3), .ref (A 4), .ref (A 5), .ref (A 6), .ref (A 7), .ref (A 8), .ref (A 9), .int (0 : Int32), .ref (A 10), .ref (A 11), .ref (A 12), .ref (A 13), .ref (A 14), .int (0 : Int32), .ref (A 15), .ref (A 16), .ref (A 17), .ref (A 18), .ref (A 19), .ref (A 20), .ref (A 21), .int (0 : Int32), .ref (A 22), .ref (A 23), .ref (A 24), .ref (A 25), .int (0 : Int32), .int (0 : Int32), .int (0 : Int32), .ref (A 26), .ref (A 27), .ref (A 28), .ref (A 29), .ref (A 30), .ref (A 31), .ref (A 32), .ref (A 33), .ref (A 34), .ref (A 35), .ref (A 36), .ref (A 37), .ref (A 38), .ref (A 39), .ref (A 40), .ref (A 41), .ref (A 42), .ref (A 43), .ref (A 44), .ref (A 45), .ref q, .ref q38, .ref q50, .null, .null, .int (0 : Int32), .null, .null, .null, .null, .null, .null, .null, .null, .null, .null, .null, .null, .null, .null, .null, .null, .null, .null, .null, .null, .int (0 : Int32), .null, .null])) := g59
  have g61 := g56.put u60
  refine jr_aload_n hE dX12_init_1854 0 rfl ?_
  refine jr_sipush (v := (512 : Int32)) hE dX12_init_1855 (by decide) ?_
  refine jr_newa (ty := .int) (g := 1) (N := 512) (a0 := (512, .inl (fun _ => 0))) hE dX12_init_1858 (by decide +kernel) rfl rfl (fun _ e => by cases e) (fun _ => rfl) (by decide) (by decide) (by decide) ⟨by decide, by decide⟩ (fun q62 F63 n64 g65 u66 => ?_)
  have g67 := g59.nw n64 u66
  have g68 := g61.nx n64 u66 g65
  refine jr_putF (ty := .array .int) hE dX12_init_1860 f287 g67 rfl hinit rfl (by decide +kernel) rfl rfl (Nat.le_of_ble_eq_true rfl) (fun F70 g71 u72 => ?_)
  have g71 : jF ((((L ++ [q]) ++ [q38]) ++ [q50]) ++ [q62]) F70 o (.inr (12, [.ref (A 0), .ref (A 1), .ref (A 2), .ref (A 3), .ref (A 4), .ref (A 5), .ref (A 6), .ref (A 7), .ref (A 8), .ref (A 9), .int (0 : Int32), .ref (A 10), .ref (A 11), .ref (A 12), .ref (A 13), .ref (A 14), .int (0 : Int32), .ref (A 15), .ref (A 16), .ref (A 17), .ref (A 18), .ref (A 19), .ref (A 20), .ref (A 21), .int (0 : Int32), .ref (A 22), .ref (A 23), .ref (A 24), .ref (A 25), .int (0 : Int32), .int (0 : Int32), .int (0 : Int32), .ref (A 26), .ref (A 27), .ref (A 28), .ref (A 29), .ref (A 30), .ref (A 31), .ref (A 32), .ref (A 33), .ref (A 34), .ref (A 35), .ref (A 36), .ref (A 37), .ref (A 38), .ref (A 39), .ref (A 40), .ref (A 41), .ref (A 42), .ref (A 43), .ref (A 44), .ref (A 45), .ref q, .ref q38, .ref q50, .ref q62, .null, .int (0 : Int32), .null, .null, .null, .null, .null, .null, .null, .null, .null, .null, .null, .null, .null, .null, .null, .null, .null, .null, .null, .null, .int (0 : Int32), .null, .null])) := g71
  have g73 := g68.put u72
  refine jr_aload_n hE dX12_init_1863 0 rfl ?_
  refine jr_sipush (v := (400 : Int32)) hE dX12_init_1864 (by decide) ?_
  refine jr_newa (ty := .int) (g := 1) (N := 400) (a0 := (400, .inl (fun _ => 0))) hE dX12_init_1867 (by decide +kernel) rfl rfl (fun _ e => by cases e) (fun _ => rfl) (by decide) (by decide) (by decide) ⟨by decide, by decide⟩ (fun q74 F75 n76 g77 u78 => ?_)
  have g79 := g71.nw n76 u78
  have g80 := g73.nx n76 u78 g77
  refine jr_putF (ty := .array .int) hE dX12_init_1869 f290 g79 rfl hinit rfl (by decide +kernel) rfl rfl (Nat.le_of_ble_eq_true rfl) (fun F82 g83 u84 => ?_)
  have g83 : jF (((((L ++ [q]) ++ [q38]) ++ [q50]) ++ [q62]) ++ [q74]) F82 o (.inr (12, [.ref (A 0), .ref (A 1), .ref (A 2), .ref (A 3), .ref (A 4), .ref (A 5), .ref (A 6), .ref (A 7), .ref (A 8), .ref (A 9), .int (0 : Int32), .ref (A 10), .ref (A 11), .ref (A 12), .ref (A 13), .ref (A 14), .int (0 : Int32), .ref (A 15), .ref (A 16), .ref (A 17), .ref (A 18), .ref (A 19), .ref (A 20), .ref (A 21), .int (0 : Int32), .ref (A 22), .ref (A 23), .ref (A 24), .ref (A 25), .int (0 : Int32), .int (0 : Int32), .int (0 : Int32), .ref (A 26), .ref (A 27), .ref (A 28), .ref (A 29), .ref (A 30), .ref (A 31), .ref (A 32), .ref (A 33), .ref (A 34), .ref (A 35), .ref (A 36), .ref (A 37), .ref (A 38), .ref (A 39), .ref (A 40), .ref (A 41), .ref (A 42), .ref (A 43), .ref (A 44), .ref (A 45), .ref q, .ref q38, .ref q50, .ref q62, .ref q74, .int (0 : Int32), .null, .null, .null, .null, .null, .null, .null, .null, .null, .null, .null, .null, .null, .null, .null, .null, .null, .null, .null, .null, .int (0 : Int32), .null, .null])) := g83
  have g85 := g80.put u84
  refine jr_aload_n hE dX12_init_1872 0 rfl ?_
  refine jr_bipush (v := (32 : Int32)) hE dX12_init_1873 (by decide) ?_
  refine jr_newa (ty := .int) (g := 1) (N := 32) (a0 := (32, .inl (fun _ => 0))) hE dX12_init_1875 (by decide +kernel) rfl rfl (fun _ e => by cases e) (fun _ => rfl) (by decide) (by decide) (by decide) ⟨by decide, by decide⟩ (fun q86 F87 n88 g89 u90 => ?_)
  have g91 := g83.nw n88 u90
  have g92 := g85.nx n88 u90 g89
  refine jr_putF (ty := .array .int) hE dX12_init_1877 f293 g91 rfl hinit rfl (by decide +kernel) rfl rfl (Nat.le_of_ble_eq_true rfl) (fun F94 g95 u96 => ?_)
  have g95 : jF ((((((L ++ [q]) ++ [q38]) ++ [q50]) ++ [q62]) ++ [q74]) ++ [q86]) F94 o (.inr (12, [.ref (A 0), .ref (A 1), .ref (A 2), .ref (A 3), .ref (A 4), .ref (A 5), .ref (A 6), .ref (A 7), .ref (A 8), .ref (A 9), .int (0 : Int32), .ref (A 10), .ref (A 11), .ref (A 12), .ref (A 13), .ref (A 14), .int (0 : Int32), .ref (A 15), .ref (A 16), .ref (A 17), .ref (A 18), .ref (A 19), .ref (A 20), .ref (A 21), .int (0 : Int32), .ref (A 22), .ref (A 23), .ref (A 24), .ref (A 25), .int (0 : Int32), .int (0 : Int32), .int (0 : Int32), .ref (A 26), .ref (A 27), .ref (A 28), .ref (A 29), .ref (A 30), .ref (A 31), .ref (A 32), .ref (A 33), .ref (A 34), .ref (A 35), .ref (A 36), .ref (A 37), .ref (A 38), .ref (A 39), .ref (A 40), .ref (A 41), .ref (A 42), .ref (A 43), .ref (A 44), .ref (A 45), .ref q, .ref q38, .ref q50, .ref q62, .ref q74, .int (0 : Int32), .ref q86, .null, .null, .null, .null, .null, .null, .null, .null, .null, .null, .null, .null, .null, .null, .null, .null, .null, .null, .null, .int (0 : Int32), .null, .null])) := g95
  have g97 := g92.put u96
  refine jr_aload_n hE dX12_init_1880 0 rfl ?_
  refine jr_bipush (v := (20 : Int32)) hE dX12_init_1881 (by decide) ?_
  refine jr_newa (ty := .int) (g := 1) (N := 20) (a0 := (20, .inl (fun _ => 0))) hE dX12_init_1883 (by decide +kernel) rfl rfl (fun _ e => by cases e) (fun _ => rfl) (by decide) (by decide) (by decide) ⟨by decide, by decide⟩ (fun q98 F99 n100 g101 u102 => ?_)
  have g103 := g95.nw n100 u102
  have g104 := g97.nx n100 u102 g101
  refine jr_putF (ty := .array .int) hE dX12_init_1885 f296 g103 rfl hinit rfl (by decide +kernel) rfl rfl (Nat.le_of_ble_eq_true rfl) (fun F106 g107 u108 => ?_)
  have g107 : jF (((((((L ++ [q]) ++ [q38]) ++ [q50]) ++ [q62]) ++ [q74]) ++ [q86]) ++ [q98]) F106 o (.inr (12, [.ref (A 0), .ref (A 1), .ref (A 2), .ref (A 3), .ref (A 4), .ref (A 5), .ref (A 6), .ref (A 7), .ref (A 8), .ref (A 9), .int (0 : Int32), .ref (A 10), .ref (A 11), .ref (A 12), .ref (A 13), .ref (A 14), .int (0 : Int32), .ref (A 15), .ref (A 16), .ref (A 17), .ref (A 18), .ref (A 19), .ref (A 20), .ref (A 21), .int (0 : Int32), .ref (A 22), .ref (A 23), .ref (A 24), .ref (A 25), .int (0 : Int32), .int (0 : Int32), .int (0 : Int32), .ref (A 26), .ref (A 27), .ref (A 28), .ref (A 29), .ref (A 30), .ref (A 31), .ref (A 32), .ref (A 33), .ref (A 34), .ref (A 35), .ref (A 36), .ref (A 37), .ref (A 38), .ref (A 39), .ref (A 40), .ref (A 41), .ref (A 42), .ref (A 43), .ref (A 44), .ref (A 45), .ref q, .ref q38, .ref q50, .ref q62, .ref q74, .int (0 : Int32), .ref q86, .ref q98, .null, .null, .null, .null, .null, .null, .null, .null, .null, .null, .null, .null, .null, .null, .null, .null, .null, .null, .int (0 : Int32), .null, .null])) := g107
  have g109 := g104.put u108
  refine jr_aload_n hE dX12_init_1888 0 rfl ?_
  refine jr_bipush (v := (100 : Int32)) hE dX12_init_1889 (by decide) ?_
  refine jr_newa (ty := .int) (g := 1) (N := 100) (a0 := (100, .inl (fun _ => 0))) hE dX12_init_1891 (by decide +kernel) rfl rfl (fun _ e => by cases e) (fun _ => rfl) (by decide) (by decide) (by decide) ⟨by decide, by decide⟩ (fun q110 F111 n112 g113 u114 => ?_)
  have g115 := g107.nw n112 u114
  have g116 := g109.nx n112 u114 g113
  refine jr_putF (ty := .array .int) hE dX12_init_1893 f299 g115 rfl hinit rfl (by decide +kernel) rfl rfl (Nat.le_of_ble_eq_true rfl) (fun F118 g119 u120 => ?_)
  have g119 : jF ((((((((L ++ [q]) ++ [q38]) ++ [q50]) ++ [q62]) ++ [q74]) ++ [q86]) ++ [q98]) ++ [q110]) F118 o (.inr (12, [.ref (A 0), .ref (A 1), .ref (A 2), .ref (A 3), .ref (A 4), .ref (A 5), .ref (A 6), .ref (A 7), .ref (A 8), .ref (A 9), .int (0 : Int32), .ref (A 10), .ref (A 11), .ref (A 12), .ref (A 13), .ref (A 14), .int (0 : Int32), .ref (A 15), .ref (A 16), .ref (A 17), .ref (A 18), .ref (A 19), .ref (A 20), .ref (A 21), .int (0 : Int32), .ref (A 22), .ref (A 23), .ref (A 24), .ref (A 25), .int (0 : Int32), .int (0 : Int32), .int (0 : Int32), .ref (A 26), .ref (A 27), .ref (A 28), .ref (A 29), .ref (A 30), .ref (A 31), .ref (A 32), .ref (A 33), .ref (A 34), .ref (A 35), .ref (A 36), .ref (A 37), .ref (A 38), .ref (A 39), .ref (A 40), .ref (A 41), .ref (A 42), .ref (A 43), .ref (A 44), .ref (A 45), .ref q, .ref q38, .ref q50, .ref q62, .ref q74, .int (0 : Int32), .ref q86, .ref q98, .ref q110, .null, .null, .null, .null, .null, .null, .null, .null, .null, .null, .null, .null, .null, .null, .null, .null, .null, .int (0 : Int32), .null, .null])) := g119
  have g121 := g116.put u120
  refine jr_aload_n hE dX12_init_1896 0 rfl ?_
  refine jr_bipush (v := (66 : Int32)) hE dX12_init_1897 (by decide) ?_
  refine jr_newa (ty := .int) (g := 1) (N := 66) (a0 := (66, .inl (fun _ => 0))) hE dX12_init_1899 (by decide +kernel) rfl rfl (fun _ e => by cases e) (fun _ => rfl) (by decide) (by decide) (by decide) ⟨by decide, by decide⟩ (fun q122 F123 n124 g125 u126 => ?_)
  have g127 := g119.nw n124 u126
  have g128 := g121.nx n124 u126 g125
  refine jr_putF (ty := .array .int) hE dX12_init_1901 f302 g127 rfl hinit rfl (by decide +kernel) rfl rfl (Nat.le_of_ble_eq_true rfl) (fun F130 g131 u132 => ?_)
  have g131 : jF (((((((((L ++ [q]) ++ [q38]) ++ [q50]) ++ [q62]) ++ [q74]) ++ [q86]) ++ [q98]) ++ [q110]) ++ [q122]) F130 o (.inr (12, [.ref (A 0), .ref (A 1), .ref (A 2), .ref (A 3), .ref (A 4), .ref (A 5), .ref (A 6), .ref (A 7), .ref (A 8), .ref (A 9), .int (0 : Int32), .ref (A 10), .ref (A 11), .ref (A 12), .ref (A 13), .ref (A 14), .int (0 : Int32), .ref (A 15), .ref (A 16), .ref (A 17), .ref (A 18), .ref (A 19), .ref (A 20), .ref (A 21), .int (0 : Int32), .ref (A 22), .ref (A 23), .ref (A 24), .ref (A 25), .int (0 : Int32), .int (0 : Int32), .int (0 : Int32), .ref (A 26), .ref (A 27), .ref (A 28), .ref (A 29), .ref (A 30), .ref (A 31), .ref (A 32), .ref (A 33), .ref (A 34), .ref (A 35), .ref (A 36), .ref (A 37), .ref (A 38), .ref (A 39), .ref (A 40), .ref (A 41), .ref (A 42), .ref (A 43), .ref (A 44), .ref (A 45), .ref q, .ref q38, .ref q50, .ref q62, .ref q74, .int (0 : Int32), .ref q86, .ref q98, .ref q110, .ref q122, .null, .null, .null, .null, .null, .null, .null, .null, .null, .null, .null, .null, .null, .null, .null, .null, .int (0 : Int32), .null, .null])) := g131
  have g133 := g128.put u132
  refine jr_aload_n hE dX12_init_1904 0 rfl ?_
  refine jr_bipush (v := (8 : Int32)) hE dX12_init_1905 (by decide) ?_
  refine jr_newa (ty := .long) (g := 2) (N := 8) (a0 := (8, .inr (.inl (fun _ => 0)))) hE dX12_init_1907 (by decide +kernel) rfl rfl (fun _ e => by cases e) (fun _ => rfl) (by decide) (by decide) (by decide) ⟨by decide, by decide⟩ (fun q134 F135 n136 g137 u138 => ?_)
  have g139 := g131.nw n136 u138
  have g140 := g133.nx n136 u138 g137
  refine jr_putF (ty := .array .long) hE dX12_init_1909 f305 g139 rfl hinit rfl (by decide +kernel) rfl rfl (Nat.le_of_ble_eq_true rfl) (fun F142 g143 u144 => ?_)
  have g143 : jF ((((((((((L ++ [q]) ++ [q38]) ++ [q50]) ++ [q62]) ++ [q74]) ++ [q86]) ++ [q98]) ++ [q110]) ++ [q122]) ++ [q134]) F142 o (.inr (12, [.ref (A 0), .ref (A 1), .ref (A 2), .ref (A 3), .ref (A 4), .ref (A 5), .ref (A 6), .ref (A 7), .ref (A 8), .ref (A 9), .int (0 : Int32), .ref (A 10), .ref (A 11), .ref (A 12), .ref (A 13), .ref (A 14), .int (0 : Int32), .ref (A 15), .ref (A 16), .ref (A 17), .ref (A 18), .ref (A 19), .ref (A 20), .ref (A 21), .int (0 : Int32), .ref (A 22), .ref (A 23), .ref (A 24), .ref (A 25), .int (0 : Int32), .int (0 : Int32), .int (0 : Int32), .ref (A 26), .ref (A 27), .ref (A 28), .ref (A 29), .ref (A 30), .ref (A 31), .ref (A 32), .ref (A 33), .ref (A 34), .ref (A 35), .ref (A 36), .ref (A 37), .ref (A 38), .ref (A 39), .ref (A 40), .ref (A 41), .ref (A 42), .ref (A 43), .ref (A 44), .ref (A 45), .ref q, .ref q38, .ref q50, .ref q62, .ref q74, .int (0 : Int32), .ref q86, .ref q98, .ref q110, .ref q122, .ref q134, .null, .null, .null, .null, .null, .null, .null, .null, .null, .null, .null, .null, .null, .null, .null, .int (0 : Int32), .null, .null])) := g143
  have g145 := g140.put u144
  refine jr_aload_n hE dX12_init_1912 0 rfl ?_
  refine jr_bipush (v := (8 : Int32)) hE dX12_init_1913 (by decide) ?_
  refine jr_newa (ty := .long) (g := 2) (N := 8) (a0 := (8, .inr (.inl (fun _ => 0)))) hE dX12_init_1915 (by decide +kernel) rfl rfl (fun _ e => by cases e) (fun _ => rfl) (by decide) (by decide) (by decide) ⟨by decide, by decide⟩ (fun q146 F147 n148 g149 u150 => ?_)
  have g151 := g143.nw n148 u150
  have g152 := g145.nx n148 u150 g149
  refine jr_putF (ty := .array .long) hE dX12_init_1917 f308 g151 rfl hinit rfl (by decide +kernel) rfl rfl (Nat.le_of_ble_eq_true rfl) (fun F154 g155 u156 => ?_)
  have g155 : jF (((((((((((L ++ [q]) ++ [q38]) ++ [q50]) ++ [q62]) ++ [q74]) ++ [q86]) ++ [q98]) ++ [q110]) ++ [q122]) ++ [q134]) ++ [q146]) F154 o (.inr (12, [.ref (A 0), .ref (A 1), .ref (A 2), .ref (A 3), .ref (A 4), .ref (A 5), .ref (A 6), .ref (A 7), .ref (A 8), .ref (A 9), .int (0 : Int32), .ref (A 10), .ref (A 11), .ref (A 12), .ref (A 13), .ref (A 14), .int (0 : Int32), .ref (A 15), .ref (A 16), .ref (A 17), .ref (A 18), .ref (A 19), .ref (A 20), .ref (A 21), .int (0 : Int32), .ref (A 22), .ref (A 23), .ref (A 24), .ref (A 25), .int (0 : Int32), .int (0 : Int32), .int (0 : Int32), .ref (A 26), .ref (A 27), .ref (A 28), .ref (A 29), .ref (A 30), .ref (A 31), .ref (A 32), .ref (A 33), .ref (A 34), .ref (A 35), .ref (A 36), .ref (A 37), .ref (A 38), .ref (A 39), .ref (A 40), .ref (A 41), .ref (A 42), .ref (A 43), .ref (A 44), .ref (A 45), .ref q, .ref q38, .ref q50, .ref q62, .ref q74, .int (0 : Int32), .ref q86, .ref q98, .ref q110, .ref q122, .ref q134, .ref q146, .null, .null, .null, .null, .null, .null, .null, .null, .null, .null, .null, .null, .null, .null, .int (0 : Int32), .null, .null])) := g155
  have g157 := g152.put u156
  refine jr_aload_n hE dX12_init_1920 0 rfl ?_
  refine jr_bipush (v := (8 : Int32)) hE dX12_init_1921 (by decide) ?_
  refine jr_newa (ty := .long) (g := 2) (N := 8) (a0 := (8, .inr (.inl (fun _ => 0)))) hE dX12_init_1923 (by decide +kernel) rfl rfl (fun _ e => by cases e) (fun _ => rfl) (by decide) (by decide) (by decide) ⟨by decide, by decide⟩ (fun q158 F159 n160 g161 u162 => ?_)
  have g163 := g155.nw n160 u162
  have g164 := g157.nx n160 u162 g161
  refine jr_putF (ty := .array .long) hE dX12_init_1925 f311 g163 rfl hinit rfl (by decide +kernel) rfl rfl (Nat.le_of_ble_eq_true rfl) (fun F166 g167 u168 => ?_)
  have g167 : jF ((((((((((((L ++ [q]) ++ [q38]) ++ [q50]) ++ [q62]) ++ [q74]) ++ [q86]) ++ [q98]) ++ [q110]) ++ [q122]) ++ [q134]) ++ [q146]) ++ [q158]) F166 o (.inr (12, [.ref (A 0), .ref (A 1), .ref (A 2), .ref (A 3), .ref (A 4), .ref (A 5), .ref (A 6), .ref (A 7), .ref (A 8), .ref (A 9), .int (0 : Int32), .ref (A 10), .ref (A 11), .ref (A 12), .ref (A 13), .ref (A 14), .int (0 : Int32), .ref (A 15), .ref (A 16), .ref (A 17), .ref (A 18), .ref (A 19), .ref (A 20), .ref (A 21), .int (0 : Int32), .ref (A 22), .ref (A 23), .ref (A 24), .ref (A 25), .int (0 : Int32), .int (0 : Int32), .int (0 : Int32), .ref (A 26), .ref (A 27), .ref (A 28), .ref (A 29), .ref (A 30), .ref (A 31), .ref (A 32), .ref (A 33), .ref (A 34), .ref (A 35), .ref (A 36), .ref (A 37), .ref (A 38), .ref (A 39), .ref (A 40), .ref (A 41), .ref (A 42), .ref (A 43), .ref (A 44), .ref (A 45), .ref q, .ref q38, .ref q50, .ref q62, .ref q74, .int (0 : Int32), .ref q86, .ref q98, .ref q110, .ref q122, .ref q134, .ref q146, .ref q158, .null, .null, .null, .null, .null, .null, .null, .null, .null, .null, .null, .null, .null, .int (0 : Int32), .null, .null])) := g167
  have g169 := g164.put u168
  refine jr_aload_n hE dX12_init_1928 0 rfl ?_
  refine jr_bipush (v := (8 : Int32)) hE dX12_init_1929 (by decide) ?_
  refine jr_newa (ty := .long) (g := 2) (N := 8) (a0 := (8, .inr (.inl (fun _ => 0)))) hE dX12_init_1931 (by decide +kernel) rfl rfl (fun _ e => by cases e) (fun _ => rfl) (by decide) (by decide) (by decide) ⟨by decide, by decide⟩ (fun q170 F171 n172 g173 u174 => ?_)
  have g175 := g167.nw n172 u174
  have g176 := g169.nx n172 u174 g173
  refine jr_putF (ty := .array .long) hE dX12_init_1933 f314 g175 rfl hinit rfl (by decide +kernel) rfl rfl (Nat.le_of_ble_eq_true rfl) (fun F178 g179 u180 => ?_)
  have g179 : jF (((((((((((((L ++ [q]) ++ [q38]) ++ [q50]) ++ [q62]) ++ [q74]) ++ [q86]) ++ [q98]) ++ [q110]) ++ [q122]) ++ [q134]) ++ [q146]) ++ [q158]) ++ [q170]) F178 o (.inr (12, [.ref (A 0), .ref (A 1), .ref (A 2), .ref (A 3), .ref (A 4), .ref (A 5), .ref (A 6), .ref (A 7), .ref (A 8), .ref (A 9), .int (0 : Int32), .ref (A 10), .ref (A 11), .ref (A 12), .ref (A 13), .ref (A 14), .int (0 : Int32), .ref (A 15), .ref (A 16), .ref (A 17), .ref (A 18), .ref (A 19), .ref (A 20), .ref (A 21), .int (0 : Int32), .ref (A 22), .ref (A 23), .ref (A 24), .ref (A 25), .int (0 : Int32), .int (0 : Int32), .int (0 : Int32), .ref (A 26), .ref (A 27), .ref (A 28), .ref (A 29), .ref (A 30), .ref (A 31), .ref (A 32), .ref (A 33), .ref (A 34), .ref (A 35), .ref (A 36), .ref (A 37), .ref (A 38), .ref (A 39), .ref (A 40), .ref (A 41), .ref (A 42), .ref (A 43), .ref (A 44), .ref (A 45), .ref q, .ref q38, .ref q50, .ref q62, .ref q74, .int (0 : Int32), .ref q86, .ref q98, .ref q110, .ref q122, .ref q134, .ref q146, .ref q158, .ref q170, .null, .null, .null, .null, .null, .null, .null, .null, .null, .null, .null, .null, .int (0 : Int32), .null, .null])) := g179
  have g181 := g176.put u180
  refine jr_aload_n hE dX12_init_1936 0 rfl ?_
  refine jr_bipush (v := (8 : Int32)) hE dX12_init_1937 (by decide) ?_
  refine jr_newa (ty := .long) (g := 2) (N := 8) (a0 := (8, .inr (.inl (fun _ => 0)))) hE dX12_init_1939 (by decide +kernel) rfl rfl (fun _ e => by cases e) (fun _ => rfl) (by decide) (by decide) (by decide) ⟨by decide, by decide⟩ (fun q182 F183 n184 g185 u186 => ?_)
  have g187 := g179.nw n184 u186
  have g188 := g181.nx n184 u186 g185
  refine jr_putF (ty := .array .long) hE dX12_init_1941 f317 g187 rfl hinit rfl (by decide +kernel) rfl rfl (Nat.le_of_ble_eq_true rfl) (fun F190 g191 u192 => ?_)
  have g191 : jF ((((((((((((((L ++ [q]) ++ [q38]) ++ [q50]) ++ [q62]) ++ [q74]) ++ [q86]) ++ [q98]) ++ [q110]) ++ [q122]) ++ [q134]) ++ [q146]) ++ [q158]) ++ [q170]) ++ [q182]) F190 o (.inr (12, [.ref (A 0), .ref (A 1), .ref (A 2), .ref (A 3), .ref (A 4), .ref (A 5), .ref (A 6), .ref (A 7), .ref (A 8), .ref (A 9), .int (0 : Int32), .ref (A 10), .ref (A 11), .ref (A 12), .ref (A 13), .ref (A 14), .int (0 : Int32), .ref (A 15), .ref (A 16), .ref (A 17), .ref (A 18), .ref (A 19), .ref (A 20), .ref (A 21), .int (0 : Int32), .ref (A 22), .ref (A 23), .ref (A 24), .ref (A 25), .int (0 : Int32), .int (0 : Int32), .int (0 : Int32), .ref (A 26), .ref (A 27), .ref (A 28), .ref (A 29), .ref (A 30), .ref (A 31), .ref (A 32), .ref (A 33), .ref (A 34), .ref (A 35), .ref (A 36), .ref (A 37), .ref (A 38), .ref (A 39), .ref (A 40), .ref (A 41), .ref (A 42), .ref (A 43), .ref (A 44), .ref (A 45), .ref q, .ref q38, .ref q50, .ref q62, .ref q74, .int (0 : Int32), .ref q86, .ref q98, .ref q110, .ref q122, .ref q134, .ref q146, .ref q158, .ref q170, .ref q182, .null, .null, .null, .null, .null, .null, .null, .null, .null, .null, .null, .int (0 : Int32), .null, .null])) := g191
  have g193 := g188.put u192
  refine jr_aload_n hE dX12_init_1944 0 rfl ?_
  refine jr_bipush (v := (32 : Int32)) hE dX12_init_1945 (by decide) ?_
  refine jr_newa (ty := .int) (g := 1) (N := 32) (a0 := (32, .inl (fun _ => 0))) hE dX12_init_1947 (by decide +kernel) rfl rfl (fun _ e => by cases e) (fun _ => rfl) (by decide) (by decide) (by decide) ⟨by decide, by decide⟩ (fun q194 F195 n196 g197 u198 => ?_)
  have g199 := g191.nw n196 u198
  have g200 := g193.nx n196 u198 g197
  refine jr_putF (ty := .array .int) hE dX12_init_1949 f320 g199 rfl hinit rfl (by decide +kernel) rfl rfl (Nat.le_of_ble_eq_true rfl) (fun F202 g203 u204 => ?_)
  have g203 : jF (((((((((((((((L ++ [q]) ++ [q38]) ++ [q50]) ++ [q62]) ++ [q74]) ++ [q86]) ++ [q98]) ++ [q110]) ++ [q122]) ++ [q134]) ++ [q146]) ++ [q158]) ++ [q170]) ++ [q182]) ++ [q194]) F202 o (.inr (12, [.ref (A 0), .ref (A 1), .ref (A 2), .ref (A 3), .ref (A 4), .ref (A 5), .ref (A 6), .ref (A 7), .ref (A 8), .ref (A 9), .int (0 : Int32), .ref (A 10), .ref (A 11), .ref (A 12), .ref (A 13), .ref (A 14), .int (0 : Int32), .ref (A 15), .ref (A 16), .ref (A 17), .ref (A 18), .ref (A 19), .ref (A 20), .ref (A 21), .int (0 : Int32), .ref (A 22), .ref (A 23), .ref (A 24), .ref (A 25), .int (0 : Int32), .int (0 : Int32), .int (0 : Int32), .ref (A 26), .ref (A 27), .ref (A 28), .ref (A 29), .ref (A 30), .ref (A 31), .ref (A 32), .ref (A 33), .ref (A 34), .ref (A 35), .ref (A 36), .ref (A 37), .ref (A 38), .ref (A 39), .ref (A 40), .ref (A 41), .ref (A 42), .ref (A 43), .ref (A 44), .ref (A 45), .ref q, .ref q38, .ref q50, .ref q62, .ref q74, .int (0 : Int32), .ref q86, .ref q98, .ref q110, .ref q122, .ref q134, .ref q146, .ref q158, .ref q170, .ref q182, .ref q194, .null, .null, .null, .null, .null, .null, .null, .null, .null, .null, .int (0 : Int32), .null, .null])) := g203
  have g205 := g200.put u204
  refine jr_aload_n hE dX12_init_1952 0 rfl ?_
  refine jr_bipush (v := (8 : Int32)) hE dX12_init_1953 (by decide) ?_
  refine jr_newa (ty := .long) (g := 2) (N := 8) (a0 := (8, .inr (.inl (fun _ => 0)))) hE dX12_init_1955 (by decide +kernel) rfl rfl (fun _ e => by cases e) (fun _ => rfl) (by decide) (by decide) (by decide) ⟨by decide, by decide⟩ (fun q206 F207 n208 g209 u210 => ?_)
  have g211 := g203.nw n208 u210
  have g212 := g205.nx n208 u210 g209
  refine jr_putF (ty := .array .long) hE dX12_init_1957 f323 g211 rfl hinit rfl (by decide +kernel) rfl rfl (Nat.le_of_ble_eq_true rfl) (fun F214 g215 u216 => ?_)
  have g215 : jF ((((((((((((((((L ++ [q]) ++ [q38]) ++ [q50]) ++ [q62]) ++ [q74]) ++ [q86]) ++ [q98]) ++ [q110]) ++ [q122]) ++ [q134]) ++ [q146]) ++ [q158]) ++ [q170]) ++ [q182]) ++ [q194]) ++ [q206]) F214 o (.inr (12, [.ref (A 0), .ref (A 1), .ref (A 2), .ref (A 3), .ref (A 4), .ref (A 5), .ref (A 6), .ref (A 7), .ref (A 8), .ref (A 9), .int (0 : Int32), .ref (A 10), .ref (A 11), .ref (A 12), .ref (A 13), .ref (A 14), .int (0 : Int32), .ref (A 15), .ref (A 16), .ref (A 17), .ref (A 18), .ref (A 19), .ref (A 20), .ref (A 21), .int (0 : Int32), .ref (A 22), .ref (A 23), .ref (A 24), .ref (A 25), .int (0 : Int32), .int (0 : Int32), .int (0 : Int32), .ref (A 26), .ref (A 27), .ref (A 28), .ref (A 29), .ref (A 30), .ref (A 31), .ref (A 32), .ref (A 33), .ref (A 34), .ref (A 35), .ref (A 36), .ref (A 37), .ref (A 38), .ref (A 39), .ref (A 40), .ref (A 41), .ref (A 42), .ref (A 43), .ref (A 44), .ref (A 45), .ref q, .ref q38, .ref q50, .ref q62, .ref q74, .int (0 : Int32), .ref q86, .ref q98, .ref q110, .ref q122, .ref q134, .ref q146, .ref q158, .ref q170, .ref q182, .ref q194, .ref q206, .null, .null, .null, .null, .null, .null, .null, .null, .null, .int (0 : Int32), .null, .null])) := g215
  have g217 := g212.put u216
  refine jr_aload_n hE dX12_init_1960 0 rfl ?_
  refine jr_bipush (v := (8 : Int32)) hE dX12_init_1961 (by decide) ?_
  refine jr_newa (ty := .long) (g := 2) (N := 8) (a0 := (8, .inr (.inl (fun _ => 0)))) hE dX12_init_1963 (by decide +kernel) rfl rfl (fun _ e => by cases e) (fun _ => rfl) (by decide) (by decide) (by decide) ⟨by decide, by decide⟩ (fun q218 F219 n220 g221 u222 => ?_)
  have g223 := g215.nw n220 u222
  have g224 := g217.nx n220 u222 g221
  refine jr_putF (ty := .array .long) hE dX12_init_1965 f326 g223 rfl hinit rfl (by decide +kernel) rfl rfl (Nat.le_of_ble_eq_true rfl) (fun F226 g227 u228 => ?_)
  have g227 : jF (((((((((((((((((L ++ [q]) ++ [q38]) ++ [q50]) ++ [q62]) ++ [q74]) ++ [q86]) ++ [q98]) ++ [q110]) ++ [q122]) ++ [q134]) ++ [q146]) ++ [q158]) ++ [q170]) ++ [q182]) ++ [q194]) ++ [q206]) ++ [q218]) F226 o (.inr (12, [.ref (A 0), .ref (A 1), .ref (A 2), .ref (A 3), .ref (A 4), .ref (A 5), .ref (A 6), .ref (A 7), .ref (A 8), .ref (A 9), .int (0 : Int32), .ref (A 10), .ref (A 11), .ref (A 12), .ref (A 13), .ref (A 14), .int (0 : Int32), .ref (A 15), .ref (A 16), .ref (A 17), .ref (A 18), .ref (A 19), .ref (A 20), .ref (A 21), .int (0 : Int32), .ref (A 22), .ref (A 23), .ref (A 24), .ref (A 25), .int (0 : Int32), .int (0 : Int32), .int (0 : Int32), .ref (A 26), .ref (A 27), .ref (A 28), .ref (A 29), .ref (A 30), .ref (A 31), .ref (A 32), .ref (A 33), .ref (A 34), .ref (A 35), .ref (A 36), .ref (A 37), .ref (A 38), .ref (A 39), .ref (A 40), .ref (A 41), .ref (A 42), .ref (A 43), .ref (A 44), .ref (A 45), .ref q, .ref q38, .ref q50, .ref q62, .ref q74, .int (0 : Int32), .ref q86, .ref q98, .ref q110, .ref q122, .ref q134, .ref q146, .ref q158, .ref q170, .ref q182, .ref q194, .ref q206, .ref q218, .null, .null, .null, .null, .null, .null, .null, .null, .int (0 : Int32), .null, .null])) := g227
  have g229 := g224.put u228
  refine jr_aload_n hE dX12_init_1968 0 rfl ?_
  refine jr_bipush (v := (8 : Int32)) hE dX12_init_1969 (by decide) ?_
  refine jr_newa (ty := .long) (g := 2) (N := 8) (a0 := (8, .inr (.inl (fun _ => 0)))) hE dX12_init_1971 (by decide +kernel) rfl rfl (fun _ e => by cases e) (fun _ => rfl) (by decide) (by decide) (by decide) ⟨by decide, by decide⟩ (fun q230 F231 n232 g233 u234 => ?_)
  have g235 := g227.nw n232 u234
  have g236 := g229.nx n232 u234 g233
  refine jr_putF (ty := .array .long) hE dX12_init_1973 f329 g235 rfl hinit rfl (by decide +kernel) rfl rfl (Nat.le_of_ble_eq_true rfl) (fun F238 g239 u240 => ?_)
  have g239 : jF ((((((((((((((((((L ++ [q]) ++ [q38]) ++ [q50]) ++ [q62]) ++ [q74]) ++ [q86]) ++ [q98]) ++ [q110]) ++ [q122]) ++ [q134]) ++ [q146]) ++ [q158]) ++ [q170]) ++ [q182]) ++ [q194]) ++ [q206]) ++ [q218]) ++ [q230]) F238 o (.inr (12, [.ref (A 0), .ref (A 1), .ref (A 2), .ref (A 3), .ref (A 4), .ref (A 5), .ref (A 6), .ref (A 7), .ref (A 8), .ref (A 9), .int (0 : Int32), .ref (A 10), .ref (A 11), .ref (A 12), .ref (A 13), .ref (A 14), .int (0 : Int32), .ref (A 15), .ref (A 16), .ref (A 17), .ref (A 18), .ref (A 19), .ref (A 20), .ref (A 21), .int (0 : Int32), .ref (A 22), .ref (A 23), .ref (A 24), .ref (A 25), .int (0 : Int32), .int (0 : Int32), .int (0 : Int32), .ref (A 26), .ref (A 27), .ref (A 28), .ref (A 29), .ref (A 30), .ref (A 31), .ref (A 32), .ref (A 33), .ref (A 34), .ref (A 35), .ref (A 36), .ref (A 37), .ref (A 38), .ref (A 39), .ref (A 40), .ref (A 41), .ref (A 42), .ref (A 43), .ref (A 44), .ref (A 45), .ref q, .ref q38, .ref q50, .ref q62, .ref q74, .int (0 : Int32), .ref q86, .ref q98, .ref q110, .ref q122, .ref q134, .ref q146, .ref q158, .ref q170, .ref q182, .ref q194, .ref q206, .ref q218, .ref q230, .null, .null, .null, .null, .null, .null, .null, .int (0 : Int32), .null, .null])) := g239
  have g241 := g236.put u240
  exact kk _ _ _ g241 g239
set_option maxHeartbeats 4000000 in
set_option maxRecDepth 100000 in
theorem i12_11 {E : jE} {G : Nat → ClassId} (hE : jOk E G ({ frames := 1, cells := 73, slots := 4867, locals := 20 }) cX12_init 1 RX12 wsX12_init) (hinit : jIn E) {L0 L : List Nat} {F0 F : Nat → va_E} {o : Nat} {A : Nat → Nat} (g : gS L0 F0 o 64 A (tX12 G) L F) (ho : jF L F o (.inr (12, [.ref (A 0), .ref (A 1), .ref (A 2), .ref (A 3), .ref (A 4), .ref (A 5), .ref (A 6), .ref (A 7), .ref (A 8), .ref (A 9), .int (0 : Int32), .ref (A 10), .ref (A 11), .ref (A 12), .ref (A 13), .ref (A 14), .int (0 : Int32), .ref (A 15), .ref (A 16), .ref (A 17), .ref (A 18), .ref (A 19), .ref (A 20), .ref (A 21), .int (0 : Int32), .ref (A 22), .ref (A 23), .ref (A 24), .ref (A 25), .int (0 : Int32), .int (0 : Int32), .int (0 : Int32), .ref (A 26), .ref (A 27), .ref (A 28), .ref (A 29), .ref (A 30), .ref (A 31), .ref (A 32), .ref (A 33), .ref (A 34), .ref (A 35), .ref (A 36), .ref (A 37), .ref (A 38), .ref (A 39), .ref (A 40), .ref (A 41), .ref (A 42), .ref (A 43), .ref (A 44), .ref (A 45), .ref (A 46), .ref (A 47), .ref (A 48), .ref (A 49), .ref (A 50), .int (0 : Int32), .ref (A 51), .ref (A 52), .ref (A 53), .ref (A 54), .ref (A 55), .ref (A 56), .ref (A 57), .ref (A 58), .ref (A 59), .ref (A 60), .ref (A 61), .ref (A 62), .ref (A 63), .null, .null, .null, .null, .null, .null, .null, .int (0 : Int32), .null, .null]))) (kk : ∀ (A1 : Nat → Nat) (L1 : List Nat) (F1 : Nat → va_E), (gS L0 F0 o 73 A1 (tX12 G) L1 F1) → (jF L1 F1 o (.inr (12, [.ref (A1 0), .ref (A1 1), .ref (A1 2), .ref (A1 3), .ref (A1 4), .ref (A1 5), .ref (A1 6), .ref (A1 7), .ref (A1 8), .ref (A1 9), .int (0 : Int32), .ref (A1 10), .ref (A1 11), .ref (A1 12), .ref (A1 13), .ref (A1 14), .int (0 : Int32), .ref (A1 15), .ref (A1 16), .ref (A1 17), .ref (A1 18), .ref (A1 19), .ref (A1 20), .ref (A1 21), .int (0 : Int32), .ref (A1 22), .ref (A1 23), .ref (A1 24), .ref (A1 25), .int (0 : Int32), .int (0 : Int32), .int (0 : Int32), .ref (A1 26), .ref (A1 27), .ref (A1 28), .ref (A1 29), .ref (A1 30), .ref (A1 31), .ref (A1 32), .ref (A1 33), .ref (A1 34), .ref (A1 35), .ref (A1 36), .ref (A1 37), .ref (A1 38), .ref (A1 39), .ref (A1 40), .ref (A1 41), .ref (A1 42), .ref (A1 43), .ref (A1 44), .ref (A1 45), .ref (A1 46), .ref (A1 47), .ref (A1 48), .ref (A1 49), .ref (A1 50), .int (0 : Int32), .ref (A1 51), .ref (A1 52), .ref (A1 53), .ref (A1 54), .ref (A1 55), .ref (A1 56), .ref (A1 57), .ref (A1 58), .ref (A1 59), .ref (A1 60), .ref (A1 61), .ref (A1 62), .ref (A1 63), .ref (A1 64), .ref (A1 65), .ref (A1 66), .ref (A1 67), .ref (A1 68), .ref (A1 69), .ref (A1 70), .int (0 : Int32), .ref (A1 71), .ref (A1 72)]))) → J E L1 F1 73 4867 2048 [(0, .ref o)] []) : J E L F 64 4688 1976 [(0, .ref o)] [] := by
  have f332 : jFl RX12 wsX12_init 332 12 71 := ⟨rfl, by decide, by decide +kernel, by decide +kernel⟩
  have f335 : jFl RX12 wsX12_init 335 12 72 := ⟨rfl, by decide, by decide +kernel, by decide +kernel⟩
  have f338 : jFl RX12 wsX12_init 338 12 73 := ⟨rfl, by decide, by decide +kernel, by decide +kernel⟩
  have f341 : jFl RX12 wsX12_init 341 12 74 := ⟨rfl, by decide, by decide +kernel, by decide +kernel⟩
  have f344 : jFl RX12 wsX12_init 344 12 75 := ⟨rfl, by decide, by decide +kernel, by decide +kernel⟩
  have f347 : jFl RX12 wsX12_init 347 12 76 := ⟨rfl, by decide, by decide +kernel, by decide +kernel⟩
  have f350 : jFl RX12 wsX12_init 350 12 77 := ⟨rfl, by decide, by decide +kernel, by decide +kernel⟩
  have f353 : jFl RX12 wsX12_init 353 12 79 := ⟨rfl, by decide, by decide +kernel, by decide +kernel⟩
  have f356 : jFl RX12 wsX12_init 356 12 80 := ⟨rfl, by decide, by decide +kernel, by decide +kernel⟩
  refine jr_aload_n hE dX12_init_1976 0 rfl ?_
  refine jr_bipush (v := (8 : Int32)) hE dX12_init_1977 (by decide) ?_
  refine jr_newa (ty := .long) (g := 2) (N := 8) (a0 := (8, .inr (.inl (fun _ => 0)))) hE dX12_init_1979 (by decide +kernel) rfl rfl (fun _ e => by cases e) (fun _ => rfl) (by decide) (by decide) (by decide) ⟨by decide, by decide⟩ (fun q1 F2 n3 g4 u5 => ?_)
  have g6 := ho.nw n3 u5
  have g7 := g.nx n3 u5 g4
  refine jr_putF (ty := .array .long) hE dX12_init_1981 f332 g6 rfl hinit rfl (by decide +kernel) rfl rfl (Nat.le_of_ble_eq_true rfl) (fun F9 g10 u11 => ?_)
  have g10 : jF (L ++ [q1]) F9 o (.inr (12, [.ref (A 0), .ref (A 1), .ref (A 2), .ref (A 3), .ref (A 4), .ref (A 5), .ref (A 6), .ref (A 7), .ref (A 8), .ref (A 9), .int (0 : Int32), .ref (A 10), .ref (A 11), .ref (A 12), .ref (A 13), .ref (A 14), .int (0 : Int32), .ref (A 15), .ref (A 16), .ref (A 17), .ref (A 18), .ref (A 19), .ref (A 20), .ref (A 21), .int (0 : Int32), .ref (A 22), .ref (A 23), .ref (A 24), .ref (A 25), .int (0 : Int32), .int (0 : Int32), .int (0 : Int32), .ref (A 26), .ref (A 27), .ref (A 28), .ref (A 29), .ref (A 30), .ref (A 31), .ref (A 32), .ref (A 33), .ref (A 34), .ref (A 35), .ref (A 36), .ref (A 37), .ref (A 38), .ref (A 39), .ref (A 40), .ref (A 41), .ref (A 42), .ref (A 43), .ref (A 44), .ref (A 45), .ref (A 46), .ref (A 47), .ref (A 48), .ref (A 49), .ref (A 50), .int (0 : Int32), .ref (A 51), .ref (A 52), .ref (A 53), .ref (A 54), .ref (A 55), .ref (A 56), .ref (A 57), .ref (A 58), .ref (A 59), .ref (A 60), .ref (A 61), .ref (A 62), .ref (A 63), .ref q1, .null, .null, .null, .null, .null, .null, .int (0 : Int32), .null, .null])) := g10
  have g12 := g7.put u11
  refine jr_aload_n hE dX12_init_1984 0 rfl ?_
  refine jr_bipush (v := (8 : Int32)) hE dX12_init_1985 (by decide) ?_
  refine jr_newa (ty := .long) (g := 2) (N := 8) (a0 := (8, .inr (.inl (fun _ => 0)))) hE dX12_init_1987 (by decide +kernel) rfl rfl (fun _ e => by cases e) (fun _ => rfl) (by decide) (by decide) (by decide) ⟨by decide, by decide⟩ (fun q13 F14 n15 g16 u17 => ?_)
  have g18 := g10.nw n15 u17
  have g19 := g12.nx n15 u17 g16
  refine jr_putF (ty := .array .long) hE dX12_init_1989 f335 g18 rfl hinit rfl (by decide +kernel) rfl rfl (Nat.le_of_ble_eq_true rfl) (fun F21 g22 u23 => ?_)
  have g22 : jF ((L ++ [q1]) ++ [q13]) F21 o (.inr (12, [.ref (A 0), .ref (A 1), .ref (A 2), .ref (A 3), .ref (A 4), .ref (A 5), .ref (A 6), .ref (A 7), .ref (A 8), .ref (A 9), .int (0 : Int32), .ref (A 10), .ref (A 11), .ref (A 12), .ref (A 13), .ref (A 14), .int (0 : Int32), .ref (A 15), .ref (A 16), .ref (A 17), .ref (A 18), .ref (A 19), .ref (A 20), .ref (A 21), .int (0 : Int32), .ref (A 22), .ref (A 23), .ref (A 24), .ref (A 25), .int (0 : Int32), .int (0 : Int32), .int (0 : Int32), .ref (A 26), .ref (A 27), .ref (A 28), .ref (A 29), .ref (A 30), .ref (A 31), .ref (A 32), .ref (A 33), .ref (A 34), .ref (A 35), .ref (A 36), .ref (A 37), .ref (A 38), .ref (A 39), .ref (A 40), .ref (A 41), .ref (A 42), .ref (A 43), .ref (A 44), .ref (A 45), .ref (A 46), .ref (A 47), .ref (A 48), .ref (A 49), .ref (A 50), .int (0 : Int32), .ref (A 51), .ref (A 52), .ref (A 53), .ref (A 54), .ref (A 55), .ref (A 56), .ref (A 57), .ref (A 58), .ref (A 59), .ref (A 60), .ref (A 61), .ref (A 62), .ref (A 63), .ref q1, .ref q13, .null, .null, .null, .null, .null, .int (0 : Int32), .null, .null])) := g22
  have g24 := g19.put u23
  refine jr_aload_n hE dX12_init_1992 0 rfl ?_
  refine jr_bipush (v := (8 : Int32)) hE dX12_init_1993 (by decide) ?_
  refine jr_newa (ty := .long) (g := 2) (N := 8) (a0 := (8, .inr (.inl (fun _ => 0)))) hE dX12_init_1995 (by decide +kernel) rfl rfl (fun _ e => by cases e) (fun _ => rfl) (by decide) (by decide) (by decide) ⟨by decide, by decide⟩ (fun q25 F26 n27 g28 u29 => ?_)
  have g30 := g22.nw n27 u29
  have g31 := g24.nx n27 u29 g28
  refine jr_putF (ty := .array .long) hE dX12_init_1997 f338 g30 rfl hinit rfl (by decide +kernel) rfl rfl (Nat.le_of_ble_eq_true rfl) (fun F33 g34 u35 => ?_)
  have g34 : jF (((L ++ [q1]) ++ [q13]) ++ [q25]) F33 o (.inr (12, [.ref (A 0), .ref (A 1), .ref (A 2), .ref (A 3), .ref (A 4), .ref (A 5), .ref (A 6), .ref (A 7), .ref (A 8), .ref (A 9), .int (0 : Int32), .ref (A 10), .ref (A 11), .ref (A 12), .ref (A 13), .ref (A 14), .int (0 : Int32), .ref (A 15), .ref (A 16), .ref (A 17), .ref (A 18), .ref (A 19), .ref (A 20), .ref (A 21), .int (0 : Int32), .ref (A 22), .ref (A 23), .ref (A 24), .ref (A 25), .int (0 : Int32), .int (0 : Int32), .int (0 : Int32), .ref (A 26), .ref (A 27), .ref (A 28), .ref (A 29), .ref (A 30), .ref (A 31), .ref (A 32), .ref (A 33), .ref (A 34), .ref (A 35), .ref (A 36), .ref (A 37), .ref (A 38), .ref (A 39), .ref (A 40), .ref (A 41), .ref (A 42), .ref (A 43), .ref (A 44), .ref (A 45), .ref (A 46), .ref (A 47), .ref (A 48), .ref (A 49), .ref (A 50), .int (0 : Int32), .ref (A 51), .ref (A 52), .ref (A 53), .ref (A 54), .ref (A 55), .ref (A 56), .ref (A 57), .ref (A 58), .ref (A 59), .ref (A 60), .ref (A 61), .ref (A 62), .ref (A 63), .ref q1, .ref q13, .ref q25, .null, .null, .null, .null, .int (0 : Int32), .null, .null])) := g34
  have g36 := g31.put u35
  refine jr_aload_n hE dX12_init_2000 0 rfl ?_
  refine jr_bipush (v := (8 : Int32)) hE dX12_init_2001 (by decide) ?_
  refine jr_newa (ty := .long) (g := 2) (N := 8) (a0 := (8, .inr (.inl (fun _ => 0)))) hE dX12_init_2003 (by decide +kernel) rfl rfl (fun _ e => by cases e) (fun _ => rfl) (by decide) (by decide) (by decide) ⟨by decide, by decide⟩ (fun q37 F38 n39 g40 u41 => ?_)
  have g42 := g34.nw n39 u41
  have g43 := g36.nx n39 u41 g40
  refine jr_putF (ty := .array .long) hE dX12_init_2005 f341 g42 rfl hinit rfl (by decide +kernel) rfl rfl (Nat.le_of_ble_eq_true rfl) (fun F45 g46 u47 => ?_)
  have g46 : jF ((((L ++ [q1]) ++ [q13]) ++ [q25]) ++ [q37]) F45 o (.inr (12, [.ref (A 0), .ref (A 1), .ref (A 2), .ref (A 3), .ref (A 4), .ref (A 5), .ref (A 6), .ref (A 7), .ref (A 8), .ref (A 9), .int (0 : Int32), .ref (A 10), .ref (A 11), .ref (A 12), .ref (A 13), .ref (A 14), .int (0 : Int32), .ref (A 15), .ref (A 16), .ref (A 17), .ref (A 18), .ref (A 19), .ref (A 20), .ref (A 21), .int (0 : Int32), .ref (A 22), .ref (A 23), .ref (A 24), .ref (A 25), .int (0 : Int32), .int (0 : Int32), .int (0 : Int32), .ref (A 26), .ref (A 27), .ref (A 28), .ref (A 29), .ref (A 30), .ref (A 31), .ref (A 32), .ref (A 33), .ref (A 34), .ref (A 35), .ref (A 36), .ref (A 37), .ref (A 38), .ref (A 39), .ref (A 40), .ref (A 41), .ref (A 42), .ref (A 43), .ref (A 44), .ref (A 45), .ref (A 46), .ref (A 47), .ref (A 48), .ref (A 49), .ref (A 50), .int (0 : Int32), .ref (A 51), .ref (A 52), .ref (A 53), .ref (A 54), .ref (A 55), .ref (A 56), .ref (A 57), .ref (A 58), .ref (A 59), .ref (A 60), .ref (A 61), .ref (A 62), .ref (A 63), .ref q1, .ref q13, .ref q25, .ref q37, .null, .null, .null, .int (0 : Int32), .null, .null])) := g46
  have g48 := g43.put u47
  refine jr_aload_n hE dX12_init_2008 0 rfl ?_
  refine jr_bipush (v := (32 : Int32)) hE dX12_init_2009 (by decide) ?_
  refine jr_newa (ty := .int) (g := 1) (N := 32) (a0 := (32, .inl (fun _ => 0))) hE dX12_init_2011 (by decide +kernel) rfl rfl (fun _ e => by cases e) (fun _ => rfl) (by decide) (by decide) (by decide) ⟨by decide, by decide⟩ (fun q49 F50 n51 g52 u53 => ?_)
  have g54 := g46.nw n51 u53
  have g55 := g48.nx n51 u53 g52
  refine jr_putF (ty := .array .int) hE dX12_init_2013 f344 g54 rfl hinit rfl (by decide +kernel) rfl rfl (Nat.le_of_ble_eq_true rfl) (fun F57 g58 u59 => ?_)
  have g58 : jF (((((L ++ [q1]) ++ [q13]) ++ [q25]) ++ [q37]) ++ [q49]) F57 o (.inr (12, [.ref (A 0), .ref (A 1), .ref (A 2), .ref (A 3), .ref (A 4), .ref (A 5), .ref (A 6), .ref (A 7), .ref (A 8), .ref (A 9), .int (0 : Int32), .ref (A 10), .ref (A 11), .ref (A 12), .ref (A 13), .ref (A 14), .int (0 : Int32), .ref (A 15), .ref (A 16), .ref (A 17), .ref (A 18), .ref (A 19), .ref (A 20), .ref (A 21), .int (0 : Int32), .ref (A 22), .ref (A 23), .ref (A 24), .ref (A 25), .int (0 : Int32), .int (0 : Int32), .int (0 : Int32), .ref (A 26), .ref (A 27), .ref (A 28), .ref (A 29), .ref (A 30), .ref (A 31), .ref (A 32), .ref (A 33), .ref (A 34), .ref (A 35), .ref (A 36), .ref (A 37), .ref (A 38), .ref (A 39), .ref (A 40), .ref (A 41), .ref (A 42), .ref (A 43), .ref (A 44), .ref (A 45), .ref (A 46), .ref (A 47), .ref (A 48), .ref (A 49), .ref (A 50), .int (0 : Int32), .ref (A 51), .ref (A 52), .ref (A 53), .ref (A 54), .ref (A 55), .ref (A 56), .ref (A 57), .ref (A 58), .ref (A 59), .ref (A 60), .ref (A 61), .ref (A 62), .ref (A 63), .ref q1, .ref q13, .ref q25, .ref q37, .ref q49, .null, .null, .int (0 : Int32), .null, .null])) := g58
  have g60 := g55.put u59
  refine jr_aload_n hE dX12_init_2016 0 rfl ?_
  refine jr_bipush (v := (8 : Int32)) hE dX12_init_2017 (by decide) ?_
  refine jr_newa (ty := .long) (g := 2) (N := 8) (a0 := (8, .inr (.inl (fun _ => 0)))) hE dX12_init_2019 (by decide +kernel) rfl rfl (fun _ e => by cases e) (fun _ => rfl) (by decide) (by decide) (by decide) ⟨by decide, by decide⟩ (fun q61 F62 n63 g64 u65 => ?_)
  have g66 := g58.nw n63 u65
  have g67 := g60.nx n63 u65 g64
  refine jr_putF (ty := .array .long) hE dX12_init_2021 f347 g66 rfl hinit rfl (by decide +kernel) rfl rfl (Nat.le_of_ble_eq_true rfl) (fun F69 g70 u71 => ?_)
  have g70 : jF ((((((L ++ [q1]) ++ [q13]) ++ [q25]) ++ [q37]) ++ [q49]) ++ [q61]) F69 o (.inr (12, [.ref (A 0), .ref (A 1), .ref (A 2), .ref (A 3), .ref (A 4), .ref (A 5), .ref (A 6), .ref (A 7), .ref (A 8), .ref (A 9), .int (0 : Int32), .ref (A 10), .ref (A 11), .ref (A 12), .ref (A 13), .ref (A 14), .int (0 : Int32), .ref (A 15), .ref (A 16), .ref (A 17), .ref (A 18), .ref (A 19), .ref (A 20), .ref (A 21), .int (0 : Int32), .ref (A 22), .ref (A 23), .ref (A 24), .ref (A 25), .int (0 : Int32), .int (0 : Int32), .int (0 : Int32), .ref (A 26), .ref (A 27), .ref (A 28), .ref (A 29), .ref (A 30), .ref (A 31), .ref (A 32), .ref (A 33), .ref (A 34), .ref (A 35), .ref (A 36), .ref (A 37), .ref (A 38), .ref (A 39), .ref (A 40), .ref (A 41), .ref (A 42), .ref (A 43), .ref (A 44), .ref (A 45), .ref (A 46), .ref (A 47), .ref (A 48), .ref (A 49), .ref (A 50), .int (0 : Int32), .ref (A 51), .ref (A 52), .ref (A 53), .ref (A 54), .ref (A 55), .ref (A 56), .ref (A 57), .ref (A 58), .ref (A 59), .ref (A 60), .ref (A 61), .ref (A 62), .ref (A 63), .ref q1, .ref q13, .ref q25, .ref q37, .ref q49, .ref q61, .null, .int (0 : Int32), .null, .null])) := g70
  have g72 := g67.put u71
  refine jr_aload_n hE dX12_init_2024 0 rfl ?_
  refine jr_bipush (v := (8 : Int32)) hE dX12_init_2025 (by decide) ?_
  refine jr_newa (ty := .long) (g := 2) (N := 8) (a0 := (8, .inr (.inl (fun _ => 0)))) hE dX12_init_2027 (by decide +kernel) rfl rfl (fun _ e => by cases e) (fun _ => rfl) (by decide) (by decide) (by decide) ⟨by decide, by decide⟩ (fun q73 F74 n75 g76 u77 => ?_)
  have g78 := g70.nw n75 u77
  have g79 := g72.nx n75 u77 g76
  refine jr_putF (ty := .array .long) hE dX12_init_2029 f350 g78 rfl hinit rfl (by decide +kernel) rfl rfl (Nat.le_of_ble_eq_true rfl) (fun F81 g82 u83 => ?_)
  have g82 : jF (((((((L ++ [q1]) ++ [q13]) ++ [q25]) ++ [q37]) ++ [q49]) ++ [q61]) ++ [q73]) F81 o (.inr (12, [.ref (A 0), .ref (A 1), .ref (A 2), .ref (A 3), .ref (A 4), .ref (A 5), .ref (A 6), .ref (A 7), .ref (A 8), .ref (A 9), .int (0 : Int32), .ref (A 10), .ref (A 11), .ref (A 12), .ref (A 13), .ref (A 14), .int (0 : Int32), .ref (A 15), .ref (A 16), .ref (A 17), .ref (A 18), .ref (A 19), .ref (A 20), .ref (A 21), .int (0 : Int32), .ref (A 22), .ref (A 23), .ref (A 24), .ref (A 25), .int (0 : Int32), .int (0 : Int32), .int (0 : Int32), .ref (A 26), .ref (A 27), .ref (A 28), .ref (A 29), .ref (A 30), .ref (A 31), .ref (A 32), .ref (A 33), .ref (A 34), .ref (A 35), .ref (A 36), .ref (A 37), .ref (A 38), .ref (A 39), .ref (A 40), .ref (A 41), .ref (A 42), .ref (A 43), .ref (A 44), .ref (A 45), .ref (A 46), .ref (A 47), .ref (A 48), .ref (A 49), .ref (A 50), .int (0 : Int32), .ref (A 51), .ref (A 52), .ref (A 53), .ref (A 54), .ref (A 55), .ref (A 56), .ref (A 57), .ref (A 58), .ref (A 59), .ref (A 60), .ref (A 61), .ref (A 62), .ref (A 63), .ref q1, .ref q13, .ref q25, .ref q37, .ref q49, .ref q61, .ref q73, .int (0 : Int32), .null, .null])) := g82
  have g84 := g79.put u83
  refine jr_aload_n hE dX12_init_2032 0 rfl ?_
  refine jr_bipush (v := (33 : Int32)) hE dX12_init_2033 (by decide) ?_
  refine jr_newa (ty := .int) (g := 1) (N := 33) (a0 := (33, .inl (fun _ => 0))) hE dX12_init_2035 (by decide +kernel) rfl rfl (fun _ e => by cases e) (fun _ => rfl) (by decide) (by decide) (by decide) ⟨by decide, by decide⟩ (fun q85 F86 n87 g88 u89 => ?_)
  have g90 := g82.nw n87 u89
  have g91 := g84.nx n87 u89 g88
  refine jr_putF (ty := .array .int) hE dX12_init_2037 f353 g90 rfl hinit rfl (by decide +kernel) rfl rfl (Nat.le_of_ble_eq_true rfl) (fun F93 g94 u95 => ?_)
  have g94 : jF ((((((((L ++ [q1]) ++ [q13]) ++ [q25]) ++ [q37]) ++ [q49]) ++ [q61]) ++ [q73]) ++ [q85]) F93 o (.inr (12, [.ref (A 0), .ref (A 1), .ref (A 2), .ref (A 3), .ref (A 4), .ref (A 5), .ref (A 6), .ref (A 7), .ref (A 8), .ref (A 9), .int (0 : Int32), .ref (A 10), .ref (A 11), .ref (A 12), .ref (A 13), .ref (A 14), .int (0 : Int32), .ref (A 15), .ref (A 16), .ref (A 17), .ref (A 18), .ref (A 19), .ref (A 20), .ref (A 21), .int (0 : Int32), .ref (A 22), .ref (A 23), .ref (A 24), .ref (A 25), .int (0 : Int32), .int (0 : Int32), .int (0 : Int32), .ref (A 26), .ref (A 27), .ref (A 28), .ref (A 29), .ref (A 30), .ref (A 31), .ref (A 32), .ref (A 33), .ref (A 34), .ref (A 35), .ref (A 36), .ref (A 37), .ref (A 38), .ref (A 39), .ref (A 40), .ref (A 41), .ref (A 42), .ref (A 43), .ref (A 44), .ref (A 45), .ref (A 46), .ref (A 47), .ref (A 48), .ref (A 49), .ref (A 50), .int (0 : Int32), .ref (A 51), .ref (A 52), .ref (A 53), .ref (A 54), .ref (A 55), .ref (A 56), .ref (A 57), .ref (A 58), .ref (A 59), .ref (A 60), .ref (A 61), .ref (A 62), .ref (A 63), .ref q1, .ref q13, .ref q25, .ref q37, .ref q49, .ref q61, .ref q73, .int (0 : Int32), .ref q85, .null])) := g94
  have g96 := g91.put u95
  refine jr_aload_n hE dX12_init_2040 0 rfl ?_
  refine jr_bipush (v := (66 : Int32)) hE dX12_init_2041 (by decide) ?_
  refine jr_newa (ty := .int) (g := 1) (N := 66) (a0 := (66, .inl (fun _ => 0))) hE dX12_init_2043 (by decide +kernel) rfl rfl (fun _ e => by cases e) (fun _ => rfl) (by decide) (by decide) (by decide) ⟨by decide, by decide⟩ (fun q97 F98 n99 g100 u101 => ?_)
  have g102 := g94.nw n99 u101
  have g103 := g96.nx n99 u101 g100
  refine jr_putF (ty := .array .int) hE dX12_init_2045 f356 g102 rfl hinit rfl (by decide +kernel) rfl rfl (Nat.le_of_ble_eq_true rfl) (fun F105 g106 u107 => ?_)
  have g106 : jF (((((((((L ++ [q1]) ++ [q13]) ++ [q25]) ++ [q37]) ++ [q49]) ++ [q61]) ++ [q73]) ++ [q85]) ++ [q97]) F105 o (.inr (12, [.ref (A 0), .ref (A 1), .ref (A 2), .ref (A 3), .ref (A 4), .ref (A 5), .ref (A 6), .ref (A 7), .ref (A 8), .ref (A 9), .int (0 : Int32), .ref (A 10), .ref (A 11), .ref (A 12), .ref (A 13), .ref (A 14), .int (0 : Int32), .ref (A 15), .ref (A 16), .ref (A 17), .ref (A 18), .ref (A 19), .ref (A 20), .ref (A 21), .int (0 : Int32), .ref (A 22), .ref (A 23), .ref (A 24), .ref (A 25), .int (0 : Int32), .int (0 : Int32), .int (0 : Int32), .ref (A 26), .ref (A 27), .ref (A 28), .ref (A 29), .ref (A 30), .ref (A 31), .ref (A 32), .ref (A 33), .ref (A 34), .ref (A 35), .ref (A 36), .ref (A 37), .ref (A 38), .ref (A 39), .ref (A 40), .ref (A 41), .ref (A 42), .ref (A 43), .ref (A 44), .ref (A 45), .ref (A 46), .ref (A 47), .ref (A 48), .ref (A 49), .ref (A 50), .int (0 : Int32), .ref (A 51), .ref (A 52), .ref (A 53), .ref (A 54), .ref (A 55), .ref (A 56), .ref (A 57), .ref (A 58), .ref (A 59), .ref (A 60), .ref (A 61), .ref (A 62), .ref (A 63), .ref q1, .ref q13, .ref q25, .ref q37, .ref q49, .ref q61, .ref q73, .int (0 : Int32), .ref q85, .ref q97])) := g106
  have g108 := g103.put u107
  exact kk _ _ _ g108 g106
set_option maxHeartbeats 4000000 in
set_option maxRecDepth 100000 in
theorem c_i12 (l : Launch) (G : Nat → ClassId) (o : Nat) : jCv l yX12_init wsX12_init ({ frames := 1, cells := 73, slots := 4867, locals := 20 }) (73) (4867) G [.ref o] (fun L F => jF L F o (.inr (12, [.null, .null, .null, .null, .null, .null, .null, .null, .null, .null, .int 0, .null, .null, .null, .null, .null, .int 0, .null, .null, .null, .null, .null, .null, .null, .int 0, .null, .null, .null, .null, .int 0, .int 0, .int 0, .null, .null, .null, .null, .null, .null, .null, .null, .null, .null, .null, .null, .null, .null, .null, .null, .null, .null, .null, .null, .null, .null, .null, .null, .null, .int 0, .null, .null, .null, .null, .null, .null, .null, .null, .null, .null, .null, .null, .null, .null, .null, .null, .null, .null, .null, .null, .int 0, .null, .null]))) (fun L F L1 F1 => ∃ A, gS L F o 73 A (tX12 G) L1 F1 ∧ F1 o = (.inr (12, [.ref (A 0), .ref (A 1), .ref (A 2), .ref (A 3), .ref (A 4), .ref (A 5), .ref (A 6), .ref (A 7), .ref (A 8), .ref (A 9), .int (0 : Int32), .ref (A 10), .ref (A 11), .ref (A 12), .ref (A 13), .ref (A 14), .int (0 : Int32), .ref (A 15), .ref (A 16), .ref (A 17), .ref (A 18), .ref (A 19), .ref (A 20), .ref (A 21), .int (0 : Int32), .ref (A 22), .ref (A 23), .ref (A 24), .ref (A 25), .int (0 : Int32), .int (0 : Int32), .int (0 : Int32), .ref (A 26), .ref (A 27), .ref (A 28), .ref (A 29), .ref (A 30), .ref (A 31), .ref (A 32), .ref (A 33), .ref (A 34), .ref (A 35), .ref (A 36), .ref (A 37), .ref (A 38), .ref (A 39), .ref (A 40), .ref (A 41), .ref (A 42), .ref (A 43), .ref (A 44), .ref (A 45), .ref (A 46), .ref (A 47), .ref (A 48), .ref (A 49), .ref (A 50), .int (0 : Int32), .ref (A 51), .ref (A 52), .ref (A 53), .ref (A 54), .ref (A 55), .ref (A 56), .ref (A 57), .ref (A 58), .ref (A 59), .ref (A 60), .ref (A 61), .ref (A 62), .ref (A 63), .ref (A 64), .ref (A 65), .ref (A 66), .ref (A 67), .ref (A 68), .ref (A 69), .ref (A 70), .int (0 : Int32), .ref (A 71), .ref (A 72)]))) := by
  refine jm_vI (cc := cX12_init) (maxL := 1) (by decide) rfl (Nat.le_of_ble_eq_true rfl) rfl ?_
  intro E L F hE hinit hR hpre
  have hE : jOk E G _ cX12_init 1 RX12 wsX12_init := hE
  have ho := hpre
  have g := gS.nil (F := F) (fun _ => 0) (tX12 G) ho.1
  refine i12_0 hE hinit g ho (fun A1 L1 F1 g ho => ?_)
  refine i12_1 hE hinit g ho (fun A1 L1 F1 g ho => ?_)
  refine i12_2 hE hinit g ho (fun A1 L1 F1 g ho => ?_)
  refine i12_3 hE hinit g ho (fun A1 L1 F1 g ho => ?_)
  refine i12_4 hE hinit g ho (fun A1 L1 F1 g ho => ?_)
  refine i12_5 hE hinit g ho (fun A1 L1 F1 q Fq g ho nq uq hq => ?_)
  refine i12_6 hE hinit g ho nq uq hq (fun A1 L1 F1 q Fq g ho nq uq hq => ?_)
  refine i12_7 hE hinit g ho nq uq hq (fun A1 L1 F1 q Fq g ho nq uq hq => ?_)
  refine i12_8 hE hinit g ho nq uq hq (fun A1 L1 F1 q Fq g ho nq uq hq => ?_)
  refine i12_9 hE hinit g ho nq uq hq (fun A1 L1 F1 q Fq g ho nq uq hq => ?_)
  refine i12_10 hE hinit g ho nq uq hq (fun A1 L1 F1 g ho => ?_)
  refine i12_11 hE hinit g ho (fun A1 L1 F1 g ho => ?_)
  exact hR _ _ _ _ dX12_init_2048 ⟨_, g, ho.2⟩

