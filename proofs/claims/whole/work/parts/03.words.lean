/-- the words that every method is given: all of the tables' that may be handed on -/
def U : List Cond := lw_tbl.filter goodWord
def isNest : Cond → Bool
  | .fieldLinkNest .. => true
  | .methodLinkNest .. => true
  | _ => false
def NWL : List Cond := tables_1.filter isNest
theorem u_mem (i : Nat) {w : Cond} (h : tables_1[i]? = some w) (g : goodWord w = true) : w ∈ U :=
  List.mem_filter.mpr ⟨List.mem_append_right _ (List.mem_of_getElem? h), g⟩
theorem u_sel {q : MethodName × Nat} (h : q ∈ lw_privs) : Cond.selects q.1.cls q.1 q.1 ∈ U :=
  List.mem_filter.mpr ⟨List.mem_append_left _ (List.mem_map.mpr ⟨q, h, rfl⟩), rfl⟩
theorem n_mem (i : Nat) {w : Cond} (h : tables_1[i]? = some w) (g : isNest w = true) : w ∈ NWL :=
  List.mem_filter.mpr ⟨List.mem_of_getElem? h, g⟩
theorem u_good {k : Cond} {ws : List Cond} (h : ∀ w ∈ ws, w ∈ U) : GoodIn (k :: U) ws := fun w hw =>
  ⟨List.mem_cons_of_mem _ (h w hw), good_of_word (List.mem_filter.mp (h w hw)).2⟩
theorem u_in {w : Cond} (h : w ∈ U) : w ∈ lw_tbl := (List.mem_filter.mp h).1

/-! classes -/
def clR : Nat → String := fun ci => match ci with
  | 0 => RX0
  | 1 => RX1
  | 2 => RX2
  | 3 => RX3
  | 4 => RX4
  | 5 => RX5
  | 6 => RX6
  | 7 => RX7
  | 8 => RX8
  | 9 => RX9
  | 10 => RX10
  | _ => RX11
def clT : Nat → u_T := fun ci => match ci with
  | 0 => TX0
  | 1 => TX1
  | 2 => TX2
  | 3 => TX3
  | 4 => TX4
  | 5 => TX5
  | 6 => TX6
  | 7 => TX7
  | 8 => TX8
  | 9 => TX9
  | 10 => TX10
  | _ => TX11
def clTy : Nat → Nat → FieldType := fun ci => match ci with
  | 0 => tyX0
  | 1 => tyX1
  | 2 => tyX2
  | 3 => tyX3
  | 4 => tyX4
  | 5 => tyX5
  | 6 => tyX6
  | 7 => tyX7
  | 8 => tyX8
  | 9 => tyX9
  | 10 => tyX10
  | _ => tyX11
/-- what a field holds: 0 int, 1 boolean, 2 long, 3 a reference that changes, 4 one that does not -/
def kdL : List (List Nat) := [[3, 3, 0, 0], [4, 4, 4, 0, 0, 0, 0], [4, 0], [4, 4, 0], [3, 3, 2, 2], [4, 4, 4, 4, 0], [4, 0, 0], [4, 0], [4, 4, 4, 4, 4, 4, 4, 4, 4, 0, 0, 0], [4, 0], [4, 4, 4, 4, 4, 4, 4, 4, 4, 3, 3, 1], [0, 4, 4, 4, 4, 4, 4, 4, 4, 4, 4, 4, 4, 4, 4, 4, 4, 4, 0, 0, 4, 0, 4, 4, 4, 4, 4, 0, 4, 4, 4, 4, 4]]
def kd (c k : Nat) : Nat := (kdL.getD c []).getD k 0
def nf (c : Nat) : Nat := (kdL.getD c []).length
def okt (kind : Nat) (ty : FieldType) (final : Bool) : Bool := match kind, ty, final with
  | 0, .int, false => true
  | 1, .boolean, false => true
  | 2, .long, false => true
  | 3, .object _, false => true
  | 3, .array _, false => true
  | 4, .object _, true => true
  | 4, .array _, true => true
  | _, _, _ => false
/-- what the tables say of a class -/
def CF (ci : Nat) : Prop := vwCl[ci]? = some (clR ci, clT ci, nf ci) ∧ (∀ w ∈ u_ws (clR ci) (clT ci) (nf ci), w ∈ U) ∧ (∀ k, k < nf ci → parseFieldDescriptor (clT ci k).2.2.1 = some (clTy ci k)) ∧ (∀ a, a < nf ci → ∀ b, b < nf ci → a ≠ b → (clT ci a).2.1 ≠ (clT ci b).2.1) ∧ (∀ k, k < nf ci → (clT ci k).1 = clR ci) ∧ (∀ k, k < nf ci → okt (kd ci k) (clTy ci k) (clT ci k).2.2.2 = true)
theorem ws_X0 : ∀ w ∈ u_ws RX0 TX0 4, w ∈ U := by
  intro w hw
  obtain ⟨k, hk, rfl⟩ := List.mem_map.mp hw
  have hk2 := List.mem_range.mp hk
  match k, hk2 with
  | 0, _ => exact u_mem 122 (by decide +kernel) rfl
  | 1, _ => exact u_mem 124 (by decide +kernel) rfl
  | 2, _ => exact u_mem 126 (by decide +kernel) rfl
  | 3, _ => exact u_mem 128 (by decide +kernel) rfl
  | k + 4, h => exact absurd h (by omega)
theorem CF_X0 : CF 0 := ⟨rfl, ws_X0, tyX0_ok, nmX0, by decide +kernel, by decide +kernel⟩
theorem ws_X1 : ∀ w ∈ u_ws RX1 TX1 7, w ∈ U := by
  intro w hw
  obtain ⟨k, hk, rfl⟩ := List.mem_map.mp hw
  have hk2 := List.mem_range.mp hk
  match k, hk2 with
  | 0, _ => exact u_mem 85 (by decide +kernel) rfl
  | 1, _ => exact u_mem 87 (by decide +kernel) rfl
  | 2, _ => exact u_mem 89 (by decide +kernel) rfl
  | 3, _ => exact u_mem 91 (by decide +kernel) rfl
  | 4, _ => exact u_mem 93 (by decide +kernel) rfl
  | 5, _ => exact u_mem 95 (by decide +kernel) rfl
  | 6, _ => exact u_mem 97 (by decide +kernel) rfl
  | k + 7, h => exact absurd h (by omega)
theorem CF_X1 : CF 1 := ⟨rfl, ws_X1, tyX1_ok, nmX1, by decide +kernel, by decide +kernel⟩
theorem ws_X2 : ∀ w ∈ u_ws RX2 TX2 2, w ∈ U := by
  intro w hw
  obtain ⟨k, hk, rfl⟩ := List.mem_map.mp hw
  have hk2 := List.mem_range.mp hk
  match k, hk2 with
  | 0, _ => exact u_mem 103 (by decide +kernel) rfl
  | 1, _ => exact u_mem 105 (by decide +kernel) rfl
  | k + 2, h => exact absurd h (by omega)
theorem CF_X2 : CF 2 := ⟨rfl, ws_X2, tyX2_ok, nmX2, by decide +kernel, by decide +kernel⟩
theorem ws_X3 : ∀ w ∈ u_ws RX3 TX3 3, w ∈ U := by
  intro w hw
  obtain ⟨k, hk, rfl⟩ := List.mem_map.mp hw
  have hk2 := List.mem_range.mp hk
  match k, hk2 with
  | 0, _ => exact u_mem 163 (by decide +kernel) rfl
  | 1, _ => exact u_mem 165 (by decide +kernel) rfl
  | 2, _ => exact u_mem 167 (by decide +kernel) rfl
  | k + 3, h => exact absurd h (by omega)
theorem CF_X3 : CF 3 := ⟨rfl, ws_X3, tyX3_ok, nmX3, by decide +kernel, by decide +kernel⟩
theorem ws_X4 : ∀ w ∈ u_ws RX4 TX4 4, w ∈ U := by
  intro w hw
  obtain ⟨k, hk, rfl⟩ := List.mem_map.mp hw
  have hk2 := List.mem_range.mp hk
  match k, hk2 with
  | 0, _ => exact u_mem 144 (by decide +kernel) rfl
  | 1, _ => exact u_mem 146 (by decide +kernel) rfl
  | 2, _ => exact u_mem 148 (by decide +kernel) rfl
  | 3, _ => exact u_mem 150 (by decide +kernel) rfl
  | k + 4, h => exact absurd h (by omega)
theorem CF_X4 : CF 4 := ⟨rfl, ws_X4, tyX4_ok, nmX4, by decide +kernel, by decide +kernel⟩
theorem ws_X5 : ∀ w ∈ u_ws RX5 TX5 5, w ∈ U := by
  intro w hw
  obtain ⟨k, hk, rfl⟩ := List.mem_map.mp hw
  have hk2 := List.mem_range.mp hk
  match k, hk2 with
  | 0, _ => exact u_mem 199 (by decide +kernel) rfl
  | 1, _ => exact u_mem 201 (by decide +kernel) rfl
  | 2, _ => exact u_mem 203 (by decide +kernel) rfl
  | 3, _ => exact u_mem 205 (by decide +kernel) rfl
  | 4, _ => exact u_mem 207 (by decide +kernel) rfl
  | k + 5, h => exact absurd h (by omega)
theorem CF_X5 : CF 5 := ⟨rfl, ws_X5, tyX5_ok, nmX5, by decide +kernel, by decide +kernel⟩
theorem ws_X6 : ∀ w ∈ u_ws RX6 TX6 3, w ∈ U := by
  intro w hw
  obtain ⟨k, hk, rfl⟩ := List.mem_map.mp hw
  have hk2 := List.mem_range.mp hk
  match k, hk2 with
  | 0, _ => exact u_mem 51 (by decide +kernel) rfl
  | 1, _ => exact u_mem 53 (by decide +kernel) rfl
  | 2, _ => exact u_mem 55 (by decide +kernel) rfl
  | k + 3, h => exact absurd h (by omega)
theorem CF_X6 : CF 6 := ⟨rfl, ws_X6, tyX6_ok, nmX6, by decide +kernel, by decide +kernel⟩
theorem ws_X7 : ∀ w ∈ u_ws RX7 TX7 2, w ∈ U := by
  intro w hw
  obtain ⟨k, hk, rfl⟩ := List.mem_map.mp hw
  have hk2 := List.mem_range.mp hk
  match k, hk2 with
  | 0, _ => exact u_mem 214 (by decide +kernel) rfl
  | 1, _ => exact u_mem 216 (by decide +kernel) rfl
  | k + 2, h => exact absurd h (by omega)
theorem CF_X7 : CF 7 := ⟨rfl, ws_X7, tyX7_ok, nmX7, by decide +kernel, by decide +kernel⟩
theorem ws_X8 : ∀ w ∈ u_ws RX8 TX8 12, w ∈ U := by
  intro w hw
  obtain ⟨k, hk, rfl⟩ := List.mem_map.mp hw
  have hk2 := List.mem_range.mp hk
  match k, hk2 with
  | 0, _ => exact u_mem 260 (by decide +kernel) rfl
  | 1, _ => exact u_mem 262 (by decide +kernel) rfl
  | 2, _ => exact u_mem 264 (by decide +kernel) rfl
  | 3, _ => exact u_mem 266 (by decide +kernel) rfl
  | 4, _ => exact u_mem 268 (by decide +kernel) rfl
  | 5, _ => exact u_mem 270 (by decide +kernel) rfl
  | 6, _ => exact u_mem 272 (by decide +kernel) rfl
  | 7, _ => exact u_mem 274 (by decide +kernel) rfl
  | 8, _ => exact u_mem 276 (by decide +kernel) rfl
  | 9, _ => exact u_mem 278 (by decide +kernel) rfl
  | 10, _ => exact u_mem 280 (by decide +kernel) rfl
  | 11, _ => exact u_mem 282 (by decide +kernel) rfl
  | k + 12, h => exact absurd h (by omega)
theorem CF_X8 : CF 8 := ⟨rfl, ws_X8, tyX8_ok, nmX8, by decide +kernel, by decide +kernel⟩
theorem ws_X9 : ∀ w ∈ u_ws RX9 TX9 2, w ∈ U := by
  intro w hw
  obtain ⟨k, hk, rfl⟩ := List.mem_map.mp hw
  have hk2 := List.mem_range.mp hk
  match k, hk2 with
  | 0, _ => exact u_mem 36 (by decide +kernel) rfl
  | 1, _ => exact u_mem 38 (by decide +kernel) rfl
  | k + 2, h => exact absurd h (by omega)
theorem CF_X9 : CF 9 := ⟨rfl, ws_X9, tyX9_ok, nmX9, by decide +kernel, by decide +kernel⟩
theorem ws_X10 : ∀ w ∈ u_ws RX10 TX10 12, w ∈ U := by
  intro w hw
  obtain ⟨k, hk, rfl⟩ := List.mem_map.mp hw
  have hk2 := List.mem_range.mp hk
  match k, hk2 with
  | 0, _ => exact u_mem 408 (by decide +kernel) rfl
  | 1, _ => exact u_mem 410 (by decide +kernel) rfl
  | 2, _ => exact u_mem 412 (by decide +kernel) rfl
  | 3, _ => exact u_mem 414 (by decide +kernel) rfl
  | 4, _ => exact u_mem 416 (by decide +kernel) rfl
  | 5, _ => exact u_mem 418 (by decide +kernel) rfl
  | 6, _ => exact u_mem 420 (by decide +kernel) rfl
  | 7, _ => exact u_mem 422 (by decide +kernel) rfl
  | 8, _ => exact u_mem 424 (by decide +kernel) rfl
  | 9, _ => exact u_mem 426 (by decide +kernel) rfl
  | 10, _ => exact u_mem 428 (by decide +kernel) rfl
  | 11, _ => exact u_mem 430 (by decide +kernel) rfl
  | k + 12, h => exact absurd h (by omega)
theorem CF_X10 : CF 10 := ⟨rfl, ws_X10, tyX10_ok, nmX10, by decide +kernel, by decide +kernel⟩
theorem ws_X11 : ∀ w ∈ u_ws RX11 TX11 33, w ∈ U := by
  intro w hw
  obtain ⟨k, hk, rfl⟩ := List.mem_map.mp hw
  have hk2 := List.mem_range.mp hk
  match k, hk2 with
  | 0, _ => exact u_mem 764 (by decide +kernel) rfl
  | 1, _ => exact u_mem 766 (by decide +kernel) rfl
  | 2, _ => exact u_mem 768 (by decide +kernel) rfl
  | 3, _ => exact u_mem 770 (by decide +kernel) rfl
  | 4, _ => exact u_mem 772 (by decide +kernel) rfl
  | 5, _ => exact u_mem 774 (by decide +kernel) rfl
  | 6, _ => exact u_mem 776 (by decide +kernel) rfl
  | 7, _ => exact u_mem 778 (by decide +kernel) rfl
  | 8, _ => exact u_mem 780 (by decide +kernel) rfl
  | 9, _ => exact u_mem 782 (by decide +kernel) rfl
  | 10, _ => exact u_mem 784 (by decide +kernel) rfl
  | 11, _ => exact u_mem 786 (by decide +kernel) rfl
  | 12, _ => exact u_mem 788 (by decide +kernel) rfl
  | 13, _ => exact u_mem 790 (by decide +kernel) rfl
  | 14, _ => exact u_mem 792 (by decide +kernel) rfl
  | 15, _ => exact u_mem 794 (by decide +kernel) rfl
  | 16, _ => exact u_mem 796 (by decide +kernel) rfl
  | 17, _ => exact u_mem 798 (by decide +kernel) rfl
  | 18, _ => exact u_mem 800 (by decide +kernel) rfl
  | 19, _ => exact u_mem 802 (by decide +kernel) rfl
  | 20, _ => exact u_mem 804 (by decide +kernel) rfl
  | 21, _ => exact u_mem 806 (by decide +kernel) rfl
  | 22, _ => exact u_mem 808 (by decide +kernel) rfl
  | 23, _ => exact u_mem 810 (by decide +kernel) rfl
  | 24, _ => exact u_mem 812 (by decide +kernel) rfl
  | 25, _ => exact u_mem 814 (by decide +kernel) rfl
  | 26, _ => exact u_mem 816 (by decide +kernel) rfl
  | 27, _ => exact u_mem 818 (by decide +kernel) rfl
  | 28, _ => exact u_mem 820 (by decide +kernel) rfl
  | 29, _ => exact u_mem 822 (by decide +kernel) rfl
  | 30, _ => exact u_mem 824 (by decide +kernel) rfl
  | 31, _ => exact u_mem 826 (by decide +kernel) rfl
  | 32, _ => exact u_mem 828 (by decide +kernel) rfl
  | k + 33, h => exact absurd h (by omega)
theorem CF_X11 : CF 11 := ⟨rfl, ws_X11, tyX11_ok, nmX11, by decide +kernel, by decide +kernel⟩
theorem CFall : ∀ ci, ci < 12 → CF ci := fun ci h => match ci, h with
  | 0, _ => CF_X0
  | 1, _ => CF_X1
  | 2, _ => CF_X2
  | 3, _ => CF_X3
  | 4, _ => CF_X4
  | 5, _ => CF_X5
  | 6, _ => CF_X6
  | 7, _ => CF_X7
  | 8, _ => CF_X8
  | 9, _ => CF_X9
  | 10, _ => CF_X10
  | 11, _ => CF_X11
  | k + 12, h => absurd h (by omega)
/-! field links -/
def FL (own : String) (idx ci k : Nat) : Prop := ci < 12 ∧ k < nf ci ∧ (Cond.fieldLink own idx (clR ci) (clT ci k).2.1 (clT ci k).2.2.1 ∈ U ∨ ∃ host : String, Cond.fieldLinkNest own idx (clR ci) (clT ci k).2.1 (clT ci k).2.2.1 host ∈ NWL)
theorem fl_X10_10 : FL RX10 10 10 0 := ⟨by decide, by decide, Or.inl (u_mem 396 (by decide +kernel) rfl)⟩
theorem fp_X10_10 : Cond.fieldLink RX10 10 (clR 10) (clT 10 0).2.1 (clT 10 0).2.2.1 ∈ U := u_mem 396 (by decide +kernel) rfl
theorem fl_X10_19 : FL RX10 19 10 1 := ⟨by decide, by decide, Or.inl (u_mem 397 (by decide +kernel) rfl)⟩
theorem fp_X10_19 : Cond.fieldLink RX10 19 (clR 10) (clT 10 1).2.1 (clT 10 1).2.2.1 ∈ U := u_mem 397 (by decide +kernel) rfl
theorem fl_X10_26 : FL RX10 26 10 2 := ⟨by decide, by decide, Or.inl (u_mem 398 (by decide +kernel) rfl)⟩
theorem fp_X10_26 : Cond.fieldLink RX10 26 (clR 10) (clT 10 2).2.1 (clT 10 2).2.2.1 ∈ U := u_mem 398 (by decide +kernel) rfl
theorem fl_X10_30 : FL RX10 30 10 3 := ⟨by decide, by decide, Or.inl (u_mem 399 (by decide +kernel) rfl)⟩
theorem fp_X10_30 : Cond.fieldLink RX10 30 (clR 10) (clT 10 3).2.1 (clT 10 3).2.2.1 ∈ U := u_mem 399 (by decide +kernel) rfl
theorem fl_X10_36 : FL RX10 36 10 4 := ⟨by decide, by decide, Or.inl (u_mem 400 (by decide +kernel) rfl)⟩
theorem fp_X10_36 : Cond.fieldLink RX10 36 (clR 10) (clT 10 4).2.1 (clT 10 4).2.2.1 ∈ U := u_mem 400 (by decide +kernel) rfl
theorem fl_X10_43 : FL RX10 43 10 5 := ⟨by decide, by decide, Or.inl (u_mem 401 (by decide +kernel) rfl)⟩
theorem fp_X10_43 : Cond.fieldLink RX10 43 (clR 10) (clT 10 5).2.1 (clT 10 5).2.2.1 ∈ U := u_mem 401 (by decide +kernel) rfl
theorem fl_X10_50 : FL RX10 50 10 6 := ⟨by decide, by decide, Or.inl (u_mem 402 (by decide +kernel) rfl)⟩
theorem fp_X10_50 : Cond.fieldLink RX10 50 (clR 10) (clT 10 6).2.1 (clT 10 6).2.2.1 ∈ U := u_mem 402 (by decide +kernel) rfl
theorem fl_X10_57 : FL RX10 57 10 7 := ⟨by decide, by decide, Or.inl (u_mem 403 (by decide +kernel) rfl)⟩
theorem fp_X10_57 : Cond.fieldLink RX10 57 (clR 10) (clT 10 7).2.1 (clT 10 7).2.2.1 ∈ U := u_mem 403 (by decide +kernel) rfl
theorem fl_X10_64 : FL RX10 64 10 8 := ⟨by decide, by decide, Or.inl (u_mem 404 (by decide +kernel) rfl)⟩
theorem fp_X10_64 : Cond.fieldLink RX10 64 (clR 10) (clT 10 8).2.1 (clT 10 8).2.2.1 ∈ U := u_mem 404 (by decide +kernel) rfl
theorem fl_X10_71 : FL RX10 71 10 9 := ⟨by decide, by decide, Or.inl (u_mem 405 (by decide +kernel) rfl)⟩
theorem fp_X10_71 : Cond.fieldLink RX10 71 (clR 10) (clT 10 9).2.1 (clT 10 9).2.2.1 ∈ U := u_mem 405 (by decide +kernel) rfl
theorem fl_X10_75 : FL RX10 75 10 10 := ⟨by decide, by decide, Or.inl (u_mem 406 (by decide +kernel) rfl)⟩
theorem fp_X10_75 : Cond.fieldLink RX10 75 (clR 10) (clT 10 10).2.1 (clT 10 10).2.2.1 ∈ U := u_mem 406 (by decide +kernel) rfl
theorem fl_X10_78 : FL RX10 78 10 11 := ⟨by decide, by decide, Or.inl (u_mem 407 (by decide +kernel) rfl)⟩
theorem fp_X10_78 : Cond.fieldLink RX10 78 (clR 10) (clT 10 11).2.1 (clT 10 11).2.2.1 ∈ U := u_mem 407 (by decide +kernel) rfl
theorem fl_X10_105 : FL RX10 105 9 1 := ⟨by decide, by decide, Or.inr ⟨_, n_mem 34 (w := .fieldLinkNest RX10 105 (clR 9) (clT 9 1).2.1 (clT 9 1).2.2.1 "HungInStorm") (by decide +kernel) rfl⟩⟩
theorem fl_X10_114 : FL RX10 114 8 10 := ⟨by decide, by decide, Or.inr ⟨_, n_mem 257 (w := .fieldLinkNest RX10 114 (clR 8) (clT 8 10).2.1 (clT 8 10).2.2.1 "HungInStorm") (by decide +kernel) rfl⟩⟩
theorem fl_X10_125 : FL RX10 125 8 0 := ⟨by decide, by decide, Or.inr ⟨_, n_mem 229 (w := .fieldLinkNest RX10 125 (clR 8) (clT 8 0).2.1 (clT 8 0).2.2.1 "HungInStorm") (by decide +kernel) rfl⟩⟩
theorem fl_X10_129 : FL RX10 129 8 1 := ⟨by decide, by decide, Or.inr ⟨_, n_mem 232 (w := .fieldLinkNest RX10 129 (clR 8) (clT 8 1).2.1 (clT 8 1).2.2.1 "HungInStorm") (by decide +kernel) rfl⟩⟩
theorem fl_X10_139 : FL RX10 139 2 0 := ⟨by decide, by decide, Or.inr ⟨_, n_mem 101 (w := .fieldLinkNest RX10 139 (clR 2) (clT 2 0).2.1 (clT 2 0).2.2.1 "HungInStorm") (by decide +kernel) rfl⟩⟩
theorem fl_X10_143 : FL RX10 143 1 0 := ⟨by decide, by decide, Or.inr ⟨_, n_mem 73 (w := .fieldLinkNest RX10 143 (clR 1) (clT 1 0).2.1 (clT 1 0).2.2.1 "HungInStorm") (by decide +kernel) rfl⟩⟩
theorem fl_X10_149 : FL RX10 149 1 1 := ⟨by decide, by decide, Or.inr ⟨_, n_mem 76 (w := .fieldLinkNest RX10 149 (clR 1) (clT 1 1).2.1 (clT 1 1).2.2.1 "HungInStorm") (by decide +kernel) rfl⟩⟩
theorem fl_X10_152 : FL RX10 152 1 2 := ⟨by decide, by decide, Or.inr ⟨_, n_mem 78 (w := .fieldLinkNest RX10 152 (clR 1) (clT 1 2).2.1 (clT 1 2).2.2.1 "HungInStorm") (by decide +kernel) rfl⟩⟩
theorem fl_X10_155 : FL RX10 155 1 3 := ⟨by decide, by decide, Or.inr ⟨_, n_mem 81 (w := .fieldLinkNest RX10 155 (clR 1) (clT 1 3).2.1 (clT 1 3).2.2.1 "HungInStorm") (by decide +kernel) rfl⟩⟩
theorem fl_X10_170 : FL RX10 170 8 3 := ⟨by decide, by decide, Or.inr ⟨_, n_mem 240 (w := .fieldLinkNest RX10 170 (clR 8) (clT 8 3).2.1 (clT 8 3).2.2.1 "HungInStorm") (by decide +kernel) rfl⟩⟩
theorem fl_X10_176 : FL RX10 176 8 2 := ⟨by decide, by decide, Or.inr ⟨_, n_mem 236 (w := .fieldLinkNest RX10 176 (clR 8) (clT 8 2).2.1 (clT 8 2).2.2.1 "HungInStorm") (by decide +kernel) rfl⟩⟩
theorem fl_X10_187 : FL RX10 187 0 2 := ⟨by decide, by decide, Or.inr ⟨_, n_mem 119 (w := .fieldLinkNest RX10 187 (clR 0) (clT 0 2).2.1 (clT 0 2).2.2.1 "HungInStorm") (by decide +kernel) rfl⟩⟩
theorem fl_X10_190 : FL RX10 190 0 3 := ⟨by decide, by decide, Or.inr ⟨_, n_mem 121 (w := .fieldLinkNest RX10 190 (clR 0) (clT 0 3).2.1 (clT 0 3).2.2.1 "HungInStorm") (by decide +kernel) rfl⟩⟩
theorem fl_X10_192 : FL RX10 192 8 9 := ⟨by decide, by decide, Or.inr ⟨_, n_mem 254 (w := .fieldLinkNest RX10 192 (clR 8) (clT 8 9).2.1 (clT 8 9).2.2.1 "HungInStorm") (by decide +kernel) rfl⟩⟩
theorem fl_X10_215 : FL RX10 215 4 2 := ⟨by decide, by decide, Or.inr ⟨_, n_mem 141 (w := .fieldLinkNest RX10 215 (clR 4) (clT 4 2).2.1 (clT 4 2).2.2.1 "HungInStorm") (by decide +kernel) rfl⟩⟩
theorem fl_X10_219 : FL RX10 219 4 3 := ⟨by decide, by decide, Or.inr ⟨_, n_mem 143 (w := .fieldLinkNest RX10 219 (clR 4) (clT 4 3).2.1 (clT 4 3).2.2.1 "HungInStorm") (by decide +kernel) rfl⟩⟩
theorem fl_X10_222 : FL RX10 222 8 8 := ⟨by decide, by decide, Or.inr ⟨_, n_mem 250 (w := .fieldLinkNest RX10 222 (clR 8) (clT 8 8).2.1 (clT 8 8).2.2.1 "HungInStorm") (by decide +kernel) rfl⟩⟩
theorem fl_X10_236 : FL RX10 236 5 4 := ⟨by decide, by decide, Or.inr ⟨_, n_mem 198 (w := .fieldLinkNest RX10 236 (clR 5) (clT 5 4).2.1 (clT 5 4).2.2.1 "HungInStorm") (by decide +kernel) rfl⟩⟩
theorem fl_X10_239 : FL RX10 239 5 3 := ⟨by decide, by decide, Or.inr ⟨_, n_mem 194 (w := .fieldLinkNest RX10 239 (clR 5) (clT 5 3).2.1 (clT 5 3).2.2.1 "HungInStorm") (by decide +kernel) rfl⟩⟩
theorem fl_X10_244 : FL RX10 244 3 2 := ⟨by decide, by decide, Or.inr ⟨_, n_mem 162 (w := .fieldLinkNest RX10 244 (clR 3) (clT 3 2).2.1 (clT 3 2).2.2.1 "HungInStorm") (by decide +kernel) rfl⟩⟩
theorem fl_X10_257 : FL RX10 257 7 1 := ⟨by decide, by decide, Or.inr ⟨_, n_mem 213 (w := .fieldLinkNest RX10 257 (clR 7) (clT 7 1).2.1 (clT 7 1).2.2.1 "HungInStorm") (by decide +kernel) rfl⟩⟩
theorem fl_X10_261 : FL RX10 261 8 11 := ⟨by decide, by decide, Or.inr ⟨_, n_mem 259 (w := .fieldLinkNest RX10 261 (clR 8) (clT 8 11).2.1 (clT 8 11).2.2.1 "HungInStorm") (by decide +kernel) rfl⟩⟩
theorem fl_X0_9 : FL RX0 9 0 0 := ⟨by decide, by decide, Or.inl (u_mem 116 (by decide +kernel) rfl)⟩
theorem fp_X0_9 : Cond.fieldLink RX0 9 (clR 0) (clT 0 0).2.1 (clT 0 0).2.2.1 ∈ U := u_mem 116 (by decide +kernel) rfl
theorem fl_X0_15 : FL RX0 15 0 1 := ⟨by decide, by decide, Or.inl (u_mem 117 (by decide +kernel) rfl)⟩
theorem fp_X0_15 : Cond.fieldLink RX0 15 (clR 0) (clT 0 1).2.1 (clT 0 1).2.2.1 ∈ U := u_mem 117 (by decide +kernel) rfl
theorem fl_X0_22 : FL RX0 22 8 2 := ⟨by decide, by decide, Or.inr ⟨_, n_mem 234 (w := .fieldLinkNest RX0 22 (clR 8) (clT 8 2).2.1 (clT 8 2).2.2.1 "HungInStorm") (by decide +kernel) rfl⟩⟩
theorem fl_X0_28 : FL RX0 28 8 3 := ⟨by decide, by decide, Or.inr ⟨_, n_mem 238 (w := .fieldLinkNest RX0 28 (clR 8) (clT 8 3).2.1 (clT 8 3).2.2.1 "HungInStorm") (by decide +kernel) rfl⟩⟩
theorem fl_X0_35 : FL RX0 35 8 8 := ⟨by decide, by decide, Or.inr ⟨_, n_mem 249 (w := .fieldLinkNest RX0 35 (clR 8) (clT 8 8).2.1 (clT 8 8).2.2.1 "HungInStorm") (by decide +kernel) rfl⟩⟩
theorem fl_X0_39 : FL RX0 39 5 3 := ⟨by decide, by decide, Or.inr ⟨_, n_mem 191 (w := .fieldLinkNest RX0 39 (clR 5) (clT 5 3).2.1 (clT 5 3).2.2.1 "HungInStorm") (by decide +kernel) rfl⟩⟩
theorem fl_X0_50 : FL RX0 50 0 2 := ⟨by decide, by decide, Or.inl (u_mem 118 (by decide +kernel) rfl)⟩
theorem fp_X0_50 : Cond.fieldLink RX0 50 (clR 0) (clT 0 2).2.1 (clT 0 2).2.2.1 ∈ U := u_mem 118 (by decide +kernel) rfl
theorem fl_X0_58 : FL RX0 58 1 0 := ⟨by decide, by decide, Or.inr ⟨_, n_mem 72 (w := .fieldLinkNest RX0 58 (clR 1) (clT 1 0).2.1 (clT 1 0).2.2.1 "HungInStorm") (by decide +kernel) rfl⟩⟩
theorem fl_X0_61 : FL RX0 61 1 1 := ⟨by decide, by decide, Or.inr ⟨_, n_mem 75 (w := .fieldLinkNest RX0 61 (clR 1) (clT 1 1).2.1 (clT 1 1).2.2.1 "HungInStorm") (by decide +kernel) rfl⟩⟩
theorem fl_X0_68 : FL RX0 68 0 3 := ⟨by decide, by decide, Or.inl (u_mem 120 (by decide +kernel) rfl)⟩
theorem fp_X0_68 : Cond.fieldLink RX0 68 (clR 0) (clT 0 3).2.1 (clT 0 3).2.2.1 ∈ U := u_mem 120 (by decide +kernel) rfl
theorem fl_X0_70 : FL RX0 70 8 9 := ⟨by decide, by decide, Or.inr ⟨_, n_mem 253 (w := .fieldLinkNest RX0 70 (clR 8) (clT 8 9).2.1 (clT 8 9).2.2.1 "HungInStorm") (by decide +kernel) rfl⟩⟩
theorem fl_X0_80 : FL RX0 80 8 4 := ⟨by decide, by decide, Or.inr ⟨_, n_mem 243 (w := .fieldLinkNest RX0 80 (clR 8) (clT 8 4).2.1 (clT 8 4).2.2.1 "HungInStorm") (by decide +kernel) rfl⟩⟩
theorem fl_X0_100 : FL RX0 100 8 0 := ⟨by decide, by decide, Or.inr ⟨_, n_mem 230 (w := .fieldLinkNest RX0 100 (clR 8) (clT 8 0).2.1 (clT 8 0).2.2.1 "HungInStorm") (by decide +kernel) rfl⟩⟩
theorem fl_X1_9 : FL RX1 9 1 0 := ⟨by decide, by decide, Or.inl (u_mem 71 (by decide +kernel) rfl)⟩
theorem fp_X1_9 : Cond.fieldLink RX1 9 (clR 1) (clT 1 0).2.1 (clT 1 0).2.2.1 ∈ U := u_mem 71 (by decide +kernel) rfl
theorem fl_X1_15 : FL RX1 15 1 1 := ⟨by decide, by decide, Or.inl (u_mem 74 (by decide +kernel) rfl)⟩
theorem fp_X1_15 : Cond.fieldLink RX1 15 (clR 1) (clT 1 1).2.1 (clT 1 1).2.2.1 ∈ U := u_mem 74 (by decide +kernel) rfl
theorem fl_X1_18 : FL RX1 18 1 2 := ⟨by decide, by decide, Or.inl (u_mem 77 (by decide +kernel) rfl)⟩
theorem fp_X1_18 : Cond.fieldLink RX1 18 (clR 1) (clT 1 2).2.1 (clT 1 2).2.2.1 ∈ U := u_mem 77 (by decide +kernel) rfl
theorem fl_X1_21 : FL RX1 21 1 3 := ⟨by decide, by decide, Or.inl (u_mem 79 (by decide +kernel) rfl)⟩
theorem fp_X1_21 : Cond.fieldLink RX1 21 (clR 1) (clT 1 3).2.1 (clT 1 3).2.2.1 ∈ U := u_mem 79 (by decide +kernel) rfl
theorem fl_X1_25 : FL RX1 25 1 4 := ⟨by decide, by decide, Or.inl (u_mem 82 (by decide +kernel) rfl)⟩
theorem fp_X1_25 : Cond.fieldLink RX1 25 (clR 1) (clT 1 4).2.1 (clT 1 4).2.2.1 ∈ U := u_mem 82 (by decide +kernel) rfl
theorem fl_X1_28 : FL RX1 28 1 5 := ⟨by decide, by decide, Or.inl (u_mem 83 (by decide +kernel) rfl)⟩
theorem fp_X1_28 : Cond.fieldLink RX1 28 (clR 1) (clT 1 5).2.1 (clT 1 5).2.2.1 ∈ U := u_mem 83 (by decide +kernel) rfl
theorem fl_X1_31 : FL RX1 31 8 8 := ⟨by decide, by decide, Or.inr ⟨_, n_mem 248 (w := .fieldLinkNest RX1 31 (clR 8) (clT 8 8).2.1 (clT 8 8).2.2.1 "HungInStorm") (by decide +kernel) rfl⟩⟩
theorem fl_X1_37 : FL RX1 37 5 3 := ⟨by decide, by decide, Or.inr ⟨_, n_mem 190 (w := .fieldLinkNest RX1 37 (clR 5) (clT 5 3).2.1 (clT 5 3).2.2.1 "HungInStorm") (by decide +kernel) rfl⟩⟩
theorem fl_X1_40 : FL RX1 40 1 6 := ⟨by decide, by decide, Or.inl (u_mem 84 (by decide +kernel) rfl)⟩
theorem fp_X1_40 : Cond.fieldLink RX1 40 (clR 1) (clT 1 6).2.1 (clT 1 6).2.2.1 ∈ U := u_mem 84 (by decide +kernel) rfl
theorem fl_X1_57 : FL RX1 57 5 4 := ⟨by decide, by decide, Or.inr ⟨_, n_mem 197 (w := .fieldLinkNest RX1 57 (clR 5) (clT 5 4).2.1 (clT 5 4).2.2.1 "HungInStorm") (by decide +kernel) rfl⟩⟩
theorem fl_X1_60 : FL RX1 60 5 0 := ⟨by decide, by decide, Or.inr ⟨_, n_mem 184 (w := .fieldLinkNest RX1 60 (clR 5) (clT 5 0).2.1 (clT 5 0).2.2.1 "HungInStorm") (by decide +kernel) rfl⟩⟩
theorem fl_X1_63 : FL RX1 63 5 1 := ⟨by decide, by decide, Or.inr ⟨_, n_mem 186 (w := .fieldLinkNest RX1 63 (clR 5) (clT 5 1).2.1 (clT 5 1).2.2.1 "HungInStorm") (by decide +kernel) rfl⟩⟩
theorem fl_X1_66 : FL RX1 66 5 2 := ⟨by decide, by decide, Or.inr ⟨_, n_mem 188 (w := .fieldLinkNest RX1 66 (clR 5) (clT 5 2).2.1 (clT 5 2).2.2.1 "HungInStorm") (by decide +kernel) rfl⟩⟩
theorem fl_X1_76 : FL RX1 76 8 9 := ⟨by decide, by decide, Or.inr ⟨_, n_mem 252 (w := .fieldLinkNest RX1 76 (clR 8) (clT 8 9).2.1 (clT 8 9).2.2.1 "HungInStorm") (by decide +kernel) rfl⟩⟩
theorem fl_X1_79 : FL RX1 79 8 4 := ⟨by decide, by decide, Or.inr ⟨_, n_mem 242 (w := .fieldLinkNest RX1 79 (clR 8) (clT 8 4).2.1 (clT 8 4).2.2.1 "HungInStorm") (by decide +kernel) rfl⟩⟩
theorem fl_X1_82 : FL RX1 82 8 0 := ⟨by decide, by decide, Or.inr ⟨_, n_mem 228 (w := .fieldLinkNest RX1 82 (clR 8) (clT 8 0).2.1 (clT 8 0).2.2.1 "HungInStorm") (by decide +kernel) rfl⟩⟩
theorem fl_X2_11 : FL RX2 11 2 0 := ⟨by decide, by decide, Or.inl (u_mem 100 (by decide +kernel) rfl)⟩
theorem fp_X2_11 : Cond.fieldLink RX2 11 (clR 2) (clT 2 0).2.1 (clT 2 0).2.2.1 ∈ U := u_mem 100 (by decide +kernel) rfl
theorem fl_X2_18 : FL RX2 18 8 10 := ⟨by decide, by decide, Or.inr ⟨_, n_mem 255 (w := .fieldLinkNest RX2 18 (clR 8) (clT 8 10).2.1 (clT 8 10).2.2.1 "HungInStorm") (by decide +kernel) rfl⟩⟩
theorem fl_X2_24 : FL RX2 24 2 1 := ⟨by decide, by decide, Or.inl (u_mem 102 (by decide +kernel) rfl)⟩
theorem fp_X2_24 : Cond.fieldLink RX2 24 (clR 2) (clT 2 1).2.1 (clT 2 1).2.2.1 ∈ U := u_mem 102 (by decide +kernel) rfl
theorem fl_X2_27 : FL RX2 27 8 2 := ⟨by decide, by decide, Or.inr ⟨_, n_mem 235 (w := .fieldLinkNest RX2 27 (clR 8) (clT 8 2).2.1 (clT 8 2).2.2.1 "HungInStorm") (by decide +kernel) rfl⟩⟩
theorem fl_X2_31 : FL RX2 31 8 3 := ⟨by decide, by decide, Or.inr ⟨_, n_mem 239 (w := .fieldLinkNest RX2 31 (clR 8) (clT 8 3).2.1 (clT 8 3).2.2.1 "HungInStorm") (by decide +kernel) rfl⟩⟩
theorem fl_X2_54 : FL RX2 54 1 3 := ⟨by decide, by decide, Or.inr ⟨_, n_mem 80 (w := .fieldLinkNest RX2 54 (clR 1) (clT 1 3).2.1 (clT 1 3).2.2.1 "HungInStorm") (by decide +kernel) rfl⟩⟩
theorem fl_X3_9 : FL RX3 9 3 0 := ⟨by decide, by decide, Or.inl (u_mem 159 (by decide +kernel) rfl)⟩
theorem fp_X3_9 : Cond.fieldLink RX3 9 (clR 3) (clT 3 0).2.1 (clT 3 0).2.2.1 ∈ U := u_mem 159 (by decide +kernel) rfl
theorem fl_X3_15 : FL RX3 15 3 1 := ⟨by decide, by decide, Or.inl (u_mem 160 (by decide +kernel) rfl)⟩
theorem fp_X3_15 : Cond.fieldLink RX3 15 (clR 3) (clT 3 1).2.1 (clT 3 1).2.2.1 ∈ U := u_mem 160 (by decide +kernel) rfl
theorem fl_X3_18 : FL RX3 18 3 2 := ⟨by decide, by decide, Or.inl (u_mem 161 (by decide +kernel) rfl)⟩
theorem fp_X3_18 : Cond.fieldLink RX3 18 (clR 3) (clT 3 2).2.1 (clT 3 2).2.2.1 ∈ U := u_mem 161 (by decide +kernel) rfl
theorem fl_X3_30 : FL RX3 30 5 3 := ⟨by decide, by decide, Or.inr ⟨_, n_mem 193 (w := .fieldLinkNest RX3 30 (clR 5) (clT 5 3).2.1 (clT 5 3).2.2.1 "HungInStorm") (by decide +kernel) rfl⟩⟩
theorem fl_X4_9 : FL RX4 9 4 0 := ⟨by decide, by decide, Or.inl (u_mem 138 (by decide +kernel) rfl)⟩
theorem fp_X4_9 : Cond.fieldLink RX4 9 (clR 4) (clT 4 0).2.1 (clT 4 0).2.2.1 ∈ U := u_mem 138 (by decide +kernel) rfl
theorem fl_X4_15 : FL RX4 15 4 1 := ⟨by decide, by decide, Or.inl (u_mem 139 (by decide +kernel) rfl)⟩
theorem fp_X4_15 : Cond.fieldLink RX4 15 (clR 4) (clT 4 1).2.1 (clT 4 1).2.2.1 ∈ U := u_mem 139 (by decide +kernel) rfl
theorem fl_X4_18 : FL RX4 18 4 3 := ⟨by decide, by decide, Or.inl (u_mem 142 (by decide +kernel) rfl)⟩
theorem fp_X4_18 : Cond.fieldLink RX4 18 (clR 4) (clT 4 3).2.1 (clT 4 3).2.2.1 ∈ U := u_mem 142 (by decide +kernel) rfl
theorem fl_X4_28 : FL RX4 28 4 2 := ⟨by decide, by decide, Or.inl (u_mem 140 (by decide +kernel) rfl)⟩
theorem fp_X4_28 : Cond.fieldLink RX4 28 (clR 4) (clT 4 2).2.1 (clT 4 2).2.2.1 ∈ U := u_mem 140 (by decide +kernel) rfl
theorem fl_X5_9 : FL RX5 9 5 0 := ⟨by decide, by decide, Or.inl (u_mem 183 (by decide +kernel) rfl)⟩
theorem fp_X5_9 : Cond.fieldLink RX5 9 (clR 5) (clT 5 0).2.1 (clT 5 0).2.2.1 ∈ U := u_mem 183 (by decide +kernel) rfl
theorem fl_X5_15 : FL RX5 15 5 1 := ⟨by decide, by decide, Or.inl (u_mem 185 (by decide +kernel) rfl)⟩
theorem fp_X5_15 : Cond.fieldLink RX5 15 (clR 5) (clT 5 1).2.1 (clT 5 1).2.2.1 ∈ U := u_mem 185 (by decide +kernel) rfl
theorem fl_X5_18 : FL RX5 18 5 2 := ⟨by decide, by decide, Or.inl (u_mem 187 (by decide +kernel) rfl)⟩
theorem fp_X5_18 : Cond.fieldLink RX5 18 (clR 5) (clT 5 2).2.1 (clT 5 2).2.2.1 ∈ U := u_mem 187 (by decide +kernel) rfl
theorem fl_X5_22 : FL RX5 22 5 3 := ⟨by decide, by decide, Or.inl (u_mem 189 (by decide +kernel) rfl)⟩
theorem fp_X5_22 : Cond.fieldLink RX5 22 (clR 5) (clT 5 3).2.1 (clT 5 3).2.2.1 ∈ U := u_mem 189 (by decide +kernel) rfl
theorem fl_X5_25 : FL RX5 25 5 4 := ⟨by decide, by decide, Or.inl (u_mem 195 (by decide +kernel) rfl)⟩
theorem fp_X5_25 : Cond.fieldLink RX5 25 (clR 5) (clT 5 4).2.1 (clT 5 4).2.2.1 ∈ U := u_mem 195 (by decide +kernel) rfl
theorem fl_X6_9 : FL RX6 9 6 0 := ⟨by decide, by decide, Or.inl (u_mem 48 (by decide +kernel) rfl)⟩
theorem fp_X6_9 : Cond.fieldLink RX6 9 (clR 6) (clT 6 0).2.1 (clT 6 0).2.2.1 ∈ U := u_mem 48 (by decide +kernel) rfl
theorem fl_X6_20 : FL RX6 20 6 2 := ⟨by decide, by decide, Or.inl (u_mem 50 (by decide +kernel) rfl)⟩
theorem fp_X6_20 : Cond.fieldLink RX6 20 (clR 6) (clT 6 2).2.1 (clT 6 2).2.2.1 ∈ U := u_mem 50 (by decide +kernel) rfl
theorem fl_X6_24 : FL RX6 24 9 1 := ⟨by decide, by decide, Or.inr ⟨_, n_mem 35 (w := .fieldLinkNest RX6 24 (clR 9) (clT 9 1).2.1 (clT 9 1).2.2.1 "HungInStorm") (by decide +kernel) rfl⟩⟩
theorem fl_X6_41 : FL RX6 41 6 1 := ⟨by decide, by decide, Or.inl (u_mem 49 (by decide +kernel) rfl)⟩
theorem fp_X6_41 : Cond.fieldLink RX6 41 (clR 6) (clT 6 1).2.1 (clT 6 1).2.2.1 ∈ U := u_mem 49 (by decide +kernel) rfl
theorem fl_X7_11 : FL RX7 11 7 0 := ⟨by decide, by decide, Or.inl (u_mem 211 (by decide +kernel) rfl)⟩
theorem fp_X7_11 : Cond.fieldLink RX7 11 (clR 7) (clT 7 0).2.1 (clT 7 0).2.2.1 ∈ U := u_mem 211 (by decide +kernel) rfl
theorem fl_X7_18 : FL RX7 18 7 1 := ⟨by decide, by decide, Or.inl (u_mem 212 (by decide +kernel) rfl)⟩
theorem fp_X7_18 : Cond.fieldLink RX7 18 (clR 7) (clT 7 1).2.1 (clT 7 1).2.2.1 ∈ U := u_mem 212 (by decide +kernel) rfl
theorem fl_X8_9 : FL RX8 9 8 0 := ⟨by decide, by decide, Or.inl (u_mem 227 (by decide +kernel) rfl)⟩
theorem fp_X8_9 : Cond.fieldLink RX8 9 (clR 8) (clT 8 0).2.1 (clT 8 0).2.2.1 ∈ U := u_mem 227 (by decide +kernel) rfl
theorem fl_X8_15 : FL RX8 15 8 1 := ⟨by decide, by decide, Or.inl (u_mem 231 (by decide +kernel) rfl)⟩
theorem fp_X8_15 : Cond.fieldLink RX8 15 (clR 8) (clT 8 1).2.1 (clT 8 1).2.2.1 ∈ U := u_mem 231 (by decide +kernel) rfl
theorem fl_X8_18 : FL RX8 18 8 2 := ⟨by decide, by decide, Or.inl (u_mem 233 (by decide +kernel) rfl)⟩
theorem fp_X8_18 : Cond.fieldLink RX8 18 (clR 8) (clT 8 2).2.1 (clT 8 2).2.2.1 ∈ U := u_mem 233 (by decide +kernel) rfl
theorem fl_X8_21 : FL RX8 21 8 3 := ⟨by decide, by decide, Or.inl (u_mem 237 (by decide +kernel) rfl)⟩
theorem fp_X8_21 : Cond.fieldLink RX8 21 (clR 8) (clT 8 3).2.1 (clT 8 3).2.2.1 ∈ U := u_mem 237 (by decide +kernel) rfl
theorem fl_X8_24 : FL RX8 24 8 4 := ⟨by decide, by decide, Or.inl (u_mem 241 (by decide +kernel) rfl)⟩
theorem fp_X8_24 : Cond.fieldLink RX8 24 (clR 8) (clT 8 4).2.1 (clT 8 4).2.2.1 ∈ U := u_mem 241 (by decide +kernel) rfl
theorem fl_X8_27 : FL RX8 27 8 5 := ⟨by decide, by decide, Or.inl (u_mem 244 (by decide +kernel) rfl)⟩
theorem fp_X8_27 : Cond.fieldLink RX8 27 (clR 8) (clT 8 5).2.1 (clT 8 5).2.2.1 ∈ U := u_mem 244 (by decide +kernel) rfl
theorem fl_X8_30 : FL RX8 30 8 6 := ⟨by decide, by decide, Or.inl (u_mem 245 (by decide +kernel) rfl)⟩
theorem fp_X8_30 : Cond.fieldLink RX8 30 (clR 8) (clT 8 6).2.1 (clT 8 6).2.2.1 ∈ U := u_mem 245 (by decide +kernel) rfl
theorem fl_X8_33 : FL RX8 33 8 7 := ⟨by decide, by decide, Or.inl (u_mem 246 (by decide +kernel) rfl)⟩
theorem fp_X8_33 : Cond.fieldLink RX8 33 (clR 8) (clT 8 7).2.1 (clT 8 7).2.2.1 ∈ U := u_mem 246 (by decide +kernel) rfl
theorem fl_X8_39 : FL RX8 39 8 8 := ⟨by decide, by decide, Or.inl (u_mem 247 (by decide +kernel) rfl)⟩
theorem fp_X8_39 : Cond.fieldLink RX8 39 (clR 8) (clT 8 8).2.1 (clT 8 8).2.2.1 ∈ U := u_mem 247 (by decide +kernel) rfl
theorem fl_X8_43 : FL RX8 43 8 9 := ⟨by decide, by decide, Or.inl (u_mem 251 (by decide +kernel) rfl)⟩
theorem fp_X8_43 : Cond.fieldLink RX8 43 (clR 8) (clT 8 9).2.1 (clT 8 9).2.2.1 ∈ U := u_mem 251 (by decide +kernel) rfl
theorem fl_X8_47 : FL RX8 47 8 10 := ⟨by decide, by decide, Or.inl (u_mem 256 (by decide +kernel) rfl)⟩
theorem fp_X8_47 : Cond.fieldLink RX8 47 (clR 8) (clT 8 10).2.1 (clT 8 10).2.2.1 ∈ U := u_mem 256 (by decide +kernel) rfl
theorem fl_X8_50 : FL RX8 50 8 11 := ⟨by decide, by decide, Or.inl (u_mem 258 (by decide +kernel) rfl)⟩
theorem fp_X8_50 : Cond.fieldLink RX8 50 (clR 8) (clT 8 11).2.1 (clT 8 11).2.2.1 ∈ U := u_mem 258 (by decide +kernel) rfl
theorem fl_X8_53 : FL RX8 53 5 4 := ⟨by decide, by decide, Or.inr ⟨_, n_mem 196 (w := .fieldLinkNest RX8 53 (clR 5) (clT 5 4).2.1 (clT 5 4).2.2.1 "HungInStorm") (by decide +kernel) rfl⟩⟩
theorem fl_X8_64 : FL RX8 64 5 3 := ⟨by decide, by decide, Or.inr ⟨_, n_mem 192 (w := .fieldLinkNest RX8 64 (clR 5) (clT 5 3).2.1 (clT 5 3).2.2.1 "HungInStorm") (by decide +kernel) rfl⟩⟩
theorem fl_X9_9 : FL RX9 9 9 0 := ⟨by decide, by decide, Or.inl (u_mem 32 (by decide +kernel) rfl)⟩
theorem fp_X9_9 : Cond.fieldLink RX9 9 (clR 9) (clT 9 0).2.1 (clT 9 0).2.2.1 ∈ U := u_mem 32 (by decide +kernel) rfl
theorem fl_X9_15 : FL RX9 15 9 1 := ⟨by decide, by decide, Or.inl (u_mem 33 (by decide +kernel) rfl)⟩
theorem fp_X9_15 : Cond.fieldLink RX9 15 (clR 9) (clT 9 1).2.1 (clT 9 1).2.2.1 ∈ U := u_mem 33 (by decide +kernel) rfl
theorem fl_X11_7 : FL RX11 7 11 1 := ⟨by decide, by decide, Or.inl (u_mem 732 (by decide +kernel) rfl)⟩
theorem fp_X11_7 : Cond.fieldLink RX11 7 (clR 11) (clT 11 1).2.1 (clT 11 1).2.2.1 ∈ U := u_mem 732 (by decide +kernel) rfl
theorem fl_X11_13 : FL RX11 13 11 2 := ⟨by decide, by decide, Or.inl (u_mem 733 (by decide +kernel) rfl)⟩
theorem fp_X11_13 : Cond.fieldLink RX11 13 (clR 11) (clT 11 2).2.1 (clT 11 2).2.2.1 ∈ U := u_mem 733 (by decide +kernel) rfl
theorem fl_X11_16 : FL RX11 16 11 3 := ⟨by decide, by decide, Or.inl (u_mem 734 (by decide +kernel) rfl)⟩
theorem fp_X11_16 : Cond.fieldLink RX11 16 (clR 11) (clT 11 3).2.1 (clT 11 3).2.2.1 ∈ U := u_mem 734 (by decide +kernel) rfl
theorem fl_X11_19 : FL RX11 19 11 4 := ⟨by decide, by decide, Or.inl (u_mem 735 (by decide +kernel) rfl)⟩
theorem fp_X11_19 : Cond.fieldLink RX11 19 (clR 11) (clT 11 4).2.1 (clT 11 4).2.2.1 ∈ U := u_mem 735 (by decide +kernel) rfl
theorem fl_X11_22 : FL RX11 22 11 5 := ⟨by decide, by decide, Or.inl (u_mem 736 (by decide +kernel) rfl)⟩
theorem fp_X11_22 : Cond.fieldLink RX11 22 (clR 11) (clT 11 5).2.1 (clT 11 5).2.2.1 ∈ U := u_mem 736 (by decide +kernel) rfl
theorem fl_X11_25 : FL RX11 25 11 6 := ⟨by decide, by decide, Or.inl (u_mem 737 (by decide +kernel) rfl)⟩
theorem fp_X11_25 : Cond.fieldLink RX11 25 (clR 11) (clT 11 6).2.1 (clT 11 6).2.2.1 ∈ U := u_mem 737 (by decide +kernel) rfl
theorem fl_X11_28 : FL RX11 28 11 7 := ⟨by decide, by decide, Or.inl (u_mem 738 (by decide +kernel) rfl)⟩
theorem fp_X11_28 : Cond.fieldLink RX11 28 (clR 11) (clT 11 7).2.1 (clT 11 7).2.2.1 ∈ U := u_mem 738 (by decide +kernel) rfl
theorem fl_X11_31 : FL RX11 31 11 8 := ⟨by decide, by decide, Or.inl (u_mem 739 (by decide +kernel) rfl)⟩
theorem fp_X11_31 : Cond.fieldLink RX11 31 (clR 11) (clT 11 8).2.1 (clT 11 8).2.2.1 ∈ U := u_mem 739 (by decide +kernel) rfl
theorem fl_X11_34 : FL RX11 34 11 9 := ⟨by decide, by decide, Or.inl (u_mem 740 (by decide +kernel) rfl)⟩
theorem fp_X11_34 : Cond.fieldLink RX11 34 (clR 11) (clT 11 9).2.1 (clT 11 9).2.2.1 ∈ U := u_mem 740 (by decide +kernel) rfl
theorem fl_X11_37 : FL RX11 37 11 10 := ⟨by decide, by decide, Or.inl (u_mem 741 (by decide +kernel) rfl)⟩
theorem fp_X11_37 : Cond.fieldLink RX11 37 (clR 11) (clT 11 10).2.1 (clT 11 10).2.2.1 ∈ U := u_mem 741 (by decide +kernel) rfl
theorem fl_X11_40 : FL RX11 40 11 11 := ⟨by decide, by decide, Or.inl (u_mem 742 (by decide +kernel) rfl)⟩
theorem fp_X11_40 : Cond.fieldLink RX11 40 (clR 11) (clT 11 11).2.1 (clT 11 11).2.2.1 ∈ U := u_mem 742 (by decide +kernel) rfl
theorem fl_X11_43 : FL RX11 43 11 12 := ⟨by decide, by decide, Or.inl (u_mem 743 (by decide +kernel) rfl)⟩
theorem fp_X11_43 : Cond.fieldLink RX11 43 (clR 11) (clT 11 12).2.1 (clT 11 12).2.2.1 ∈ U := u_mem 743 (by decide +kernel) rfl
theorem fl_X11_46 : FL RX11 46 11 13 := ⟨by decide, by decide, Or.inl (u_mem 744 (by decide +kernel) rfl)⟩
theorem fp_X11_46 : Cond.fieldLink RX11 46 (clR 11) (clT 11 13).2.1 (clT 11 13).2.2.1 ∈ U := u_mem 744 (by decide +kernel) rfl
theorem fl_X11_49 : FL RX11 49 11 14 := ⟨by decide, by decide, Or.inl (u_mem 745 (by decide +kernel) rfl)⟩
theorem fp_X11_49 : Cond.fieldLink RX11 49 (clR 11) (clT 11 14).2.1 (clT 11 14).2.2.1 ∈ U := u_mem 745 (by decide +kernel) rfl
theorem fl_X11_52 : FL RX11 52 11 15 := ⟨by decide, by decide, Or.inl (u_mem 746 (by decide +kernel) rfl)⟩
theorem fp_X11_52 : Cond.fieldLink RX11 52 (clR 11) (clT 11 15).2.1 (clT 11 15).2.2.1 ∈ U := u_mem 746 (by decide +kernel) rfl
theorem fl_X11_55 : FL RX11 55 11 16 := ⟨by decide, by decide, Or.inl (u_mem 747 (by decide +kernel) rfl)⟩
theorem fp_X11_55 : Cond.fieldLink RX11 55 (clR 11) (clT 11 16).2.1 (clT 11 16).2.2.1 ∈ U := u_mem 747 (by decide +kernel) rfl
theorem fl_X11_58 : FL RX11 58 11 17 := ⟨by decide, by decide, Or.inl (u_mem 748 (by decide +kernel) rfl)⟩
theorem fp_X11_58 : Cond.fieldLink RX11 58 (clR 11) (clT 11 17).2.1 (clT 11 17).2.2.1 ∈ U := u_mem 748 (by decide +kernel) rfl
theorem fl_X11_61 : FL RX11 61 11 20 := ⟨by decide, by decide, Or.inl (u_mem 751 (by decide +kernel) rfl)⟩
theorem fp_X11_61 : Cond.fieldLink RX11 61 (clR 11) (clT 11 20).2.1 (clT 11 20).2.2.1 ∈ U := u_mem 751 (by decide +kernel) rfl
theorem fl_X11_64 : FL RX11 64 11 22 := ⟨by decide, by decide, Or.inl (u_mem 753 (by decide +kernel) rfl)⟩
theorem fp_X11_64 : Cond.fieldLink RX11 64 (clR 11) (clT 11 22).2.1 (clT 11 22).2.2.1 ∈ U := u_mem 753 (by decide +kernel) rfl
theorem fl_X11_67 : FL RX11 67 11 23 := ⟨by decide, by decide, Or.inl (u_mem 754 (by decide +kernel) rfl)⟩
theorem fp_X11_67 : Cond.fieldLink RX11 67 (clR 11) (clT 11 23).2.1 (clT 11 23).2.2.1 ∈ U := u_mem 754 (by decide +kernel) rfl
theorem fl_X11_70 : FL RX11 70 11 24 := ⟨by decide, by decide, Or.inl (u_mem 755 (by decide +kernel) rfl)⟩
theorem fp_X11_70 : Cond.fieldLink RX11 70 (clR 11) (clT 11 24).2.1 (clT 11 24).2.2.1 ∈ U := u_mem 755 (by decide +kernel) rfl
theorem fl_X11_73 : FL RX11 73 11 25 := ⟨by decide, by decide, Or.inl (u_mem 756 (by decide +kernel) rfl)⟩
theorem fp_X11_73 : Cond.fieldLink RX11 73 (clR 11) (clT 11 25).2.1 (clT 11 25).2.2.1 ∈ U := u_mem 756 (by decide +kernel) rfl
theorem fl_X11_76 : FL RX11 76 11 26 := ⟨by decide, by decide, Or.inl (u_mem 757 (by decide +kernel) rfl)⟩
theorem fp_X11_76 : Cond.fieldLink RX11 76 (clR 11) (clT 11 26).2.1 (clT 11 26).2.2.1 ∈ U := u_mem 757 (by decide +kernel) rfl
theorem fl_X11_79 : FL RX11 79 11 28 := ⟨by decide, by decide, Or.inl (u_mem 759 (by decide +kernel) rfl)⟩
theorem fp_X11_79 : Cond.fieldLink RX11 79 (clR 11) (clT 11 28).2.1 (clT 11 28).2.2.1 ∈ U := u_mem 759 (by decide +kernel) rfl
theorem fl_X11_83 : FL RX11 83 11 29 := ⟨by decide, by decide, Or.inl (u_mem 760 (by decide +kernel) rfl)⟩
theorem fp_X11_83 : Cond.fieldLink RX11 83 (clR 11) (clT 11 29).2.1 (clT 11 29).2.2.1 ∈ U := u_mem 760 (by decide +kernel) rfl
theorem fl_X11_86 : FL RX11 86 11 30 := ⟨by decide, by decide, Or.inl (u_mem 761 (by decide +kernel) rfl)⟩
theorem fp_X11_86 : Cond.fieldLink RX11 86 (clR 11) (clT 11 30).2.1 (clT 11 30).2.2.1 ∈ U := u_mem 761 (by decide +kernel) rfl
theorem fl_X11_89 : FL RX11 89 11 31 := ⟨by decide, by decide, Or.inl (u_mem 762 (by decide +kernel) rfl)⟩
theorem fp_X11_89 : Cond.fieldLink RX11 89 (clR 11) (clT 11 31).2.1 (clT 11 31).2.2.1 ∈ U := u_mem 762 (by decide +kernel) rfl
theorem fl_X11_92 : FL RX11 92 11 32 := ⟨by decide, by decide, Or.inl (u_mem 763 (by decide +kernel) rfl)⟩
theorem fp_X11_92 : Cond.fieldLink RX11 92 (clR 11) (clT 11 32).2.1 (clT 11 32).2.2.1 ∈ U := u_mem 763 (by decide +kernel) rfl
theorem fl_X11_101 : FL RX11 101 11 0 := ⟨by decide, by decide, Or.inl (u_mem 731 (by decide +kernel) rfl)⟩
theorem fp_X11_101 : Cond.fieldLink RX11 101 (clR 11) (clT 11 0).2.1 (clT 11 0).2.2.1 ∈ U := u_mem 731 (by decide +kernel) rfl
theorem fl_X11_107 : FL RX11 107 11 21 := ⟨by decide, by decide, Or.inl (u_mem 752 (by decide +kernel) rfl)⟩
theorem fp_X11_107 : Cond.fieldLink RX11 107 (clR 11) (clT 11 21).2.1 (clT 11 21).2.2.1 ∈ U := u_mem 752 (by decide +kernel) rfl
theorem fl_X11_150 : FL RX11 150 11 18 := ⟨by decide, by decide, Or.inl (u_mem 749 (by decide +kernel) rfl)⟩
theorem fp_X11_150 : Cond.fieldLink RX11 150 (clR 11) (clT 11 18).2.1 (clT 11 18).2.2.1 ∈ U := u_mem 749 (by decide +kernel) rfl
theorem fl_X11_153 : FL RX11 153 11 19 := ⟨by decide, by decide, Or.inl (u_mem 750 (by decide +kernel) rfl)⟩
theorem fp_X11_153 : Cond.fieldLink RX11 153 (clR 11) (clT 11 19).2.1 (clT 11 19).2.2.1 ∈ U := u_mem 750 (by decide +kernel) rfl
theorem fl_X11_159 : FL RX11 159 11 27 := ⟨by decide, by decide, Or.inl (u_mem 758 (by decide +kernel) rfl)⟩
theorem fp_X11_159 : Cond.fieldLink RX11 159 (clR 11) (clT 11 27).2.1 (clT 11 27).2.2.1 ∈ U := u_mem 758 (by decide +kernel) rfl
/-! method links -/
def LK (own : String) (idx : Nat) (y : MethodName) : Prop := Cond.methodLink own idx y ∈ U ∨ ∃ host : String, Cond.methodLinkNest own idx y host ∈ NWL
theorem lk_X10_1 : LK RX10 1 objectInit := Or.inl (u_mem 23 (by decide +kernel) rfl)
theorem lp_X10_1 : Cond.methodLink RX10 1 objectInit ∈ U := u_mem 23 (by decide +kernel) rfl
theorem lk_X10_9 : LK RX10 9 yX9_init := Or.inr ⟨_, n_mem 28 (w := .methodLinkNest RX10 9 yX9_init "HungInStorm") (by decide +kernel) rfl⟩
theorem lk_X10_18 : LK RX10 18 yX6_init := Or.inr ⟨_, n_mem 44 (w := .methodLinkNest RX10 18 yX6_init "HungInStorm") (by decide +kernel) rfl⟩
theorem lk_X10_25 : LK RX10 25 yX2_init := Or.inl (u_mem 60 (by decide +kernel) rfl)
theorem lk_X10_35 : LK RX10 35 yX1_init := Or.inr ⟨_, n_mem 109 (w := .methodLinkNest RX10 35 yX1_init "HungInStorm") (by decide +kernel) rfl⟩
theorem lk_X10_42 : LK RX10 42 yX0_init := Or.inr ⟨_, n_mem 112 (w := .methodLinkNest RX10 42 yX0_init "HungInStorm") (by decide +kernel) rfl⟩
theorem lk_X10_49 : LK RX10 49 yX4_init := Or.inr ⟨_, n_mem 134 (w := .methodLinkNest RX10 49 yX4_init "HungInStorm") (by decide +kernel) rfl⟩
theorem lk_X10_56 : LK RX10 56 yX3_init := Or.inr ⟨_, n_mem 155 (w := .methodLinkNest RX10 56 yX3_init "HungInStorm") (by decide +kernel) rfl⟩
theorem lk_X10_63 : LK RX10 63 yX7_init := Or.inl (u_mem 172 (by decide +kernel) rfl)
theorem lk_X10_70 : LK RX10 70 yX8_init := Or.inr ⟨_, n_mem 221 (w := .methodLinkNest RX10 70 yX8_init "HungInStorm") (by decide +kernel) rfl⟩
theorem lk_X10_84 : LK RX10 84 yJ0_length_8abf5 := Or.inl (u_mem 286 (by decide +kernel) rfl)
theorem lk_X10_90 : LK RX10 90 yJ0_charAt_5068e := Or.inl (u_mem 296 (by decide +kernel) rfl)
theorem lk_X10_94 : LK RX10 94 yX9_append := Or.inl (u_mem 334 (by decide +kernel) rfl)
theorem lk_X10_98 : LK RX10 98 yX6_read := Or.inl (u_mem 338 (by decide +kernel) rfl)
theorem lk_X10_102 : LK RX10 102 yX9_clear := Or.inl (u_mem 392 (by decide +kernel) rfl)
theorem lk_X10_108 : LK RX10 108 yX8_isWhole := Or.inl (u_mem 450 (by decide +kernel) rfl)
theorem lk_X10_112 : LK RX10 112 yX3_clear := Or.inl (u_mem 454 (by decide +kernel) rfl)
theorem lk_X10_113 : LK RX10 113 yX7_clear := Or.inl (u_mem 458 (by decide +kernel) rfl)
theorem lk_X10_117 : LK RX10 117 yX10_isLevel := Or.inl (u_mem 466 (by decide +kernel) rfl)
theorem lk_X10_121 : LK RX10 121 yX10_isWithin := Or.inl (u_mem 379 (by decide +kernel) rfl)
theorem lk_X10_132 : LK RX10 132 yX10_isTown := Or.inl (u_mem 474 (by decide +kernel) rfl)
theorem lk_X10_135 : LK RX10 135 yX10_followed := Or.inl (u_mem 478 (by decide +kernel) rfl)
theorem lk_X10_146 : LK RX10 146 yX1_floats := Or.inl (u_mem 520 (by decide +kernel) rfl)
theorem lk_X10_158 : LK RX10 158 yX10_areTwoTowns := Or.inl (u_mem 532 (by decide +kernel) rfl)
theorem lk_X10_162 : LK RX10 162 yX1_meets := Or.inl (u_mem 536 (by decide +kernel) rfl)
theorem lk_X10_166 : LK RX10 166 yX2_allMarkets := Or.inl (u_mem 545 (by decide +kernel) rfl)
theorem lk_X10_173 : LK RX10 173 yX10_round := Or.inl (u_mem 558 (by decide +kernel) rfl)
theorem lk_X10_179 : LK RX10 179 yX10_firstDayOf := Or.inl (u_mem 559 (by decide +kernel) rfl)
theorem lk_X10_183 : LK RX10 183 yX0_hunt := Or.inl (u_mem 566 (by decide +kernel) rfl)
theorem lk_X10_195 : LK RX10 195 yX1_follow := Or.inl (u_mem 607 (by decide +kernel) rfl)
theorem lk_X10_199 : LK RX10 199 yX2_marketsWith := Or.inl (u_mem 612 (by decide +kernel) rfl)
theorem lk_X10_203 : LK RX10 203 yX10_isPlace := Or.inl (u_mem 617 (by decide +kernel) rfl)
theorem lk_X10_206 : LK RX10 206 yX10_fitting := Or.inl (u_mem 622 (by decide +kernel) rfl)
theorem lk_X10_211 : LK RX10 211 yX4_reckon := Or.inl (u_mem 635 (by decide +kernel) rfl)
theorem lk_X10_226 : LK RX10 226 yX5_tell := Or.inl (u_mem 660 (by decide +kernel) rfl)
theorem lk_X10_232 : LK RX10 232 yX3_note := Or.inl (u_mem 661 (by decide +kernel) rfl)
theorem lk_X10_240 : LK RX10 240 yX3_takeBack := Or.inl (u_mem 677 (by decide +kernel) rfl)
theorem lk_X10_247 : LK RX10 247 yX2_followYear := Or.inl (u_mem 689 (by decide +kernel) rfl)
theorem lk_X10_251 : LK RX10 251 yX2_lostTowns := Or.inl (u_mem 697 (by decide +kernel) rfl)
theorem lk_X10_254 : LK RX10 254 yX7_put := Or.inl (u_mem 705 (by decide +kernel) rfl)
theorem lk_X10_258 : LK RX10 258 yX7_take := Or.inl (u_mem 717 (by decide +kernel) rfl)
theorem lk_X10_264 : LK RX10 264 yX2_followAsTold := Or.inl (u_mem 482 (by decide +kernel) rfl)
theorem lk_X0_3 : LK RX0 3 objectInit := Or.inl (u_mem 115 (by decide +kernel) rfl)
theorem lp_X0_3 : Cond.methodLink RX0 3 objectInit ∈ U := u_mem 115 (by decide +kernel) rfl
theorem lk_X0_18 : LK RX0 18 yX0_empty := Or.inl (u_mem 570 (by decide +kernel) rfl)
theorem lk_X0_31 : LK RX0 31 yX0_cell := Or.inl (u_mem 573 (by decide +kernel) rfl)
theorem lk_X0_44 : LK RX0 44 yX1_floats := Or.inl (u_mem 576 (by decide +kernel) rfl)
theorem lk_X0_54 : LK RX0 54 yX0_passDay := Or.inl (u_mem 577 (by decide +kernel) rfl)
theorem lk_X0_64 : LK RX0 64 yX0_highest := Or.inl (u_mem 600 (by decide +kernel) rfl)
theorem lk_X0_73 : LK RX0 73 yX0_leave := Or.inl (u_mem 581 (by decide +kernel) rfl)
theorem lk_X0_77 : LK RX0 77 yX0_sink := Or.inl (u_mem 585 (by decide +kernel) rfl)
theorem lk_X0_85 : LK RX0 85 yX0_arrive := Or.inl (u_mem 590 (by decide +kernel) rfl)
theorem lk_X0_88 : LK RX0 88 yX8_isStruck := Or.inl (u_mem 594 (by decide +kernel) rfl)
theorem lk_X0_92 : LK RX0 92 yX0_halved := Or.inl (u_mem 595 (by decide +kernel) rfl)
theorem lk_X0_96 : LK RX0 96 yX8_dailyLoss := Or.inl (u_mem 598 (by decide +kernel) rfl)
theorem lk_X0_103 : LK RX0 103 yX10_round := Or.inr ⟨_, n_mem 599 (w := .methodLinkNest RX0 103 yX10_round "HungInStorm") (by decide +kernel) rfl⟩
theorem lk_X1_3 : LK RX1 3 objectInit := Or.inl (u_mem 70 (by decide +kernel) rfl)
theorem lp_X1_3 : Cond.methodLink RX1 3 objectInit ∈ U := u_mem 70 (by decide +kernel) rfl
theorem lk_X1_43 : LK RX1 43 yX1_note := Or.inl (u_mem 490 (by decide +kernel) rfl)
theorem lk_X1_47 : LK RX1 47 yX1_runErrands := Or.inl (u_mem 494 (by decide +kernel) rfl)
theorem lk_X1_51 : LK RX1 51 yX1_sinkWithoutGas := Or.inl (u_mem 501 (by decide +kernel) rfl)
theorem lk_X1_54 : LK RX1 54 yX1_goOn := Or.inl (u_mem 505 (by decide +kernel) rfl)
theorem lk_X1_70 : LK RX1 70 Lib.Math.max.name := Or.inl (u_mem 498 (by decide +kernel) rfl)
theorem lp_X1_70 : Cond.methodLink RX1 70 Lib.Math.max.name ∈ U := u_mem 498 (by decide +kernel) rfl
theorem lk_X1_85 : LK RX1 85 yX10_round := Or.inr ⟨_, n_mem 509 (w := .methodLinkNest RX1 85 yX10_round "HungInStorm") (by decide +kernel) rfl⟩
theorem lk_X1_89 : LK RX1 89 yX8_isStruck := Or.inl (u_mem 512 (by decide +kernel) rfl)
theorem lk_X1_93 : LK RX1 93 yX8_dailyLoss := Or.inl (u_mem 516 (by decide +kernel) rfl)
theorem lk_X1_97 : LK RX1 97 yX1_floats := Or.inl (u_mem 540 (by decide +kernel) rfl)
theorem lk_X2_3 : LK RX2 3 objectInit := Or.inl (u_mem 63 (by decide +kernel) rfl)
theorem lp_X2_3 : Cond.methodLink RX2 3 objectInit ∈ U := u_mem 63 (by decide +kernel) rfl
theorem lk_X2_17 : LK RX2 17 yX1_init := Or.inr ⟨_, n_mem 67 (w := .methodLinkNest RX2 17 yX1_init "HungInStorm") (by decide +kernel) rfl⟩
theorem lk_X2_34 : LK RX2 34 yX1_follow := Or.inl (u_mem 486 (by decide +kernel) rfl)
theorem lk_X2_46 : LK RX2 46 yX2_marketsWith := Or.inl (u_mem 549 (by decide +kernel) rfl)
theorem lk_X2_50 : LK RX2 50 yX1_meets := Or.inl (u_mem 553 (by decide +kernel) rfl)
theorem lk_X3_3 : LK RX3 3 objectInit := Or.inl (u_mem 158 (by decide +kernel) rfl)
theorem lp_X3_3 : Cond.methodLink RX3 3 objectInit ∈ U := u_mem 158 (by decide +kernel) rfl
theorem lk_X3_22 : LK RX3 22 yX3_forgetOldest := Or.inl (u_mem 665 (by decide +kernel) rfl)
theorem lk_X3_25 : LK RX3 25 yX5_dropLatestErrand := Or.inl (u_mem 681 (by decide +kernel) rfl)
theorem lk_X4_3 : LK RX4 3 objectInit := Or.inl (u_mem 137 (by decide +kernel) rfl)
theorem lp_X4_3 : Cond.methodLink RX4 3 objectInit ∈ U := u_mem 137 (by decide +kernel) rfl
theorem lk_X4_22 : LK RX4 22 yX4_gust := Or.inl (u_mem 639 (by decide +kernel) rfl)
theorem lk_X4_31 : LK RX4 31 yX4_reduce := Or.inl (u_mem 648 (by decide +kernel) rfl)
theorem lk_X4_35 : LK RX4 35 Lib.Math.min.name := Or.inl (u_mem 643 (by decide +kernel) rfl)
theorem lp_X4_35 : Cond.methodLink RX4 35 Lib.Math.min.name ∈ U := u_mem 643 (by decide +kernel) rfl
theorem lk_X4_41 : LK RX4 41 Lib.Math.max.name := Or.inl (u_mem 646 (by decide +kernel) rfl)
theorem lp_X4_41 : Cond.methodLink RX4 41 Lib.Math.max.name ∈ U := u_mem 646 (by decide +kernel) rfl
theorem lk_X4_44 : LK RX4 44 yX4_leaveOut := Or.inl (u_mem 652 (by decide +kernel) rfl)
theorem lk_X5_3 : LK RX5 3 objectInit := Or.inl (u_mem 182 (by decide +kernel) rfl)
theorem lp_X5_3 : Cond.methodLink RX5 3 objectInit ∈ U := u_mem 182 (by decide +kernel) rfl
theorem lk_X6_3 : LK RX6 3 objectInit := Or.inl (u_mem 47 (by decide +kernel) rfl)
theorem lp_X6_3 : Cond.methodLink RX6 3 objectInit ∈ U := u_mem 47 (by decide +kernel) rfl
theorem lk_X6_15 : LK RX6 15 yX8_clear := Or.inl (u_mem 342 (by decide +kernel) rfl)
theorem lk_X6_29 : LK RX6 29 yX6_readNumbers := Or.inl (u_mem 346 (by decide +kernel) rfl)
theorem lk_X6_33 : LK RX6 33 yX9_at := Or.inl (u_mem 354 (by decide +kernel) rfl)
theorem lk_X6_37 : LK RX6 37 yX6_tell := Or.inl (u_mem 361 (by decide +kernel) rfl)
theorem lk_X6_44 : LK RX6 44 yX6_readNumber := Or.inl (u_mem 350 (by decide +kernel) rfl)
theorem lk_X6_47 : LK RX6 47 yX6_isFigure := Or.inl (u_mem 358 (by decide +kernel) rfl)
theorem lk_X6_51 : LK RX6 51 yX8_addLevel := Or.inl (u_mem 365 (by decide +kernel) rfl)
theorem lk_X6_55 : LK RX6 55 yX8_addTown := Or.inl (u_mem 372 (by decide +kernel) rfl)
theorem lk_X6_59 : LK RX6 59 yX8_addErrand := Or.inl (u_mem 380 (by decide +kernel) rfl)
theorem lk_X6_63 : LK RX6 63 yX8_addLightning := Or.inl (u_mem 388 (by decide +kernel) rfl)
theorem lk_X7_3 : LK RX7 3 objectInit := Or.inl (u_mem 175 (by decide +kernel) rfl)
theorem lp_X7_3 : Cond.methodLink RX7 3 objectInit ∈ U := u_mem 175 (by decide +kernel) rfl
theorem lk_X7_17 : LK RX7 17 yX5_init := Or.inr ⟨_, n_mem 179 (w := .methodLinkNest RX7 17 yX5_init "HungInStorm") (by decide +kernel) rfl⟩
theorem lk_X7_22 : LK RX7 22 yX5_copy := Or.inl (u_mem 709 (by decide +kernel) rfl)
theorem lk_X8_3 : LK RX8 3 objectInit := Or.inl (u_mem 224 (by decide +kernel) rfl)
theorem lp_X8_3 : Cond.methodLink RX8 3 objectInit ∈ U := u_mem 224 (by decide +kernel) rfl
theorem lk_X8_38 : LK RX8 38 yX5_init := Or.inr ⟨_, n_mem 226 (w := .methodLinkNest RX8 38 yX5_init "HungInStorm") (by decide +kernel) rfl⟩
theorem lk_X8_56 : LK RX8 56 yX10_isWithin := Or.inr ⟨_, n_mem 369 (w := .methodLinkNest RX8 56 yX10_isWithin "HungInStorm") (by decide +kernel) rfl⟩
theorem lk_X8_60 : LK RX8 60 yX10_isPlace := Or.inr ⟨_, n_mem 376 (w := .methodLinkNest RX8 60 yX10_isPlace "HungInStorm") (by decide +kernel) rfl⟩
theorem lk_X8_67 : LK RX8 67 yX5_tell := Or.inl (u_mem 384 (by decide +kernel) rfl)
theorem lk_X9_3 : LK RX9 3 objectInit := Or.inl (u_mem 31 (by decide +kernel) rfl)
theorem lp_X9_3 : Cond.methodLink RX9 3 objectInit ∈ U := u_mem 31 (by decide +kernel) rfl
theorem lk_L_9 : LK RL 9 yX10_init := Or.inl (u_mem 20 (by decide +kernel) rfl)
theorem lk_L_12 : LK RL 12 yX11_init := Or.inl (u_mem 727 (by decide +kernel) rfl)
theorem lk_L_15 : LK RL 15 yX10_write := Or.inl (u_mem 434 (by decide +kernel) rfl)
theorem lk_L_19 : LK RL 19 yX11_write := Or.inl (u_mem 831 (by decide +kernel) rfl)
theorem lk_L_20 : LK RL 20 yX10_wipe := Or.inl (u_mem 438 (by decide +kernel) rfl)
theorem lk_L_24 : LK RL 24 yX11_wipe := Or.inl (u_mem 840 (by decide +kernel) rfl)
theorem lk_L_25 : LK RL 25 yX10_fault := Or.inl (u_mem 442 (by decide +kernel) rfl)
theorem lk_L_28 : LK RL 28 yX11_fault := Or.inl (u_mem 844 (by decide +kernel) rfl)
theorem lk_L_29 : LK RL 29 yX10_lay := Or.inl (u_mem 446 (by decide +kernel) rfl)
theorem lk_L_32 : LK RL 32 yX11_lay := Or.inl (u_mem 877 (by decide +kernel) rfl)
theorem lk_L_33 : LK RL 33 yX10_level := Or.inl (u_mem 462 (by decide +kernel) rfl)
theorem lk_L_37 : LK RL 37 yX11_level := Or.inl (u_mem 889 (by decide +kernel) rfl)
theorem lk_L_38 : LK RL 38 yX10_town := Or.inl (u_mem 470 (by decide +kernel) rfl)
theorem lk_L_42 : LK RL 42 yX11_town := Or.inl (u_mem 897 (by decide +kernel) rfl)
theorem lk_L_43 : LK RL 43 yX10_lost := Or.inl (u_mem 524 (by decide +kernel) rfl)
theorem lk_L_47 : LK RL 47 yX11_lost := Or.inl (u_mem 925 (by decide +kernel) rfl)
theorem lk_L_48 : LK RL 48 yX10_meet := Or.inl (u_mem 528 (by decide +kernel) rfl)
theorem lk_L_51 : LK RL 51 yX11_meet := Or.inl (u_mem 929 (by decide +kernel) rfl)
theorem lk_L_52 : LK RL 52 yX10_markets := Or.inl (u_mem 541 (by decide +kernel) rfl)
theorem lk_L_55 : LK RL 55 yX11_markets := Or.inl (u_mem 937 (by decide +kernel) rfl)
theorem lk_L_56 : LK RL 56 yX10_stay := Or.inl (u_mem 554 (by decide +kernel) rfl)
theorem lk_L_59 : LK RL 59 yX11_stay := Or.inl (u_mem 949 (by decide +kernel) rfl)
theorem lk_L_60 : LK RL 60 yX10_catches := Or.inl (u_mem 562 (by decide +kernel) rfl)
theorem lk_L_63 : LK RL 63 yX11_catches := Or.inl (u_mem 953 (by decide +kernel) rfl)
theorem lk_L_64 : LK RL 64 yX10_keeps := Or.inl (u_mem 603 (by decide +kernel) rfl)
theorem lk_L_67 : LK RL 67 yX11_keeps := Or.inl (u_mem 968 (by decide +kernel) rfl)
theorem lk_L_68 : LK RL 68 yX10_trades := Or.inl (u_mem 608 (by decide +kernel) rfl)
theorem lk_L_71 : LK RL 71 yX11_trades := Or.inl (u_mem 972 (by decide +kernel) rfl)
theorem lk_L_72 : LK RL 72 yX10_dropped := Or.inl (u_mem 613 (by decide +kernel) rfl)
theorem lk_L_76 : LK RL 76 yX11_dropped := Or.inl (u_mem 980 (by decide +kernel) rfl)
theorem lk_L_77 : LK RL 77 yX10_seen := Or.inl (u_mem 618 (by decide +kernel) rfl)
theorem lk_L_80 : LK RL 80 yX11_seen := Or.inl (u_mem 988 (by decide +kernel) rfl)
theorem lk_L_81 : LK RL 81 yX10_seenTwice := Or.inl (u_mem 626 (by decide +kernel) rfl)
theorem lk_L_85 : LK RL 85 yX11_seenTwice := Or.inl (u_mem 1000 (by decide +kernel) rfl)
theorem lk_L_86 : LK RL 86 yX10_gusts := Or.inl (u_mem 630 (by decide +kernel) rfl)
theorem lk_L_90 : LK RL 90 yX11_gusts := Or.inl (u_mem 1004 (by decide +kernel) rfl)
theorem lk_L_91 : LK RL 91 yX10_errand := Or.inl (u_mem 656 (by decide +kernel) rfl)
theorem lk_L_95 : LK RL 95 yX11_errand := Or.inl (u_mem 1010 (by decide +kernel) rfl)
theorem lk_L_96 : LK RL 96 yX10_fill := Or.inl (u_mem 669 (by decide +kernel) rfl)
theorem lk_L_99 : LK RL 99 yX11_fill := Or.inl (u_mem 1018 (by decide +kernel) rfl)
theorem lk_L_100 : LK RL 100 yX10_undo := Or.inl (u_mem 673 (by decide +kernel) rfl)
theorem lk_L_103 : LK RL 103 yX11_undo := Or.inl (u_mem 1022 (by decide +kernel) rfl)
theorem lk_L_104 : LK RL 104 yX10_year := Or.inl (u_mem 685 (by decide +kernel) rfl)
theorem lk_L_107 : LK RL 107 yX11_year := Or.inl (u_mem 1026 (by decide +kernel) rfl)
theorem lk_L_108 : LK RL 108 yX10_keep := Or.inl (u_mem 701 (by decide +kernel) rfl)
theorem lk_L_111 : LK RL 111 yX11_keep := Or.inl (u_mem 1035 (by decide +kernel) rfl)
theorem lk_L_112 : LK RL 112 yX10_back := Or.inl (u_mem 713 (by decide +kernel) rfl)
theorem lk_L_115 : LK RL 115 yX11_back := Or.inl (u_mem 1039 (by decide +kernel) rfl)
theorem lk_L_116 : LK RL 116 yX10_count := Or.inl (u_mem 721 (by decide +kernel) rfl)
theorem lk_L_119 : LK RL 119 yX11_count := Or.inl (u_mem 1043 (by decide +kernel) rfl)
theorem lk_X11_1 : LK RX11 1 objectInit := Or.inl (u_mem 730 (by decide +kernel) rfl)
theorem lp_X11_1 : Cond.methodLink RX11 1 objectInit ∈ U := u_mem 730 (by decide +kernel) rfl
theorem lk_X11_97 : LK RX11 97 yX11_in := Or.inl (u_mem 836 (by decide +kernel) rfl)
theorem lk_X11_110 : LK RX11 110 yX11_byteAt := Or.inl (u_mem 856 (by decide +kernel) rfl)
theorem lk_X11_122 : LK RX11 122 yX11_figures := Or.inl (u_mem 860 (by decide +kernel) rfl)
theorem lk_X11_126 : LK RX11 126 yX11_isTownItem := Or.inl (u_mem 867 (by decide +kernel) rfl)
theorem lk_X11_132 : LK RX11 132 yX11_addErrand := Or.inl (u_mem 873 (by decide +kernel) rfl)
theorem lk_X11_136 : LK RX11 136 yX11_item := Or.inl (u_mem 852 (by decide +kernel) rfl)
theorem lk_X11_139 : LK RX11 139 yX11_readAll := Or.inl (u_mem 848 (by decide +kernel) rfl)
theorem lk_X11_143 : LK RX11 143 yX11_areThere := Or.inl (u_mem 881 (by decide +kernel) rfl)
theorem lk_X11_146 : LK RX11 146 yX11_copy := Or.inl (u_mem 885 (by decide +kernel) rfl)
theorem lk_X11_156 : LK RX11 156 yX11_isLevel := Or.inl (u_mem 893 (by decide +kernel) rfl)
theorem lk_X11_162 : LK RX11 162 yX11_goBy := Or.inl (u_mem 917 (by decide +kernel) rfl)
theorem lk_X11_166 : LK RX11 166 yX11_leftOf := Or.inl (u_mem 921 (by decide +kernel) rfl)
theorem lk_X11_170 : LK RX11 170 yX11_begin := Or.inl (u_mem 909 (by decide +kernel) rfl)
theorem lk_X11_173 : LK RX11 173 yX11_goDay := Or.inl (u_mem 913 (by decide +kernel) rfl)
theorem lk_X11_176 : LK RX11 176 yX11_areTogether := Or.inl (u_mem 933 (by decide +kernel) rfl)
theorem lk_X11_180 : LK RX11 180 yX11_isTown := Or.inl (u_mem 901 (by decide +kernel) rfl)
theorem lk_X11_183 : LK RX11 183 yX11_go := Or.inl (u_mem 905 (by decide +kernel) rfl)
theorem lk_X11_187 : LK RX11 187 yX11_pairs := Or.inl (u_mem 945 (by decide +kernel) rfl)
theorem lk_X11_190 : LK RX11 190 yX11_marketsTo := Or.inl (u_mem 941 (by decide +kernel) rfl)
theorem lk_X11_193 : LK RX11 193 yX11_carry := Or.inl (u_mem 961 (by decide +kernel) rfl)
theorem lk_X11_196 : LK RX11 196 yX11_carryAll := Or.inl (u_mem 957 (by decide +kernel) rfl)
theorem lk_X11_199 : LK RX11 199 yX11_highest := Or.inl (u_mem 965 (by decide +kernel) rfl)
theorem lk_X11_203 : LK RX11 203 yX11_tradesOf := Or.inl (u_mem 976 (by decide +kernel) rfl)
theorem lk_X11_209 : LK RX11 209 yX11_isPlace := Or.inl (u_mem 984 (by decide +kernel) rfl)
theorem lk_X11_214 : LK RX11 214 yX11_isSeen := Or.inl (u_mem 992 (by decide +kernel) rfl)
theorem lk_X11_218 : LK RX11 218 yX11_levelsOf := Or.inl (u_mem 996 (by decide +kernel) rfl)
theorem lk_X11_226 : LK RX11 226 yX11_note := Or.inl (u_mem 1014 (by decide +kernel) rfl)
/-! methods -/
def MV (y : MethodName) (cc : ByteArray) (maxL : Nat) (ret : Option FieldType) (n : Nat) : Prop := Cond.instanceMethod y ∈ U ∧ Cond.selects y.cls y y ∈ U ∧ Cond.initialized y.cls ∈ U ∧ Cond.code y cc maxL ret ∈ U ∧ (y.cls ≠ "java/lang/invoke/MethodHandle" ∧ y.cls ≠ "java/lang/invoke/VarHandle" ∧ (parseMethodDescriptor y.desc).map (fun d => d.parameters.length) = some n)
def MS (y : MethodName) (cc : ByteArray) (maxL : Nat) (ret : Option FieldType) (n : Nat) : Prop := Cond.static y ∈ U ∧ Cond.initialized y.cls ∈ U ∧ Cond.code y cc maxL ret ∈ U ∧ (y.cls ≠ "java/lang/invoke/MethodHandle" ∧ y.cls ≠ "java/lang/invoke/VarHandle" ∧ (parseMethodDescriptor y.desc).map (fun d => d.parameters.length) = some n)
def MI (y : MethodName) (cc : ByteArray) (maxL : Nat) (n : Nat) : Prop := Cond.instanceMethod y ∈ U ∧ y.name = "<init>" ∧ Cond.initialized y.cls ∈ U ∧ Cond.code y cc maxL none ∈ U ∧ (y.cls ≠ "java/lang/invoke/MethodHandle" ∧ y.cls ≠ "java/lang/invoke/VarHandle" ∧ (parseMethodDescriptor y.desc).map (fun d => d.parameters.length) = some n)
theorem mi_X10_init : MI yX10_init cX10_init 2 0 := ⟨u_mem 21 (by decide +kernel) rfl, by decide +kernel, u_mem 1 (by decide +kernel) rfl, u_mem 22 (by decide +kernel) rfl, ⟨by decide +kernel, by decide +kernel, by decide +kernel⟩⟩
theorem mi_X9_init : MI yX9_init cX9_init 1 0 := ⟨u_mem 29 (by decide +kernel) rfl, by decide +kernel, u_mem 2 (by decide +kernel) rfl, u_mem 30 (by decide +kernel) rfl, ⟨by decide +kernel, by decide +kernel, by decide +kernel⟩⟩
theorem mi_X6_init : MI yX6_init cX6_init 1 0 := ⟨u_mem 45 (by decide +kernel) rfl, by decide +kernel, u_mem 3 (by decide +kernel) rfl, u_mem 46 (by decide +kernel) rfl, ⟨by decide +kernel, by decide +kernel, by decide +kernel⟩⟩
theorem mi_X2_init : MI yX2_init cX2_init 2 0 := ⟨u_mem 61 (by decide +kernel) rfl, by decide +kernel, u_mem 4 (by decide +kernel) rfl, u_mem 62 (by decide +kernel) rfl, ⟨by decide +kernel, by decide +kernel, by decide +kernel⟩⟩
theorem mi_X1_init : MI yX1_init cX1_init 1 0 := ⟨u_mem 68 (by decide +kernel) rfl, by decide +kernel, u_mem 5 (by decide +kernel) rfl, u_mem 69 (by decide +kernel) rfl, ⟨by decide +kernel, by decide +kernel, by decide +kernel⟩⟩
theorem mi_X0_init : MI yX0_init cX0_init 1 0 := ⟨u_mem 113 (by decide +kernel) rfl, by decide +kernel, u_mem 6 (by decide +kernel) rfl, u_mem 114 (by decide +kernel) rfl, ⟨by decide +kernel, by decide +kernel, by decide +kernel⟩⟩
theorem mi_X4_init : MI yX4_init cX4_init 1 0 := ⟨u_mem 135 (by decide +kernel) rfl, by decide +kernel, u_mem 7 (by decide +kernel) rfl, u_mem 136 (by decide +kernel) rfl, ⟨by decide +kernel, by decide +kernel, by decide +kernel⟩⟩
theorem mi_X3_init : MI yX3_init cX3_init 1 0 := ⟨u_mem 156 (by decide +kernel) rfl, by decide +kernel, u_mem 8 (by decide +kernel) rfl, u_mem 157 (by decide +kernel) rfl, ⟨by decide +kernel, by decide +kernel, by decide +kernel⟩⟩
theorem mi_X7_init : MI yX7_init cX7_init 2 0 := ⟨u_mem 173 (by decide +kernel) rfl, by decide +kernel, u_mem 9 (by decide +kernel) rfl, u_mem 174 (by decide +kernel) rfl, ⟨by decide +kernel, by decide +kernel, by decide +kernel⟩⟩
theorem mi_X5_init : MI yX5_init cX5_init 1 0 := ⟨u_mem 180 (by decide +kernel) rfl, by decide +kernel, u_mem 10 (by decide +kernel) rfl, u_mem 181 (by decide +kernel) rfl, ⟨by decide +kernel, by decide +kernel, by decide +kernel⟩⟩
theorem mi_X8_init : MI yX8_init cX8_init 1 0 := ⟨u_mem 222 (by decide +kernel) rfl, by decide +kernel, u_mem 11 (by decide +kernel) rfl, u_mem 223 (by decide +kernel) rfl, ⟨by decide +kernel, by decide +kernel, by decide +kernel⟩⟩
theorem mv_X9_append : MV yX9_append cX9_append 2 none 1 := ⟨u_mem 335 (by decide +kernel) rfl, u_mem 336 (by decide +kernel) rfl, u_mem 2 (by decide +kernel) rfl, u_mem 337 (by decide +kernel) rfl, ⟨by decide +kernel, by decide +kernel, by decide +kernel⟩⟩
theorem mv_X6_read : MV yX6_read cX6_read 5 (some .int) 2 := ⟨u_mem 339 (by decide +kernel) rfl, u_mem 340 (by decide +kernel) rfl, u_mem 3 (by decide +kernel) rfl, u_mem 341 (by decide +kernel) rfl, ⟨by decide +kernel, by decide +kernel, by decide +kernel⟩⟩
theorem mv_X8_clear : MV yX8_clear cX8_clear 1 none 0 := ⟨u_mem 343 (by decide +kernel) rfl, u_mem 344 (by decide +kernel) rfl, u_mem 11 (by decide +kernel) rfl, u_mem 345 (by decide +kernel) rfl, ⟨by decide +kernel, by decide +kernel, by decide +kernel⟩⟩
theorem mv_X6_readNumbers : MV yX6_readNumbers cX6_readNumbers 4 (some .boolean) 1 := ⟨u_mem 348 (by decide +kernel) rfl, u_sel (q := (yX6_readNumbers, 3)) (List.mem_of_getElem? (i := 0) (by decide +kernel)), u_mem 3 (by decide +kernel) rfl, u_mem 349 (by decide +kernel) rfl, ⟨by decide +kernel, by decide +kernel, by decide +kernel⟩⟩
theorem mv_X6_readNumber : MV yX6_readNumber cX6_readNumber 3 (some .boolean) 1 := ⟨u_mem 352 (by decide +kernel) rfl, u_sel (q := (yX6_readNumber, 3)) (List.mem_of_getElem? (i := 1) (by decide +kernel)), u_mem 3 (by decide +kernel) rfl, u_mem 353 (by decide +kernel) rfl, ⟨by decide +kernel, by decide +kernel, by decide +kernel⟩⟩
theorem mv_X9_at : MV yX9_at cX9_at 2 (some .int) 1 := ⟨u_mem 355 (by decide +kernel) rfl, u_mem 356 (by decide +kernel) rfl, u_mem 2 (by decide +kernel) rfl, u_mem 357 (by decide +kernel) rfl, ⟨by decide +kernel, by decide +kernel, by decide +kernel⟩⟩
theorem ms_X6_isFigure : MS yX6_isFigure cX6_isFigure 1 (some .boolean) 1 := ⟨u_mem 359 (by decide +kernel) rfl, u_mem 3 (by decide +kernel) rfl, u_mem 360 (by decide +kernel) rfl, ⟨by decide +kernel, by decide +kernel, by decide +kernel⟩⟩
theorem mv_X6_tell : MV yX6_tell cX6_tell 3 (some .boolean) 2 := ⟨u_mem 363 (by decide +kernel) rfl, u_sel (q := (yX6_tell, 3)) (List.mem_of_getElem? (i := 2) (by decide +kernel)), u_mem 3 (by decide +kernel) rfl, u_mem 364 (by decide +kernel) rfl, ⟨by decide +kernel, by decide +kernel, by decide +kernel⟩⟩
theorem mv_X8_addLevel : MV yX8_addLevel cX8_addLevel 3 (some .boolean) 2 := ⟨u_mem 366 (by decide +kernel) rfl, u_mem 367 (by decide +kernel) rfl, u_mem 11 (by decide +kernel) rfl, u_mem 368 (by decide +kernel) rfl, ⟨by decide +kernel, by decide +kernel, by decide +kernel⟩⟩
theorem ms_X10_isWithin : MS yX10_isWithin cX10_isWithin 3 (some .boolean) 3 := ⟨u_mem 370 (by decide +kernel) rfl, u_mem 1 (by decide +kernel) rfl, u_mem 371 (by decide +kernel) rfl, ⟨by decide +kernel, by decide +kernel, by decide +kernel⟩⟩
theorem mv_X8_addTown : MV yX8_addTown cX8_addTown 6 (some .boolean) 5 := ⟨u_mem 373 (by decide +kernel) rfl, u_mem 374 (by decide +kernel) rfl, u_mem 11 (by decide +kernel) rfl, u_mem 375 (by decide +kernel) rfl, ⟨by decide +kernel, by decide +kernel, by decide +kernel⟩⟩
theorem ms_X10_isPlace : MS yX10_isPlace cX10_isPlace 1 (some .boolean) 1 := ⟨u_mem 377 (by decide +kernel) rfl, u_mem 1 (by decide +kernel) rfl, u_mem 378 (by decide +kernel) rfl, ⟨by decide +kernel, by decide +kernel, by decide +kernel⟩⟩
theorem mv_X8_addErrand : MV yX8_addErrand cX8_addErrand 4 (some .boolean) 3 := ⟨u_mem 381 (by decide +kernel) rfl, u_mem 382 (by decide +kernel) rfl, u_mem 11 (by decide +kernel) rfl, u_mem 383 (by decide +kernel) rfl, ⟨by decide +kernel, by decide +kernel, by decide +kernel⟩⟩
theorem mv_X5_tell : MV yX5_tell cX5_tell 4 (some .boolean) 3 := ⟨u_mem 385 (by decide +kernel) rfl, u_mem 386 (by decide +kernel) rfl, u_mem 10 (by decide +kernel) rfl, u_mem 387 (by decide +kernel) rfl, ⟨by decide +kernel, by decide +kernel, by decide +kernel⟩⟩
theorem mv_X8_addLightning : MV yX8_addLightning cX8_addLightning 3 (some .boolean) 2 := ⟨u_mem 389 (by decide +kernel) rfl, u_mem 390 (by decide +kernel) rfl, u_mem 11 (by decide +kernel) rfl, u_mem 391 (by decide +kernel) rfl, ⟨by decide +kernel, by decide +kernel, by decide +kernel⟩⟩
theorem mv_X9_clear : MV yX9_clear cX9_clear 1 none 0 := ⟨u_mem 393 (by decide +kernel) rfl, u_mem 394 (by decide +kernel) rfl, u_mem 2 (by decide +kernel) rfl, u_mem 395 (by decide +kernel) rfl, ⟨by decide +kernel, by decide +kernel, by decide +kernel⟩⟩
theorem mv_X10_write : MV yX10_write cX10_write 5 (some .int) 2 := ⟨u_mem 435 (by decide +kernel) rfl, u_mem 436 (by decide +kernel) rfl, u_mem 1 (by decide +kernel) rfl, u_mem 437 (by decide +kernel) rfl, ⟨by decide +kernel, by decide +kernel, by decide +kernel⟩⟩
theorem mv_X10_wipe : MV yX10_wipe cX10_wipe 2 (some .int) 0 := ⟨u_mem 439 (by decide +kernel) rfl, u_mem 440 (by decide +kernel) rfl, u_mem 1 (by decide +kernel) rfl, u_mem 441 (by decide +kernel) rfl, ⟨by decide +kernel, by decide +kernel, by decide +kernel⟩⟩
theorem mv_X10_fault : MV yX10_fault cX10_fault 1 (some .int) 0 := ⟨u_mem 443 (by decide +kernel) rfl, u_mem 444 (by decide +kernel) rfl, u_mem 1 (by decide +kernel) rfl, u_mem 445 (by decide +kernel) rfl, ⟨by decide +kernel, by decide +kernel, by decide +kernel⟩⟩
theorem mv_X10_lay : MV yX10_lay cX10_lay 2 (some .int) 0 := ⟨u_mem 447 (by decide +kernel) rfl, u_mem 448 (by decide +kernel) rfl, u_mem 1 (by decide +kernel) rfl, u_mem 449 (by decide +kernel) rfl, ⟨by decide +kernel, by decide +kernel, by decide +kernel⟩⟩
theorem mv_X8_isWhole : MV yX8_isWhole cX8_isWhole 2 (some .boolean) 0 := ⟨u_mem 451 (by decide +kernel) rfl, u_mem 452 (by decide +kernel) rfl, u_mem 11 (by decide +kernel) rfl, u_mem 453 (by decide +kernel) rfl, ⟨by decide +kernel, by decide +kernel, by decide +kernel⟩⟩
theorem mv_X3_clear : MV yX3_clear cX3_clear 1 none 0 := ⟨u_mem 455 (by decide +kernel) rfl, u_mem 456 (by decide +kernel) rfl, u_mem 8 (by decide +kernel) rfl, u_mem 457 (by decide +kernel) rfl, ⟨by decide +kernel, by decide +kernel, by decide +kernel⟩⟩
theorem mv_X7_clear : MV yX7_clear cX7_clear 1 none 0 := ⟨u_mem 459 (by decide +kernel) rfl, u_mem 460 (by decide +kernel) rfl, u_mem 9 (by decide +kernel) rfl, u_mem 461 (by decide +kernel) rfl, ⟨by decide +kernel, by decide +kernel, by decide +kernel⟩⟩
theorem mv_X10_level : MV yX10_level cX10_level 3 (some .int) 2 := ⟨u_mem 463 (by decide +kernel) rfl, u_mem 464 (by decide +kernel) rfl, u_mem 1 (by decide +kernel) rfl, u_mem 465 (by decide +kernel) rfl, ⟨by decide +kernel, by decide +kernel, by decide +kernel⟩⟩
theorem mv_X10_isLevel : MV yX10_isLevel cX10_isLevel 2 (some .boolean) 1 := ⟨u_mem 468 (by decide +kernel) rfl, u_sel (q := (yX10_isLevel, 12)) (List.mem_of_getElem? (i := 3) (by decide +kernel)), u_mem 1 (by decide +kernel) rfl, u_mem 469 (by decide +kernel) rfl, ⟨by decide +kernel, by decide +kernel, by decide +kernel⟩⟩
theorem mv_X10_town : MV yX10_town cX10_town 5 (some .int) 3 := ⟨u_mem 471 (by decide +kernel) rfl, u_mem 472 (by decide +kernel) rfl, u_mem 1 (by decide +kernel) rfl, u_mem 473 (by decide +kernel) rfl, ⟨by decide +kernel, by decide +kernel, by decide +kernel⟩⟩
theorem mv_X10_isTown : MV yX10_isTown cX10_isTown 2 (some .boolean) 1 := ⟨u_mem 476 (by decide +kernel) rfl, u_sel (q := (yX10_isTown, 12)) (List.mem_of_getElem? (i := 4) (by decide +kernel)), u_mem 1 (by decide +kernel) rfl, u_mem 477 (by decide +kernel) rfl, ⟨by decide +kernel, by decide +kernel, by decide +kernel⟩⟩
theorem mv_X10_followed : MV yX10_followed cX10_followed 1 (some (.object "HungInStorm$Fleet")) 0 := ⟨u_mem 480 (by decide +kernel) rfl, u_sel (q := (yX10_followed, 12)) (List.mem_of_getElem? (i := 5) (by decide +kernel)), u_mem 1 (by decide +kernel) rfl, u_mem 481 (by decide +kernel) rfl, ⟨by decide +kernel, by decide +kernel, by decide +kernel⟩⟩
theorem mv_X2_followAsTold : MV yX2_followAsTold cX2_followAsTold 3 none 1 := ⟨u_mem 483 (by decide +kernel) rfl, u_mem 484 (by decide +kernel) rfl, u_mem 4 (by decide +kernel) rfl, u_mem 485 (by decide +kernel) rfl, ⟨by decide +kernel, by decide +kernel, by decide +kernel⟩⟩
theorem mv_X1_follow : MV yX1_follow cX1_follow 6 none 4 := ⟨u_mem 487 (by decide +kernel) rfl, u_mem 488 (by decide +kernel) rfl, u_mem 5 (by decide +kernel) rfl, u_mem 489 (by decide +kernel) rfl, ⟨by decide +kernel, by decide +kernel, by decide +kernel⟩⟩
theorem mv_X1_note : MV yX1_note cX1_note 2 none 1 := ⟨u_mem 492 (by decide +kernel) rfl, u_sel (q := (yX1_note, 7)) (List.mem_of_getElem? (i := 6) (by decide +kernel)), u_mem 5 (by decide +kernel) rfl, u_mem 493 (by decide +kernel) rfl, ⟨by decide +kernel, by decide +kernel, by decide +kernel⟩⟩
theorem mv_X1_runErrands : MV yX1_runErrands cX1_runErrands 6 none 3 := ⟨u_mem 496 (by decide +kernel) rfl, u_sel (q := (yX1_runErrands, 7)) (List.mem_of_getElem? (i := 7) (by decide +kernel)), u_mem 5 (by decide +kernel) rfl, u_mem 497 (by decide +kernel) rfl, ⟨by decide +kernel, by decide +kernel, by decide +kernel⟩⟩
theorem mv_X1_sinkWithoutGas : MV yX1_sinkWithoutGas cX1_sinkWithoutGas 2 none 1 := ⟨u_mem 503 (by decide +kernel) rfl, u_sel (q := (yX1_sinkWithoutGas, 7)) (List.mem_of_getElem? (i := 8) (by decide +kernel)), u_mem 5 (by decide +kernel) rfl, u_mem 504 (by decide +kernel) rfl, ⟨by decide +kernel, by decide +kernel, by decide +kernel⟩⟩
theorem mv_X1_goOn : MV yX1_goOn cX1_goOn 4 none 3 := ⟨u_mem 507 (by decide +kernel) rfl, u_sel (q := (yX1_goOn, 7)) (List.mem_of_getElem? (i := 9) (by decide +kernel)), u_mem 5 (by decide +kernel) rfl, u_mem 508 (by decide +kernel) rfl, ⟨by decide +kernel, by decide +kernel, by decide +kernel⟩⟩
theorem ms_X10_round : MS yX10_round cX10_round 2 (some .int) 1 := ⟨u_mem 510 (by decide +kernel) rfl, u_mem 1 (by decide +kernel) rfl, u_mem 511 (by decide +kernel) rfl, ⟨by decide +kernel, by decide +kernel, by decide +kernel⟩⟩
theorem mv_X8_isStruck : MV yX8_isStruck cX8_isStruck 4 (some .boolean) 2 := ⟨u_mem 513 (by decide +kernel) rfl, u_mem 514 (by decide +kernel) rfl, u_mem 11 (by decide +kernel) rfl, u_mem 515 (by decide +kernel) rfl, ⟨by decide +kernel, by decide +kernel, by decide +kernel⟩⟩
theorem mv_X8_dailyLoss : MV yX8_dailyLoss cX8_dailyLoss 4 (some .int) 3 := ⟨u_mem 517 (by decide +kernel) rfl, u_mem 518 (by decide +kernel) rfl, u_mem 11 (by decide +kernel) rfl, u_mem 519 (by decide +kernel) rfl, ⟨by decide +kernel, by decide +kernel, by decide +kernel⟩⟩
theorem mv_X1_floats : MV yX1_floats cX1_floats 2 (some .boolean) 1 := ⟨u_mem 521 (by decide +kernel) rfl, u_mem 522 (by decide +kernel) rfl, u_mem 5 (by decide +kernel) rfl, u_mem 523 (by decide +kernel) rfl, ⟨by decide +kernel, by decide +kernel, by decide +kernel⟩⟩
theorem mv_X10_lost : MV yX10_lost cX10_lost 2 (some .int) 1 := ⟨u_mem 525 (by decide +kernel) rfl, u_mem 526 (by decide +kernel) rfl, u_mem 1 (by decide +kernel) rfl, u_mem 527 (by decide +kernel) rfl, ⟨by decide +kernel, by decide +kernel, by decide +kernel⟩⟩
theorem mv_X10_meet : MV yX10_meet cX10_meet 5 (some .int) 2 := ⟨u_mem 529 (by decide +kernel) rfl, u_mem 530 (by decide +kernel) rfl, u_mem 1 (by decide +kernel) rfl, u_mem 531 (by decide +kernel) rfl, ⟨by decide +kernel, by decide +kernel, by decide +kernel⟩⟩
theorem mv_X10_areTwoTowns : MV yX10_areTwoTowns cX10_areTwoTowns 3 (some .boolean) 2 := ⟨u_mem 534 (by decide +kernel) rfl, u_sel (q := (yX10_areTwoTowns, 12)) (List.mem_of_getElem? (i := 10) (by decide +kernel)), u_mem 1 (by decide +kernel) rfl, u_mem 535 (by decide +kernel) rfl, ⟨by decide +kernel, by decide +kernel, by decide +kernel⟩⟩
theorem mv_X1_meets : MV yX1_meets cX1_meets 3 (some .boolean) 2 := ⟨u_mem 537 (by decide +kernel) rfl, u_mem 538 (by decide +kernel) rfl, u_mem 5 (by decide +kernel) rfl, u_mem 539 (by decide +kernel) rfl, ⟨by decide +kernel, by decide +kernel, by decide +kernel⟩⟩
theorem mv_X10_markets : MV yX10_markets cX10_markets 2 (some .int) 1 := ⟨u_mem 542 (by decide +kernel) rfl, u_mem 543 (by decide +kernel) rfl, u_mem 1 (by decide +kernel) rfl, u_mem 544 (by decide +kernel) rfl, ⟨by decide +kernel, by decide +kernel, by decide +kernel⟩⟩
theorem mv_X2_allMarkets : MV yX2_allMarkets cX2_allMarkets 4 (some .int) 1 := ⟨u_mem 546 (by decide +kernel) rfl, u_mem 547 (by decide +kernel) rfl, u_mem 4 (by decide +kernel) rfl, u_mem 548 (by decide +kernel) rfl, ⟨by decide +kernel, by decide +kernel, by decide +kernel⟩⟩
theorem mv_X2_marketsWith : MV yX2_marketsWith cX2_marketsWith 7 (some .int) 3 := ⟨u_mem 550 (by decide +kernel) rfl, u_mem 551 (by decide +kernel) rfl, u_mem 4 (by decide +kernel) rfl, u_mem 552 (by decide +kernel) rfl, ⟨by decide +kernel, by decide +kernel, by decide +kernel⟩⟩
theorem mv_X10_stay : MV yX10_stay cX10_stay 7 (some .int) 3 := ⟨u_mem 555 (by decide +kernel) rfl, u_mem 556 (by decide +kernel) rfl, u_mem 1 (by decide +kernel) rfl, u_mem 557 (by decide +kernel) rfl, ⟨by decide +kernel, by decide +kernel, by decide +kernel⟩⟩
theorem ms_X10_firstDayOf : MS yX10_firstDayOf cX10_firstDayOf 4 (some .int) 3 := ⟨u_mem 560 (by decide +kernel) rfl, u_mem 1 (by decide +kernel) rfl, u_mem 561 (by decide +kernel) rfl, ⟨by decide +kernel, by decide +kernel, by decide +kernel⟩⟩
theorem mv_X10_catches : MV yX10_catches cX10_catches 4 (some .int) 3 := ⟨u_mem 563 (by decide +kernel) rfl, u_mem 564 (by decide +kernel) rfl, u_mem 1 (by decide +kernel) rfl, u_mem 565 (by decide +kernel) rfl, ⟨by decide +kernel, by decide +kernel, by decide +kernel⟩⟩
theorem mv_X0_hunt : MV yX0_hunt cX0_hunt 7 (some .boolean) 3 := ⟨u_mem 567 (by decide +kernel) rfl, u_mem 568 (by decide +kernel) rfl, u_mem 6 (by decide +kernel) rfl, u_mem 569 (by decide +kernel) rfl, ⟨by decide +kernel, by decide +kernel, by decide +kernel⟩⟩
theorem ms_X0_empty : MS yX0_empty cX0_empty 2 none 1 := ⟨u_mem 571 (by decide +kernel) rfl, u_mem 6 (by decide +kernel) rfl, u_mem 572 (by decide +kernel) rfl, ⟨by decide +kernel, by decide +kernel, by decide +kernel⟩⟩
theorem ms_X0_cell : MS yX0_cell cX0_cell 2 (some .int) 2 := ⟨u_mem 574 (by decide +kernel) rfl, u_mem 6 (by decide +kernel) rfl, u_mem 575 (by decide +kernel) rfl, ⟨by decide +kernel, by decide +kernel, by decide +kernel⟩⟩
theorem mv_X0_passDay : MV yX0_passDay cX0_passDay 7 none 2 := ⟨u_mem 579 (by decide +kernel) rfl, u_sel (q := (yX0_passDay, 4)) (List.mem_of_getElem? (i := 11) (by decide +kernel)), u_mem 6 (by decide +kernel) rfl, u_mem 580 (by decide +kernel) rfl, ⟨by decide +kernel, by decide +kernel, by decide +kernel⟩⟩
theorem mv_X0_leave : MV yX0_leave cX0_leave 7 none 5 := ⟨u_mem 583 (by decide +kernel) rfl, u_sel (q := (yX0_leave, 4)) (List.mem_of_getElem? (i := 12) (by decide +kernel)), u_mem 6 (by decide +kernel) rfl, u_mem 584 (by decide +kernel) rfl, ⟨by decide +kernel, by decide +kernel, by decide +kernel⟩⟩
theorem mv_X0_sink : MV yX0_sink cX0_sink 7 none 5 := ⟨u_mem 587 (by decide +kernel) rfl, u_sel (q := (yX0_sink, 4)) (List.mem_of_getElem? (i := 13) (by decide +kernel)), u_mem 6 (by decide +kernel) rfl, u_mem 588 (by decide +kernel) rfl, ⟨by decide +kernel, by decide +kernel, by decide +kernel⟩⟩
theorem mv_X0_arrive : MV yX0_arrive cX0_arrive 12 none 5 := ⟨u_mem 592 (by decide +kernel) rfl, u_sel (q := (yX0_arrive, 4)) (List.mem_of_getElem? (i := 14) (by decide +kernel)), u_mem 6 (by decide +kernel) rfl, u_mem 593 (by decide +kernel) rfl, ⟨by decide +kernel, by decide +kernel, by decide +kernel⟩⟩
theorem ms_X0_halved : MS yX0_halved cX0_halved 5 (some .long) 1 := ⟨u_mem 596 (by decide +kernel) rfl, u_mem 6 (by decide +kernel) rfl, u_mem 597 (by decide +kernel) rfl, ⟨by decide +kernel, by decide +kernel, by decide +kernel⟩⟩
theorem ms_X0_highest : MS yX0_highest cX0_highest 4 (some .int) 1 := ⟨u_mem 601 (by decide +kernel) rfl, u_mem 6 (by decide +kernel) rfl, u_mem 602 (by decide +kernel) rfl, ⟨by decide +kernel, by decide +kernel, by decide +kernel⟩⟩
theorem mv_X10_keeps : MV yX10_keeps cX10_keeps 7 (some .int) 3 := ⟨u_mem 604 (by decide +kernel) rfl, u_mem 605 (by decide +kernel) rfl, u_mem 1 (by decide +kernel) rfl, u_mem 606 (by decide +kernel) rfl, ⟨by decide +kernel, by decide +kernel, by decide +kernel⟩⟩
theorem mv_X10_trades : MV yX10_trades cX10_trades 9 (some .int) 3 := ⟨u_mem 609 (by decide +kernel) rfl, u_mem 610 (by decide +kernel) rfl, u_mem 1 (by decide +kernel) rfl, u_mem 611 (by decide +kernel) rfl, ⟨by decide +kernel, by decide +kernel, by decide +kernel⟩⟩
theorem mv_X10_dropped : MV yX10_dropped cX10_dropped 8 (some .int) 4 := ⟨u_mem 614 (by decide +kernel) rfl, u_mem 615 (by decide +kernel) rfl, u_mem 1 (by decide +kernel) rfl, u_mem 616 (by decide +kernel) rfl, ⟨by decide +kernel, by decide +kernel, by decide +kernel⟩⟩
theorem mv_X10_seen : MV yX10_seen cX10_seen 4 (some .int) 3 := ⟨u_mem 619 (by decide +kernel) rfl, u_mem 620 (by decide +kernel) rfl, u_mem 1 (by decide +kernel) rfl, u_mem 621 (by decide +kernel) rfl, ⟨by decide +kernel, by decide +kernel, by decide +kernel⟩⟩
theorem mv_X10_fitting : MV yX10_fitting cX10_fitting 6 (some .int) 3 := ⟨u_mem 624 (by decide +kernel) rfl, u_sel (q := (yX10_fitting, 12)) (List.mem_of_getElem? (i := 15) (by decide +kernel)), u_mem 1 (by decide +kernel) rfl, u_mem 625 (by decide +kernel) rfl, ⟨by decide +kernel, by decide +kernel, by decide +kernel⟩⟩
theorem mv_X10_seenTwice : MV yX10_seenTwice cX10_seenTwice 6 (some .int) 5 := ⟨u_mem 627 (by decide +kernel) rfl, u_mem 628 (by decide +kernel) rfl, u_mem 1 (by decide +kernel) rfl, u_mem 629 (by decide +kernel) rfl, ⟨by decide +kernel, by decide +kernel, by decide +kernel⟩⟩
theorem mv_X10_gusts : MV yX10_gusts cX10_gusts 6 (some .long) 5 := ⟨u_mem 631 (by decide +kernel) rfl, u_mem 632 (by decide +kernel) rfl, u_mem 1 (by decide +kernel) rfl, u_mem 633 (by decide +kernel) rfl, ⟨by decide +kernel, by decide +kernel, by decide +kernel⟩⟩
theorem mv_X4_reckon : MV yX4_reckon cX4_reckon 7 none 5 := ⟨u_mem 636 (by decide +kernel) rfl, u_mem 637 (by decide +kernel) rfl, u_mem 7 (by decide +kernel) rfl, u_mem 638 (by decide +kernel) rfl, ⟨by decide +kernel, by decide +kernel, by decide +kernel⟩⟩
theorem mv_X4_gust : MV yX4_gust cX4_gust 4 none 2 := ⟨u_mem 641 (by decide +kernel) rfl, u_sel (q := (yX4_gust, 4)) (List.mem_of_getElem? (i := 16) (by decide +kernel)), u_mem 7 (by decide +kernel) rfl, u_mem 642 (by decide +kernel) rfl, ⟨by decide +kernel, by decide +kernel, by decide +kernel⟩⟩
theorem mv_X4_reduce : MV yX4_reduce cX4_reduce 3 none 1 := ⟨u_mem 650 (by decide +kernel) rfl, u_sel (q := (yX4_reduce, 4)) (List.mem_of_getElem? (i := 17) (by decide +kernel)), u_mem 7 (by decide +kernel) rfl, u_mem 651 (by decide +kernel) rfl, ⟨by decide +kernel, by decide +kernel, by decide +kernel⟩⟩
theorem mv_X4_leaveOut : MV yX4_leaveOut cX4_leaveOut 2 none 1 := ⟨u_mem 654 (by decide +kernel) rfl, u_sel (q := (yX4_leaveOut, 4)) (List.mem_of_getElem? (i := 18) (by decide +kernel)), u_mem 7 (by decide +kernel) rfl, u_mem 655 (by decide +kernel) rfl, ⟨by decide +kernel, by decide +kernel, by decide +kernel⟩⟩
theorem mv_X10_errand : MV yX10_errand cX10_errand 4 (some .int) 3 := ⟨u_mem 657 (by decide +kernel) rfl, u_mem 658 (by decide +kernel) rfl, u_mem 1 (by decide +kernel) rfl, u_mem 659 (by decide +kernel) rfl, ⟨by decide +kernel, by decide +kernel, by decide +kernel⟩⟩
theorem mv_X3_note : MV yX3_note cX3_note 3 none 2 := ⟨u_mem 662 (by decide +kernel) rfl, u_mem 663 (by decide +kernel) rfl, u_mem 8 (by decide +kernel) rfl, u_mem 664 (by decide +kernel) rfl, ⟨by decide +kernel, by decide +kernel, by decide +kernel⟩⟩
theorem mv_X3_forgetOldest : MV yX3_forgetOldest cX3_forgetOldest 2 none 0 := ⟨u_mem 667 (by decide +kernel) rfl, u_sel (q := (yX3_forgetOldest, 3)) (List.mem_of_getElem? (i := 19) (by decide +kernel)), u_mem 8 (by decide +kernel) rfl, u_mem 668 (by decide +kernel) rfl, ⟨by decide +kernel, by decide +kernel, by decide +kernel⟩⟩
theorem mv_X10_fill : MV yX10_fill cX10_fill 4 (some .int) 2 := ⟨u_mem 670 (by decide +kernel) rfl, u_mem 671 (by decide +kernel) rfl, u_mem 1 (by decide +kernel) rfl, u_mem 672 (by decide +kernel) rfl, ⟨by decide +kernel, by decide +kernel, by decide +kernel⟩⟩
theorem mv_X10_undo : MV yX10_undo cX10_undo 1 (some .int) 0 := ⟨u_mem 674 (by decide +kernel) rfl, u_mem 675 (by decide +kernel) rfl, u_mem 1 (by decide +kernel) rfl, u_mem 676 (by decide +kernel) rfl, ⟨by decide +kernel, by decide +kernel, by decide +kernel⟩⟩
theorem mv_X3_takeBack : MV yX3_takeBack cX3_takeBack 2 (some .boolean) 1 := ⟨u_mem 678 (by decide +kernel) rfl, u_mem 679 (by decide +kernel) rfl, u_mem 8 (by decide +kernel) rfl, u_mem 680 (by decide +kernel) rfl, ⟨by decide +kernel, by decide +kernel, by decide +kernel⟩⟩
theorem mv_X5_dropLatestErrand : MV yX5_dropLatestErrand cX5_dropLatestErrand 1 none 0 := ⟨u_mem 682 (by decide +kernel) rfl, u_mem 683 (by decide +kernel) rfl, u_mem 10 (by decide +kernel) rfl, u_mem 684 (by decide +kernel) rfl, ⟨by decide +kernel, by decide +kernel, by decide +kernel⟩⟩
theorem mv_X10_year : MV yX10_year cX10_year 3 (some .int) 2 := ⟨u_mem 686 (by decide +kernel) rfl, u_mem 687 (by decide +kernel) rfl, u_mem 1 (by decide +kernel) rfl, u_mem 688 (by decide +kernel) rfl, ⟨by decide +kernel, by decide +kernel, by decide +kernel⟩⟩
theorem mv_X2_followYear : MV yX2_followYear cX2_followYear 6 none 2 := ⟨u_mem 690 (by decide +kernel) rfl, u_mem 691 (by decide +kernel) rfl, u_mem 4 (by decide +kernel) rfl, u_mem 692 (by decide +kernel) rfl, ⟨by decide +kernel, by decide +kernel, by decide +kernel⟩⟩
theorem mv_X2_lostTowns : MV yX2_lostTowns cX2_lostTowns 3 (some .int) 0 := ⟨u_mem 698 (by decide +kernel) rfl, u_mem 699 (by decide +kernel) rfl, u_mem 4 (by decide +kernel) rfl, u_mem 700 (by decide +kernel) rfl, ⟨by decide +kernel, by decide +kernel, by decide +kernel⟩⟩
theorem mv_X10_keep : MV yX10_keep cX10_keep 1 (some .int) 0 := ⟨u_mem 702 (by decide +kernel) rfl, u_mem 703 (by decide +kernel) rfl, u_mem 1 (by decide +kernel) rfl, u_mem 704 (by decide +kernel) rfl, ⟨by decide +kernel, by decide +kernel, by decide +kernel⟩⟩
theorem mv_X7_put : MV yX7_put cX7_put 2 (some .boolean) 1 := ⟨u_mem 706 (by decide +kernel) rfl, u_mem 707 (by decide +kernel) rfl, u_mem 9 (by decide +kernel) rfl, u_mem 708 (by decide +kernel) rfl, ⟨by decide +kernel, by decide +kernel, by decide +kernel⟩⟩
theorem mv_X5_copy : MV yX5_copy cX5_copy 3 none 1 := ⟨u_mem 710 (by decide +kernel) rfl, u_mem 711 (by decide +kernel) rfl, u_mem 10 (by decide +kernel) rfl, u_mem 712 (by decide +kernel) rfl, ⟨by decide +kernel, by decide +kernel, by decide +kernel⟩⟩
theorem mv_X10_back : MV yX10_back cX10_back 1 (some .int) 0 := ⟨u_mem 714 (by decide +kernel) rfl, u_mem 715 (by decide +kernel) rfl, u_mem 1 (by decide +kernel) rfl, u_mem 716 (by decide +kernel) rfl, ⟨by decide +kernel, by decide +kernel, by decide +kernel⟩⟩
theorem mv_X7_take : MV yX7_take cX7_take 2 (some .boolean) 1 := ⟨u_mem 718 (by decide +kernel) rfl, u_mem 719 (by decide +kernel) rfl, u_mem 9 (by decide +kernel) rfl, u_mem 720 (by decide +kernel) rfl, ⟨by decide +kernel, by decide +kernel, by decide +kernel⟩⟩
theorem mv_X10_count : MV yX10_count cX10_count 2 (some .int) 1 := ⟨u_mem 722 (by decide +kernel) rfl, u_mem 723 (by decide +kernel) rfl, u_mem 1 (by decide +kernel) rfl, u_mem 724 (by decide +kernel) rfl, ⟨by decide +kernel, by decide +kernel, by decide +kernel⟩⟩
theorem mi_X11_init : MI yX11_init cX11_init 1 0 := ⟨u_mem 728 (by decide +kernel) rfl, by decide +kernel, u_mem 16 (by decide +kernel) rfl, u_mem 729 (by decide +kernel) rfl, ⟨by decide +kernel, by decide +kernel, by decide +kernel⟩⟩
theorem mv_X11_write : MV yX11_write cX11_write 5 (some .int) 2 := ⟨u_mem 832 (by decide +kernel) rfl, u_mem 833 (by decide +kernel) rfl, u_mem 16 (by decide +kernel) rfl, u_mem 834 (by decide +kernel) rfl, ⟨by decide +kernel, by decide +kernel, by decide +kernel⟩⟩
theorem ms_X11_in : MS yX11_in cX11_in 6 (some .boolean) 3 := ⟨u_mem 837 (by decide +kernel) rfl, u_mem 16 (by decide +kernel) rfl, u_mem 838 (by decide +kernel) rfl, ⟨by decide +kernel, by decide +kernel, by decide +kernel⟩⟩
theorem mv_X11_wipe : MV yX11_wipe cX11_wipe 2 (some .int) 0 := ⟨u_mem 841 (by decide +kernel) rfl, u_mem 842 (by decide +kernel) rfl, u_mem 16 (by decide +kernel) rfl, u_mem 843 (by decide +kernel) rfl, ⟨by decide +kernel, by decide +kernel, by decide +kernel⟩⟩
theorem mv_X11_fault : MV yX11_fault cX11_fault 1 (some .int) 0 := ⟨u_mem 845 (by decide +kernel) rfl, u_mem 846 (by decide +kernel) rfl, u_mem 16 (by decide +kernel) rfl, u_mem 847 (by decide +kernel) rfl, ⟨by decide +kernel, by decide +kernel, by decide +kernel⟩⟩
theorem mv_X11_readAll : MV yX11_readAll cX11_readAll 2 (some .int) 0 := ⟨u_mem 850 (by decide +kernel) rfl, u_sel (q := (yX11_readAll, 33)) (List.mem_of_getElem? (i := 20) (by decide +kernel)), u_mem 16 (by decide +kernel) rfl, u_mem 851 (by decide +kernel) rfl, ⟨by decide +kernel, by decide +kernel, by decide +kernel⟩⟩
theorem mv_X11_item : MV yX11_item cX11_item 2 (some .boolean) 0 := ⟨u_mem 854 (by decide +kernel) rfl, u_sel (q := (yX11_item, 33)) (List.mem_of_getElem? (i := 21) (by decide +kernel)), u_mem 16 (by decide +kernel) rfl, u_mem 855 (by decide +kernel) rfl, ⟨by decide +kernel, by decide +kernel, by decide +kernel⟩⟩
theorem mv_X11_byteAt : MV yX11_byteAt cX11_byteAt 2 (some .int) 1 := ⟨u_mem 858 (by decide +kernel) rfl, u_sel (q := (yX11_byteAt, 33)) (List.mem_of_getElem? (i := 22) (by decide +kernel)), u_mem 16 (by decide +kernel) rfl, u_mem 859 (by decide +kernel) rfl, ⟨by decide +kernel, by decide +kernel, by decide +kernel⟩⟩
theorem mv_X11_figures : MV yX11_figures cX11_figures 5 (some .boolean) 1 := ⟨u_mem 862 (by decide +kernel) rfl, u_sel (q := (yX11_figures, 33)) (List.mem_of_getElem? (i := 23) (by decide +kernel)), u_mem 16 (by decide +kernel) rfl, u_mem 863 (by decide +kernel) rfl, ⟨by decide +kernel, by decide +kernel, by decide +kernel⟩⟩
theorem mv_X11_isTownItem : MV yX11_isTownItem cX11_isTownItem 1 (some .boolean) 0 := ⟨u_mem 869 (by decide +kernel) rfl, u_sel (q := (yX11_isTownItem, 33)) (List.mem_of_getElem? (i := 24) (by decide +kernel)), u_mem 16 (by decide +kernel) rfl, u_mem 870 (by decide +kernel) rfl, ⟨by decide +kernel, by decide +kernel, by decide +kernel⟩⟩
theorem mv_X11_addErrand : MV yX11_addErrand cX11_addErrand 5 none 4 := ⟨u_mem 875 (by decide +kernel) rfl, u_sel (q := (yX11_addErrand, 33)) (List.mem_of_getElem? (i := 25) (by decide +kernel)), u_mem 16 (by decide +kernel) rfl, u_mem 876 (by decide +kernel) rfl, ⟨by decide +kernel, by decide +kernel, by decide +kernel⟩⟩
theorem mv_X11_lay : MV yX11_lay cX11_lay 2 (some .int) 0 := ⟨u_mem 878 (by decide +kernel) rfl, u_mem 879 (by decide +kernel) rfl, u_mem 16 (by decide +kernel) rfl, u_mem 880 (by decide +kernel) rfl, ⟨by decide +kernel, by decide +kernel, by decide +kernel⟩⟩
theorem mv_X11_areThere : MV yX11_areThere cX11_areThere 3 (some .boolean) 0 := ⟨u_mem 883 (by decide +kernel) rfl, u_sel (q := (yX11_areThere, 33)) (List.mem_of_getElem? (i := 26) (by decide +kernel)), u_mem 16 (by decide +kernel) rfl, u_mem 884 (by decide +kernel) rfl, ⟨by decide +kernel, by decide +kernel, by decide +kernel⟩⟩
theorem mv_X11_copy : MV yX11_copy cX11_copy 4 none 2 := ⟨u_mem 887 (by decide +kernel) rfl, u_sel (q := (yX11_copy, 33)) (List.mem_of_getElem? (i := 27) (by decide +kernel)), u_mem 16 (by decide +kernel) rfl, u_mem 888 (by decide +kernel) rfl, ⟨by decide +kernel, by decide +kernel, by decide +kernel⟩⟩
theorem mv_X11_level : MV yX11_level cX11_level 3 (some .int) 2 := ⟨u_mem 890 (by decide +kernel) rfl, u_mem 891 (by decide +kernel) rfl, u_mem 16 (by decide +kernel) rfl, u_mem 892 (by decide +kernel) rfl, ⟨by decide +kernel, by decide +kernel, by decide +kernel⟩⟩
theorem mv_X11_isLevel : MV yX11_isLevel cX11_isLevel 2 (some .boolean) 1 := ⟨u_mem 895 (by decide +kernel) rfl, u_sel (q := (yX11_isLevel, 33)) (List.mem_of_getElem? (i := 28) (by decide +kernel)), u_mem 16 (by decide +kernel) rfl, u_mem 896 (by decide +kernel) rfl, ⟨by decide +kernel, by decide +kernel, by decide +kernel⟩⟩
theorem mv_X11_town : MV yX11_town cX11_town 4 (some .int) 3 := ⟨u_mem 898 (by decide +kernel) rfl, u_mem 899 (by decide +kernel) rfl, u_mem 16 (by decide +kernel) rfl, u_mem 900 (by decide +kernel) rfl, ⟨by decide +kernel, by decide +kernel, by decide +kernel⟩⟩
theorem mv_X11_isTown : MV yX11_isTown cX11_isTown 2 (some .boolean) 1 := ⟨u_mem 903 (by decide +kernel) rfl, u_sel (q := (yX11_isTown, 33)) (List.mem_of_getElem? (i := 29) (by decide +kernel)), u_mem 16 (by decide +kernel) rfl, u_mem 904 (by decide +kernel) rfl, ⟨by decide +kernel, by decide +kernel, by decide +kernel⟩⟩
theorem mv_X11_go : MV yX11_go cX11_go 2 none 1 := ⟨u_mem 907 (by decide +kernel) rfl, u_sel (q := (yX11_go, 33)) (List.mem_of_getElem? (i := 30) (by decide +kernel)), u_mem 16 (by decide +kernel) rfl, u_mem 908 (by decide +kernel) rfl, ⟨by decide +kernel, by decide +kernel, by decide +kernel⟩⟩
theorem mv_X11_begin : MV yX11_begin cX11_begin 2 none 0 := ⟨u_mem 911 (by decide +kernel) rfl, u_sel (q := (yX11_begin, 33)) (List.mem_of_getElem? (i := 31) (by decide +kernel)), u_mem 16 (by decide +kernel) rfl, u_mem 912 (by decide +kernel) rfl, ⟨by decide +kernel, by decide +kernel, by decide +kernel⟩⟩
theorem mv_X11_goDay : MV yX11_goDay cX11_goDay 2 none 0 := ⟨u_mem 915 (by decide +kernel) rfl, u_sel (q := (yX11_goDay, 33)) (List.mem_of_getElem? (i := 32) (by decide +kernel)), u_mem 16 (by decide +kernel) rfl, u_mem 916 (by decide +kernel) rfl, ⟨by decide +kernel, by decide +kernel, by decide +kernel⟩⟩
theorem mv_X11_goBy : MV yX11_goBy cX11_goBy 3 none 2 := ⟨u_mem 919 (by decide +kernel) rfl, u_sel (q := (yX11_goBy, 33)) (List.mem_of_getElem? (i := 33) (by decide +kernel)), u_mem 16 (by decide +kernel) rfl, u_mem 920 (by decide +kernel) rfl, ⟨by decide +kernel, by decide +kernel, by decide +kernel⟩⟩
theorem mv_X11_leftOf : MV yX11_leftOf cX11_leftOf 8 (some .int) 4 := ⟨u_mem 923 (by decide +kernel) rfl, u_sel (q := (yX11_leftOf, 33)) (List.mem_of_getElem? (i := 34) (by decide +kernel)), u_mem 16 (by decide +kernel) rfl, u_mem 924 (by decide +kernel) rfl, ⟨by decide +kernel, by decide +kernel, by decide +kernel⟩⟩
theorem mv_X11_lost : MV yX11_lost cX11_lost 2 (some .int) 1 := ⟨u_mem 926 (by decide +kernel) rfl, u_mem 927 (by decide +kernel) rfl, u_mem 16 (by decide +kernel) rfl, u_mem 928 (by decide +kernel) rfl, ⟨by decide +kernel, by decide +kernel, by decide +kernel⟩⟩
theorem mv_X11_meet : MV yX11_meet cX11_meet 3 (some .int) 2 := ⟨u_mem 930 (by decide +kernel) rfl, u_mem 931 (by decide +kernel) rfl, u_mem 16 (by decide +kernel) rfl, u_mem 932 (by decide +kernel) rfl, ⟨by decide +kernel, by decide +kernel, by decide +kernel⟩⟩
theorem mv_X11_areTogether : MV yX11_areTogether cX11_areTogether 3 (some .boolean) 2 := ⟨u_mem 935 (by decide +kernel) rfl, u_sel (q := (yX11_areTogether, 33)) (List.mem_of_getElem? (i := 35) (by decide +kernel)), u_mem 16 (by decide +kernel) rfl, u_mem 936 (by decide +kernel) rfl, ⟨by decide +kernel, by decide +kernel, by decide +kernel⟩⟩
theorem mv_X11_markets : MV yX11_markets cX11_markets 2 (some .int) 1 := ⟨u_mem 938 (by decide +kernel) rfl, u_mem 939 (by decide +kernel) rfl, u_mem 16 (by decide +kernel) rfl, u_mem 940 (by decide +kernel) rfl, ⟨by decide +kernel, by decide +kernel, by decide +kernel⟩⟩
theorem mv_X11_marketsTo : MV yX11_marketsTo cX11_marketsTo 3 (some .int) 1 := ⟨u_mem 943 (by decide +kernel) rfl, u_sel (q := (yX11_marketsTo, 33)) (List.mem_of_getElem? (i := 36) (by decide +kernel)), u_mem 16 (by decide +kernel) rfl, u_mem 944 (by decide +kernel) rfl, ⟨by decide +kernel, by decide +kernel, by decide +kernel⟩⟩
theorem mv_X11_pairs : MV yX11_pairs cX11_pairs 4 (some .int) 0 := ⟨u_mem 947 (by decide +kernel) rfl, u_sel (q := (yX11_pairs, 33)) (List.mem_of_getElem? (i := 37) (by decide +kernel)), u_mem 16 (by decide +kernel) rfl, u_mem 948 (by decide +kernel) rfl, ⟨by decide +kernel, by decide +kernel, by decide +kernel⟩⟩
theorem mv_X11_stay : MV yX11_stay cX11_stay 8 (some .int) 3 := ⟨u_mem 950 (by decide +kernel) rfl, u_mem 951 (by decide +kernel) rfl, u_mem 16 (by decide +kernel) rfl, u_mem 952 (by decide +kernel) rfl, ⟨by decide +kernel, by decide +kernel, by decide +kernel⟩⟩
theorem mv_X11_catches : MV yX11_catches cX11_catches 5 (some .int) 3 := ⟨u_mem 954 (by decide +kernel) rfl, u_mem 955 (by decide +kernel) rfl, u_mem 16 (by decide +kernel) rfl, u_mem 956 (by decide +kernel) rfl, ⟨by decide +kernel, by decide +kernel, by decide +kernel⟩⟩
theorem mv_X11_carryAll : MV yX11_carryAll cX11_carryAll 5 none 1 := ⟨u_mem 959 (by decide +kernel) rfl, u_sel (q := (yX11_carryAll, 33)) (List.mem_of_getElem? (i := 38) (by decide +kernel)), u_mem 16 (by decide +kernel) rfl, u_mem 960 (by decide +kernel) rfl, ⟨by decide +kernel, by decide +kernel, by decide +kernel⟩⟩
theorem mv_X11_carry : MV yX11_carry cX11_carry 6 none 4 := ⟨u_mem 963 (by decide +kernel) rfl, u_sel (q := (yX11_carry, 33)) (List.mem_of_getElem? (i := 39) (by decide +kernel)), u_mem 16 (by decide +kernel) rfl, u_mem 964 (by decide +kernel) rfl, ⟨by decide +kernel, by decide +kernel, by decide +kernel⟩⟩
theorem ms_X11_highest : MS yX11_highest cX11_highest 3 (some .int) 1 := ⟨u_mem 966 (by decide +kernel) rfl, u_mem 16 (by decide +kernel) rfl, u_mem 967 (by decide +kernel) rfl, ⟨by decide +kernel, by decide +kernel, by decide +kernel⟩⟩
theorem mv_X11_keeps : MV yX11_keeps cX11_keeps 8 (some .int) 3 := ⟨u_mem 969 (by decide +kernel) rfl, u_mem 970 (by decide +kernel) rfl, u_mem 16 (by decide +kernel) rfl, u_mem 971 (by decide +kernel) rfl, ⟨by decide +kernel, by decide +kernel, by decide +kernel⟩⟩
theorem mv_X11_trades : MV yX11_trades cX11_trades 9 (some .int) 3 := ⟨u_mem 973 (by decide +kernel) rfl, u_mem 974 (by decide +kernel) rfl, u_mem 16 (by decide +kernel) rfl, u_mem 975 (by decide +kernel) rfl, ⟨by decide +kernel, by decide +kernel, by decide +kernel⟩⟩
theorem mv_X11_tradesOf : MV yX11_tradesOf cX11_tradesOf 5 (some .int) 2 := ⟨u_mem 978 (by decide +kernel) rfl, u_sel (q := (yX11_tradesOf, 33)) (List.mem_of_getElem? (i := 40) (by decide +kernel)), u_mem 16 (by decide +kernel) rfl, u_mem 979 (by decide +kernel) rfl, ⟨by decide +kernel, by decide +kernel, by decide +kernel⟩⟩
theorem mv_X11_dropped : MV yX11_dropped cX11_dropped 8 (some .int) 4 := ⟨u_mem 981 (by decide +kernel) rfl, u_mem 982 (by decide +kernel) rfl, u_mem 16 (by decide +kernel) rfl, u_mem 983 (by decide +kernel) rfl, ⟨by decide +kernel, by decide +kernel, by decide +kernel⟩⟩
theorem ms_X11_isPlace : MS yX11_isPlace cX11_isPlace 1 (some .boolean) 1 := ⟨u_mem 985 (by decide +kernel) rfl, u_mem 16 (by decide +kernel) rfl, u_mem 986 (by decide +kernel) rfl, ⟨by decide +kernel, by decide +kernel, by decide +kernel⟩⟩
theorem mv_X11_seen : MV yX11_seen cX11_seen 4 (some .int) 3 := ⟨u_mem 989 (by decide +kernel) rfl, u_mem 990 (by decide +kernel) rfl, u_mem 16 (by decide +kernel) rfl, u_mem 991 (by decide +kernel) rfl, ⟨by decide +kernel, by decide +kernel, by decide +kernel⟩⟩
theorem ms_X11_isSeen : MS yX11_isSeen cX11_isSeen 3 (some .boolean) 3 := ⟨u_mem 993 (by decide +kernel) rfl, u_mem 16 (by decide +kernel) rfl, u_mem 994 (by decide +kernel) rfl, ⟨by decide +kernel, by decide +kernel, by decide +kernel⟩⟩
theorem mv_X11_levelsOf : MV yX11_levelsOf cX11_levelsOf 6 (some .int) 3 := ⟨u_mem 998 (by decide +kernel) rfl, u_sel (q := (yX11_levelsOf, 33)) (List.mem_of_getElem? (i := 41) (by decide +kernel)), u_mem 16 (by decide +kernel) rfl, u_mem 999 (by decide +kernel) rfl, ⟨by decide +kernel, by decide +kernel, by decide +kernel⟩⟩
theorem mv_X11_seenTwice : MV yX11_seenTwice cX11_seenTwice 6 (some .int) 5 := ⟨u_mem 1001 (by decide +kernel) rfl, u_mem 1002 (by decide +kernel) rfl, u_mem 16 (by decide +kernel) rfl, u_mem 1003 (by decide +kernel) rfl, ⟨by decide +kernel, by decide +kernel, by decide +kernel⟩⟩
theorem mv_X11_gusts : MV yX11_gusts cX11_gusts 14 (some .long) 5 := ⟨u_mem 1005 (by decide +kernel) rfl, u_mem 1006 (by decide +kernel) rfl, u_mem 16 (by decide +kernel) rfl, u_mem 1007 (by decide +kernel) rfl, ⟨by decide +kernel, by decide +kernel, by decide +kernel⟩⟩
theorem mv_X11_errand : MV yX11_errand cX11_errand 4 (some .int) 3 := ⟨u_mem 1011 (by decide +kernel) rfl, u_mem 1012 (by decide +kernel) rfl, u_mem 16 (by decide +kernel) rfl, u_mem 1013 (by decide +kernel) rfl, ⟨by decide +kernel, by decide +kernel, by decide +kernel⟩⟩
theorem mv_X11_note : MV yX11_note cX11_note 4 none 2 := ⟨u_mem 1016 (by decide +kernel) rfl, u_sel (q := (yX11_note, 33)) (List.mem_of_getElem? (i := 42) (by decide +kernel)), u_mem 16 (by decide +kernel) rfl, u_mem 1017 (by decide +kernel) rfl, ⟨by decide +kernel, by decide +kernel, by decide +kernel⟩⟩
theorem mv_X11_fill : MV yX11_fill cX11_fill 4 (some .int) 2 := ⟨u_mem 1019 (by decide +kernel) rfl, u_mem 1020 (by decide +kernel) rfl, u_mem 16 (by decide +kernel) rfl, u_mem 1021 (by decide +kernel) rfl, ⟨by decide +kernel, by decide +kernel, by decide +kernel⟩⟩
theorem mv_X11_undo : MV yX11_undo cX11_undo 2 (some .int) 0 := ⟨u_mem 1023 (by decide +kernel) rfl, u_mem 1024 (by decide +kernel) rfl, u_mem 16 (by decide +kernel) rfl, u_mem 1025 (by decide +kernel) rfl, ⟨by decide +kernel, by decide +kernel, by decide +kernel⟩⟩
theorem mv_X11_year : MV yX11_year cX11_year 6 (some .int) 2 := ⟨u_mem 1027 (by decide +kernel) rfl, u_mem 1028 (by decide +kernel) rfl, u_mem 16 (by decide +kernel) rfl, u_mem 1029 (by decide +kernel) rfl, ⟨by decide +kernel, by decide +kernel, by decide +kernel⟩⟩
theorem mv_X11_keep : MV yX11_keep cX11_keep 1 (some .int) 0 := ⟨u_mem 1036 (by decide +kernel) rfl, u_mem 1037 (by decide +kernel) rfl, u_mem 16 (by decide +kernel) rfl, u_mem 1038 (by decide +kernel) rfl, ⟨by decide +kernel, by decide +kernel, by decide +kernel⟩⟩
theorem mv_X11_back : MV yX11_back cX11_back 1 (some .int) 0 := ⟨u_mem 1040 (by decide +kernel) rfl, u_mem 1041 (by decide +kernel) rfl, u_mem 16 (by decide +kernel) rfl, u_mem 1042 (by decide +kernel) rfl, ⟨by decide +kernel, by decide +kernel, by decide +kernel⟩⟩
theorem mv_X11_count : MV yX11_count cX11_count 2 (some .int) 1 := ⟨u_mem 1044 (by decide +kernel) rfl, u_mem 1045 (by decide +kernel) rfl, u_mem 16 (by decide +kernel) rfl, u_mem 1046 (by decide +kernel) rfl, ⟨by decide +kernel, by decide +kernel, by decide +kernel⟩⟩
/-! rooms: the frames above a method, and their words -/
abbrev rmX0_hunt : Room := { frames := 5, cells := 0, slots := 0, locals := 133 }
abbrev rmX0_cell : Room := { frames := 0, cells := 0, slots := 0, locals := 0 }
abbrev rmX0_empty : Room := { frames := 0, cells := 0, slots := 0, locals := 0 }
abbrev rmX0_passDay : Room := { frames := 4, cells := 0, slots := 0, locals := 107 }
abbrev rmX0_leave : Room := { frames := 3, cells := 0, slots := 0, locals := 81 }
abbrev rmX0_sink : Room := { frames := 2, cells := 0, slots := 0, locals := 55 }
abbrev rmX0_arrive : Room := { frames := 1, cells := 0, slots := 0, locals := 24 }
abbrev rmX0_halved : Room := { frames := 0, cells := 0, slots := 0, locals := 0 }
abbrev rmX0_highest : Room := { frames := 0, cells := 0, slots := 0, locals := 0 }
abbrev rmX1_follow : Room := { frames := 2, cells := 0, slots := 0, locals := 46 }
abbrev rmX1_note : Room := { frames := 0, cells := 0, slots := 0, locals := 0 }
abbrev rmX1_runErrands : Room := { frames := 1, cells := 0, slots := 0, locals := 21 }
abbrev rmX1_sinkWithoutGas : Room := { frames := 0, cells := 0, slots := 0, locals := 0 }
abbrev rmX1_goOn : Room := { frames := 1, cells := 0, slots := 0, locals := 23 }
abbrev rmX1_floats : Room := { frames := 0, cells := 0, slots := 0, locals := 0 }
abbrev rmX1_meets : Room := { frames := 1, cells := 0, slots := 0, locals := 21 }
abbrev rmX2_followAsTold : Room := { frames := 3, cells := 0, slots := 0, locals := 71 }
abbrev rmX2_followYear : Room := { frames := 3, cells := 0, slots := 0, locals := 71 }
abbrev rmX2_allMarkets : Room := { frames := 3, cells := 0, slots := 0, locals := 69 }
abbrev rmX2_marketsWith : Room := { frames := 2, cells := 0, slots := 0, locals := 43 }
abbrev rmX2_lostTowns : Room := { frames := 0, cells := 0, slots := 0, locals := 0 }
abbrev rmX3_clear : Room := { frames := 0, cells := 0, slots := 0, locals := 0 }
abbrev rmX3_note : Room := { frames := 1, cells := 0, slots := 0, locals := 21 }
abbrev rmX3_forgetOldest : Room := { frames := 0, cells := 0, slots := 0, locals := 0 }
abbrev rmX3_takeBack : Room := { frames := 1, cells := 0, slots := 0, locals := 20 }
abbrev rmX4_reckon : Room := { frames := 2, cells := 0, slots := 0, locals := 44 }
abbrev rmX4_gust : Room := { frames := 1, cells := 0, slots := 0, locals := 21 }
abbrev rmX4_reduce : Room := { frames := 1, cells := 0, slots := 0, locals := 21 }
abbrev rmX4_leaveOut : Room := { frames := 0, cells := 0, slots := 0, locals := 0 }
abbrev rmX5_tell : Room := { frames := 0, cells := 0, slots := 0, locals := 0 }
abbrev rmX5_dropLatestErrand : Room := { frames := 0, cells := 0, slots := 0, locals := 0 }
abbrev rmX5_copy : Room := { frames := 0, cells := 0, slots := 0, locals := 0 }
abbrev rmX6_read : Room := { frames := 4, cells := 0, slots := 0, locals := 89 }
abbrev rmX6_readNumbers : Room := { frames := 2, cells := 0, slots := 0, locals := 43 }
abbrev rmX6_readNumber : Room := { frames := 1, cells := 0, slots := 0, locals := 21 }
abbrev rmX6_isFigure : Room := { frames := 0, cells := 0, slots := 0, locals := 0 }
abbrev rmX6_tell : Room := { frames := 3, cells := 0, slots := 0, locals := 67 }
abbrev rmX7_clear : Room := { frames := 0, cells := 0, slots := 0, locals := 0 }
abbrev rmX7_put : Room := { frames := 1, cells := 0, slots := 0, locals := 22 }
abbrev rmX7_take : Room := { frames := 1, cells := 0, slots := 0, locals := 22 }
abbrev rmX8_clear : Room := { frames := 0, cells := 0, slots := 0, locals := 0 }
abbrev rmX8_addLevel : Room := { frames := 1, cells := 0, slots := 0, locals := 22 }
abbrev rmX8_addTown : Room := { frames := 2, cells := 0, slots := 0, locals := 42 }
abbrev rmX8_addErrand : Room := { frames := 1, cells := 0, slots := 0, locals := 23 }
abbrev rmX8_addLightning : Room := { frames := 1, cells := 0, slots := 0, locals := 22 }
abbrev rmX8_isWhole : Room := { frames := 0, cells := 0, slots := 0, locals := 0 }
abbrev rmX8_isStruck : Room := { frames := 0, cells := 0, slots := 0, locals := 0 }
abbrev rmX8_dailyLoss : Room := { frames := 0, cells := 0, slots := 0, locals := 0 }
abbrev rmX9_append : Room := { frames := 0, cells := 0, slots := 0, locals := 0 }
abbrev rmX9_clear : Room := { frames := 0, cells := 0, slots := 0, locals := 0 }
abbrev rmX9_at : Room := { frames := 0, cells := 0, slots := 0, locals := 0 }
abbrev rmX10_write : Room := { frames := 1, cells := 0, slots := 0, locals := 21 }
abbrev rmX10_wipe : Room := { frames := 1, cells := 0, slots := 0, locals := 20 }
abbrev rmX10_fault : Room := { frames := 5, cells := 0, slots := 0, locals := 113 }
abbrev rmX10_lay : Room := { frames := 5, cells := 0, slots := 0, locals := 113 }
abbrev rmX10_level : Room := { frames := 2, cells := 0, slots := 0, locals := 43 }
abbrev rmX10_town : Room := { frames := 5, cells := 0, slots := 0, locals := 113 }
abbrev rmX10_lost : Room := { frames := 5, cells := 0, slots := 0, locals := 113 }
abbrev rmX10_meet : Room := { frames := 5, cells := 0, slots := 0, locals := 113 }
abbrev rmX10_markets : Room := { frames := 5, cells := 0, slots := 0, locals := 113 }
abbrev rmX10_stay : Room := { frames := 3, cells := 0, slots := 0, locals := 65 }
abbrev rmX10_catches : Room := { frames := 6, cells := 0, slots := 0, locals := 159 }
abbrev rmX10_keeps : Room := { frames := 3, cells := 0, slots := 0, locals := 71 }
abbrev rmX10_trades : Room := { frames := 5, cells := 0, slots := 0, locals := 113 }
abbrev rmX10_dropped : Room := { frames := 2, cells := 0, slots := 0, locals := 43 }
abbrev rmX10_seen : Room := { frames := 2, cells := 0, slots := 0, locals := 46 }
abbrev rmX10_seenTwice : Room := { frames := 2, cells := 0, slots := 0, locals := 46 }
abbrev rmX10_gusts : Room := { frames := 3, cells := 0, slots := 0, locals := 70 }
abbrev rmX10_errand : Room := { frames := 2, cells := 0, slots := 0, locals := 43 }
abbrev rmX10_fill : Room := { frames := 2, cells := 0, slots := 0, locals := 43 }
abbrev rmX10_undo : Room := { frames := 2, cells := 0, slots := 0, locals := 41 }
abbrev rmX10_year : Room := { frames := 4, cells := 0, slots := 0, locals := 96 }
abbrev rmX10_keep : Room := { frames := 2, cells := 0, slots := 0, locals := 43 }
abbrev rmX10_back : Room := { frames := 2, cells := 0, slots := 0, locals := 43 }
abbrev rmX10_count : Room := { frames := 0, cells := 0, slots := 0, locals := 0 }
abbrev rmX10_isWithin : Room := { frames := 0, cells := 0, slots := 0, locals := 0 }
abbrev rmX10_isPlace : Room := { frames := 1, cells := 0, slots := 0, locals := 22 }
abbrev rmX10_isLevel : Room := { frames := 1, cells := 0, slots := 0, locals := 22 }
abbrev rmX10_isTown : Room := { frames := 1, cells := 0, slots := 0, locals := 22 }
abbrev rmX10_areTwoTowns : Room := { frames := 2, cells := 0, slots := 0, locals := 43 }
abbrev rmX10_followed : Room := { frames := 4, cells := 0, slots := 0, locals := 93 }
abbrev rmX10_round : Room := { frames := 0, cells := 0, slots := 0, locals := 0 }
abbrev rmX10_firstDayOf : Room := { frames := 1, cells := 0, slots := 0, locals := 21 }
abbrev rmX10_fitting : Room := { frames := 1, cells := 0, slots := 0, locals := 21 }
abbrev rmX11_in : Room := { frames := 0, cells := 0, slots := 0, locals := 0 }
abbrev rmX11_write : Room := { frames := 1, cells := 0, slots := 0, locals := 25 }
abbrev rmX11_wipe : Room := { frames := 0, cells := 0, slots := 0, locals := 0 }
abbrev rmX11_byteAt : Room := { frames := 0, cells := 0, slots := 0, locals := 0 }
abbrev rmX11_figures : Room := { frames := 1, cells := 0, slots := 0, locals := 25 }
abbrev rmX11_isTownItem : Room := { frames := 1, cells := 0, slots := 0, locals := 25 }
abbrev rmX11_addErrand : Room := { frames := 0, cells := 0, slots := 0, locals := 0 }
abbrev rmX11_item : Room := { frames := 2, cells := 0, slots := 0, locals := 49 }
abbrev rmX11_readAll : Room := { frames := 3, cells := 0, slots := 0, locals := 70 }
abbrev rmX11_fault : Room := { frames := 4, cells := 0, slots := 0, locals := 91 }
abbrev rmX11_areThere : Room := { frames := 0, cells := 0, slots := 0, locals := 0 }
abbrev rmX11_copy : Room := { frames := 0, cells := 0, slots := 0, locals := 0 }
abbrev rmX11_lay : Room := { frames := 4, cells := 0, slots := 0, locals := 91 }
abbrev rmX11_isLevel : Room := { frames := 1, cells := 0, slots := 0, locals := 25 }
abbrev rmX11_isTown : Room := { frames := 1, cells := 0, slots := 0, locals := 25 }
abbrev rmX11_level : Room := { frames := 2, cells := 0, slots := 0, locals := 46 }
abbrev rmX11_begin : Room := { frames := 0, cells := 0, slots := 0, locals := 0 }
abbrev rmX11_goBy : Room := { frames := 0, cells := 0, slots := 0, locals := 0 }
abbrev rmX11_leftOf : Room := { frames := 0, cells := 0, slots := 0, locals := 0 }
abbrev rmX11_goDay : Room := { frames := 1, cells := 0, slots := 0, locals := 27 }
abbrev rmX11_go : Room := { frames := 2, cells := 0, slots := 0, locals := 48 }
abbrev rmX11_areTogether : Room := { frames := 0, cells := 0, slots := 0, locals := 0 }
abbrev rmX11_pairs : Room := { frames := 1, cells := 0, slots := 0, locals := 22 }
abbrev rmX11_town : Room := { frames := 3, cells := 0, slots := 0, locals := 69 }
abbrev rmX11_lost : Room := { frames := 3, cells := 0, slots := 0, locals := 69 }
abbrev rmX11_meet : Room := { frames := 2, cells := 0, slots := 0, locals := 48 }
abbrev rmX11_marketsTo : Room := { frames := 2, cells := 0, slots := 0, locals := 48 }
abbrev rmX11_markets : Room := { frames := 3, cells := 0, slots := 0, locals := 70 }
abbrev rmX11_stay : Room := { frames := 2, cells := 0, slots := 0, locals := 46 }
abbrev rmX11_carry : Room := { frames := 1, cells := 0, slots := 0, locals := 27 }
abbrev rmX11_carryAll : Room := { frames := 2, cells := 0, slots := 0, locals := 52 }
abbrev rmX11_highest : Room := { frames := 0, cells := 0, slots := 0, locals := 0 }
abbrev rmX11_catches : Room := { frames := 3, cells := 0, slots := 0, locals := 76 }
abbrev rmX11_keeps : Room := { frames := 3, cells := 0, slots := 0, locals := 69 }
abbrev rmX11_tradesOf : Room := { frames := 2, cells := 0, slots := 0, locals := 48 }
abbrev rmX11_trades : Room := { frames := 3, cells := 0, slots := 0, locals := 72 }
abbrev rmX11_isPlace : Room := { frames := 1, cells := 0, slots := 0, locals := 25 }
abbrev rmX11_dropped : Room := { frames := 2, cells := 0, slots := 0, locals := 46 }
abbrev rmX11_levelsOf : Room := { frames := 0, cells := 0, slots := 0, locals := 0 }
abbrev rmX11_isSeen : Room := { frames := 2, cells := 0, slots := 0, locals := 45 }
abbrev rmX11_seen : Room := { frames := 3, cells := 0, slots := 0, locals := 67 }
abbrev rmX11_seenTwice : Room := { frames := 3, cells := 0, slots := 0, locals := 67 }
abbrev rmX11_gusts : Room := { frames := 2, cells := 0, slots := 0, locals := 46 }
abbrev rmX11_note : Room := { frames := 0, cells := 0, slots := 0, locals := 0 }
abbrev rmX11_errand : Room := { frames := 2, cells := 0, slots := 0, locals := 46 }
abbrev rmX11_fill : Room := { frames := 2, cells := 0, slots := 0, locals := 46 }
abbrev rmX11_undo : Room := { frames := 0, cells := 0, slots := 0, locals := 0 }
abbrev rmX11_year : Room := { frames := 3, cells := 0, slots := 0, locals := 70 }
abbrev rmX11_keep : Room := { frames := 1, cells := 0, slots := 0, locals := 23 }
abbrev rmX11_back : Room := { frames := 1, cells := 0, slots := 0, locals := 23 }
abbrev rmX11_count : Room := { frames := 0, cells := 0, slots := 0, locals := 0 }
/-! other words -/
theorem iz_L : Cond.initialized RL ∈ U := u_mem 0 (by decide +kernel) rfl
theorem iz_X10 : Cond.initialized RX10 ∈ U := u_mem 1 (by decide +kernel) rfl
theorem iz_X9 : Cond.initialized RX9 ∈ U := u_mem 2 (by decide +kernel) rfl
theorem iz_X6 : Cond.initialized RX6 ∈ U := u_mem 3 (by decide +kernel) rfl
theorem iz_X2 : Cond.initialized RX2 ∈ U := u_mem 4 (by decide +kernel) rfl
theorem iz_X1 : Cond.initialized RX1 ∈ U := u_mem 5 (by decide +kernel) rfl
theorem iz_X0 : Cond.initialized RX0 ∈ U := u_mem 6 (by decide +kernel) rfl
theorem iz_X4 : Cond.initialized RX4 ∈ U := u_mem 7 (by decide +kernel) rfl
theorem iz_X3 : Cond.initialized RX3 ∈ U := u_mem 8 (by decide +kernel) rfl
theorem iz_X7 : Cond.initialized RX7 ∈ U := u_mem 9 (by decide +kernel) rfl
theorem iz_X5 : Cond.initialized RX5 ∈ U := u_mem 10 (by decide +kernel) rfl
theorem iz_X8 : Cond.initialized RX8 ∈ U := u_mem 11 (by decide +kernel) rfl
theorem iz_J0 : Cond.initialized RJ0 ∈ U := u_mem 12 (by decide +kernel) rfl
theorem iz_J1 : Cond.initialized RJ1 ∈ U := u_mem 13 (by decide +kernel) rfl
theorem iz_J3 : Cond.initialized RJ3 ∈ U := u_mem 14 (by decide +kernel) rfl
theorem iz_J2 : Cond.initialized RJ2 ∈ U := u_mem 15 (by decide +kernel) rfl
theorem iz_X11 : Cond.initialized RX11 ∈ U := u_mem 16 (by decide +kernel) rfl
theorem iz_J9 : Cond.initialized RJ9 ∈ U := u_mem 17 (by decide +kernel) rfl
theorem cl_L_7 : Cond.classLink RL 7 RX10 ∈ U := u_mem 18 (by decide +kernel) rfl
theorem ia_X10 : Cond.instantiable RX10 12 ∈ U := u_mem 19 (by decide +kernel) rfl
theorem cl_X10_7 : Cond.classLink RX10 7 RX9 ∈ U := u_mem 26 (by decide +kernel) rfl
theorem ia_X9 : Cond.instantiable RX9 2 ∈ U := u_mem 27 (by decide +kernel) rfl
theorem ac_int : Cond.arrayClass .int ∈ U := u_mem 41 (by decide +kernel) rfl
theorem cl_X10_16 : Cond.classLink RX10 16 RX6 ∈ U := u_mem 42 (by decide +kernel) rfl
theorem ia_X6 : Cond.instantiable RX6 3 ∈ U := u_mem 43 (by decide +kernel) rfl
theorem cl_X10_23 : Cond.classLink RX10 23 RX2 ∈ U := u_mem 58 (by decide +kernel) rfl
theorem ia_X2 : Cond.instantiable RX2 2 ∈ U := u_mem 59 (by decide +kernel) rfl
theorem cl_X2_9 : Cond.classLink RX2 9 RX1 ∈ U := u_mem 64 (by decide +kernel) rfl
theorem ia_X1 : Cond.instantiable RX1 7 ∈ U := u_mem 66 (by decide +kernel) rfl
theorem cl_X10_33 : Cond.classLink RX10 33 RX1 ∈ U := u_mem 108 (by decide +kernel) rfl
theorem cl_X10_40 : Cond.classLink RX10 40 RX0 ∈ U := u_mem 110 (by decide +kernel) rfl
theorem ia_X0 : Cond.instantiable RX0 4 ∈ U := u_mem 111 (by decide +kernel) rfl
theorem ac_long : Cond.arrayClass .long ∈ U := u_mem 131 (by decide +kernel) rfl
theorem cl_X10_47 : Cond.classLink RX10 47 RX4 ∈ U := u_mem 132 (by decide +kernel) rfl
theorem ia_X4 : Cond.instantiable RX4 4 ∈ U := u_mem 133 (by decide +kernel) rfl
theorem cl_X10_54 : Cond.classLink RX10 54 RX3 ∈ U := u_mem 153 (by decide +kernel) rfl
theorem ia_X3 : Cond.instantiable RX3 3 ∈ U := u_mem 154 (by decide +kernel) rfl
theorem cl_X10_61 : Cond.classLink RX10 61 RX7 ∈ U := u_mem 170 (by decide +kernel) rfl
theorem ia_X7 : Cond.instantiable RX7 2 ∈ U := u_mem 171 (by decide +kernel) rfl
theorem cl_X7_9 : Cond.classLink RX7 9 RX5 ∈ U := u_mem 176 (by decide +kernel) rfl
theorem ia_X5 : Cond.instantiable RX5 5 ∈ U := u_mem 178 (by decide +kernel) rfl
theorem ac_boolean : Cond.arrayClass .boolean ∈ U := u_mem 210 (by decide +kernel) rfl
theorem cl_X10_68 : Cond.classLink RX10 68 RX8 ∈ U := u_mem 219 (by decide +kernel) rfl
theorem ia_X8 : Cond.instantiable RX8 12 ∈ U := u_mem 220 (by decide +kernel) rfl
theorem cl_X8_36 : Cond.classLink RX8 36 RX5 ∈ U := u_mem 225 (by decide +kernel) rfl
theorem ac_byte : Cond.arrayClass .byte ∈ U := u_mem 433 (by decide +kernel) rfl
theorem kl_X0_83 : Cond.constantLong RX0 83 (-2) ∈ U := u_mem 589 (by decide +kernel) rfl
theorem kl_X10_209 : Cond.constantLong RX10 209 (-1) ∈ U := u_mem 634 (by decide +kernel) rfl
theorem kl_X4_26 : Cond.constantLong RX4 26 (10) ∈ U := u_mem 647 (by decide +kernel) rfl
theorem kl_X2_38 : Cond.constantLong RX2 38 (7919) ∈ U := u_mem 693 (by decide +kernel) rfl
theorem kl_X2_40 : Cond.constantLong RX2 40 (6151) ∈ U := u_mem 694 (by decide +kernel) rfl
theorem kl_X2_42 : Cond.constantLong RX2 42 (65521) ∈ U := u_mem 695 (by decide +kernel) rfl
theorem kl_X2_44 : Cond.constantLong RX2 44 (24) ∈ U := u_mem 696 (by decide +kernel) rfl
theorem cl_L_10 : Cond.classLink RL 10 RX11 ∈ U := u_mem 725 (by decide +kernel) rfl
theorem ia_X11 : Cond.instantiable RX11 33 ∈ U := u_mem 726 (by decide +kernel) rfl
theorem kl_X11_95 : Cond.constantLong RX11 95 (8) ∈ U := u_mem 835 (by decide +kernel) rfl
theorem kl_X11_105 : Cond.constantLong RX11 105 (255) ∈ U := u_mem 839 (by decide +kernel) rfl
theorem kl_X11_114 : Cond.constantLong RX11 114 (48) ∈ U := u_mem 864 (by decide +kernel) rfl
theorem kl_X11_116 : Cond.constantLong RX11 116 (57) ∈ U := u_mem 865 (by decide +kernel) rfl
theorem kl_X11_118 : Cond.constantLong RX11 118 (2) ∈ U := u_mem 866 (by decide +kernel) rfl
theorem kl_X11_120 : Cond.constantLong RX11 120 (9) ∈ U := u_mem 871 (by decide +kernel) rfl
theorem kl_X11_130 : Cond.constantLong RX11 130 (60) ∈ U := u_mem 872 (by decide +kernel) rfl
theorem kl_X11_207 : Cond.constantLong RX11 207 (23) ∈ U := u_mem 987 (by decide +kernel) rfl
theorem kl_X11_212 : Cond.constantLong RX11 212 (99) ∈ U := u_mem 995 (by decide +kernel) rfl
theorem kl_X11_222 : Cond.constantLong RX11 222 (10) ∈ U := u_mem 1008 (by decide +kernel) rfl
theorem kl_X11_224 : Cond.constantLong RX11 224 (-1) ∈ U := u_mem 1009 (by decide +kernel) rfl
theorem kl_X11_229 : Cond.constantLong RX11 229 (9999) ∈ U := u_mem 1030 (by decide +kernel) rfl
theorem kl_X11_231 : Cond.constantLong RX11 231 (7919) ∈ U := u_mem 1031 (by decide +kernel) rfl
theorem kl_X11_233 : Cond.constantLong RX11 233 (6151) ∈ U := u_mem 1032 (by decide +kernel) rfl
theorem kl_X11_235 : Cond.constantLong RX11 235 (65521) ∈ U := u_mem 1033 (by decide +kernel) rfl
theorem kl_X11_237 : Cond.constantLong RX11 237 (24) ∈ U := u_mem 1034 (by decide +kernel) rfl
theorem kl_L_13 : Cond.constantLong RL 13 (4294967295) ∈ U := u_mem 1047 (by decide +kernel) rfl
theorem iz_Math : Cond.initialized "java/lang/Math" ∈ U := u_mem 17 (by decide +kernel) rfl
theorem st_max : Cond.static Lib.Math.max.name ∈ U := u_mem 499 (by decide +kernel) rfl
theorem cd_max : Cond.code Lib.Math.max.name Lib.Math.max.code 2 (some .int) ∈ U := u_mem 500 (by decide +kernel) rfl
theorem st_min : Cond.static Lib.Math.min.name ∈ U := u_mem 644 (by decide +kernel) rfl
theorem cd_min : Cond.code Lib.Math.min.name Lib.Math.min.code 2 (some .int) ∈ U := u_mem 645 (by decide +kernel) rfl
theorem oi_inst : Cond.instanceMethod objectInit ∈ U := u_mem 24 (by decide +kernel) rfl
theorem oi_code : Cond.code objectInit ⟨#[0xb1]⟩ 1 none ∈ U := u_mem 25 (by decide +kernel) rfl
