theorem mw_cong {A A2 : TJ} {B B2 : Nat → TJ} {i n : Nat} (hA : A2 = A) (hB : ∀ j, j ≠ i → B2 j = B j) : ∀ m, mw A2 B2 i n m = mw A B i n m
  | 0 => rfl
  | m + 1 => by
    show mw A2 B2 i n m + (if m = i then 0 else dm A2 (B2 m) n) = mw A B i n m + (if m = i then 0 else dm A (B m) n)
    rw [mw_cong hA hB m]
    by_cases e : m = i
    · rw [if_pos e, if_pos e]
    · rw [if_neg e, if_neg e, hA, hB m e]
theorem cs_home {S O : SD} {i l : Nat} : (fun t => cs (upS S 4 i l) O i t) = crs S O i l (sF S i) := by
  funext t
  show crs (upS S 4 i l) O i (if (4 : Nat) = 4 ∧ i = i then l else S 4 i) (sF S i) t = _
  rw [if_pos ⟨rfl, rfl⟩]
  exact crs_45 (S45_up (Or.inl rfl)) t
theorem cs_other {S O : SD} {i j l : Nat} (h : j ≠ i) : (fun t => cs (upS S 4 i l) O j t) = fun t => cs S O j t := by
  funext t
  show crs (upS S 4 i l) O j (if (4 : Nat) = 4 ∧ j = i then l else S 4 j) (sF S j) t = _
  rw [if_neg (fun z => h z.2)]
  exact crs_45 (S45_up (Or.inl rfl)) t
theorem trade_eq {S O : SD} {i l n T : Nat} : t2 (fun j => cs (upS S 4 i l) O j) i T n = mw (crs S O i l (sF S i)) (fun j => cs S O j) i n T := by
  rw [t2_mw]
  exact mw_cong cs_home (fun j hj => cs_other hj) T
theorem keepV_m {S O : SD} {i n : Nat} {w : Int} (hL : 1 ≤ sL S) : (if w = 0 then (bm (fun l => (((crs S O i l (sF S i) n).2.2 : Nat) : Int)) (-4) (sL S)).1 else (bm (fun l => (((crs S O i l (sF S i) n).2.2 : Nat) : Int)) (-4) (sL S)).2) = keepV S O i n w := by
  obtain ⟨m, hm⟩ : ∃ m, sL S = m + 1 := ⟨sL S - 1, by omega⟩
  unfold keepV
  rw [hm, bm_start (s := -1) (t := -4) (by omega) (by omega) m (fun j _ => by show (0 : Int) ≤ ((crs S O i j (sF S i) n).2.2 : Nat); omega)]
theorem tradV_m {S O : SD} {i n : Nat} {w : Int} (hL : 1 ≤ sL S) : (if w = 0 then (bm (fun l => ((t2 (fun j => cs (upS S 4 i l) O j) i (sT S) n : Nat) : Int)) (-4) (sL S)).1 else (bm (fun l => ((t2 (fun j => cs (upS S 4 i l) O j) i (sT S) n : Nat) : Int)) (-4) (sL S)).2) = tradV S O i n w := by
  obtain ⟨m, hm⟩ : ∃ m, sL S = m + 1 := ⟨sL S - 1, by omega⟩
  unfold tradV
  simp only [trade_eq]
  rw [hm, bm_start (s := -1) (t := -4) (by omega) (by omega) m (fun j _ => by show (0 : Int) ≤ ((mw _ _ _ _ _ : Nat) : Int); omega)]
