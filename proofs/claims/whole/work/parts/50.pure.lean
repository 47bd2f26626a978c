theorem mw_0 {A : TJ} {B : Nat → TJ} {i : Nat} : ∀ j, mw A B i 0 j = 0
  | 0 => rfl
  | j + 1 => by
    show mw A B i 0 j + (if j = i then 0 else 0) = 0
    rw [mw_0 j]
    split <;> rfl
theorem mw_succ {B : Nat → TJ} {i n : Nat} : ∀ j, mw (B i) B i (n + 1) j = mw (B i) B i n j + t1 B (n + 1) i j
  | 0 => rfl
  | j + 1 => by
    show mw (B i) B i (n + 1) j + (if j = i then 0 else dm (B i) (B j) (n + 1)) = (mw (B i) B i n j + if j = i then 0 else dm (B i) (B j) n) + (t1 B (n + 1) i j + if j ≠ i ∧ meetB (B i (n + 1)) (B j (n + 1)) = true then 1 else 0)
    rw [mw_succ j]
    have e : dm (B i) (B j) (n + 1) = dm (B i) (B j) n + if meetB (B i (n + 1)) (B j (n + 1)) = true then 1 else 0 := rfl
    rw [e]
    by_cases q : j = i
    · rw [if_pos q, if_pos q, if_neg (fun z => z.1 q)]; omega
    · by_cases m : meetB (B i (n + 1)) (B j (n + 1)) = true
      · rw [if_neg q, if_neg q, if_pos m, if_pos ⟨q, m⟩]; omega
      · rw [if_neg q, if_neg q, if_neg m, if_neg (fun z => m z.2)]; omega
theorem t2_mw {B : Nat → TJ} {i T : Nat} : ∀ n, t2 B i T n = mw (B i) B i n T
  | 0 => (mw_0 T).symm
  | n + 1 => by
    show t2 B i T n + t1 B (n + 1) i T = _
    rw [t2_mw n, mw_succ]
def s2 (B : Nat → TJ) (t T : Nat) : Nat → Nat
  | 0 => 0
  | k + 1 => s2 B t T k + t1 B t k T
theorem am_0 {B : Nat → TJ} {T : Nat} : ∀ k, am B 0 T k = 0
  | 0 => rfl
  | k + 1 => by
    show am B 0 T k + mw (B k) B k 0 T = 0
    rw [am_0 k, mw_0]
theorem am_succ {B : Nat → TJ} {n T : Nat} : ∀ k, am B (n + 1) T k = am B n T k + s2 B (n + 1) T k
  | 0 => rfl
  | k + 1 => by
    show am B (n + 1) T k + mw (B k) B k (n + 1) T = (am B n T k + mw (B k) B k n T) + (s2 B (n + 1) T k + t1 B (n + 1) k T)
    rw [am_succ k, mw_succ]
    omega
theorem meetB_comm {c c2 : Nat × Nat × Nat} : (meetB c c2 = true) ↔ (meetB c2 c = true) := by
  rw [meetB_iff, meetB_iff]
  constructor
  · rintro ⟨a, b, d⟩; exact ⟨by omega, by omega, by omega⟩
  · rintro ⟨a, b, d⟩; exact ⟨by omega, by omega, by omega⟩
/-- the row of the last town -/
theorem t1_last {B : Nat → TJ} {t T : Nat} : ∀ j, j ≤ T → t1 B t T j = p1 B t T j
  | 0, _ => rfl
  | j + 1, h => by
    show t1 B t T j + (if j ≠ T ∧ meetB (B T t) (B j t) = true then 1 else 0) = p1 B t T j + (if meetB (B T t) (B j t) = true then 1 else 0)
    rw [t1_last j (by omega)]
    by_cases m : meetB (B T t) (B j t) = true
    · rw [if_pos m, if_pos ⟨by omega, m⟩]
    · rw [if_neg m, if_neg (fun z => m z.2)]
/-- the column of the last town -/
theorem s2_col {B : Nat → TJ} {t T : Nat} : ∀ k, k ≤ T → s2 B t (T + 1) k = s2 B t T k + p1 B t T k
  | 0, _ => rfl
  | k + 1, h => by
    show s2 B t (T + 1) k + (t1 B t k T + if T ≠ k ∧ meetB (B k t) (B T t) = true then 1 else 0) = (s2 B t T k + t1 B t k T) + (p1 B t T k + if meetB (B T t) (B k t) = true then 1 else 0)
    rw [s2_col k (by omega)]
    by_cases m : meetB (B T t) (B k t) = true
    · rw [if_pos m, if_pos ⟨by omega, meetB_comm.1 m⟩]; omega
    · rw [if_neg m, if_neg (fun z => m (meetB_comm.1 z.2))]; omega
theorem s2_p2 {B : Nat → TJ} {t : Nat} : ∀ T, s2 B t T T = 2 * p2 B t T
  | 0 => rfl
  | T + 1 => by
    show s2 B t (T + 1) T + t1 B t T (T + 1) = 2 * (p2 B t T + p1 B t T T)
    rw [s2_col T (Nat.le_refl T), s2_p2 T]
    have e : t1 B t T (T + 1) = t1 B t T T := by
      show t1 B t T T + (if T ≠ T ∧ _ then 1 else 0) = _
      rw [if_neg (fun z => z.1 rfl)]
      rfl
    rw [e, t1_last T (Nat.le_refl T)]
    omega
theorem am_mt {B : Nat → TJ} {T : Nat} : ∀ n, am B n T T = 2 * mt B T n
  | 0 => am_0 T
  | n + 1 => by
    rw [am_succ, am_mt n, s2_p2]
    show _ = 2 * (mt B T n + p2 B (n + 1) T)
    omega
theorem am_half {B : Nat → TJ} {T n : Nat} : am B n T T / 2 = mt B T n := by
  rw [am_mt]
  omega
