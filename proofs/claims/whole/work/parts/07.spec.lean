/-! what a storm is, as numbers: S its levels, towns and lightnings, O its errands and gases -/
abbrev SD : Type := Nat → Nat → Nat
def sL (S : SD) : Nat := S 0 0
def sP (S : SD) (l : Nat) : Nat := S 1 l
def sW (S : SD) (l : Nat) : Nat := S 2 l
def sT (S : SD) : Nat := S 3 0
def sH (S : SD) (i : Nat) : Nat := S 4 i
def sF (S : SD) (i : Nat) : Nat := S 5 i
def sX (S : SD) (i : Nat) : Nat := S 6 i
def sK (S : SD) (i : Nat) : Nat := S 7 i
def sB (S : SD) : Nat := S 8 0
def sC (S : SD) (k : Nat) : Nat := S 9 k
def sD (S : SD) (k : Nat) : Nat := S 10 k
def oE (O : SD) : Nat := O 0 0
def oW (O : SD) (k : Nat) : Nat := O 1 k
def oD (O : SD) (k : Nat) : Nat := O 2 k
def oU (O : SD) (k : Nat) : Nat := O 3 k
def oG (O : SD) (i : Nat) : Nat := O 4 i
def WS (S : SD) : Prop := (1 ≤ sL S ∧ sL S ≤ 6) ∧ (1 ≤ sT S ∧ sT S ≤ 6) ∧ sB S ≤ 5 ∧ (∀ l, l < sL S → sP S l ≤ 23 ∧ sW S l ≤ 1) ∧ (∀ i, i < sT S → sH S i < sL S ∧ sF S i ≤ 23 ∧ 1 ≤ sX S i ∧ sX S i ≤ 9 ∧ sK S i ≤ 3) ∧ ∀ k, k < sB S → sC S k < sL S ∧ 1 ≤ sD S k ∧ sD S k ≤ 60
def WO (O : SD) (T : Nat) : Prop := oE O ≤ 8 ∧ (∀ k, k < oE O → oW O k < T ∧ 1 ≤ oD O k ∧ oD O k ≤ 60 ∧ oU O k ≤ 1) ∧ ∀ i, i < T → oG O i ≤ 60
/-- the component's storm at the place so -/
def SR (S : SD) (M : Mem) (so : Nat) : Prop := M so 9 = sL S ∧ M so 10 = sT S ∧ M so 11 = sB S ∧ (∀ l, l < sL S → M (so + 1) l = sP S l ∧ M (so + 2) l = sW S l) ∧ (∀ i, i < sT S → M (so + 3) i = sH S i ∧ M (so + 4) i = sF S i ∧ M (so + 5) i = sX S i ∧ M (so + 6) i = sK S i) ∧ ∀ k, k < sB S → M (so + 7) k = sC S k ∧ M (so + 8) k = sD S k
def OR (O : SD) (T : Nat) (M : Mem) (q q1 q2 q3 q4 : Nat) : Prop := M q 4 = oE O ∧ (∀ k, k < oE O → M q1 k = oW O k ∧ M q2 k = oD O k ∧ M q3 k = oU O k) ∧ ∀ i, i < T → M q4 i = oG O i
def SO (S O : SD) (M : Mem) (so : Nat) : Prop := SR S M so ∧ OR O (sT S) M (so + 9) (so + 10) (so + 11) (so + 12) (so + 13)
theorem SR.to {S : SD} {M M' : Mem} {so : Nat} (h : SR S M so) (hM : ∀ p, so ≤ p → p < so + 9 → M' p = M p) : SR S M' so := by
  obtain ⟨a, b, c, d, e, f⟩ := h
  have h0 := hM so (by omega) (by omega)
  have h1 := hM (so + 1) (by omega) (by omega)
  have h2 := hM (so + 2) (by omega) (by omega)
  have h3 := hM (so + 3) (by omega) (by omega)
  have h4 := hM (so + 4) (by omega) (by omega)
  have h5 := hM (so + 5) (by omega) (by omega)
  have h6 := hM (so + 6) (by omega) (by omega)
  have h7 := hM (so + 7) (by omega) (by omega)
  have h8 := hM (so + 8) (by omega) (by omega)
  exact ⟨by rw [h0]; exact a, by rw [h0]; exact b, by rw [h0]; exact c, by rw [h1, h2]; exact d, by rw [h3, h4, h5, h6]; exact e, by rw [h7, h8]; exact f⟩
theorem OR.to {O : SD} {T : Nat} {M M' : Mem} {q q1 q2 q3 q4 : Nat} (h : OR O T M q q1 q2 q3 q4) (h0 : M' q = M q) (h1 : M' q1 = M q1) (h2 : M' q2 = M q2) (h3 : M' q3 = M q3) (h4 : M' q4 = M q4) : OR O T M' q q1 q2 q3 q4 := by
  unfold OR
  rw [h0, h1, h2, h3, h4]
  exact h
theorem SO.to {S O : SD} {M M' : Mem} {so : Nat} (h : SO S O M so) (hM : ∀ p, so ≤ p → p < so + 14 → M' p = M p) : SO S O M' so :=
  ⟨h.1.to (fun p a b => hM p a (by omega)), h.2.to (hM _ (by omega) (by omega)) (hM _ (by omega) (by omega)) (hM _ (by omega) (by omega)) (hM _ (by omega) (by omega)) (hM _ (by omega) (by omega))⟩
/-! a town's course -/
def hitN (S : SD) (l d : Nat) : Nat → Bool
  | 0 => false
  | k + 1 => hitN S l d k || (sC S k == l && sD S k == d)
def hit (S : SD) (l d : Nat) : Bool := hitN S l d (sB S)
theorem hitN_mono {S : SD} {l d : Nat} : ∀ (n k : Nat), hitN S l d k = true → hitN S l d (k + n) = true
  | 0, k, h => h
  | n + 1, k, h => by
    show (hitN S l d (k + n) || _) = true
    rw [hitN_mono n k h]
    rfl
theorem hit_of {S : SD} {l d k : Nat} (hk : k < sB S) (h1 : sC S k = l) (h2 : sD S k = d) : hit S l d = true := by
  have : hitN S l d (k + 1) = true := by
    show (hitN S l d k || (sC S k == l && sD S k == d)) = true
    rw [h1, h2]
    simp
  have h3 := hitN_mono (sB S - (k + 1)) (k + 1) this
  rw [show k + 1 + (sB S - (k + 1)) = sB S by omega] at h3
  exact h3
theorem hitN_no {S : SD} {l d k : Nat} (h : hitN S l d k = false) (h1 : ¬ (sC S k = l ∧ sD S k = d)) : hitN S l d (k + 1) = false := by
  show (hitN S l d k || (sC S k == l && sD S k == d)) = false
  rw [h]
  simp
  intro a b
  exact h1 ⟨a, b⟩
def loss (S : SD) (i l d : Nat) : Nat := match sK S i with
  | 1 => 2
  | 2 => 1 - sW S l
  | 3 => 1 - d % 2
  | _ => 1
def gasL (S : SD) (i l d g : Nat) : Nat := (if hit S l d = true then g / 2 else g) - loss S i l d
/-- the first k errands of a day, for one town: level and gas -/
def er (S O : SD) (i d : Nat) : Nat → Nat × Nat → Nat × Nat
  | 0, c => c
  | k + 1, c => if oW O k = i ∧ oD O k = d then (if oU O k = 0 then ((er S O i d k c).1 - 1, (er S O i d k c).2) else if (er S O i d k c).1 + 1 < sL S ∧ sX S i ≤ (er S O i d k c).2 then ((er S O i d k c).1 + 1, (er S O i d k c).2 - sX S i) else er S O i d k c) else er S O i d k c
theorem er_wf {S O : SD} {i d : Nat} {c : Nat × Nat} (hc : c.1 < sL S) : ∀ k, (er S O i d k c).1 < sL S ∧ (er S O i d k c).2 ≤ c.2
  | 0 => ⟨hc, Nat.le_refl _⟩
  | k + 1 => by
    have ih := er_wf (O := O) (i := i) (d := d) hc k
    unfold er
    split
    · split
      · exact ⟨by show _ - 1 < _; omega, ih.2⟩
      · split
        · rename_i h; exact ⟨h.1, by show _ - _ ≤ _; omega⟩
        · exact ih
    · exact ih
def sink (e : Nat × Nat) : Nat := if 0 < e.2 then e.1 else if 0 < e.1 then e.1 - 1 else 9
/-- level, place, gas -/
def stepC (S O : SD) (i d : Nat) (c : Nat × Nat × Nat) : Nat × Nat × Nat := if c.1 = 9 then c else if sink (er S O i d (oE O) (c.1, c.2.2)) = 9 then (9, c.2.1, (er S O i d (oE O) (c.1, c.2.2)).2) else (sink (er S O i d (oE O) (c.1, c.2.2)), (c.2.1 + sP S (sink (er S O i d (oE O) (c.1, c.2.2)))) % 24, gasL S i (sink (er S O i d (oE O) (c.1, c.2.2))) d (er S O i d (oE O) (c.1, c.2.2)).2)
def crs (S O : SD) (i l0 x0 : Nat) : Nat → Nat × Nat × Nat
  | 0 => (l0, x0, oG O i)
  | d + 1 => stepC S O i (d + 1) (crs S O i l0 x0 d)
def lst (S O : SD) (i l0 x0 : Nat) : Nat → Int
  | 0 => -4
  | d + 1 => if (crs S O i l0 x0 d).1 ≠ 9 ∧ (crs S O i l0 x0 (d + 1)).1 = 9 then ((d + 1 : Nat) : Int) else lst S O i l0 x0 d
theorem sink_wf {S : SD} {e : Nat × Nat} (h : e.1 < sL S) : sink e < sL S ∨ sink e = 9 := by
  unfold sink
  split
  · exact Or.inl h
  · split
    · exact Or.inl (by omega)
    · exact Or.inr rfl
theorem loss_le {S : SD} {i l d : Nat} : loss S i l d ≤ 2 := by
  unfold loss
  split <;> omega
theorem gasL_le {S : SD} {i l d g : Nat} : gasL S i l d g ≤ g := by
  unfold gasL
  split <;> omega
theorem step_wf {S O : SD} {i d : Nat} {c : Nat × Nat × Nat} (h : (c.1 < sL S ∨ c.1 = 9) ∧ c.2.1 ≤ 23 ∧ c.2.2 ≤ 60) : ((stepC S O i d c).1 < sL S ∨ (stepC S O i d c).1 = 9) ∧ (stepC S O i d c).2.1 ≤ 23 ∧ (stepC S O i d c).2.2 ≤ 60 := by
  unfold stepC
  by_cases h9 : c.1 = 9
  · rw [if_pos h9]; exact h
  · rw [if_neg h9]
    have hw := er_wf (S := S) (O := O) (i := i) (d := d) (c := (c.1, c.2.2)) (by rcases h.1 with q | q; exact q; exact absurd q h9) (oE O)
    have hs := sink_wf hw.1
    have h2 : (er S O i d (oE O) (c.1, c.2.2)).2 ≤ c.2.2 := hw.2
    by_cases hk : sink (er S O i d (oE O) (c.1, c.2.2)) = 9
    · rw [if_pos hk]; exact ⟨Or.inr rfl, h.2.1, Nat.le_trans h2 h.2.2⟩
    · rw [if_neg hk]
      refine ⟨hs, by show _ % 24 ≤ 23; omega, ?_⟩
      show gasL _ _ _ _ _ ≤ 60
      exact Nat.le_trans gasL_le (by omega)
theorem crs_wf {S O : SD} {i l0 x0 : Nat} (h0 : l0 < sL S) (hx : x0 ≤ 23) (hg : oG O i ≤ 60) : ∀ d, ((crs S O i l0 x0 d).1 < sL S ∨ (crs S O i l0 x0 d).1 = 9) ∧ (crs S O i l0 x0 d).2.1 ≤ 23 ∧ (crs S O i l0 x0 d).2.2 ≤ 60
  | 0 => ⟨Or.inl h0, hx, hg⟩
  | d + 1 => step_wf (crs_wf h0 hx hg d)

