theorem lcmp_spec {x y c : Int} (h : lcmp x y = c) : (c = 0 ∧ x = y) ∨ (c = 1 ∧ y < x) ∨ (c = -1 ∧ x < y) := by
  unfold lcmp at h
  split at h
  · omega
  · split at h <;> omega
def IsJ (o N n : Nat) : Prop := o < N ∧ pcl o = 101 ∧ plen o = n
abbrev IsJ6 (o N : Nat) : Prop := IsJ o N 6
theorem IsJ.p0 {o N n : Nat} (h : IsJ o N n) : o < N := h.1
theorem IsJ.c0 {o N n : Nat} (h : IsJ o N n) : pcl o = 101 := h.2.1
theorem IsJ.l0 {o N n : Nat} (h : IsJ o N n) : plen o = n := h.2.2
/-! chances -/
def gs (L x : Nat) (w : Nat → Nat) : Nat → Nat → Nat
  | 0, _ => 0
  | k + 1, m => gs L x w k m + (if m = min (k + 1) (L - 1) then w k * x else 0) + (if m = k - 1 then w k * (10 - x) else 0)
def gw (L l x : Nat) : Nat → Nat → Nat
  | 0, k => if k = l then 1 else 0
  | n + 1, m => gs L x (gw L l x n) L m
def pw : Nat → Nat
  | 0 => 1
  | n + 1 => pw n * 10
def p60 : Nat → Nat
  | 0 => 1
  | n + 1 => p60 n * 60
theorem gs_le {L x B : Nat} {w : Nat → Nat} (hx : x ≤ 10) (hw : ∀ k, w k ≤ B) : ∀ k m, gs L x w k m ≤ k * (10 * B)
  | 0, m => by simp [gs]
  | k + 1, m => by
    have ih := gs_le (L := L) hx hw k m
    have h1 : w k * x + w k * (10 - x) = w k * 10 := by rw [← Nat.mul_add]; congr 1; omega
    have h2 := hw k
    have h3 : (k + 1) * (10 * B) = k * (10 * B) + 10 * B := Nat.succ_mul _ _
    unfold gs
    generalize w k * x = A at h1 ⊢
    generalize w k * (10 - x) = C at h1 ⊢
    generalize k * (10 * B) = D at ih h3 ⊢
    split <;> split <;> omega
theorem gw_le {L l x : Nat} (hx : x ≤ 10) (hL : L ≤ 6) : ∀ n m, gw L l x n m ≤ p60 n
  | 0, m => by
    unfold gw p60
    split <;> omega
  | n + 1, m => by
    have := gs_le (L := L) hx (gw_le (l := l) hx hL n) L m
    have h2 : L * (10 * p60 n) ≤ 6 * (10 * p60 n) := Nat.mul_le_mul hL (Nat.le_refl _)
    show gs L x (gw L l x n) L m ≤ p60 n * 60
    omega
theorem p60_le : ∀ n, n ≤ 9 → p60 n ≤ 10077696000000000 ∧ pw n ≤ 1000000000
  | 0, _ => by decide
  | 1, _ => by decide
  | 2, _ => by decide
  | 3, _ => by decide
  | 4, _ => by decide
  | 5, _ => by decide
  | 6, _ => by decide
  | 7, _ => by decide
  | 8, _ => by decide
  | 9, _ => by decide
  | n + 10, h => absurd h (by omega)
def lo (p : Nat) (c : Nat × Nat) : Nat × Nat := if c.1 % p = 0 ∧ c.2 % p = 0 then (c.1 / p, c.2 / p) else c
def red : Nat → Nat × Nat → Nat × Nat
  | 0, c => c
  | k + 1, c => lo 5 (lo 2 (red k c))
theorem lo_le {p : Nat} {c : Nat × Nat} : (lo p c).1 ≤ c.1 ∧ (lo p c).2 ≤ c.2 := by
  unfold lo
  split
  · exact ⟨Nat.div_le_self _ _, Nat.div_le_self _ _⟩
  · exact ⟨Nat.le_refl _, Nat.le_refl _⟩
theorem red_le {c : Nat × Nat} : ∀ k, (red k c).1 ≤ c.1 ∧ (red k c).2 ≤ c.2
  | 0 => ⟨Nat.le_refl _, Nat.le_refl _⟩
  | k + 1 => by
    have ih := red_le (c := c) k
    have h1 := lo_le (p := 2) (c := red k c)
    have h2 := lo_le (p := 5) (c := lo 2 (red k c))
    exact ⟨by show (lo 5 _).1 ≤ _; omega, by show (lo 5 _).2 ≤ _; omega⟩
/-- behind k rounds: the divisor that was taken out, the twos and fives that are left below -/
theorem red_inv {a n : Nat} : ∀ k, k ≤ n → ∃ d i j, a = (red k (a, 2 ^ n * 5 ^ n)).1 * d ∧ 2 ^ n * 5 ^ n = (red k (a, 2 ^ n * 5 ^ n)).2 * d ∧ (red k (a, 2 ^ n * 5 ^ n)).2 = 2 ^ i * 5 ^ j ∧ (i + k ≤ n ∨ (red k (a, 2 ^ n * 5 ^ n)).1 % 2 ≠ 0) ∧ (j + k ≤ n ∨ (red k (a, 2 ^ n * 5 ^ n)).1 % 5 ≠ 0)
  | 0, _ => ⟨1, n, n, by simp [red], by simp [red], rfl, Or.inl (by omega), Or.inl (by omega)⟩
  | k + 1, hk => by
    obtain ⟨d, i, j, h1, h2, h3, h4, h5⟩ := red_inv (a := a) (n := n) k (by omega)
    generalize hc : red k (a, 2 ^ n * 5 ^ n) = c at h1 h2 h3 h4 h5
    obtain ⟨x, y⟩ := c
    have e : red (k + 1) (a, 2 ^ n * 5 ^ n) = lo 5 (lo 2 (x, y)) := by show lo 5 (lo 2 (red k _)) = _; rw [hc]
    rw [e]
    have five_odd : ∀ j, (5 ^ j) % 2 = 1 := fun j => by
      induction j with
      | zero => rfl
      | succ j ih => rw [Nat.pow_succ]; omega
    have two_five : ∀ i, (2 ^ i) % 5 ≠ 0 := fun i => by
      induction i with
      | zero => decide
      | succ i ih => rw [Nat.pow_succ]; omega
    dsimp only at h1 h2 h3 h4 h5
    -- the twos
    have s2 : ∃ d i, a = (lo 2 (x, y)).1 * d ∧ 2 ^ n * 5 ^ n = (lo 2 (x, y)).2 * d ∧ (lo 2 (x, y)).2 = 2 ^ i * 5 ^ j ∧ (i + (k + 1) ≤ n ∨ (lo 2 (x, y)).1 % 2 ≠ 0) ∧ (j + k ≤ n ∨ (lo 2 (x, y)).1 % 5 ≠ 0) := by
      unfold lo
      dsimp only
      by_cases hq : x % 2 = 0 ∧ y % 2 = 0
      · rw [if_pos hq]
        dsimp only
        cases i with
        | zero =>
          have := five_odd j
          rw [h3, Nat.pow_zero, Nat.one_mul] at hq
          omega
        | succ i =>
          have hx2 : x = x / 2 * 2 := by omega
          have hy2 : y = y / 2 * 2 := by omega
          have hy3 : y / 2 = 2 ^ i * 5 ^ j := by rw [h3, Nat.pow_succ, Nat.mul_right_comm]; exact Nat.mul_div_cancel _ (by decide)
          refine ⟨2 * d, i, by rw [← Nat.mul_assoc, ← hx2]; exact h1, by rw [← Nat.mul_assoc, ← hy2]; exact h2, hy3, ?_, ?_⟩
          · rcases h4 with h4 | h4
            · exact Or.inl (by omega)
            · exact absurd hq.1 h4
          · rcases h5 with h5 | h5
            · exact Or.inl h5
            · exact Or.inr (by omega)
      · rw [if_neg hq]
        refine ⟨d, i, h1, h2, h3, ?_, h5⟩
        dsimp only
        rcases h4 with h4 | h4
        · cases i with
          | zero => exact Or.inl (by omega)
          | succ i =>
            refine Or.inr (fun z => hq ⟨z, ?_⟩)
            rw [h3, Nat.pow_succ, Nat.mul_right_comm]
            exact Nat.mul_mod_left _ _
        · exact Or.inr h4
    obtain ⟨d, i, g1, g2, g3, g4, g5⟩ := s2
    generalize lo 2 (x, y) = c at g1 g2 g3 g4 g5 ⊢
    obtain ⟨x, y⟩ := c
    dsimp only at g1 g2 g3 g4 g5
    unfold lo
    dsimp only
    by_cases hq : x % 5 = 0 ∧ y % 5 = 0
    · rw [if_pos hq]
      dsimp only
      cases j with
      | zero =>
        have := two_five i
        rw [g3, Nat.pow_zero, Nat.mul_one] at hq
        omega
      | succ j =>
        have hx2 : x = x / 5 * 5 := by omega
        have hy2 : y = y / 5 * 5 := by omega
        have hy3 : y / 5 = 2 ^ i * 5 ^ j := by rw [g3, Nat.pow_succ, ← Nat.mul_assoc]; exact Nat.mul_div_cancel _ (by decide)
        refine ⟨5 * d, i, j, by rw [← Nat.mul_assoc, ← hx2]; exact g1, by rw [← Nat.mul_assoc, ← hy2]; exact g2, hy3, ?_, ?_⟩
        · rcases g4 with g4 | g4
          · exact Or.inl g4
          · exact Or.inr (by omega)
        · rcases g5 with g5 | g5
          · exact Or.inl (by omega)
          · exact absurd hq.1 g5
    · rw [if_neg hq]
      refine ⟨d, i, j, g1, g2, g3, g4, ?_⟩
      dsimp only
      rcases g5 with g5 | g5
      · cases j with
        | zero => exact Or.inl (by omega)
        | succ j =>
          refine Or.inr (fun z => hq ⟨z, ?_⟩)
          rw [g3, Nat.pow_succ, ← Nat.mul_assoc]
          exact Nat.mul_mod_left _ _
      · exact Or.inr g5
theorem pw_eq : ∀ n, pw n = 2 ^ n * 5 ^ n
  | 0 => rfl
  | n + 1 => by
    show pw n * 10 = _
    rw [pw_eq n, Nat.pow_succ, Nat.pow_succ]
    generalize 2 ^ n = A
    generalize 5 ^ n = B
    rw [Nat.mul_mul_mul_comm]
theorem red_gcd {a n : Nat} : red n (a, pw n) = (a / Nat.gcd a (pw n), pw n / Nat.gcd a (pw n)) := by
  rw [pw_eq]
  obtain ⟨d, i, j, h1, h2, h3, h4, h5⟩ := red_inv (a := a) (n := n) n (Nat.le_refl n)
  generalize red n (a, 2 ^ n * 5 ^ n) = c at h1 h2 h3 h4 h5
  obtain ⟨x, y⟩ := c
  dsimp only at h1 h2 h3 h4 h5
  have c2 : Nat.Coprime x (2 ^ i) := by
    rcases h4 with h4 | h4
    · have : i = 0 := by omega
      subst this
      exact Nat.coprime_one_right x
    · refine Nat.Coprime.pow_right i ?_
      have hg : Nat.gcd x 2 ∣ 2 := Nat.gcd_dvd_right x 2
      have hg2 : Nat.gcd x 2 ∣ x := Nat.gcd_dvd_left x 2
      have hle := Nat.le_of_dvd (by decide) hg
      show Nat.gcd x 2 = 1
      generalize Nat.gcd x 2 = q at hg hg2 hle
      match q, hle with
      | 0, _ => exact absurd (Nat.eq_zero_of_zero_dvd hg) (by decide)
      | 1, _ => rfl
      | 2, _ => exact absurd (Nat.mod_eq_zero_of_dvd hg2) h4
  have c5 : Nat.Coprime x (5 ^ j) := by
    rcases h5 with h5 | h5
    · have : j = 0 := by omega
      subst this
      exact Nat.coprime_one_right x
    · refine Nat.Coprime.pow_right j ?_
      have hg : Nat.gcd x 5 ∣ 5 := Nat.gcd_dvd_right x 5
      have hg2 : Nat.gcd x 5 ∣ x := Nat.gcd_dvd_left x 5
      have hle := Nat.le_of_dvd (by decide) hg
      show Nat.gcd x 5 = 1
      generalize Nat.gcd x 5 = q at hg hg2 hle
      match q, hle with
      | 0, _ => exact absurd (Nat.eq_zero_of_zero_dvd hg) (by decide)
      | 1, _ => rfl
      | 2, _ => exact absurd hg (by decide)
      | 3, _ => exact absurd hg (by decide)
      | 4, _ => exact absurd hg (by decide)
      | 5, _ => exact absurd (Nat.mod_eq_zero_of_dvd hg2) h5
  have hcop : Nat.gcd x y = 1 := by rw [h3]; exact Nat.Coprime.mul_right c2 c5
  have hd : 0 < d := by
    rcases Nat.eq_zero_or_pos d with q | q
    · rw [q, Nat.mul_zero] at h2
      exact absurd h2 (Nat.ne_of_gt (Nat.mul_pos (Nat.pow_pos (by decide)) (Nat.pow_pos (by decide))))
    · exact q
  have hg : Nat.gcd a (2 ^ n * 5 ^ n) = d := by
    rw [h2, h1, Nat.gcd_mul_right, hcop, Nat.one_mul]
  rw [hg]
  have e1 : a / d = x := by rw [h1]; exact Nat.mul_div_cancel _ hd
  have e2 : 2 ^ n * 5 ^ n / d = y := by rw [h2]; exact Nat.mul_div_cancel _ hd
  rw [e1, e2]
set_option maxRecDepth 100000 in
set_option maxHeartbeats 4000000 in
theorem c_leaveOut2 {gg : GT} {ad : Nat → Nat} {N : Nat} {M : Mem} {Post : Option AV → Mem → Prop} {a b : Nat}   (hN : 110 ≤ N) (h2 : M 64 2 = a) (h3 : M 64 3 = b) (ha0 : a ≤ 10077696000000000) (hb0 : b ≤ 10077696000000000) (K : ∀ M2 : Mem, M2 64 2 = (lo 2 (a, b)).1 → M2 64 3 = (lo 2 (a, b)).2 → (∀ q j, (q ≠ 64 ∨ (j ≠ 2 ∧ j ≠ 3)) → M2 q j = M q j) → Post none M2) : Sp gg yX4_leaveOut cX4_leaveOut 2 none rmX4_leaveOut [vr 64, vi 2] ad N pT M Post := by
  refine Sp.intro (ls := [some (vr 64), some (vi 2)]) (by decide +kernel) rfl (Nat.le_of_ble_eq_true rfl) fun κ hgg h hr ha => ?_
  have h : Ok κ RX4 cX4_leaveOut 2 rmX4_leaveOut := h
  subst hgg
  refine e_iload_n h dX4_leaveOut_0 (pc := 0) rfl ?_
  refine e_iconst h dX4_leaveOut_1 (pc := 1)  ?_
  refine e_icmp_le h (tgt := 51) dX4_leaveOut_2 (pc := 2) (by decide) (by decide) (by decide) (fun hz => absurd hz (by decide)) (fun _ => ?_)
  refine e_aload_n h dX4_leaveOut_5 (pc := 5) rfl ?_
  refine e_getJ h fl_X4_28 dX4_leaveOut_6 (pc := 6) rfl (Nat.lt_of_lt_of_le (by decide) hN) rfl ?_
  refine e_iload_n h dX4_leaveOut_9 (pc := 9) rfl ?_
  refine e_i2l h dX4_leaveOut_10 (pc := 10) (by decide) ?_
  refine e_lrem h dX4_leaveOut_11 (pc := 11) (by omega) (by decide) ?_
  rw [show (M 64 2).tmod 2 = ((a % 2 : Nat) : Int) by rw [h2, Int.tmod_eq_emod_of_nonneg (by omega)]; omega]
  refine e_lconst h dX4_leaveOut_12 (pc := 12) (x := 0) rfl ?_
  refine e_lcmp h dX4_leaveOut_13 (pc := 13) (by omega) (by decide) ?_
  generalize hlc13 : lcmp _ _ = lc13
  have hlr13 := lcmp_spec hlc13
  refine e_if_ne h (tgt := 51) dX4_leaveOut_14 (pc := 14) (by decide) (by omega) (fun hb14 => ?_) (fun hb14 => ?_)
  · refine e_vret h hr ha dX4_leaveOut_51 (pc := 51) ?_
    have e : lo 2 (a, b) = (a, b) := by unfold lo; rw [if_neg (by dsimp only; omega)]
    exact K M (by rw [e]; exact h2) (by rw [e]; exact h3) (fun _ _ _ => rfl)
  · refine e_aload_n h dX4_leaveOut_17 (pc := 17) rfl ?_
    refine e_getJ h fl_X4_18 dX4_leaveOut_18 (pc := 18) rfl (Nat.lt_of_lt_of_le (by decide) hN) rfl ?_
    refine e_iload_n h dX4_leaveOut_21 (pc := 21) rfl ?_
    refine e_i2l h dX4_leaveOut_22 (pc := 22) (by decide) ?_
    refine e_lrem h dX4_leaveOut_23 (pc := 23) (by omega) (by decide) ?_
    rw [show (M 64 3).tmod 2 = ((b % 2 : Nat) : Int) by rw [h3, Int.tmod_eq_emod_of_nonneg (by omega)]; omega]
    refine e_lconst h dX4_leaveOut_24 (pc := 24) (x := 0) rfl ?_
    refine e_lcmp h dX4_leaveOut_25 (pc := 25) (by omega) (by decide) ?_
    generalize hlc25 : lcmp _ _ = lc25
    have hlr25 := lcmp_spec hlc25
    refine e_if_ne h (tgt := 51) dX4_leaveOut_26 (pc := 26) (by decide) (by omega) (fun hb26 => ?_) (fun hb26 => ?_)
    · refine e_vret h hr ha dX4_leaveOut_51 (pc := 51) ?_
      have e : lo 2 (a, b) = (a, b) := by unfold lo; rw [if_neg (by dsimp only; omega)]
      exact K M (by rw [e]; exact h2) (by rw [e]; exact h3) (fun _ _ _ => rfl)
    · refine e_aload_n h dX4_leaveOut_29 (pc := 29) rfl ?_
      refine e_dup h dX4_leaveOut_30 (pc := 30) rfl ?_
      refine e_getJ h fl_X4_28 dX4_leaveOut_31 (pc := 31) rfl (Nat.lt_of_lt_of_le (by decide) hN) rfl ?_
      refine e_iload_n h dX4_leaveOut_34 (pc := 34) rfl ?_
      refine e_i2l h dX4_leaveOut_35 (pc := 35) (by decide) ?_
      refine e_ldiv h dX4_leaveOut_36 (pc := 36) (by omega) (by decide) ?_
      rw [show (M 64 2).tdiv 2 = ((a / 2 : Nat) : Int) by rw [h2, Int.tdiv_eq_ediv_of_nonneg (by omega)]; omega]
      refine e_putJ h fl_X4_28 dX4_leaveOut_37 (pc := 37) rfl (Nat.lt_of_lt_of_le (by decide) hN) rfl ?_
      refine e_aload_n h dX4_leaveOut_40 (pc := 40) rfl ?_
      refine e_dup h dX4_leaveOut_41 (pc := 41) rfl ?_
      refine e_getJ h fl_X4_18 dX4_leaveOut_42 (pc := 42) rfl (Nat.lt_of_lt_of_le (by decide) hN) rfl ?_
      try simp (disch := omega) only [up_eq, up_ne]
      refine e_iload_n h dX4_leaveOut_45 (pc := 45) rfl ?_
      refine e_i2l h dX4_leaveOut_46 (pc := 46) (by decide) ?_
      refine e_ldiv h dX4_leaveOut_47 (pc := 47) (by omega) (by decide) ?_
      rw [show (M 64 3).tdiv 2 = ((b / 2 : Nat) : Int) by rw [h3, Int.tdiv_eq_ediv_of_nonneg (by omega)]; omega]
      refine e_putJ h fl_X4_18 dX4_leaveOut_48 (pc := 48) rfl (Nat.lt_of_lt_of_le (by decide) hN) rfl ?_
      refine e_vret h hr ha dX4_leaveOut_51 (pc := 51) ?_
      have e : lo 2 (a, b) = (a / 2, b / 2) := by unfold lo; rw [if_pos (by dsimp only; omega)]
      exact K _ (by rw [e]; simp (disch := omega) only [up_eq, up_ne]) (by rw [e]; simp (disch := omega) only [up_eq, up_ne]) (fun q j hq => by simp (disch := omega) only [up_eq, up_ne])
set_option maxRecDepth 100000 in
set_option maxHeartbeats 4000000 in
theorem c_leaveOut5 {gg : GT} {ad : Nat → Nat} {N : Nat} {M : Mem} {Post : Option AV → Mem → Prop} {a b : Nat}   (hN : 110 ≤ N) (h2 : M 64 2 = a) (h3 : M 64 3 = b) (ha0 : a ≤ 10077696000000000) (hb0 : b ≤ 10077696000000000) (K : ∀ M2 : Mem, M2 64 2 = (lo 5 (a, b)).1 → M2 64 3 = (lo 5 (a, b)).2 → (∀ q j, (q ≠ 64 ∨ (j ≠ 2 ∧ j ≠ 3)) → M2 q j = M q j) → Post none M2) : Sp gg yX4_leaveOut cX4_leaveOut 2 none rmX4_leaveOut [vr 64, vi 5] ad N pT M Post := by
  refine Sp.intro (ls := [some (vr 64), some (vi 5)]) (by decide +kernel) rfl (Nat.le_of_ble_eq_true rfl) fun κ hgg h hr ha => ?_
  have h : Ok κ RX4 cX4_leaveOut 2 rmX4_leaveOut := h
  subst hgg
  refine e_iload_n h dX4_leaveOut_0 (pc := 0) rfl ?_
  refine e_iconst h dX4_leaveOut_1 (pc := 1)  ?_
  refine e_icmp_le h (tgt := 51) dX4_leaveOut_2 (pc := 2) (by decide) (by decide) (by decide) (fun hz => absurd hz (by decide)) (fun _ => ?_)
  refine e_aload_n h dX4_leaveOut_5 (pc := 5) rfl ?_
  refine e_getJ h fl_X4_28 dX4_leaveOut_6 (pc := 6) rfl (Nat.lt_of_lt_of_le (by decide) hN) rfl ?_
  refine e_iload_n h dX4_leaveOut_9 (pc := 9) rfl ?_
  refine e_i2l h dX4_leaveOut_10 (pc := 10) (by decide) ?_
  refine e_lrem h dX4_leaveOut_11 (pc := 11) (by omega) (by decide) ?_
  rw [show (M 64 2).tmod 5 = ((a % 5 : Nat) : Int) by rw [h2, Int.tmod_eq_emod_of_nonneg (by omega)]; omega]
  refine e_lconst h dX4_leaveOut_12 (pc := 12) (x := 0) rfl ?_
  refine e_lcmp h dX4_leaveOut_13 (pc := 13) (by omega) (by decide) ?_
  generalize hlc13 : lcmp _ _ = lc13
  have hlr13 := lcmp_spec hlc13
  refine e_if_ne h (tgt := 51) dX4_leaveOut_14 (pc := 14) (by decide) (by omega) (fun hb14 => ?_) (fun hb14 => ?_)
  · refine e_vret h hr ha dX4_leaveOut_51 (pc := 51) ?_
    have e : lo 5 (a, b) = (a, b) := by unfold lo; rw [if_neg (by dsimp only; omega)]
    exact K M (by rw [e]; exact h2) (by rw [e]; exact h3) (fun _ _ _ => rfl)
  · refine e_aload_n h dX4_leaveOut_17 (pc := 17) rfl ?_
    refine e_getJ h fl_X4_18 dX4_leaveOut_18 (pc := 18) rfl (Nat.lt_of_lt_of_le (by decide) hN) rfl ?_
    refine e_iload_n h dX4_leaveOut_21 (pc := 21) rfl ?_
    refine e_i2l h dX4_leaveOut_22 (pc := 22) (by decide) ?_
    refine e_lrem h dX4_leaveOut_23 (pc := 23) (by omega) (by decide) ?_
    rw [show (M 64 3).tmod 5 = ((b % 5 : Nat) : Int) by rw [h3, Int.tmod_eq_emod_of_nonneg (by omega)]; omega]
    refine e_lconst h dX4_leaveOut_24 (pc := 24) (x := 0) rfl ?_
    refine e_lcmp h dX4_leaveOut_25 (pc := 25) (by omega) (by decide) ?_
    generalize hlc25 : lcmp _ _ = lc25
    have hlr25 := lcmp_spec hlc25
    refine e_if_ne h (tgt := 51) dX4_leaveOut_26 (pc := 26) (by decide) (by omega) (fun hb26 => ?_) (fun hb26 => ?_)
    · refine e_vret h hr ha dX4_leaveOut_51 (pc := 51) ?_
      have e : lo 5 (a, b) = (a, b) := by unfold lo; rw [if_neg (by dsimp only; omega)]
      exact K M (by rw [e]; exact h2) (by rw [e]; exact h3) (fun _ _ _ => rfl)
    · refine e_aload_n h dX4_leaveOut_29 (pc := 29) rfl ?_
      refine e_dup h dX4_leaveOut_30 (pc := 30) rfl ?_
      refine e_getJ h fl_X4_28 dX4_leaveOut_31 (pc := 31) rfl (Nat.lt_of_lt_of_le (by decide) hN) rfl ?_
      refine e_iload_n h dX4_leaveOut_34 (pc := 34) rfl ?_
      refine e_i2l h dX4_leaveOut_35 (pc := 35) (by decide) ?_
      refine e_ldiv h dX4_leaveOut_36 (pc := 36) (by omega) (by decide) ?_
      rw [show (M 64 2).tdiv 5 = ((a / 5 : Nat) : Int) by rw [h2, Int.tdiv_eq_ediv_of_nonneg (by omega)]; omega]
      refine e_putJ h fl_X4_28 dX4_leaveOut_37 (pc := 37) rfl (Nat.lt_of_lt_of_le (by decide) hN) rfl ?_
      refine e_aload_n h dX4_leaveOut_40 (pc := 40) rfl ?_
      refine e_dup h dX4_leaveOut_41 (pc := 41) rfl ?_
      refine e_getJ h fl_X4_18 dX4_leaveOut_42 (pc := 42) rfl (Nat.lt_of_lt_of_le (by decide) hN) rfl ?_
      try simp (disch := omega) only [up_eq, up_ne]
      refine e_iload_n h dX4_leaveOut_45 (pc := 45) rfl ?_
      refine e_i2l h dX4_leaveOut_46 (pc := 46) (by decide) ?_
      refine e_ldiv h dX4_leaveOut_47 (pc := 47) (by omega) (by decide) ?_
      rw [show (M 64 3).tdiv 5 = ((b / 5 : Nat) : Int) by rw [h3, Int.tdiv_eq_ediv_of_nonneg (by omega)]; omega]
      refine e_putJ h fl_X4_18 dX4_leaveOut_48 (pc := 48) rfl (Nat.lt_of_lt_of_le (by decide) hN) rfl ?_
      refine e_vret h hr ha dX4_leaveOut_51 (pc := 51) ?_
      have e : lo 5 (a, b) = (a / 5, b / 5) := by unfold lo; rw [if_pos (by dsimp only; omega)]
      exact K _ (by rw [e]; simp (disch := omega) only [up_eq, up_ne]) (by rw [e]; simp (disch := omega) only [up_eq, up_ne]) (fun q j hq => by simp (disch := omega) only [up_eq, up_ne])
set_option maxRecDepth 100000 in
set_option maxHeartbeats 4000000 in
theorem c_reduce {gg : GT} {ad : Nat → Nat} {N : Nat} {M : Mem} {Post : Option AV → Mem → Prop} {a b n : Nat}  {xn : Int} (hxn : xn = (n : Int))  (hN : 110 ≤ N) (h2 : M 64 2 = a) (h3 : M 64 3 = b) (ha0 : a ≤ 10077696000000000) (hb0 : b ≤ 10077696000000000) (hn9 : n ≤ 9) (K : ∀ M2 : Mem, M2 64 2 = (red n (a, b)).1 → M2 64 3 = (red n (a, b)).2 → (∀ q j, (q ≠ 64 ∨ (j ≠ 2 ∧ j ≠ 3)) → M2 q j = M q j) → Post none M2) : Sp gg yX4_reduce cX4_reduce 3 none rmX4_reduce [vr 64, vi xn] ad N pT M Post := by
  refine Sp.intro (ls := [some (vr 64), some (vi xn), none]) (by decide +kernel) rfl (Nat.le_of_ble_eq_true rfl) fun κ hgg h hr ha => ?_
  have h : Ok κ RX4 cX4_reduce 3 rmX4_reduce := h
  subst hgg
  subst hxn
  have loop : ∀ (n1 k : Nat) (M1 : Mem), k ≤ n → n < k + n1 → M1 64 2 = (red k (a, b)).1 → M1 64 3 = (red k (a, b)).2 → (∀ q j, (q ≠ 64 ∨ (j ≠ 2 ∧ j ≠ 3)) → M1 q j = M q j) → E κ ad N pT M1 2 [some (vr 64), some (vi (n : Int)), some (vi (k : Int))] [] (0, 0) (QR κ ad N pT Post) := by
    intro n1
    induction n1 with
    | zero => intro k M1 h1 h2; exact absurd h2 (by omega)
    | succ n1 ih =>
      intro k M1 hk hn1 h2 h3 hfr
      refine e_iload_n h dX4_reduce_2 (pc := 2) rfl ?_
      refine e_iload_n h dX4_reduce_3 (pc := 3) rfl ?_
      refine e_icmp_ge h (tgt := 23) dX4_reduce_4 (pc := 4) (by decide) (by omega) (by omega) (fun hb4 => ?_) (fun hb4 => ?_)
      · refine e_vret h hr ha dX4_reduce_23 (pc := 23) ?_
        have hkn : k = n := by omega
        subst hkn
        exact K M1 h2 h3 hfr
      · refine e_aload_n h dX4_reduce_7 (pc := 7) rfl ?_
        refine e_iconst h dX4_reduce_8 (pc := 8)  ?_
        refine e_callV1 lk_X4_44 mv_X4_leaveOut dX4_reduce_9 (pc := 9) rfl (by decide) (Nat.lt_of_lt_of_le (by decide) hN) (Nat.le_of_ble_eq_true rfl) (rmY := rmX4_leaveOut) (by decide) h ?_
        have rl := red_le (c := (a, b)) k
        refine c_leaveOut2 (a := (red k (a, b)).1) (b := (red k (a, b)).2) hN h2 h3 (by dsimp only at rl; omega) (by dsimp only at rl; omega) (fun M2 f2 f3 ff => ?_)
        refine e_aload_n h dX4_reduce_12 (pc := 12) rfl ?_
        refine e_iconst h dX4_reduce_13 (pc := 13)  ?_
        refine e_callV1 lk_X4_44 mv_X4_leaveOut dX4_reduce_14 (pc := 14) rfl (by decide) (Nat.lt_of_lt_of_le (by decide) hN) (Nat.le_of_ble_eq_true rfl) (rmY := rmX4_leaveOut) (by decide) h ?_
        have rl2 := lo_le (p := 2) (c := red k (a, b))
        refine c_leaveOut5 (a := (lo 2 (red k (a, b))).1) (b := (lo 2 (red k (a, b))).2) hN f2 f3 (by dsimp only at rl; omega) (by dsimp only at rl; omega) (fun M3 g2 g3 gf => ?_)
        refine e_iinc2 h dX4_reduce_17 (pc := 17) (by decide) rfl ?_
        refine e_goto h dX4_reduce_20 (pc := 20) (tgt := 2) (by decide) ?_
        rw [show (k : Int) + 1 = ((k + 1 : Nat) : Int) by omega]
        exact ih (k + 1) M3 (by omega) (by omega) g2 g3 (fun q j hq => by rw [gf q j hq, ff q j hq]; exact hfr q j hq)
  refine e_iconst h dX4_reduce_0 (pc := 0)  ?_
  refine e_istore2 h dX4_reduce_1 (pc := 1) (by decide) rfl ?_
  exact loop (n + 1) 0 M (by omega) (by omega) h2 h3 (fun _ _ _ => rfl)
