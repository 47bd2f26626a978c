theorem L_and (a b : Nat) : Int64.ofInt a &&& Int64.ofInt b = Int64.ofInt ((a &&& b : Nat) : Int) := by
  apply Int64.toBitVec_inj.1
  simp only [Int64.toBitVec_and, Int64.toBitVec_ofInt, BitVec.ofInt_natCast, BitVec.ofNat_and]
theorem L_or (a b : Nat) : Int64.ofInt a ||| Int64.ofInt b = Int64.ofInt ((a ||| b : Nat) : Int) := by
  apply Int64.toBitVec_inj.1
  simp only [Int64.toBitVec_or, Int64.toBitVec_ofInt, BitVec.ofInt_natCast, BitVec.ofNat_or]
theorem L_k1 : ∀ k, k < 64 → (((Int32.ofInt (k : Nat)).toInt64 &&& 63).toBitVec.smod 64).toNat = k := by decide
theorem L_k2 : ∀ k, k < 64 → (((Int32.ofInt (k : Nat)).toInt64.toUInt64 &&& Int64.toUInt64 63).toBitVec % 64).toNat = k := by decide
theorem L_shl (a : Nat) {k : Nat} (hk : k < 64) : Int64.ofInt a <<< ((Int32.ofInt k).toInt64 &&& 63) = Int64.ofInt ((a <<< k : Nat) : Int) := by
  apply Int64.toBitVec_inj.1
  rw [Int64.toBitVec_shiftLeft, BitVec.shiftLeft_eq', L_k1 k hk]
  simp only [Int64.toBitVec_ofInt, BitVec.ofInt_natCast]
  apply BitVec.eq_of_toNat_eq
  simp [Nat.shiftLeft_eq]
theorem L_ushr {a : Nat} (ha : a < 2 ^ 64) {k : Nat} (hk : k < 64) : ((Int64.ofInt a).toUInt64 >>> ((Int32.ofInt k).toInt64.toUInt64 &&& Int64.toUInt64 63)).toInt64 = Int64.ofInt ((a >>> k : Nat) : Int) := by
  apply Int64.toBitVec_inj.1
  rw [UInt64.toBitVec_toInt64, UInt64.toBitVec_shiftRight, BitVec.ushiftRight_eq', L_k2 k hk, Int64.toBitVec_toUInt64]
  simp only [Int64.toBitVec_ofInt, BitVec.ofInt_natCast]
  apply BitVec.eq_of_toNat_eq
  rw [BitVec.toNat_ushiftRight, BitVec.toNat_ofNat, BitVec.toNat_ofNat, Nat.mod_eq_of_lt ha, Nat.mod_eq_of_lt]
  exact Nat.lt_of_le_of_lt (by rw [Nat.shiftRight_eq_div_pow]; exact Nat.div_le_self _ _) ha
theorem L_m2 (a : Nat) : Int64.ofInt a &&& Int64.ofInt (-2) = Int64.ofInt ((a &&& (2 ^ 64 - 2) : Nat) : Int) := by
  rw [show Int64.ofInt (-2) = Int64.ofInt ((2 ^ 64 - 2 : Nat) : Int) by decide]
  exact L_and a (2 ^ 64 - 2)
theorem tb_m2 (a g : Nat) (h : a < 2 ^ 64) : (a &&& (2 ^ 64 - 2)).testBit g = true ↔ a.testBit g = true ∧ g ≠ 0 := by
  rw [Nat.testBit_and, Bool.and_eq_true]
  cases g with
  | zero => simp
  | succ g =>
    rw [show Nat.testBit (2 ^ 64 - 2) (g + 1) = Nat.testBit (2 ^ 63 - 1) g by rw [Nat.testBit_succ]]
    rw [Nat.testBit_two_pow_sub_one]
    constructor
    · intro z; exact ⟨z.1, by omega⟩
    · intro z
      refine ⟨z.1, ?_⟩
      by_cases q : g < 63
      · simp [q]
      · have := Nat.testBit_lt_two_pow (x := a) (i := g + 1) (Nat.lt_of_lt_of_le h (Nat.pow_le_pow_right (by decide) (by omega)))
        rw [this] at z
        exact absurd z.1 (by decide)
theorem tb_1 (a g : Nat) : (a &&& 1).testBit g = true ↔ a.testBit 0 = true ∧ g = 0 := by
  rw [Nat.testBit_and, Bool.and_eq_true, Nat.testBit_one_eq_true_iff_self_eq_zero]
  constructor
  · rintro ⟨h1, rfl⟩; exact ⟨h1, rfl⟩
  · rintro ⟨h1, rfl⟩; exact ⟨h1, rfl⟩
theorem tb_odd (a g : Nat) : (a >>> g &&& 1) ≠ 0 ↔ a.testBit g = true := by
  rw [Nat.testBit, bne_iff_ne, Nat.and_comm]
theorem odd_le (a g : Nat) : (a >>> g &&& 1) ≤ 1 := by
  rw [Nat.and_one_is_mod]; omega
theorem lt_pow_of {x n : Nat} (h : ∀ i, x.testBit i = true → i < n) : x < 2 ^ n := Nat.lt_pow_two_of_testBit x (fun i hi => by
  cases q : x.testBit i
  · rfl
  · have := h i q; omega)
theorem tb_lt {x n i : Nat} (h : x < 2 ^ n) (hi : x.testBit i = true) : i < n := by
  by_cases q : i < n
  · exact q
  · rw [Nat.testBit_lt_two_pow (Nat.lt_of_lt_of_le h (Nat.pow_le_pow_right (by decide) (by omega)))] at hi
    exact absurd hi (by decide)
theorem tb_nz {x : Nat} : x ≠ 0 ↔ ∃ g, x.testBit g = true := by
  constructor
  · intro h; exact Nat.exists_testBit_of_ne_zero h
  · rintro ⟨g, hg⟩ rfl
    simp at hg
theorem tb_shl1 (k g : Nat) : ((1 : Nat) <<< k).testBit g = true ↔ g = k := by
  rw [Nat.one_shiftLeft, Nat.testBit_two_pow]
  simp
  omega
theorem tb_low (a k g : Nat) : (a &&& (1 <<< k - 1)).testBit g = true ↔ a.testBit g = true ∧ g < k := by
  rw [Nat.one_shiftLeft, Nat.testBit_and, Nat.testBit_two_pow_sub_one, Bool.and_eq_true, decide_eq_true_eq]
theorem tb_shr (a k g : Nat) : (a >>> k).testBit g = a.testBit (k + g) := Nat.testBit_shiftRight a
theorem arr_bits {b L e g : Nat} (h : (e = 1 ∧ b &&& (1 <<< L - 1) ≠ 0) ∨ (e = 0 ∧ b &&& (1 <<< L - 1) = 0)) : (b >>> L ||| e).testBit g = true ↔ ∃ k, b.testBit k = true ∧ g = k - L := by
  rw [Nat.testBit_or, Bool.or_eq_true, tb_shr]
  constructor
  · rintro (z | z)
    · exact ⟨L + g, z, by omega⟩
    · rcases h with ⟨rfl, h⟩ | ⟨rfl, h⟩
      · obtain ⟨k, hk⟩ := tb_nz.1 h
        rw [tb_low] at hk
        rw [Nat.testBit_one_eq_true_iff_self_eq_zero] at z
        exact ⟨k, hk.1, by omega⟩
      · simp at z
  · rintro ⟨k, hk, rfl⟩
    by_cases q : L ≤ k
    · left; rw [show L + (k - L) = k by omega]; exact hk
    · right
      rcases h with ⟨rfl, h⟩ | ⟨rfl, h⟩
      · rw [Nat.testBit_one_eq_true_iff_self_eq_zero]; omega
      · exact absurd h (tb_nz.2 ⟨k, (tb_low _ _ _).2 ⟨hk, by omega⟩⟩)

abbrev IsJL (o N : Nat) : Prop := IsJ o N 144
def bt (M : Mem) (p c g : Nat) : Prop := (M p c).toNat.testBit g = true
def JB (M : Mem) (p : Nat) : Prop := ∀ c, c < 144 → ∃ n : Nat, M p c = (n : Int) ∧ n < 2 ^ 61
def ADD (M M2 : Mem) (p : Nat) (P : Nat → Nat → Prop) : Prop := JB M2 p ∧ (∀ c g, c < 144 → (bt M2 p c g ↔ bt M p c g ∨ P c g)) ∧ ∀ q, q ≠ p → M2 q = M q
theorem ADD.trans {M M1 M2 : Mem} {p : Nat} {P Q : Nat → Nat → Prop} (h : ADD M M1 p P) (k : ADD M1 M2 p Q) : ADD M M2 p (fun c g => P c g ∨ Q c g) :=
  ⟨k.1, fun c g hc => by rw [k.2.1 c g hc, h.2.1 c g hc, or_assoc], fun q hq => (k.2.2 q hq).trans (h.2.2 q hq)⟩
theorem ADD.iff {M M1 : Mem} {p : Nat} {P Q : Nat → Nat → Prop} (h : ADD M M1 p P) (k : ∀ c g, P c g ↔ Q c g) : ADD M M1 p Q :=
  ⟨h.1, fun c g hc => by rw [h.2.1 c g hc, k c g], h.2.2⟩
theorem ADD.none {M : Mem} {p : Nat} (h : JB M p) {P : Nat → Nat → Prop} (hP : ∀ c g, ¬ P c g) : ADD M M p P :=
  ⟨h, fun c g hc => ⟨fun z => Or.inl z, fun z => z.elim (fun z => z) (fun z => absurd z (hP c g))⟩, fun _ _ => rfl⟩
theorem ADD.up {M : Mem} {p c n x : Nat} {P : Nat → Nat → Prop} (h : JB M p) (hn : M p c = (n : Int)) (hx : ∀ g, x.testBit g = true ↔ n.testBit g = true ∨ P c g) (hP : ∀ c1 g, P c1 g → c1 = c ∧ g < 61) (hn2 : n < 2 ^ 61) : ADD M (up M p c (x : Int)) p P := by
  refine ⟨fun c1 h1 => ?_, fun c1 g h1 => ?_, fun q hq => up_row hq⟩
  · by_cases e : c1 = c
    · subst e
      refine ⟨x, up_eq _ _ _ _, lt_pow_of (fun i hi => ?_)⟩
      rcases (hx i).1 hi with z | z
      · exact tb_lt hn2 z
      · exact (hP _ _ z).2
    · rw [up_ne (Or.inr e)]; exact h c1 h1
  · unfold bt
    by_cases e : c1 = c
    · subst e
      rw [up_eq, hn]
      exact hx g
    · rw [up_ne (Or.inr e)]
      exact ⟨fun z => Or.inl z, fun z => z.elim (fun z => z) (fun z => absurd (hP _ _ z).1 e)⟩
set_option maxRecDepth 100000 in
set_option maxHeartbeats 4000000 in
theorem c_cell {gg : GT} {ad : Nat → Nat} {N : Nat} {M : Mem} {Post : Option AV → Mem → Prop} {l x : Nat}  {xl : Int} (hxl : xl = (l : Int)) {xx : Int} (hxx : xx = (x : Int))  (hl : l < 6) (hx : x < 24) (K : Post (some (vi ((24 * l + x : Nat) : Int))) M) : Sp gg yX0_cell cX0_cell 2 (some .int) rmX0_cell [vi xl, vi xx] ad N pT M Post := by
  refine Sp.intro (ls := [some (vi xl), some (vi xx)]) (by decide +kernel) rfl (Nat.le_of_ble_eq_true rfl) fun κ hgg h hr ha => ?_
  have h : Ok κ RX0 cX0_cell 2 rmX0_cell := h
  subst hgg
  subst hxl
  subst hxx
  refine e_iload_n h dX0_cell_0 (pc := 0) rfl ?_
  refine e_bipush h dX0_cell_1 (pc := 1) (by decide +kernel) ?_
  refine e_imul h dX0_cell_3 (pc := 3)  ?_
  refine e_iload_n h dX0_cell_4 (pc := 4) rfl ?_
  refine e_iadd h dX0_cell_5 (pc := 5)  ?_
  refine e_iret h hr ha dX0_cell_6 (pc := 6) ?_
  exact cast (by congr 3; omega) K
set_option maxRecDepth 100000 in
set_option maxHeartbeats 4000000 in
theorem c_empty {gg : GT} {ad : Nat → Nat} {N : Nat} {M : Mem} {Post : Option AV → Mem → Prop} {o : Nat}   (ho : IsJL o N) (K : ∀ M2 : Mem, (∀ k, k < 144 → M2 o k = 0) → (∀ q, q ≠ o → M2 q = M q) → Post none M2) : Sp gg yX0_empty cX0_empty 2 none rmX0_empty [vr o] ad N pT M Post := by
  refine Sp.intro (ls := [some (vr o), none]) (by decide +kernel) rfl (Nat.le_of_ble_eq_true rfl) fun κ hgg h hr ha => ?_
  have h : Ok κ RX0 cX0_empty 2 rmX0_empty := h
  subst hgg
  have loop : ∀ (n k : Nat) (M1 : Mem), k ≤ 144 → 144 < k + n → (∀ j, j < k → M1 o j = 0) → (∀ q, q ≠ o → M1 q = M q) → E κ ad N pT M1 2 [some (vr o), some (vi (k : Int))] [] (0, 0) (QR κ ad N pT Post) := by
    intro n
    induction n with
    | zero => intro k M1 h1 h2; exact absurd h2 (by omega)
    | succ n ih =>
      intro k M1 hk hn hz hfr
      refine e_iload_n h dX0_empty_2 (pc := 2) rfl ?_
      refine e_aload_n h dX0_empty_3 (pc := 3) rfl ?_
      refine e_alenJ h dX0_empty_4 (pc := 4) ho.c0 ho.p0 (n := 144) ho.l0 ?_
      refine e_icmp_ge h (tgt := 18) dX0_empty_5 (pc := 5) (by decide) (by omega) (by decide) (fun hb5 => ?_) (fun hb5 => ?_)
      · refine e_vret h hr ha dX0_empty_18 (pc := 18) ?_
        exact K M1 (fun j hj => hz j (by omega)) hfr
      · refine e_aload_n h dX0_empty_8 (pc := 8) rfl ?_
        refine e_iload_n h dX0_empty_9 (pc := 9) rfl ?_
        refine e_lconst h dX0_empty_10 (pc := 10) (x := 0) rfl ?_
        refine e_last h dX0_empty_11 (pc := 11) ho.c0 ho.p0 rfl (by rw [ho.l0]; omega) ?_
        refine e_iinc1 h dX0_empty_12 (pc := 12) (by decide) rfl ?_
        refine e_goto h dX0_empty_15 (pc := 15) (tgt := 2) (by decide) ?_
        rw [show (k : Int) + 1 = ((k + 1 : Nat) : Int) by omega]
        refine ih (k + 1) _ (by omega) (by omega) (fun j hj => ?_) (fun q hq => by rw [up_row hq]; exact hfr q hq)
        by_cases e : j = k
        · subst e; exact up_eq _ _ _ _
        · rw [up_ne (Or.inr e)]; exact hz j (by omega)
  refine e_iconst h dX0_empty_0 (pc := 0)  ?_
  refine e_istore1 h dX0_empty_1 (pc := 1) (by decide) rfl ?_
  exact loop 145 0 M (by omega) (by omega) (fun j hj => absurd hj (by omega)) (fun _ _ => rfl)
set_option maxRecDepth 100000 in
set_option maxHeartbeats 4000000 in
theorem c_halved {gg : GT} {ad : Nat → Nat} {N : Nat} {M : Mem} {Post : Option AV → Mem → Prop} {a : Nat}  {xa : Int} (hxa : xa = ((a : Nat) : Int))  (ha61 : a < 2 ^ 61) (K : ∀ v : Nat, (∀ g, v.testBit g = true ↔ ∃ k, a.testBit k = true ∧ k / 2 = g) → Post (some (vj (v : Int))) M) : Sp gg yX0_halved cX0_halved 5 (some .long) rmX0_halved [vj xa] ad N pT M Post := by
  refine Sp.intro (ls := [some (vj xa), none, none, none, none]) (by decide +kernel) rfl (Nat.le_of_ble_eq_true rfl) fun κ hgg h hr ha => ?_
  have h : Ok κ RX0 cX0_halved 5 rmX0_halved := h
  subst hgg
  subst hxa
  have loop : ∀ (n k v : Nat), k ≤ 61 → 61 < k + n → (∀ g, v.testBit g = true ↔ ∃ j, j < k ∧ a.testBit j = true ∧ j / 2 = g) → E κ ad N pT M 5 [some (vj (a : Int)), none, some (vj (v : Int)), none, some (vi (k : Int))] [] (0, 0) (QR κ ad N pT Post) := by
    intro n
    induction n with
    | zero => intro k v h1 h2; exact absurd h2 (by omega)
    | succ n ih =>
      intro k v hk hn hv
      refine e_iload h dX0_halved_5 (pc := 5) rfl ?_
      refine e_bipush h dX0_halved_7 (pc := 7) (by decide +kernel) ?_
      refine e_icmp_gt h (tgt := 38) dX0_halved_9 (pc := 9) (by decide) (by omega) (by decide) (fun hb9 => ?_) (fun hb9 => ?_)
      · refine e_lload_n h dX0_halved_38 (pc := 38) rfl ?_
        refine e_lret h hr ha dX0_halved_39 (pc := 39) ?_
        exact K v (fun g => by rw [hv g]; exact ⟨fun ⟨j, h1, h2⟩ => ⟨j, h2⟩, fun ⟨j, h2, h3⟩ => ⟨j, by have := tb_lt ha61 h2; omega, h2, h3⟩⟩)
      · refine e_lload_n h dX0_halved_12 (pc := 12) rfl ?_
        refine e_iload h dX0_halved_13 (pc := 13) rfl ?_
        refine e_lushr h dX0_halved_15 (pc := 15) (L_ushr (a := a) (by omega) (k := k) (by omega)) ?_
        refine e_lconst h dX0_halved_16 (pc := 16) (x := 1) rfl ?_
        refine e_land h dX0_halved_17 (pc := 17) (L_and (a >>> k) 1) ?_
        have hod := tb_odd a k
        have hle := odd_le a k
        generalize (a >>> k &&& 1) = w at hod hle ⊢
        refine e_lconst h dX0_halved_18 (pc := 18) (x := 0) rfl ?_
        refine e_lcmp h dX0_halved_19 (pc := 19) (by omega) (by decide) ?_
        generalize hlc19 : lcmp _ _ = lc19
        have hlr19 := lcmp_spec hlc19
        refine e_if_eq h (tgt := 32) dX0_halved_20 (pc := 20) (by decide) (by omega) (fun hb20 => ?_) (fun hb20 => ?_)
        · refine e_iinc4 h dX0_halved_32 (pc := 32) (by decide) rfl ?_
          refine e_goto h dX0_halved_35 (pc := 35) (tgt := 5) (by decide) ?_
          rw [show (k : Int) + 1 = ((k + 1 : Nat) : Int) by omega]
          have hno : ¬ a.testBit k = true := fun z => (hod.2 z) (by omega)
          exact ih (k + 1) v (by omega) (by omega) (fun g => ⟨fun z => by obtain ⟨j, h1, h2⟩ := (hv g).1 z; exact ⟨j, by omega, h2⟩, fun z => by
            obtain ⟨j, h1, h2, h3⟩ := z
            refine (hv g).2 ⟨j, ?_, h2, h3⟩
            by_cases e : j = k
            · subst e; exact absurd h2 hno
            · omega⟩)
        · refine e_lload_n h dX0_halved_23 (pc := 23) rfl ?_
          refine e_lconst h dX0_halved_24 (pc := 24) (x := 1) rfl ?_
          refine e_iload h dX0_halved_25 (pc := 25) rfl ?_
          refine e_iconst h dX0_halved_27 (pc := 27)  ?_
          refine e_idiv h dX0_halved_28 (pc := 28) (by omega) (by decide) ?_
          rw [show ((k : Int)).tdiv 2 = ((k / 2 : Nat) : Int) by rw [Int.tdiv_eq_ediv_of_nonneg (by omega)]; omega]
          refine e_lshl h dX0_halved_29 (pc := 29) (L_shl 1 (k := k / 2) (by omega)) ?_
          refine e_lor h dX0_halved_30 (pc := 30) (L_or v (1 <<< (k / 2))) ?_
          refine e_lstore2 h dX0_halved_31 (pc := 31) (by decide) rfl ?_
          refine e_iinc4 h dX0_halved_32 (pc := 32) (by decide) rfl ?_
          refine e_goto h dX0_halved_35 (pc := 35) (tgt := 5) (by decide) ?_
          rw [show (k : Int) + 1 = ((k + 1 : Nat) : Int) by omega]
          have hyes : a.testBit k = true := hod.1 (by omega)
          exact ih (k + 1) _ (by omega) (by omega) (fun g => by
            rw [Nat.testBit_or, Bool.or_eq_true, tb_shl1, hv g]
            constructor
            · rintro (⟨j, h1, h2⟩ | z)
              · exact ⟨j, by omega, h2⟩
              · exact ⟨k, by omega, hyes, z.symm⟩
            · rintro ⟨j, h1, h2, h3⟩
              by_cases e : j = k
              · subst e; exact Or.inr h3.symm
              · exact Or.inl ⟨j, by omega, h2, h3⟩)
  refine e_lconst h dX0_halved_0 (pc := 0) (x := 0) rfl ?_
  refine e_lstore2 h dX0_halved_1 (pc := 1) (by decide) rfl ?_
  refine e_iconst h dX0_halved_2 (pc := 2)  ?_
  refine e_istore4 h dX0_halved_3 (pc := 3) (by decide) rfl ?_
  exact loop 62 0 0 (by omega) (by omega) (fun g => ⟨fun z => absurd z (by simp), fun ⟨j, h1, h2⟩ => absurd h1 (by omega)⟩)
set_option maxRecDepth 100000 in
set_option maxHeartbeats 4000000 in
theorem c_highest {gg : GT} {ad : Nat → Nat} {N : Nat} {M : Mem} {Post : Option AV → Mem → Prop} {a : Nat}  {xa : Int} (hxa : xa = ((a : Nat) : Int))  (ha61 : a < 2 ^ 61) (ha0 : a ≠ 0) (K : ∀ v : Nat, a.testBit v = true → (∀ k, a.testBit k = true → k ≤ v) → Post (some (vi (v : Int))) M) : Sp gg yX0_highest cX0_highest 4 (some .int) rmX0_highest [vj xa] ad N pT M Post := by
  refine Sp.intro (ls := [some (vj xa), none, none, none]) (by decide +kernel) rfl (Nat.le_of_ble_eq_true rfl) fun κ hgg h hr ha => ?_
  have h : Ok κ RX0 cX0_highest 4 rmX0_highest := h
  subst hgg
  subst hxa
  have loop : ∀ (n k v : Nat), k ≤ 61 → 61 < k + n → (∀ j, j < k → a.testBit j = true → j ≤ v ∧ a.testBit v = true) → E κ ad N pT M 4 [some (vj (a : Int)), none, some (vi (v : Int)), some (vi (k : Int))] [] (0, 0) (QR κ ad N pT Post) := by
    intro n
    induction n with
    | zero => intro k v h1 h2; exact absurd h2 (by omega)
    | succ n ih =>
      intro k v hk hn hv
      refine e_iload_n h dX0_highest_4 (pc := 4) rfl ?_
      refine e_bipush h dX0_highest_5 (pc := 5) (by decide +kernel) ?_
      refine e_icmp_gt h (tgt := 28) dX0_highest_7 (pc := 7) (by decide) (by omega) (by decide) (fun hb7 => ?_) (fun hb7 => ?_)
      · refine e_iload_n h dX0_highest_28 (pc := 28) rfl ?_
        refine e_iret h hr ha dX0_highest_29 (pc := 29) ?_
        obtain ⟨j, hj⟩ := tb_nz.1 ha0
        exact K v (hv j (by have := tb_lt ha61 hj; omega) hj).2 (fun i hi => (hv i (by have := tb_lt ha61 hi; omega) hi).1)
      · refine e_lload_n h dX0_highest_10 (pc := 10) rfl ?_
        refine e_iload_n h dX0_highest_11 (pc := 11) rfl ?_
        refine e_lushr h dX0_highest_12 (pc := 12) (L_ushr (a := a) (by omega) (k := k) (by omega)) ?_
        refine e_lconst h dX0_highest_13 (pc := 13) (x := 1) rfl ?_
        refine e_land h dX0_highest_14 (pc := 14) (L_and (a >>> k) 1) ?_
        have hod := tb_odd a k
        have hle := odd_le a k
        generalize (a >>> k &&& 1) = w at hod hle ⊢
        refine e_lconst h dX0_highest_15 (pc := 15) (x := 0) rfl ?_
        refine e_lcmp h dX0_highest_16 (pc := 16) (by omega) (by decide) ?_
        generalize hlc16 : lcmp _ _ = lc16
        have hlr16 := lcmp_spec hlc16
        refine e_if_eq h (tgt := 22) dX0_highest_17 (pc := 17) (by decide) (by omega) (fun hb17 => ?_) (fun hb17 => ?_)
        · refine e_iinc3 h dX0_highest_22 (pc := 22) (by decide) rfl ?_
          refine e_goto h dX0_highest_25 (pc := 25) (tgt := 4) (by decide) ?_
          rw [show (k : Int) + 1 = ((k + 1 : Nat) : Int) by omega]
          have hno : ¬ a.testBit k = true := fun z => (hod.2 z) (by omega)
          exact ih (k + 1) v (by omega) (by omega) (fun j h1 h2 => by
            by_cases e : j = k
            · subst e; exact absurd h2 hno
            · exact hv j (by omega) h2)
        · refine e_iload_n h dX0_highest_20 (pc := 20) rfl ?_
          refine e_istore2 h dX0_highest_21 (pc := 21) (by decide) rfl ?_
          refine e_iinc3 h dX0_highest_22 (pc := 22) (by decide) rfl ?_
          refine e_goto h dX0_highest_25 (pc := 25) (tgt := 4) (by decide) ?_
          rw [show (k : Int) + 1 = ((k + 1 : Nat) : Int) by omega]
          have hyes : a.testBit k = true := hod.1 (by omega)
          exact ih (k + 1) k (by omega) (by omega) (fun j h1 h2 => ⟨by omega, hyes⟩)
  refine e_iconst h dX0_highest_0 (pc := 0)  ?_
  refine e_istore2 h dX0_highest_1 (pc := 1) (by decide) rfl ?_
  refine e_iconst h dX0_highest_2 (pc := 2)  ?_
  refine e_istore3 h dX0_highest_3 (pc := 3) (by decide) rfl ?_
  exact loop 62 0 0 (by omega) (by omega) (fun j h1 => absurd h1 (by omega))
