/-! texts, as both read them -/
abbrev TB : Type := Nat → Nat
def atB (b : TB) (n k : Nat) : Int := if k < n then (b k : Int) else -1
def dg (b : TB) (n k : Nat) : Bool := decide (48 ≤ atB b n k ∧ atB b n k ≤ 57)
theorem atB_in {b : TB} {n k : Nat} (h : k < n) : atB b n k = b k := if_pos h
theorem atB_out {b : TB} {n k : Nat} (h : ¬ k < n) : atB b n k = -1 := if_neg h
theorem dg_t {b : TB} {n k : Nat} (h : 48 ≤ atB b n k ∧ atB b n k ≤ 57) : dg b n k = true := decide_eq_true h
theorem dg_f {b : TB} {n k : Nat} (h : ¬ (48 ≤ atB b n k ∧ atB b n k ≤ 57)) : dg b n k = false := decide_eq_false h
/-- a number of one or two figures: its value, and what is behind it -/
def rn (b : TB) (n p : Nat) : Option (Nat × Nat) := if dg b n p = true then (if dg b n (p + 1) = true then some ((10 * (atB b n p - 48) + (atB b n (p + 1) - 48)).toNat, p + 2) else some ((atB b n p - 48).toNat, p + 1)) else none
/-- at most r numbers, parted by commas, and the semicolon -/
def rns (b : TB) (n : Nat) : Nat → Nat → Option (List Nat × Nat)
  | 0, _ => none
  | r + 1, p => match rn b n p with
    | none => none
    | some (v, q) => if atB b n q = 59 then some ([v], q + 1) else if atB b n q = 44 then (match rns b n r (q + 1) with
      | none => none
      | some (l, e) => some (v :: l, e)) else none
def TX (b : TB) (n : Nat) (M : Mem) : Prop := M 1 1 = n ∧ n ≤ 300 ∧ ∀ k, k < n → M 2 k = b k ∧ b k ≤ 255
theorem TX.to {b : TB} {n : Nat} {M M' : Mem} (h : TX b n M) (h1 : M' 1 = M 1) (h2 : M' 2 = M 2) : TX b n M' := by
  unfold TX
  rw [h1, h2]
  exact h
theorem TX.at {b : TB} {n : Nat} {M : Mem} (h : TX b n M) (k : Nat) : -1 ≤ atB b n k ∧ atB b n k ≤ 255 := by
  unfold atB
  split
  · rename_i q
    have := (h.2.2 k q).2
    omega
  · omega
theorem rn_lt {b : TB} {n p v q : Nat} (h : rn b n p = some (v, q)) : p < q ∧ v ≤ 99 := by
  unfold rn at h
  split at h
  · rename_i h1
    have g1 := of_decide_eq_true h1
    split at h
    · rename_i h2
      have g2 := of_decide_eq_true h2
      cases h
      omega
    · cases h
      omega
  · cases h
set_option maxRecDepth 100000 in
set_option maxHeartbeats 4000000 in
theorem c_at {gg : GT} {ad : Nat → Nat} {N : Nat} {M : Mem} {Post : Option AV → Mem → Prop} {b : TB} {n k : Nat}  {xk : Int} (hxk : xk = (k : Int))  (hN : 110 ≤ N) (hX : TX b n M) (hk : k ≤ 1000) (K : Post (some (vi (atB b n k))) M) : Sp gg yX9_at cX9_at 2 (some .int) rmX9_at [vr 1, vi xk] ad N pT M Post := by
  refine Sp.intro (ls := [some (vr 1), some (vi xk)]) (by decide +kernel) rfl (Nat.le_of_ble_eq_true rfl) fun κ hgg h hr ha => ?_
  have h : Ok κ RX9 cX9_at 2 rmX9_at := h
  subst hgg
  subst hxk
  have hX1 := hX.1
  have hX2 := hX.2.1
  refine e_iload_n h dX9_at_0 (pc := 0) rfl ?_
  refine e_if_lt h (tgt := 21) dX9_at_1 (pc := 1) (by decide) (by omega) (fun hb1 => absurd hb1 (by omega)) (fun hb1 => ?_)
  refine e_iload_n h dX9_at_4 (pc := 4) rfl ?_
  refine e_aload_n h dX9_at_5 (pc := 5) rfl ?_
  refine e_getI h fl_X9_15 dX9_at_6 (pc := 6) rfl (Nat.lt_of_lt_of_le (by decide) hN) (by decide) ?_
  refine e_icmp_ge h (tgt := 21) dX9_at_9 (pc := 9) (by decide) (by omega) (by omega) (fun hb9 => ?_) (fun hb9 => ?_)
  · refine e_iconst h dX9_at_21 (pc := 21)  ?_
    refine e_iret h hr ha dX9_at_22 (pc := 22) ?_
    rw [atB_out (by have := hX.1; omega)] at K
    exact K
  · have hX3 := hX.2.2 k (by have := hX.1; omega)
    refine e_aload_n h dX9_at_12 (pc := 12) rfl ?_
    refine e_getC h fl_X9_9 dX9_at_13 (pc := 13) rfl (Nat.lt_of_lt_of_le (by decide) hN) rfl rfl (r := 2) rfl ?_
    refine e_iload_n h dX9_at_16 (pc := 16) rfl ?_
    refine e_iald h dX9_at_17 (pc := 17) rfl (Nat.lt_of_lt_of_le (by decide) hN) rfl (by show _ < 300; omega) ?_
    refine e_goto h dX9_at_18 (pc := 18) (tgt := 22) (by decide) ?_
    refine e_iret h hr ha dX9_at_22 (pc := 22) ?_
    rw [atB_in (by have := hX.1; omega)] at K
    rw [hX3.1]
    exact K
set_option maxRecDepth 100000 in
set_option maxHeartbeats 4000000 in
theorem c_isFigure {gg : GT} {ad : Nat → Nat} {N : Nat} {M : Mem} {Post : Option AV → Mem → Prop} {x : Int}   (hx : (-2147483648 ≤ x ∧ x ≤ 2147483647)) (kt : 48 ≤ x ∧ x ≤ 57 → Post (some (vi 1)) M) (kf : ¬ (48 ≤ x ∧ x ≤ 57) → Post (some (vi 0)) M) : Sp gg yX6_isFigure cX6_isFigure 1 (some .boolean) rmX6_isFigure [vi x] ad N pT M Post := by
  refine Sp.intro (ls := [some (vi x)]) (by decide +kernel) rfl (Nat.le_of_ble_eq_true rfl) fun κ hgg h hr ha => ?_
  have h : Ok κ RX6 cX6_isFigure 1 rmX6_isFigure := h
  subst hgg
  refine e_iload_n h dX6_isFigure_0 (pc := 0) rfl ?_
  refine e_bipush h dX6_isFigure_1 (pc := 1) (by decide +kernel) ?_
  refine e_icmp_lt h (tgt := 16) dX6_isFigure_3 (pc := 3) (by decide) (by omega) (by decide) (fun hb3 => ?_) (fun hb3 => ?_)
  · refine e_iconst h dX6_isFigure_16 (pc := 16)  ?_
    refine e_zret h hr ha dX6_isFigure_17 (pc := 17) (by decide) ?_
    first | exact kt (by omega) | exact kf (by omega)
  · refine e_iload_n h dX6_isFigure_6 (pc := 6) rfl ?_
    refine e_bipush h dX6_isFigure_7 (pc := 7) (by decide +kernel) ?_
    refine e_icmp_gt h (tgt := 16) dX6_isFigure_9 (pc := 9) (by decide) (by omega) (by decide) (fun hb9 => ?_) (fun hb9 => ?_)
    · refine e_iconst h dX6_isFigure_16 (pc := 16)  ?_
      refine e_zret h hr ha dX6_isFigure_17 (pc := 17) (by decide) ?_
      first | exact kt (by omega) | exact kf (by omega)
    · refine e_iconst h dX6_isFigure_12 (pc := 12)  ?_
      refine e_goto h dX6_isFigure_13 (pc := 13) (tgt := 17) (by decide) ?_
      refine e_zret h hr ha dX6_isFigure_17 (pc := 17) (by decide) ?_
      first | exact kt (by omega) | exact kf (by omega)
set_option maxRecDepth 100000 in
set_option maxHeartbeats 4000000 in
theorem c_readNumber {gg : GT} {ad : Nat → Nat} {N : Nat} {M : Mem} {Post : Option AV → Mem → Prop} {b : TB} {n q fo : Nat}   (hN : 110 ≤ N) (hX : TX b n M) (hq : M 3 2 = q) (hq2 : q ≤ 500) (hfo : M 3 1 = fo) (hfo5 : fo < 5) (kt : ∀ (M2 : Mem) (v e : Nat), rn b n q = some (v, e) → M2 3 2 = e → M2 3 1 = ((fo + 1 : Nat) : Int) → M2 4 fo = v → (∀ a j, a ≠ 3 ∧ a ≠ 4 → M2 a j = M a j) → (∀ j, j < fo → M2 4 j = M 4 j) → Post (some (vi 1)) M2) (kf : ∀ M2 : Mem, rn b n q = none → (∀ a j, a ≠ 3 ∧ a ≠ 4 → M2 a j = M a j) → Post (some (vi 0)) M2) : Sp gg yX6_readNumber cX6_readNumber 3 (some .boolean) rmX6_readNumber [vr 3, vr 1] ad N pT M Post := by
  refine Sp.intro (ls := [some (vr 3), some (vr 1), none]) (by decide +kernel) rfl (Nat.le_of_ble_eq_true rfl) fun κ hgg h hr ha => ?_
  have h : Ok κ RX6 cX6_readNumber 3 rmX6_readNumber := h
  subst hgg
  have ha1 := hX.at q
  have ha2 := hX.at (q + 1)
  refine e_aload_n h dX6_readNumber_0 (pc := 0) rfl ?_
  refine e_aload_n h dX6_readNumber_1 (pc := 1) rfl ?_
  refine e_getI h fl_X6_20 dX6_readNumber_2 (pc := 2) rfl (Nat.lt_of_lt_of_le (by decide) hN) (by decide) ?_
  refine e_callV1 lk_X6_33 mv_X9_at dX6_readNumber_5 (pc := 5) rfl (by decide) (Nat.lt_of_lt_of_le (by decide) hN) (Nat.le_of_ble_eq_true rfl) (rmY := rmX9_at) (by decide) h ?_
  refine c_at (b := b) (n := n) (k := q) (by omega) hN hX (by omega) ?_
  refine e_callS1 lk_X6_47 ms_X6_isFigure dX6_readNumber_8 (pc := 8) (Nat.le_of_ble_eq_true rfl) (rmY := rmX6_isFigure) (by decide) h ?_
  refine c_isFigure (by omega) (fun hfa => ?_) (fun hfa => ?_)
  · skip
    refine e_if_eq h (tgt := 22) dX6_readNumber_11 (pc := 11) (by decide) (by decide) (fun hz => absurd hz (by decide)) (fun _ => ?_)
    refine e_aload_n h dX6_readNumber_14 (pc := 14) rfl ?_
    refine e_getI h fl_X6_41 dX6_readNumber_15 (pc := 15) rfl (Nat.lt_of_lt_of_le (by decide) hN) (by decide) ?_
    refine e_iconst h dX6_readNumber_18 (pc := 18)  ?_
    refine e_icmp_lt h (tgt := 24) dX6_readNumber_19 (pc := 19) (by decide) (by omega) (by decide) (fun hb19 => ?_) (fun hb19 => absurd hb19 (by omega))
    refine e_aload_n h dX6_readNumber_24 (pc := 24) rfl ?_
    refine e_aload_n h dX6_readNumber_25 (pc := 25) rfl ?_
    refine e_getI h fl_X6_20 dX6_readNumber_26 (pc := 26) rfl (Nat.lt_of_lt_of_le (by decide) hN) (by decide) ?_
    refine e_callV1 lk_X6_33 mv_X9_at dX6_readNumber_29 (pc := 29) rfl (by decide) (Nat.lt_of_lt_of_le (by decide) hN) (Nat.le_of_ble_eq_true rfl) (rmY := rmX9_at) (by decide) h ?_
    refine c_at (b := b) (n := n) (k := q) (by omega) hN hX (by omega) ?_
    refine e_bipush h dX6_readNumber_32 (pc := 32) (by decide +kernel) ?_
    refine e_isub h dX6_readNumber_34 (pc := 34)  ?_
    refine e_istore2 h dX6_readNumber_35 (pc := 35) (by decide) rfl ?_
    refine e_aload_n h dX6_readNumber_36 (pc := 36) rfl ?_
    refine e_dup h dX6_readNumber_37 (pc := 37) rfl ?_
    refine e_getI h fl_X6_20 dX6_readNumber_38 (pc := 38) rfl (Nat.lt_of_lt_of_le (by decide) hN) (by decide) ?_
    refine e_iconst h dX6_readNumber_41 (pc := 41)  ?_
    refine e_iadd h dX6_readNumber_42 (pc := 42)  ?_
    refine e_putI h fl_X6_20 dX6_readNumber_43 (pc := 43) rfl (Nat.lt_of_lt_of_le (by decide) hN) rfl ?_
    refine e_aload_n h dX6_readNumber_46 (pc := 46) rfl ?_
    refine e_aload_n h dX6_readNumber_47 (pc := 47) rfl ?_
    refine e_getI h fl_X6_20 dX6_readNumber_48 (pc := 48) rfl (Nat.lt_of_lt_of_le (by decide) hN) (by decide) ?_
    try simp (disch := omega) only [up_eq, up_ne]
    refine e_callV1 lk_X6_33 mv_X9_at dX6_readNumber_51 (pc := 51) rfl (by decide) (Nat.lt_of_lt_of_le (by decide) hN) (Nat.le_of_ble_eq_true rfl) (rmY := rmX9_at) (by decide) h ?_
    refine c_at (b := b) (n := n) (k := q + 1) (by omega) hN (hX.to (by simp (disch := decide) only [up_row]) (by simp (disch := decide) only [up_row])) (by omega) ?_
    refine e_callS1 lk_X6_47 ms_X6_isFigure dX6_readNumber_54 (pc := 54) (Nat.le_of_ble_eq_true rfl) (rmY := rmX6_isFigure) (by decide) h ?_
    refine c_isFigure (by omega) (fun hfb => ?_) (fun hfb => ?_)
    · skip
      refine e_if_eq h (tgt := 87) dX6_readNumber_57 (pc := 57) (by decide) (by decide) (fun hz => absurd hz (by decide)) (fun _ => ?_)
      refine e_bipush h dX6_readNumber_60 (pc := 60) (by decide +kernel) ?_
      refine e_iload_n h dX6_readNumber_62 (pc := 62) rfl ?_
      refine e_imul h dX6_readNumber_63 (pc := 63)  ?_
      refine e_aload_n h dX6_readNumber_64 (pc := 64) rfl ?_
      refine e_aload_n h dX6_readNumber_65 (pc := 65) rfl ?_
      refine e_getI h fl_X6_20 dX6_readNumber_66 (pc := 66) rfl (Nat.lt_of_lt_of_le (by decide) hN) (by decide) ?_
      try simp (disch := omega) only [up_eq, up_ne]
      refine e_callV1 lk_X6_33 mv_X9_at dX6_readNumber_69 (pc := 69) rfl (by decide) (Nat.lt_of_lt_of_le (by decide) hN) (Nat.le_of_ble_eq_true rfl) (rmY := rmX9_at) (by decide) h ?_
      refine c_at (b := b) (n := n) (k := q + 1) (by omega) hN (hX.to (by simp (disch := decide) only [up_row]) (by simp (disch := decide) only [up_row])) (by omega) ?_
      refine e_iadd h dX6_readNumber_72 (pc := 72)  ?_
      refine e_bipush h dX6_readNumber_73 (pc := 73) (by decide +kernel) ?_
      refine e_isub h dX6_readNumber_75 (pc := 75)  ?_
      refine e_istore2 h dX6_readNumber_76 (pc := 76) (by decide) rfl ?_
      refine e_aload_n h dX6_readNumber_77 (pc := 77) rfl ?_
      refine e_dup h dX6_readNumber_78 (pc := 78) rfl ?_
      refine e_getI h fl_X6_20 dX6_readNumber_79 (pc := 79) rfl (Nat.lt_of_lt_of_le (by decide) hN) (by decide) ?_
      try simp (disch := omega) only [up_eq, up_ne]
      refine e_iconst h dX6_readNumber_82 (pc := 82)  ?_
      refine e_iadd h dX6_readNumber_83 (pc := 83)  ?_
      refine e_putI h fl_X6_20 dX6_readNumber_84 (pc := 84) rfl (Nat.lt_of_lt_of_le (by decide) hN) rfl ?_
      refine e_aload_n h dX6_readNumber_87 (pc := 87) rfl ?_
      refine e_getC h fl_X6_9 dX6_readNumber_88 (pc := 88) rfl (Nat.lt_of_lt_of_le (by decide) hN) rfl rfl (r := 4) rfl ?_
      refine e_aload_n h dX6_readNumber_91 (pc := 91) rfl ?_
      refine e_getI h fl_X6_41 dX6_readNumber_92 (pc := 92) rfl (Nat.lt_of_lt_of_le (by decide) hN) (by decide) ?_
      try simp (disch := omega) only [up_eq, up_ne]
      refine e_iload_n h dX6_readNumber_95 (pc := 95) rfl ?_
      refine e_iast h dX6_readNumber_96 (pc := 96) rfl (Nat.lt_of_lt_of_le (by decide) hN) (j := fo) (by omega) (by show _ < 5; omega) ?_
      refine e_aload_n h dX6_readNumber_97 (pc := 97) rfl ?_
      refine e_dup h dX6_readNumber_98 (pc := 98) rfl ?_
      refine e_getI h fl_X6_41 dX6_readNumber_99 (pc := 99) rfl (Nat.lt_of_lt_of_le (by decide) hN) (by decide) ?_
      try simp (disch := omega) only [up_eq, up_ne]
      refine e_iconst h dX6_readNumber_102 (pc := 102)  ?_
      refine e_iadd h dX6_readNumber_103 (pc := 103)  ?_
      refine e_putI h fl_X6_41 dX6_readNumber_104 (pc := 104) rfl (Nat.lt_of_lt_of_le (by decide) hN) rfl ?_
      refine e_iconst h dX6_readNumber_107 (pc := 107)  ?_
      refine e_zret h hr ha dX6_readNumber_108 (pc := 108) (by decide) ?_
      refine kt _ (10 * (atB b n q - 48) + (atB b n (q + 1) - 48)).toNat (q + 2) (by unfold rn; rw [if_pos (dg_t hfa), if_pos (dg_t hfb)]) (by simp (disch := omega) only [up_eq, up_ne]; omega) (by simp (disch := omega) only [up_eq, up_ne]; omega) (by simp (disch := omega) only [up_eq, up_ne]; omega) (fun a j hq => by simp (disch := omega) only [up_ne]) (fun j hj => by simp (disch := omega) only [up_ne])
    · skip
      refine e_if_eq h (tgt := 87) dX6_readNumber_57 (pc := 57) (by decide) (by decide) (fun _ => ?_) (fun hz => absurd hz (by decide))
      refine e_aload_n h dX6_readNumber_87 (pc := 87) rfl ?_
      refine e_getC h fl_X6_9 dX6_readNumber_88 (pc := 88) rfl (Nat.lt_of_lt_of_le (by decide) hN) rfl rfl (r := 4) rfl ?_
      refine e_aload_n h dX6_readNumber_91 (pc := 91) rfl ?_
      refine e_getI h fl_X6_41 dX6_readNumber_92 (pc := 92) rfl (Nat.lt_of_lt_of_le (by decide) hN) (by decide) ?_
      try simp (disch := omega) only [up_eq, up_ne]
      refine e_iload_n h dX6_readNumber_95 (pc := 95) rfl ?_
      refine e_iast h dX6_readNumber_96 (pc := 96) rfl (Nat.lt_of_lt_of_le (by decide) hN) (j := fo) (by omega) (by show _ < 5; omega) ?_
      refine e_aload_n h dX6_readNumber_97 (pc := 97) rfl ?_
      refine e_dup h dX6_readNumber_98 (pc := 98) rfl ?_
      refine e_getI h fl_X6_41 dX6_readNumber_99 (pc := 99) rfl (Nat.lt_of_lt_of_le (by decide) hN) (by decide) ?_
      try simp (disch := omega) only [up_eq, up_ne]
      refine e_iconst h dX6_readNumber_102 (pc := 102)  ?_
      refine e_iadd h dX6_readNumber_103 (pc := 103)  ?_
      refine e_putI h fl_X6_41 dX6_readNumber_104 (pc := 104) rfl (Nat.lt_of_lt_of_le (by decide) hN) rfl ?_
      refine e_iconst h dX6_readNumber_107 (pc := 107)  ?_
      refine e_zret h hr ha dX6_readNumber_108 (pc := 108) (by decide) ?_
      refine kt _ (atB b n q - 48).toNat (q + 1) (by unfold rn; rw [if_pos (dg_t hfa), if_neg (by rw [dg_f hfb]; decide)]) (by simp (disch := omega) only [up_eq, up_ne]; omega) (by simp (disch := omega) only [up_eq, up_ne]; omega) (by simp (disch := omega) only [up_eq, up_ne]; omega) (fun a j hq => by simp (disch := omega) only [up_ne]) (fun j hj => by simp (disch := omega) only [up_ne])
  · skip
    refine e_if_eq h (tgt := 22) dX6_readNumber_11 (pc := 11) (by decide) (by decide) (fun _ => ?_) (fun hz => absurd hz (by decide))
    refine e_iconst h dX6_readNumber_22 (pc := 22)  ?_
    refine e_zret h hr ha dX6_readNumber_23 (pc := 23) (by decide) ?_
    exact kf M (by unfold rn; rw [if_neg (by rw [dg_f hfa]; decide)]) (fun _ _ _ => rfl)
