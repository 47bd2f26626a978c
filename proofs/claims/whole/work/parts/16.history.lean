set_option maxRecDepth 100000 in
set_option maxHeartbeats 4000000 in
theorem c_drop {gg : GT} {ad : Nat → Nat} {N : Nat} {M : Mem} {Post : Option AV → Mem → Prop} {q e : Nat}   (ho : IsO q N) (he : M q 4 = e) (he0 : 0 < e) (he8 : e ≤ 8) (K : Post none (up M q 4 (M q 4 - 1))) : Sp gg yX5_dropLatestErrand cX5_dropLatestErrand 1 none rmX5_dropLatestErrand [vr q] ad N pT M Post := by
  refine Sp.intro (ls := [some (vr q)]) (by decide +kernel) rfl (Nat.le_of_ble_eq_true rfl) fun κ hgg h hr ha => ?_
  have h : Ok κ RX5 cX5_dropLatestErrand 1 rmX5_dropLatestErrand := h
  subst hgg
  refine e_aload_n h dX5_dropLatestErrand_0 (pc := 0) rfl ?_
  refine e_getI h fl_X5_25 dX5_dropLatestErrand_1 (pc := 1) ho.c0 ho.p0 (by decide) ?_
  refine e_if_le h (tgt := 17) dX5_dropLatestErrand_4 (pc := 4) (by decide) (by omega) (fun hb4 => absurd hb4 (by omega)) (fun hb4 => ?_)
  refine e_aload_n h dX5_dropLatestErrand_7 (pc := 7) rfl ?_
  refine e_dup h dX5_dropLatestErrand_8 (pc := 8) rfl ?_
  refine e_getI h fl_X5_25 dX5_dropLatestErrand_9 (pc := 9) ho.c0 ho.p0 (by decide) ?_
  refine e_iconst h dX5_dropLatestErrand_12 (pc := 12)  ?_
  refine e_isub h dX5_dropLatestErrand_13 (pc := 13)  ?_
  refine e_putI h fl_X5_25 dX5_dropLatestErrand_14 (pc := 14) ho.c0 ho.p0 rfl ?_
  refine e_vret h hr ha dX5_dropLatestErrand_17 (pc := 17) ?_
  exact K
/-- what copying from the orders at s to those at q leaves -/
def CP (M M2 : Mem) (q s : Nat) : Prop := M2 q 4 = M s 4 ∧ (∀ k, k < 8 → M2 (q + 1) k = M (s + 1) k ∧ M2 (q + 2) k = M (s + 2) k ∧ M2 (q + 3) k = M (s + 3) k) ∧ ∀ i, i < 6 → M2 (q + 4) i = M (s + 4) i
set_option maxRecDepth 100000 in
set_option maxHeartbeats 4000000 in
theorem c_copy {gg : GT} {ad : Nat → Nat} {N : Nat} {M : Mem} {Post : Option AV → Mem → Prop} {q s : Nat}   (ho : IsO q N) (hs : IsO s N) (hdis : q + 5 ≤ s ∨ s + 5 ≤ q) (hBO : BO M (s + 3)) (K : ∀ M2 : Mem, CP M M2 q s → (∀ p, (p < q ∨ q + 5 ≤ p) → M2 p = M p) → Post none M2) : Sp gg yX5_copy cX5_copy 3 none rmX5_copy [vr q, vr s] ad N pT M Post := by
  refine Sp.intro (ls := [some (vr q), some (vr s), none]) (by decide +kernel) rfl (Nat.le_of_ble_eq_true rfl) fun κ hgg h hr ha => ?_
  have h : Ok κ RX5 cX5_copy 3 rmX5_copy := h
  subst hgg
  have mid : ∀ (M1 : Mem), (∀ j, j < 8 → M1 (q + 1) j = M (s + 1) j ∧ M1 (q + 2) j = M (s + 2) j ∧ M1 (q + 3) j = M (s + 3) j) → M1 q 4 = M q 4 → (∀ p, (p < q ∨ q + 5 ≤ p) → M1 p = M p) → E κ ad N pT M1 50 [some (vr q), some (vr s), none] [] (0, 0) (QR κ ad N pT Post) := by
    intro M1 hC h4 hfr
    have loop2 : ∀ (n k : Nat) (M1 : Mem), k ≤ 6 → 6 < k + n → (∀ j, j < k → M1 (q + 4) j = M (s + 4) j) → (∀ j, j < 8 → M1 (q + 1) j = M (s + 1) j ∧ M1 (q + 2) j = M (s + 2) j ∧ M1 (q + 3) j = M (s + 3) j) → (∀ p, (p < q ∨ q + 5 ≤ p) → M1 p = M p) → E κ ad N pT M1 52 [some (vr q), some (vr s), some (vi (k : Int))] [] (0, 0) (QR κ ad N pT Post) := by
      intro n
      induction n with
      | zero => intro k M1 h1 h2; exact absurd h2 (by omega)
      | succ n ih =>
        intro k M1 hk hn hG hC hfr
        refine e_iload_n h dX5_copy_52 (pc := 52) rfl ?_
        refine e_bipush h dX5_copy_53 (pc := 53) (by decide +kernel) ?_
        refine e_icmp_ge h (tgt := 76) dX5_copy_55 (pc := 55) (by decide) (by omega) (by decide) (fun hb55 => ?_) (fun hb55 => ?_)
        · refine e_aload_n h dX5_copy_76 (pc := 76) rfl ?_
          refine e_aload_n h dX5_copy_77 (pc := 77) rfl ?_
          refine e_getI h fl_X5_25 dX5_copy_78 (pc := 78) hs.c0 hs.p0 (by decide) ?_
          refine e_putI h fl_X5_25 dX5_copy_81 (pc := 81) ho.c0 ho.p0 rfl ?_
          refine e_vret h hr ha dX5_copy_84 (pc := 84) ?_
          have hk6 : k = 6 := by omega
          subst hk6
          exact K _ ⟨by rw [up_eq, hfr s (by omega)], fun j hj => by simp (disch := omega) only [up_eq, up_ne]; exact hC j hj, fun j hj => by simp (disch := omega) only [up_eq, up_ne]; exact hG j hj⟩ (fun p hp => by simp (disch := omega) only [up_row]; exact hfr p hp)
        · refine e_aload_n h dX5_copy_58 (pc := 58) rfl ?_
          refine e_getC h fl_X5_22 dX5_copy_59 (pc := 59) ho.c0 ho.p0 rfl rfl (r := (q + 4)) (pcr_d (by rw [ho.c0]; decide) 3) ?_
          refine e_iload_n h dX5_copy_62 (pc := 62) rfl ?_
          refine e_aload_n h dX5_copy_63 (pc := 63) rfl ?_
          refine e_getC h fl_X5_22 dX5_copy_64 (pc := 64) hs.c0 hs.p0 rfl rfl (r := (s + 4)) (pcr_d (by rw [hs.c0]; decide) 3) ?_
          refine e_iload_n h dX5_copy_67 (pc := 67) rfl ?_
          refine e_iald h dX5_copy_68 (pc := 68) hs.c4 hs.p4 rfl (by rw [hs.l4]; omega) ?_
          refine e_iast h dX5_copy_69 (pc := 69) ho.c4 ho.p4 rfl (by rw [ho.l4]; omega) ?_
          refine e_iinc2 h dX5_copy_70 (pc := 70) (by decide) rfl ?_
          refine e_goto h dX5_copy_73 (pc := 73) (tgt := 52) (by decide) ?_
          rw [show (k : Int) + 1 = ((k + 1 : Nat) : Int) by omega]
          refine ih (k + 1) _ (by omega) (by omega) (fun j hj => ?_) (fun j hj => by simp (disch := omega) only [up_eq, up_ne]; exact hC j hj) (fun p hp => by simp (disch := omega) only [up_row]; exact hfr p hp)
          by_cases e : j = k
          · subst e
            simp (disch := omega) only [up_eq, up_ne]
            rw [hfr (s + 4) (by omega)]
          · simp (disch := omega) only [up_eq, up_ne]
            exact hG j (by omega)
    refine e_iconst h dX5_copy_50 (pc := 50)  ?_
    refine e_istore2 h dX5_copy_51 (pc := 51) (by decide) rfl ?_
    exact loop2 7 0 M1 (by omega) (by omega) (fun j hj => absurd hj (by omega)) hC hfr
  have loop : ∀ (n k : Nat) (M1 : Mem), k ≤ 8 → 8 < k + n → (∀ j, j < k → M1 (q + 1) j = M (s + 1) j ∧ M1 (q + 2) j = M (s + 2) j ∧ M1 (q + 3) j = M (s + 3) j) → M1 q 4 = M q 4 → (∀ p, (p < q ∨ q + 5 ≤ p) → M1 p = M p) → E κ ad N pT M1 2 [some (vr q), some (vr s), some (vi (k : Int))] [] (0, 0) (QR κ ad N pT Post) := by
    intro n
    induction n with
    | zero => intro k M1 h1 h2; exact absurd h2 (by omega)
    | succ n ih =>
      intro k M1 hk hn hC h4 hfr
      refine e_iload_n h dX5_copy_2 (pc := 2) rfl ?_
      refine e_bipush h dX5_copy_3 (pc := 3) (by decide +kernel) ?_
      refine e_icmp_ge h (tgt := 50) dX5_copy_5 (pc := 5) (by decide) (by omega) (by decide) (fun hb5 => ?_) (fun hb5 => ?_)
      · have hk8 : k = 8 := by omega
        subst hk8
        refine e_fgt (ls2 := [some (vr q), some (vr s), none]) ⟨Or.inr rfl, Or.inr rfl, Or.inl rfl, trivial⟩ ?_
        exact mid M1 hC h4 hfr
      · have hbo := hBO k (by omega)
        have hb2 : M1 (s + 3) k = M (s + 3) k := by rw [hfr (s + 3) (by omega)]
        refine e_aload_n h dX5_copy_8 (pc := 8) rfl ?_
        refine e_getC h fl_X5_9 dX5_copy_9 (pc := 9) ho.c0 ho.p0 rfl rfl (r := (q + 1)) (pcr_d (by rw [ho.c0]; decide) 0) ?_
        refine e_iload_n h dX5_copy_12 (pc := 12) rfl ?_
        refine e_aload_n h dX5_copy_13 (pc := 13) rfl ?_
        refine e_getC h fl_X5_9 dX5_copy_14 (pc := 14) hs.c0 hs.p0 rfl rfl (r := (s + 1)) (pcr_d (by rw [hs.c0]; decide) 0) ?_
        refine e_iload_n h dX5_copy_17 (pc := 17) rfl ?_
        refine e_iald h dX5_copy_18 (pc := 18) hs.c1 hs.p1 rfl (by rw [hs.l1]; omega) ?_
        refine e_iast h dX5_copy_19 (pc := 19) ho.c1 ho.p1 rfl (by rw [ho.l1]; omega) ?_
        refine e_aload_n h dX5_copy_20 (pc := 20) rfl ?_
        refine e_getC h fl_X5_15 dX5_copy_21 (pc := 21) ho.c0 ho.p0 rfl rfl (r := (q + 2)) (pcr_d (by rw [ho.c0]; decide) 1) ?_
        refine e_iload_n h dX5_copy_24 (pc := 24) rfl ?_
        refine e_aload_n h dX5_copy_25 (pc := 25) rfl ?_
        refine e_getC h fl_X5_15 dX5_copy_26 (pc := 26) hs.c0 hs.p0 rfl rfl (r := (s + 2)) (pcr_d (by rw [hs.c0]; decide) 1) ?_
        refine e_iload_n h dX5_copy_29 (pc := 29) rfl ?_
        refine e_iald h dX5_copy_30 (pc := 30) hs.c2 hs.p2 rfl (by rw [hs.l2]; omega) ?_
        try simp (disch := omega) only [up_eq, up_ne]
        refine e_iast h dX5_copy_31 (pc := 31) ho.c2 ho.p2 rfl (by rw [ho.l2]; omega) ?_
        refine e_aload_n h dX5_copy_32 (pc := 32) rfl ?_
        refine e_getC h fl_X5_18 dX5_copy_33 (pc := 33) ho.c0 ho.p0 rfl rfl (r := (q + 3)) (pcr_d (by rw [ho.c0]; decide) 2) ?_
        refine e_iload_n h dX5_copy_36 (pc := 36) rfl ?_
        refine e_aload_n h dX5_copy_37 (pc := 37) rfl ?_
        refine e_getC h fl_X5_18 dX5_copy_38 (pc := 38) hs.c0 hs.p0 rfl rfl (r := (s + 3)) (pcr_d (by rw [hs.c0]; decide) 2) ?_
        refine e_iload_n h dX5_copy_41 (pc := 41) rfl ?_
        refine e_bald h dX5_copy_42 (pc := 42) hs.c3 hs.p3 rfl (by rw [hs.l3]; omega) ?_
        try simp (disch := omega) only [up_eq, up_ne]
        refine e_bast h dX5_copy_43 (pc := 43) ho.c3 ho.p3 rfl (by rw [ho.l3]; omega) (by omega) ?_
        refine e_iinc2 h dX5_copy_44 (pc := 44) (by decide) rfl ?_
        refine e_goto h dX5_copy_47 (pc := 47) (tgt := 2) (by decide) ?_
        rw [show (k : Int) + 1 = ((k + 1 : Nat) : Int) by omega]
        refine ih (k + 1) _ (by omega) (by omega) (fun j hj => ?_) (by simp (disch := omega) only [up_eq, up_ne]; exact h4) (fun p hp => by simp (disch := omega) only [up_row]; exact hfr p hp)
        by_cases e : j = k
        · subst e
          simp (disch := omega) only [up_eq, up_ne]
          rw [hfr (s + 1) (by omega), hfr (s + 2) (by omega), hfr (s + 3) (by omega)]
          exact ⟨rfl, rfl, rfl⟩
        · simp (disch := omega) only [up_eq, up_ne]
          exact hC j (by omega)
  refine e_iconst h dX5_copy_0 (pc := 0)  ?_
  refine e_istore2 h dX5_copy_1 (pc := 1) (by decide) rfl ?_
  exact loop 9 0 M (by omega) (by omega) (fun j hj => absurd hj (by omega)) rfl (fun _ _ => rfl)
/-- what can be undone: how many, whose, what was -/
def HR (h : Nat) (f g : Nat → Int) (M : Mem) : Prop := M 67 2 = h ∧ ∀ k, k < h → M 68 k = f k ∧ M 69 k = g k
def pushH (h : Nat) (f : Nat → Int) (x : Int) : Nat → Int := fun k => if h < 8 then (if k = h then x else f k) else (if k = 7 then x else f (k + 1))
theorem pushH_a {h : Nat} {f : Nat → Int} {x : Int} (q : h < 8) : pushH h f x h = x := by unfold pushH; rw [if_pos q, if_pos rfl]
theorem pushH_b {h k : Nat} {f : Nat → Int} {x : Int} (q : h < 8) (e : k ≠ h) : pushH h f x k = f k := by unfold pushH; rw [if_pos q, if_neg e]
theorem pushH_c {h : Nat} {f : Nat → Int} {x : Int} (q : ¬ h < 8) : pushH h f x 7 = x := by unfold pushH; rw [if_neg q, if_pos rfl]
theorem pushH_d {h k : Nat} {f : Nat → Int} {x : Int} (q : ¬ h < 8) (e : k ≠ 7) : pushH h f x k = f (k + 1) := by unfold pushH; rw [if_neg q, if_neg e]
set_option maxRecDepth 100000 in
set_option maxHeartbeats 4000000 in
theorem c_hclear {gg : GT} {ad : Nat → Nat} {N : Nat} {M : Mem} {Post : Option AV → Mem → Prop}   (hN : 110 ≤ N) (K : Post none (up M 67 2 0)) : Sp gg yX3_clear cX3_clear 1 none rmX3_clear [vr 67] ad N pT M Post := by
  refine Sp.intro (ls := [some (vr 67)]) (by decide +kernel) rfl (Nat.le_of_ble_eq_true rfl) fun κ hgg h hr ha => ?_
  have h : Ok κ RX3 cX3_clear 1 rmX3_clear := h
  subst hgg
  refine e_aload_n h dX3_clear_0 (pc := 0) rfl ?_
  refine e_iconst h dX3_clear_1 (pc := 1)  ?_
  refine e_putI h fl_X3_18 dX3_clear_2 (pc := 2) rfl (Nat.lt_of_lt_of_le (by decide) hN) rfl ?_
  refine e_vret h hr ha dX3_clear_5 (pc := 5) ?_
  exact K
set_option maxRecDepth 100000 in
set_option maxHeartbeats 4000000 in
theorem c_forget {gg : GT} {ad : Nat → Nat} {N : Nat} {M : Mem} {Post : Option AV → Mem → Prop} {h0 : Nat}   (hN : 110 ≤ N) (hh : M 67 2 = h0) (hh1 : 1 ≤ h0) (hh8 : h0 ≤ 8) (K : ∀ M2 : Mem, M2 67 2 = ((h0 - 1 : Nat) : Int) → (∀ j, j < h0 - 1 → M2 68 j = M 68 (j + 1) ∧ M2 69 j = M 69 (j + 1)) → (∀ p, (p ≠ 67 ∧ p ≠ 68 ∧ p ≠ 69) → M2 p = M p) → Post none M2) : Sp gg yX3_forgetOldest cX3_forgetOldest 2 none rmX3_forgetOldest [vr 67] ad N pT M Post := by
  refine Sp.intro (ls := [some (vr 67), none]) (by decide +kernel) rfl (Nat.le_of_ble_eq_true rfl) fun κ hgg h hr ha => ?_
  have h : Ok κ RX3 cX3_forgetOldest 2 rmX3_forgetOldest := h
  subst hgg
  have loop : ∀ (n k : Nat) (M1 : Mem), 1 ≤ k → k ≤ h0 → h0 < k + n → M1 67 2 = h0 → (∀ j, j < k - 1 → M1 68 j = M 68 (j + 1) ∧ M1 69 j = M 69 (j + 1)) → (∀ j, k ≤ j → M1 68 j = M 68 j ∧ M1 69 j = M 69 j) → (∀ p, (p ≠ 67 ∧ p ≠ 68 ∧ p ≠ 69) → M1 p = M p) → E κ ad N pT M1 2 [some (vr 67), some (vi (k : Int))] [] (0, 0) (QR κ ad N pT Post) := by
    intro n
    induction n with
    | zero => intro k M1 h1 h2 h3; exact absurd h3 (by omega)
    | succ n ih =>
      intro k M1 hk1 hk hn h2 hS hT hfr
      refine e_iload_n h dX3_forgetOldest_2 (pc := 2) rfl ?_
      refine e_aload_n h dX3_forgetOldest_3 (pc := 3) rfl ?_
      refine e_getI h fl_X3_18 dX3_forgetOldest_4 (pc := 4) rfl (Nat.lt_of_lt_of_le (by decide) hN) (by decide) ?_
      refine e_icmp_ge h (tgt := 44) dX3_forgetOldest_7 (pc := 7) (by decide) (by omega) (by omega) (fun hb7 => ?_) (fun hb7 => ?_)
      · refine e_aload_n h dX3_forgetOldest_44 (pc := 44) rfl ?_
        refine e_dup h dX3_forgetOldest_45 (pc := 45) rfl ?_
        refine e_getI h fl_X3_18 dX3_forgetOldest_46 (pc := 46) rfl (Nat.lt_of_lt_of_le (by decide) hN) (by decide) ?_
        refine e_iconst h dX3_forgetOldest_49 (pc := 49)  ?_
        refine e_isub h dX3_forgetOldest_50 (pc := 50)  ?_
        refine e_putI h fl_X3_18 dX3_forgetOldest_51 (pc := 51) rfl (Nat.lt_of_lt_of_le (by decide) hN) rfl ?_
        refine e_vret h hr ha dX3_forgetOldest_54 (pc := 54) ?_
        have hkh : k = h0 := by omega
        subst hkh
        exact K _ (by rw [up_eq]; omega) (fun j hj => by simp (disch := omega) only [up_eq, up_ne]; exact hS j hj) (fun p hp => by simp (disch := omega) only [up_row]; exact hfr p hp)
      · refine e_aload_n h dX3_forgetOldest_10 (pc := 10) rfl ?_
        refine e_getC h fl_X3_9 dX3_forgetOldest_11 (pc := 11) rfl (Nat.lt_of_lt_of_le (by decide) hN) rfl rfl (r := 68) rfl ?_
        refine e_iload_n h dX3_forgetOldest_14 (pc := 14) rfl ?_
        refine e_iconst h dX3_forgetOldest_15 (pc := 15)  ?_
        refine e_isub h dX3_forgetOldest_16 (pc := 16)  ?_
        refine e_aload_n h dX3_forgetOldest_17 (pc := 17) rfl ?_
        refine e_getC h fl_X3_9 dX3_forgetOldest_18 (pc := 18) rfl (Nat.lt_of_lt_of_le (by decide) hN) rfl rfl (r := 68) rfl ?_
        refine e_iload_n h dX3_forgetOldest_21 (pc := 21) rfl ?_
        refine e_iald h dX3_forgetOldest_22 (pc := 22) rfl (Nat.lt_of_lt_of_le (by decide) hN) rfl (by show _ < 8; omega) ?_
        refine e_iast h dX3_forgetOldest_23 (pc := 23) rfl (Nat.lt_of_lt_of_le (by decide) hN) (j := k - 1) (by omega) (by show _ < 8; omega) ?_
        refine e_aload_n h dX3_forgetOldest_24 (pc := 24) rfl ?_
        refine e_getC h fl_X3_15 dX3_forgetOldest_25 (pc := 25) rfl (Nat.lt_of_lt_of_le (by decide) hN) rfl rfl (r := 69) rfl ?_
        refine e_iload_n h dX3_forgetOldest_28 (pc := 28) rfl ?_
        refine e_iconst h dX3_forgetOldest_29 (pc := 29)  ?_
        refine e_isub h dX3_forgetOldest_30 (pc := 30)  ?_
        refine e_aload_n h dX3_forgetOldest_31 (pc := 31) rfl ?_
        refine e_getC h fl_X3_15 dX3_forgetOldest_32 (pc := 32) rfl (Nat.lt_of_lt_of_le (by decide) hN) rfl rfl (r := 69) rfl ?_
        refine e_iload_n h dX3_forgetOldest_35 (pc := 35) rfl ?_
        refine e_iald h dX3_forgetOldest_36 (pc := 36) rfl (Nat.lt_of_lt_of_le (by decide) hN) rfl (by show _ < 8; omega) ?_
        try simp (disch := omega) only [up_eq, up_ne]
        refine e_iast h dX3_forgetOldest_37 (pc := 37) rfl (Nat.lt_of_lt_of_le (by decide) hN) (j := k - 1) (by omega) (by show _ < 8; omega) ?_
        refine e_iinc1 h dX3_forgetOldest_38 (pc := 38) (by decide) rfl ?_
        refine e_goto h dX3_forgetOldest_41 (pc := 41) (tgt := 2) (by decide) ?_
        rw [show (k : Int) + 1 = ((k + 1 : Nat) : Int) by omega]
        refine ih (k + 1) _ (by omega) (by omega) (by omega) (by simp (disch := omega) only [up_eq, up_ne]; exact h2) (fun j hj => ?_) (fun j hj => ?_) (fun p hp => by simp (disch := omega) only [up_row]; exact hfr p hp)
        · have z1 := hT k (by omega)
          by_cases e : j = k - 1
          · subst e
            simp (disch := omega) only [up_eq, up_ne]
            rw [show k - 1 + 1 = k by omega]
            exact z1
          · simp (disch := omega) only [up_eq, up_ne]
            exact hS j (by omega)
        · simp (disch := omega) only [up_eq, up_ne]
          exact hT j (by omega)
  refine e_iconst h dX3_forgetOldest_0 (pc := 0)  ?_
  refine e_istore1 h dX3_forgetOldest_1 (pc := 1) (by decide) rfl ?_
  exact loop (h0 + 1) 1 M (by omega) (by omega) (by omega) hh (fun j hj => absurd hj (by omega)) (fun j hj => ⟨rfl, rfl⟩) (fun _ _ => rfl)
set_option maxRecDepth 100000 in
set_option maxHeartbeats 4000000 in
theorem c_hnote {gg : GT} {ad : Nat → Nat} {N : Nat} {M : Mem} {Post : Option AV → Mem → Prop} {h0 : Nat} {f g : Nat → Int} {x y : Int}   (hN : 110 ≤ N) (hH : HR h0 f g M) (hh8 : h0 ≤ 8) (K : ∀ M2 : Mem, HR (if h0 < 8 then h0 + 1 else 8) (pushH h0 f x) (pushH h0 g y) M2 → (∀ p, (p ≠ 67 ∧ p ≠ 68 ∧ p ≠ 69) → M2 p = M p) → Post none M2) : Sp gg yX3_note cX3_note 3 none rmX3_note [vr 67, vi x, vi y] ad N pT M Post := by
  refine Sp.intro (ls := [some (vr 67), some (vi x), some (vi y)]) (by decide +kernel) rfl (Nat.le_of_ble_eq_true rfl) fun κ hgg h hr ha => ?_
  have h : Ok κ RX3 cX3_note 3 rmX3_note := h
  subst hgg
  have h07 : M 67 2 = h0 := hH.1
  refine e_aload_n h dX3_note_0 (pc := 0) rfl ?_
  refine e_getI h fl_X3_18 dX3_note_1 (pc := 1) rfl (Nat.lt_of_lt_of_le (by decide) hN) (by decide) ?_
  refine e_bipush h dX3_note_4 (pc := 4) (by decide +kernel) ?_
  refine e_icmp_lt h (tgt := 13) dX3_note_6 (pc := 6) (by decide) (by omega) (by decide) (fun hb6 => ?_) (fun hb6 => ?_)
  · refine e_aload_n h dX3_note_13 (pc := 13) rfl ?_
    refine e_getC h fl_X3_9 dX3_note_14 (pc := 14) rfl (Nat.lt_of_lt_of_le (by decide) hN) rfl rfl (r := 68) rfl ?_
    refine e_aload_n h dX3_note_17 (pc := 17) rfl ?_
    refine e_getI h fl_X3_18 dX3_note_18 (pc := 18) rfl (Nat.lt_of_lt_of_le (by decide) hN) (by decide) ?_
    refine e_iload_n h dX3_note_21 (pc := 21) rfl ?_
    refine e_iast h dX3_note_22 (pc := 22) rfl (Nat.lt_of_lt_of_le (by decide) hN) (j := h0) (by omega) (by show _ < 8; omega) ?_
    refine e_aload_n h dX3_note_23 (pc := 23) rfl ?_
    refine e_getC h fl_X3_15 dX3_note_24 (pc := 24) rfl (Nat.lt_of_lt_of_le (by decide) hN) rfl rfl (r := 69) rfl ?_
    refine e_aload_n h dX3_note_27 (pc := 27) rfl ?_
    refine e_getI h fl_X3_18 dX3_note_28 (pc := 28) rfl (Nat.lt_of_lt_of_le (by decide) hN) (by decide) ?_
    try simp (disch := omega) only [up_eq, up_ne]
    refine e_iload_n h dX3_note_31 (pc := 31) rfl ?_
    refine e_iast h dX3_note_32 (pc := 32) rfl (Nat.lt_of_lt_of_le (by decide) hN) (j := h0) (by omega) (by show _ < 8; omega) ?_
    refine e_aload_n h dX3_note_33 (pc := 33) rfl ?_
    refine e_dup h dX3_note_34 (pc := 34) rfl ?_
    refine e_getI h fl_X3_18 dX3_note_35 (pc := 35) rfl (Nat.lt_of_lt_of_le (by decide) hN) (by decide) ?_
    try simp (disch := omega) only [up_eq, up_ne]
    refine e_iconst h dX3_note_38 (pc := 38)  ?_
    refine e_iadd h dX3_note_39 (pc := 39)  ?_
    refine e_putI h fl_X3_18 dX3_note_40 (pc := 40) rfl (Nat.lt_of_lt_of_le (by decide) hN) rfl ?_
    refine e_vret h hr ha dX3_note_43 (pc := 43) ?_
    refine K _ ⟨by rw [if_pos (by omega)]; simp (disch := omega) only [up_eq, up_ne]; omega, fun k hk => ?_⟩ (fun p hp => by simp (disch := omega) only [up_row])
    rw [if_pos (by omega)] at hk
    by_cases e : k = h0
    · subst e
      rw [pushH_a (by omega), pushH_a (by omega)]
      simp (disch := omega) only [up_eq, up_ne]
      exact ⟨trivial, trivial⟩
    · rw [pushH_b (by omega) e, pushH_b (by omega) e]
      simp (disch := omega) only [up_eq, up_ne]
      exact hH.2 k (by omega)
  · refine e_aload_n h dX3_note_9 (pc := 9) rfl ?_
    refine e_callV0 lk_X3_22 mv_X3_forgetOldest dX3_note_10 (pc := 10) rfl (by decide) (Nat.lt_of_lt_of_le (by decide) hN) (Nat.le_of_ble_eq_true rfl) (rmY := rmX3_forgetOldest) (by decide) h ?_
    refine c_forget (h0 := 8) hN (by omega) (by omega) (by omega) (fun M2 g1 g2 g3 => ?_)
    refine e_aload_n h dX3_note_13 (pc := 13) rfl ?_
    refine e_getC h fl_X3_9 dX3_note_14 (pc := 14) rfl (Nat.lt_of_lt_of_le (by decide) hN) rfl rfl (r := 68) rfl ?_
    refine e_aload_n h dX3_note_17 (pc := 17) rfl ?_
    refine e_getI h fl_X3_18 dX3_note_18 (pc := 18) rfl (Nat.lt_of_lt_of_le (by decide) hN) (by decide) ?_
    refine e_iload_n h dX3_note_21 (pc := 21) rfl ?_
    refine e_iast h dX3_note_22 (pc := 22) rfl (Nat.lt_of_lt_of_le (by decide) hN) (j := 7) (by omega) (by show _ < 8; omega) ?_
    refine e_aload_n h dX3_note_23 (pc := 23) rfl ?_
    refine e_getC h fl_X3_15 dX3_note_24 (pc := 24) rfl (Nat.lt_of_lt_of_le (by decide) hN) rfl rfl (r := 69) rfl ?_
    refine e_aload_n h dX3_note_27 (pc := 27) rfl ?_
    refine e_getI h fl_X3_18 dX3_note_28 (pc := 28) rfl (Nat.lt_of_lt_of_le (by decide) hN) (by decide) ?_
    try simp (disch := omega) only [up_eq, up_ne]
    refine e_iload_n h dX3_note_31 (pc := 31) rfl ?_
    refine e_iast h dX3_note_32 (pc := 32) rfl (Nat.lt_of_lt_of_le (by decide) hN) (j := 7) (by omega) (by show _ < 8; omega) ?_
    refine e_aload_n h dX3_note_33 (pc := 33) rfl ?_
    refine e_dup h dX3_note_34 (pc := 34) rfl ?_
    refine e_getI h fl_X3_18 dX3_note_35 (pc := 35) rfl (Nat.lt_of_lt_of_le (by decide) hN) (by decide) ?_
    try simp (disch := omega) only [up_eq, up_ne]
    refine e_iconst h dX3_note_38 (pc := 38)  ?_
    refine e_iadd h dX3_note_39 (pc := 39)  ?_
    refine e_putI h fl_X3_18 dX3_note_40 (pc := 40) rfl (Nat.lt_of_lt_of_le (by decide) hN) rfl ?_
    refine e_vret h hr ha dX3_note_43 (pc := 43) ?_
    refine K _ ⟨by rw [if_neg (by omega)]; simp (disch := omega) only [up_eq, up_ne]; omega, fun k hk => ?_⟩ (fun p hp => by simp (disch := omega) only [up_row]; exact g3 p hp)
    rw [if_neg (by omega)] at hk
    by_cases e : k = 7
    · subst e
      rw [pushH_c (by omega), pushH_c (by omega)]
      simp (disch := omega) only [up_eq, up_ne]
      exact ⟨trivial, trivial⟩
    · rw [pushH_d (by omega) e, pushH_d (by omega) e]
      simp (disch := omega) only [up_eq, up_ne]
      have z := hH.2 (k + 1) (by omega)
      have z2 := g2 k (by omega)
      exact ⟨by rw [z2.1]; exact z.1, by rw [z2.2]; exact z.2⟩
set_option maxRecDepth 100000 in
set_option maxHeartbeats 4000000 in
theorem c_takeBack {gg : GT} {ad : Nat → Nat} {N : Nat} {M : Mem} {Post : Option AV → Mem → Prop} {q q4 h0 e i : Nat} {f g : Nat → Int}   (hN : 110 ≤ N) (e4 : q + 4 = q4) (ho : IsO q N) (hq : 70 ≤ q) (hH : HR h0 f g M) (hh8 : h0 ≤ 8) (he : g (h0 - 1) = -1 → M q 4 = e ∧ 0 < e) (he8 : e ≤ 8) (hi : g (h0 - 1) ≠ -1 → f (h0 - 1) = i ∧ i < 6) (hg : -1 ≤ g (h0 - 1) ∧ g (h0 - 1) ≤ 60) (kE : 0 < h0 → g (h0 - 1) = -1 → Post (some (vi 1)) (up (up M 67 2 ((h0 - 1 : Nat) : Int)) q 4 (M q 4 - 1))) (kG : 0 < h0 → g (h0 - 1) ≠ -1 → Post (some (vi 1)) (up (up M 67 2 ((h0 - 1 : Nat) : Int)) q4 i (g (h0 - 1)))) (kf : h0 = 0 → Post (some (vi 0)) M) : Sp gg yX3_takeBack cX3_takeBack 2 (some .boolean) rmX3_takeBack [vr 67, vr q] ad N pT M Post := by
  refine Sp.intro (ls := [some (vr 67), some (vr q)]) (by decide +kernel) rfl (Nat.le_of_ble_eq_true rfl) fun κ hgg h hr ha => ?_
  have h : Ok κ RX3 cX3_takeBack 2 rmX3_takeBack := h
  subst hgg
  subst e4
  have h07 : M 67 2 = h0 := hH.1
  refine e_aload_n h dX3_takeBack_0 (pc := 0) rfl ?_
  refine e_getI h fl_X3_18 dX3_takeBack_1 (pc := 1) rfl (Nat.lt_of_lt_of_le (by decide) hN) (by decide) ?_
  refine e_if_gt h (tgt := 9) dX3_takeBack_4 (pc := 4) (by decide) (by omega) (fun hb4 => ?_) (fun hb4 => ?_)
  · have hz := hH.2 (h0 - 1) (by omega)
    refine e_aload_n h dX3_takeBack_9 (pc := 9) rfl ?_
    refine e_dup h dX3_takeBack_10 (pc := 10) rfl ?_
    refine e_getI h fl_X3_18 dX3_takeBack_11 (pc := 11) rfl (Nat.lt_of_lt_of_le (by decide) hN) (by decide) ?_
    refine e_iconst h dX3_takeBack_14 (pc := 14)  ?_
    refine e_isub h dX3_takeBack_15 (pc := 15)  ?_
    refine e_putI h fl_X3_18 dX3_takeBack_16 (pc := 16) rfl (Nat.lt_of_lt_of_le (by decide) hN) rfl ?_
    refine e_aload_n h dX3_takeBack_19 (pc := 19) rfl ?_
    refine e_getC h fl_X3_15 dX3_takeBack_20 (pc := 20) rfl (Nat.lt_of_lt_of_le (by decide) hN) rfl rfl (r := 69) rfl ?_
    refine e_aload_n h dX3_takeBack_23 (pc := 23) rfl ?_
    refine e_getI h fl_X3_18 dX3_takeBack_24 (pc := 24) rfl (Nat.lt_of_lt_of_le (by decide) hN) (by decide) ?_
    try simp (disch := omega) only [up_eq, up_ne]
    refine e_iald h dX3_takeBack_27 (pc := 27) rfl (Nat.lt_of_lt_of_le (by decide) hN) (j := h0 - 1) (by omega) (by show _ < 8; omega) ?_
    try simp (disch := omega) only [up_eq, up_ne]
    refine e_iconst h dX3_takeBack_28 (pc := 28)  ?_
    refine e_icmp_ne h (tgt := 39) dX3_takeBack_29 (pc := 29) (by decide) (by omega) (by decide) (fun hb29 => ?_) (fun hb29 => ?_)
    · have hi2 := hi (by omega)
      refine e_aload_n h dX3_takeBack_39 (pc := 39) rfl ?_
      refine e_getC h fl_X3_30 dX3_takeBack_40 (pc := 40) ho.c0 ho.p0 rfl rfl (r := (q + 4)) (pcr_d (by rw [ho.c0]; decide) 3) ?_
      refine e_aload_n h dX3_takeBack_43 (pc := 43) rfl ?_
      refine e_getC h fl_X3_9 dX3_takeBack_44 (pc := 44) rfl (Nat.lt_of_lt_of_le (by decide) hN) rfl rfl (r := 68) rfl ?_
      refine e_aload_n h dX3_takeBack_47 (pc := 47) rfl ?_
      refine e_getI h fl_X3_18 dX3_takeBack_48 (pc := 48) rfl (Nat.lt_of_lt_of_le (by decide) hN) (by decide) ?_
      try simp (disch := omega) only [up_eq, up_ne]
      refine e_iald h dX3_takeBack_51 (pc := 51) rfl (Nat.lt_of_lt_of_le (by decide) hN) (j := h0 - 1) (by omega) (by show _ < 8; omega) ?_
      try simp (disch := omega) only [up_eq, up_ne]
      refine e_aload_n h dX3_takeBack_52 (pc := 52) rfl ?_
      refine e_getC h fl_X3_15 dX3_takeBack_53 (pc := 53) rfl (Nat.lt_of_lt_of_le (by decide) hN) rfl rfl (r := 69) rfl ?_
      refine e_aload_n h dX3_takeBack_56 (pc := 56) rfl ?_
      refine e_getI h fl_X3_18 dX3_takeBack_57 (pc := 57) rfl (Nat.lt_of_lt_of_le (by decide) hN) (by decide) ?_
      try simp (disch := omega) only [up_eq, up_ne]
      refine e_iald h dX3_takeBack_60 (pc := 60) rfl (Nat.lt_of_lt_of_le (by decide) hN) (j := h0 - 1) (by omega) (by show _ < 8; omega) ?_
      try simp (disch := omega) only [up_eq, up_ne]
      refine e_iast h dX3_takeBack_61 (pc := 61) ho.c4 ho.p4 (j := i) (by omega) (by rw [ho.l4]; omega) ?_
      refine e_iconst h dX3_takeBack_62 (pc := 62)  ?_
      refine e_zret h hr ha dX3_takeBack_63 (pc := 63) (by decide) ?_
      exact cast (by rw [show M 67 2 - 1 = ((h0 - 1 : Nat) : Int) by omega, hz.2]) (kG (by omega) (by omega))
    · refine e_aload_n h dX3_takeBack_32 (pc := 32) rfl ?_
      refine e_callV0 lk_X3_25 mv_X5_dropLatestErrand dX3_takeBack_33 (pc := 33) (by rw [ho.c0]; rfl) (by rw [ho.c0]; decide) ho.p0 (Nat.le_of_ble_eq_true rfl) (rmY := rmX5_dropLatestErrand) (by decide) h ?_
      refine c_drop (e := e) ho (by simp (disch := omega) only [up_ne]; exact (he (by omega)).1) (he (by omega)).2 (he8) ?_
      simp (disch := omega) only [up_ne]
      refine e_goto h dX3_takeBack_36 (pc := 36) (tgt := 62) (by decide) ?_
      refine e_iconst h dX3_takeBack_62 (pc := 62)  ?_
      refine e_zret h hr ha dX3_takeBack_63 (pc := 63) (by decide) ?_
      exact cast (by rw [show M 67 2 - 1 = ((h0 - 1 : Nat) : Int) by omega]) (kE (by omega) (by omega))
  · refine e_iconst h dX3_takeBack_7 (pc := 7)  ?_
    refine e_zret h hr ha dX3_takeBack_8 (pc := 8) (by decide) ?_
    exact kf (by omega)
set_option maxRecDepth 100000 in
set_option maxHeartbeats 4000000 in
theorem c_shclear {gg : GT} {ad : Nat → Nat} {N : Nat} {M : Mem} {Post : Option AV → Mem → Prop}   (hN : 110 ≤ N) (K : Post none (up M 70 1 0)) : Sp gg yX7_clear cX7_clear 1 none rmX7_clear [vr 70] ad N pT M Post := by
  refine Sp.intro (ls := [some (vr 70)]) (by decide +kernel) rfl (Nat.le_of_ble_eq_true rfl) fun κ hgg h hr ha => ?_
  have h : Ok κ RX7 cX7_clear 1 rmX7_clear := h
  subst hgg
  refine e_aload_n h dX7_clear_0 (pc := 0) rfl ?_
  refine e_iconst h dX7_clear_1 (pc := 1)  ?_
  refine e_putI h fl_X7_18 dX7_clear_2 (pc := 2) rfl (Nat.lt_of_lt_of_le (by decide) hN) rfl ?_
  refine e_vret h hr ha dX7_clear_5 (pc := 5) ?_
  exact K
set_option maxRecDepth 100000 in
set_option maxHeartbeats 4000000 in
theorem c_put {gg : GT} {ad : Nat → Nat} {N : Nat} {M : Mem} {Post : Option AV → Mem → Prop} {s z : Nat}   (hN : 110 ≤ N) (hs : IsO s N) (hs82 : 82 ≤ s) (hz : M 70 1 = z) (hz2 : z ≤ 2) (hBO : BO M (s + 3)) (kt : z < 2 → ∀ M2 : Mem, M2 70 1 = ((z + 1 : Nat) : Int) → CP M M2 (72 + 5 * z) s → (∀ p, (p ≠ 70 ∧ (p < 72 + 5 * z ∨ 72 + 5 * z + 5 ≤ p)) → M2 p = M p) → Post (some (vi 1)) M2) (kf : z = 2 → Post (some (vi 0)) M) : Sp gg yX7_put cX7_put 2 (some .boolean) rmX7_put [vr 70, vr s] ad N pT M Post := by
  refine Sp.intro (ls := [some (vr 70), some (vr s)]) (by decide +kernel) rfl (Nat.le_of_ble_eq_true rfl) fun κ hgg h hr ha => ?_
  have h : Ok κ RX7 cX7_put 2 rmX7_put := h
  subst hgg
  refine e_aload_n h dX7_put_0 (pc := 0) rfl ?_
  refine e_getI h fl_X7_18 dX7_put_1 (pc := 1) rfl (Nat.lt_of_lt_of_le (by decide) hN) (by decide) ?_
  refine e_iconst h dX7_put_4 (pc := 4)  ?_
  refine e_icmp_lt h (tgt := 10) dX7_put_5 (pc := 5) (by decide) (by omega) (by decide) (fun hb5 => ?_) (fun hb5 => ?_)
  · obtain ⟨o, hoe⟩ : ∃ o, o = 72 + 5 * z := ⟨_, rfl⟩
    have hoo : IsO o N := hoe ▸ isO_k hN (by omega)
    refine e_aload_n h dX7_put_10 (pc := 10) rfl ?_
    refine e_getC h fl_X7_11 dX7_put_11 (pc := 11) rfl (Nat.lt_of_lt_of_le (by decide) hN) rfl rfl (r := 71) rfl ?_
    refine e_aload_n h dX7_put_14 (pc := 14) rfl ?_
    refine e_getI h fl_X7_18 dX7_put_15 (pc := 15) rfl (Nat.lt_of_lt_of_le (by decide) hN) (by decide) ?_
    refine e_aald4 h dX7_put_18 (pc := 18) rfl (Nat.lt_of_lt_of_le (by decide) hN) (j := z) (by omega) (by show _ < 2; omega) rfl (r := o) (by rw [pcr_104 (by decide), hoe]) ?_
    refine e_aload_n h dX7_put_19 (pc := 19) rfl ?_
    refine e_callV1 lk_X7_22 mv_X5_copy dX7_put_20 (pc := 20) (by rw [hoo.c0]; rfl) (by rw [hoo.c0]; decide) hoo.p0 (Nat.le_of_ble_eq_true rfl) (rmY := rmX5_copy) (by decide) h ?_
    refine c_copy hoo hs (by omega) hBO (fun M2 g1 g2 => ?_)
    refine e_aload_n h dX7_put_23 (pc := 23) rfl ?_
    refine e_dup h dX7_put_24 (pc := 24) rfl ?_
    refine e_getI h fl_X7_18 dX7_put_25 (pc := 25) rfl (Nat.lt_of_lt_of_le (by decide) hN) (by decide) ?_
    refine e_iconst h dX7_put_28 (pc := 28)  ?_
    refine e_iadd h dX7_put_29 (pc := 29)  ?_
    refine e_putI h fl_X7_18 dX7_put_30 (pc := 30) rfl (Nat.lt_of_lt_of_le (by decide) hN) rfl ?_
    refine e_iconst h dX7_put_33 (pc := 33)  ?_
    refine e_zret h hr ha dX7_put_34 (pc := 34) (by decide) ?_
    exact kt (by omega) _ (by rw [up_eq, g2 70 (by omega)]; omega) (by rw [← hoe]; exact ⟨by rw [up_ne (by omega)]; exact g1.1, fun k hk => by simp (disch := omega) only [up_ne]; exact g1.2.1 k hk, fun k hk => by simp (disch := omega) only [up_ne]; exact g1.2.2 k hk⟩) (fun p hp => by rw [up_row (by omega)]; exact g2 p (by omega))
  · refine e_iconst h dX7_put_8 (pc := 8)  ?_
    refine e_zret h hr ha dX7_put_9 (pc := 9) (by decide) ?_
    exact kf (by omega)
set_option maxRecDepth 100000 in
set_option maxHeartbeats 4000000 in
theorem c_take {gg : GT} {ad : Nat → Nat} {N : Nat} {M : Mem} {Post : Option AV → Mem → Prop} {q z : Nat}   (hN : 110 ≤ N) (ho : IsO q N) (hs82 : 82 ≤ q) (hz : M 70 1 = z) (hz2 : z ≤ 2) (hBO : 0 < z → BO M (72 + 5 * (z - 1) + 3)) (kt : 0 < z → ∀ M2 : Mem, M2 70 1 = ((z - 1 : Nat) : Int) → CP M M2 q (72 + 5 * (z - 1)) → (∀ p, (p ≠ 70 ∧ (p < q ∨ q + 5 ≤ p)) → M2 p = M p) → Post (some (vi 1)) M2) (kf : z = 0 → Post (some (vi 0)) M) : Sp gg yX7_take cX7_take 2 (some .boolean) rmX7_take [vr 70, vr q] ad N pT M Post := by
  refine Sp.intro (ls := [some (vr 70), some (vr q)]) (by decide +kernel) rfl (Nat.le_of_ble_eq_true rfl) fun κ hgg h hr ha => ?_
  have h : Ok κ RX7 cX7_take 2 rmX7_take := h
  subst hgg
  refine e_aload_n h dX7_take_0 (pc := 0) rfl ?_
  refine e_getI h fl_X7_18 dX7_take_1 (pc := 1) rfl (Nat.lt_of_lt_of_le (by decide) hN) (by decide) ?_
  refine e_if_gt h (tgt := 9) dX7_take_4 (pc := 4) (by decide) (by omega) (fun hb4 => ?_) (fun hb4 => ?_)
  · obtain ⟨o, hoe⟩ : ∃ o, o = 72 + 5 * (z - 1) := ⟨_, rfl⟩
    have hoo : IsO o N := hoe ▸ isO_k hN (by omega)
    refine e_aload_n h dX7_take_9 (pc := 9) rfl ?_
    refine e_dup h dX7_take_10 (pc := 10) rfl ?_
    refine e_getI h fl_X7_18 dX7_take_11 (pc := 11) rfl (Nat.lt_of_lt_of_le (by decide) hN) (by decide) ?_
    refine e_iconst h dX7_take_14 (pc := 14)  ?_
    refine e_isub h dX7_take_15 (pc := 15)  ?_
    refine e_putI h fl_X7_18 dX7_take_16 (pc := 16) rfl (Nat.lt_of_lt_of_le (by decide) hN) rfl ?_
    refine e_aload_n h dX7_take_19 (pc := 19) rfl ?_
    refine e_aload_n h dX7_take_20 (pc := 20) rfl ?_
    refine e_getC h fl_X7_11 dX7_take_21 (pc := 21) rfl (Nat.lt_of_lt_of_le (by decide) hN) rfl rfl (r := 71) rfl ?_
    refine e_aload_n h dX7_take_24 (pc := 24) rfl ?_
    refine e_getI h fl_X7_18 dX7_take_25 (pc := 25) rfl (Nat.lt_of_lt_of_le (by decide) hN) (by decide) ?_
    try simp (disch := omega) only [up_eq, up_ne]
    refine e_aald4 h dX7_take_28 (pc := 28) rfl (Nat.lt_of_lt_of_le (by decide) hN) (j := z - 1) (by omega) (by show _ < 2; omega) rfl (r := o) (by rw [pcr_104 (by decide), hoe]) ?_
    refine e_callV1 lk_X7_22 mv_X5_copy dX7_take_29 (pc := 29) (by rw [ho.c0]; rfl) (by rw [ho.c0]; decide) ho.p0 (Nat.le_of_ble_eq_true rfl) (rmY := rmX5_copy) (by decide) h ?_
    refine c_copy ho hoo (by omega) (fun k hk => by simp (disch := omega) only [up_ne]; rw [hoe]; exact hBO (by omega) k hk) (fun M2 g1 g2 => ?_)
    refine e_iconst h dX7_take_32 (pc := 32)  ?_
    refine e_zret h hr ha dX7_take_33 (pc := 33) (by decide) ?_
    exact kt (by omega) _ (by rw [g2 70 (by omega), up_eq]; omega) (by rw [← hoe]; exact ⟨by rw [g1.1, up_ne (by omega)], fun k hk => by have := g1.2.1 k hk; simp (disch := omega) only [up_ne] at this; exact this, fun k hk => by have := g1.2.2 k hk; simp (disch := omega) only [up_ne] at this; exact this⟩) (fun p hp => by rw [g2 p (by omega), up_row (by omega)])
  · refine e_iconst h dX7_take_7 (pc := 7)  ?_
    refine e_zret h hr ha dX7_take_8 (pc := 8) (by decide) ?_
    exact kf (by omega)
