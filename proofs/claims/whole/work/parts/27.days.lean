theorem L32_or (a b : Nat) : Int32.ofInt a ||| Int32.ofInt b = Int32.ofInt ((a ||| b : Nat) : Int) := by
  apply Int32.toBitVec_inj.1
  simp only [Int32.toBitVec_or, Int32.toBitVec_ofInt, BitVec.ofInt_natCast, BitVec.ofNat_or]
theorem L32_and (a b : Nat) : Int32.ofInt a &&& Int32.ofInt b = Int32.ofInt ((a &&& b : Nat) : Int) := by
  apply Int32.toBitVec_inj.1
  simp only [Int32.toBitVec_and, Int32.toBitVec_ofInt, BitVec.ofInt_natCast, BitVec.ofNat_and]
theorem L32_shl1 : ∀ k, k < 31 → Int32.ofInt 1 <<< (Int32.ofInt (k : Nat) &&& 31) = Int32.ofInt ((1 <<< k : Nat) : Int) := by decide
/-- levels that fit, as bits -/
def fit (S : SD) (x y n : Nat) : Nat → Nat
  | 0 => 0
  | k + 1 => if (x + n * sP S k) % 24 = y then fit S x y n k ||| (1 <<< k) else fit S x y n k
theorem fit_lt {S : SD} {x y n : Nat} : ∀ k, k ≤ 6 → fit S x y n k < 64
  | 0, _ => by show 0 < 64; decide
  | k + 1, h => by
    unfold fit
    have ih := fit_lt (S := S) (x := x) (y := y) (n := n) k (by omega)
    split
    · refine Nat.or_lt_two_pow (n := 6) ih ?_
      rw [Nat.one_shiftLeft]
      exact Nat.pow_lt_pow_right (by decide) (by omega)
    · exact ih
/-- what falls: its place behind so many days -/
def dp (S : SD) (l x : Nat) : Nat → Nat
  | 0 => x
  | k + 1 => (dp S l x k + sP S (l - k)) % 24
theorem dp_lt {S : SD} {l x : Nat} (hx : x < 24) : ∀ k, dp S l x k < 24
  | 0 => hx
  | k + 1 => Nat.mod_lt _ (by decide)
def dropV (S : SD) (l x n : Nat) (w : Int) : Int := if w = 1 then ((dp S l x (min n (l + 1)) : Nat) : Int) else if n ≤ l then ((l - n : Nat) : Int) else 9
def stayA (S : SD) (i j : Nat) : Nat := (((sF S j : Int) - (sF S i : Int)) % 24).toNat
def stayN (S : SD) (i j : Nat) : Nat := (((sP S (sH S i) : Int) - (sP S (sH S j) : Int)) % 24).toNat
def stayV (S : SD) (i j : Nat) (w : Int) : Int := if fdd (fun t => decide (stayN S i j * t % 24 = stayA S i j)) 24 0 = -4 then -4 else if w = 0 then fdd (fun t => decide (stayN S i j * t % 24 = stayA S i j)) 24 0 else fdd (fun t => decide (stayN S i j * t % 24 = 0)) 24 1
theorem fdd_rng {P : Nat → Bool} : ∀ n k : Nat, k + n ≤ 1000 → -4 ≤ fdd P n k ∧ fdd P n k ≤ 1000
  | 0, k, h => by unfold fdd; omega
  | n + 1, k, h => by
    unfold fdd
    split
    · omega
    · exact fdd_rng n (k + 1) (by omega)
theorem fdd_yes {P : Nat → Bool} {n k : Nat} (h : P k = true) : fdd P (n + 1) k = k := by show (if _ then _ else _) = _; rw [if_pos h]
theorem fdd_no {P : Nat → Bool} {n k : Nat} (h : ¬ P k = true) : fdd P (n + 1) k = fdd P n (k + 1) := by show (if _ then _ else _) = _; rw [if_neg h]
set_option maxRecDepth 100000 in
set_option maxHeartbeats 4000000 in
theorem c_firstDay {gg : GT} {ad : Nat → Nat} {N : Nat} {M : Mem} {Post : Option AV → Mem → Prop} {wy ay fr : Nat}  {xwy : Int} (hxwy : xwy = (wy : Int)) {xay : Int} (hxay : xay = (ay : Int)) {xfr : Int} (hxfr : xfr = (fr : Int))  (hwy : wy ≤ 23) (hay : ay ≤ 23) (hfr : fr ≤ 1) (K : Post (some (vi (fdd (fun t => decide (ay * t % 24 = wy)) 24 fr))) M) : Sp gg yX10_firstDayOf cX10_firstDayOf 4 (some .int) rmX10_firstDayOf [vi xwy, vi xay, vi xfr] ad N pT M Post := by
  refine Sp.intro (ls := [some (vi xwy), some (vi xay), some (vi xfr), none]) (by decide +kernel) rfl (Nat.le_of_ble_eq_true rfl) fun κ hgg h hr ha => ?_
  have h : Ok κ RX10 cX10_firstDayOf 4 rmX10_firstDayOf := h
  subst hgg
  subst hxwy
  subst hxay
  subst hxfr
  have loop : ∀ (n k : Nat), k + n = fr + 24 → fdd (fun t => decide (ay * t % 24 = wy)) n k = fdd (fun t => decide (ay * t % 24 = wy)) 24 fr → E κ ad N pT M 2 [some (vi (wy : Int)), some (vi (ay : Int)), some (vi (fr : Int)), some (vi (k : Int))] [] (0, 0) (QR κ ad N pT Post) := by
    intro n
    induction n with
    | zero =>
      intro k hk hin
      refine e_iload_n h dX10_firstDayOf_2 (pc := 2) rfl ?_
      refine e_iload_n h dX10_firstDayOf_3 (pc := 3) rfl ?_
      refine e_bipush h dX10_firstDayOf_4 (pc := 4) (by decide +kernel) ?_
      refine e_iadd h dX10_firstDayOf_6 (pc := 6)  ?_
      refine e_icmp_ge h (tgt := 28) dX10_firstDayOf_7 (pc := 7) (by decide) (by omega) (by omega) (fun hb7 => ?_) (fun hb7 => absurd hb7 (by omega))
      refine e_bipush h dX10_firstDayOf_28 (pc := 28) (by decide +kernel) ?_
      refine e_iret h hr ha dX10_firstDayOf_30 (pc := 30) ?_
      exact cast (by rw [← hin]; rfl) K
    | succ n ih =>
      intro k hk hin
      refine e_iload_n h dX10_firstDayOf_2 (pc := 2) rfl ?_
      refine e_iload_n h dX10_firstDayOf_3 (pc := 3) rfl ?_
      refine e_bipush h dX10_firstDayOf_4 (pc := 4) (by decide +kernel) ?_
      refine e_iadd h dX10_firstDayOf_6 (pc := 6)  ?_
      refine e_icmp_ge h (tgt := 28) dX10_firstDayOf_7 (pc := 7) (by decide) (by omega) (by omega) (fun hb7 => absurd hb7 (by omega)) (fun hb7 => ?_)
      refine e_iload_n h dX10_firstDayOf_10 (pc := 10) rfl ?_
      refine e_iload_n h dX10_firstDayOf_11 (pc := 11) rfl ?_
      refine e_imul h dX10_firstDayOf_12 (pc := 12)  ?_
      rw [show (ay : Int) * (k : Int) = ((ay * k : Nat) : Int) from (Int.natCast_mul _ _).symm]
      have hm := Nat.mul_le_mul hay (show k ≤ 50 by omega)
      refine e_callS1 lk_X10_173 ms_X10_round dX10_firstDayOf_13 (pc := 13) (Nat.le_of_ble_eq_true rfl) (rmY := rmX10_round) (by decide) h ?_
      refine c_round (by omega) ?_
      refine e_iload_n h dX10_firstDayOf_16 (pc := 16) rfl ?_
      refine e_icmp_ne h (tgt := 22) dX10_firstDayOf_17 (pc := 17) (by decide) (by omega) (by omega) (fun hb17 => ?_) (fun hb17 => ?_)
      · refine e_iinc3 h dX10_firstDayOf_22 (pc := 22) (by decide) rfl ?_
        refine e_goto h dX10_firstDayOf_25 (pc := 25) (tgt := 2) (by decide) ?_
        rw [show (k : Int) + 1 = ((k + 1 : Nat) : Int) by omega]
        exact ih (k + 1) (by omega) (by rw [← hin]; exact (fdd_no (by show ¬ decide _ = true; rw [decide_eq_true_eq]; omega)).symm)
      · refine e_iload_n h dX10_firstDayOf_20 (pc := 20) rfl ?_
        refine e_iret h hr ha dX10_firstDayOf_21 (pc := 21) ?_
        exact cast (by rw [← hin, fdd_yes (by show decide _ = true; rw [decide_eq_true_eq]; omega)]) K
  refine e_iload_n h dX10_firstDayOf_0 (pc := 0) rfl ?_
  refine e_istore3 h dX10_firstDayOf_1 (pc := 1) (by decide) rfl ?_
  exact loop 24 fr (by omega) rfl
set_option maxRecDepth 100000 in
set_option maxHeartbeats 4000000 in
theorem c_stay {gg : GT} {ad : Nat → Nat} {N : Nat} {M : Mem} {Post : Option AV → Mem → Prop} {so dr n : Nat} {b : TB} {S O : SD} {h0 : Nat} {f g : Nat → Int} {z : Nat} {K : Nat → SD} {x y w : Int}   (hN : 110 ≤ N) (hR : RepC so dr n b S O h0 f g z K M) (hxx : (-2147483648 ≤ x ∧ x ≤ 2147483647)) (hxy : (-2147483648 ≤ y ∧ y ≤ 2147483647)) (hxw : (-2147483648 ≤ w ∧ w ≤ 2147483647)) (kb : ¬ ((0 ≤ x ∧ x < sT S ∧ 0 ≤ y ∧ y < sT S ∧ x ≠ y) ∧ 0 ≤ w ∧ w ≤ 1) → Post (some (vi (-1))) M) (kt : ∀ (i j : Nat) (v : Int), x = (i : Int) → y = (j : Int) → i < sT S → j < sT S → i ≠ j → 0 ≤ w ∧ w ≤ 1 → v = stayV S i j w → Post (some (vi v)) M) : Sp gg yX10_stay cX10_stay 7 (some .int) rmX10_stay [vr 0, vi x, vi y, vi w] ad N pT M Post := by
  refine Sp.intro (ls := [some (vr 0), some (vi x), some (vi y), some (vi w), none, none, none]) (by decide +kernel) rfl (Nat.le_of_ble_eq_true rfl) fun κ hgg h hr ha => ?_
  have h : Ok κ RX10 cX10_stay 7 rmX10_stay := h
  subst hgg
  obtain ⟨hs, hdr, hs82, hdr82, hsd, hs96, hd96⟩ := hR.isS hN
  have hm9 := hR.m9
  have hm10 := hR.m10
  have hwL := hR.ws.1
  have hwT := hR.ws.2.1
  have r9 := hR.so.1.1
  have r10 := hR.so.1.2.1
  have r11 := hR.so.1.2.2.1
  have w4 := hR.ws.2.2.2.1
  have w5 := hR.ws.2.2.2.2.1
  refine e_aload_n h dX10_stay_0 (pc := 0) rfl ?_
  refine e_iload_n h dX10_stay_1 (pc := 1) rfl ?_
  refine e_iload_n h dX10_stay_2 (pc := 2) rfl ?_
  refine e_callV2 lk_X10_158 mv_X10_areTwoTowns dX10_stay_3 (pc := 3) rfl (by decide) (Nat.lt_of_lt_of_le (by decide) hN) (Nat.le_of_ble_eq_true rfl) (rmY := rmX10_areTwoTowns) (by decide) h ?_
  refine c_areTwo hN hR hxx hxy (fun i j ex ey hii hij hne => ?_) (fun hz => ?_)
  · subst ex
    subst ey
    have xi := hR.so.1.2.2.2.2.1 i hii
    have xj := hR.so.1.2.2.2.2.1 j hij
    have yi := w5 i hii
    have yj := w5 j hij
    have pi_ := hR.so.1.2.2.2.1 (sH S i) (by omega)
    have pj_ := hR.so.1.2.2.2.1 (sH S j) (by omega)
    have qi_ := w4 (sH S i) (by omega)
    have qj_ := w4 (sH S j) (by omega)
    have sA : stayA S i j ≤ 23 := by unfold stayA; omega
    have sN : stayN S i j ≤ 23 := by unfold stayN; omega
    refine e_if_eq h (tgt := 18) dX10_stay_6 (pc := 6) (by decide) (by decide) (fun hz => absurd hz (by decide)) (fun _ => ?_)
    refine e_iload_n h dX10_stay_9 (pc := 9) rfl ?_
    refine e_iconst h dX10_stay_10 (pc := 10)  ?_
    refine e_iconst h dX10_stay_11 (pc := 11)  ?_
    refine e_callS3 lk_X10_121 ms_X10_isWithin dX10_stay_12 (pc := 12) (Nat.le_of_ble_eq_true rfl) (rmY := rmX10_isWithin) (by decide) h ?_
    refine c_isWithin hxw (by decide) (by decide) (fun hzw => ?_) (fun hzw => ?_)
    · skip
      refine e_if_ne h (tgt := 20) dX10_stay_15 (pc := 15) (by decide) (by decide) (fun _ => ?_) (fun hz => absurd hz (by decide))
      refine e_aload_n h dX10_stay_20 (pc := 20) rfl ?_
      refine e_getR h fl_X10_71 dX10_stay_21 (pc := 21) rfl (Nat.lt_of_lt_of_le (by decide) hN) rfl rfl (r := so) (by first | exact hm92 | exact hm9 | (simp (disch := omega) only [up_ne]; exact hm9)) ?_
      refine e_getC h fl_X10_170 dX10_stay_24 (pc := 24) hs.c0 hs.p0 rfl rfl (r := (so + 4)) (pcr_d (by rw [hs.c0]; decide) 3) ?_
      refine e_iload_n h dX10_stay_27 (pc := 27) rfl ?_
      refine e_iald h dX10_stay_28 (pc := 28) hs.c4 hs.p4 rfl (by rw [hs.l4]; omega) ?_
      refine e_aload_n h dX10_stay_29 (pc := 29) rfl ?_
      refine e_getR h fl_X10_71 dX10_stay_30 (pc := 30) rfl (Nat.lt_of_lt_of_le (by decide) hN) rfl rfl (r := so) (by first | exact hm92 | exact hm9 | (simp (disch := omega) only [up_ne]; exact hm9)) ?_
      refine e_getC h fl_X10_170 dX10_stay_33 (pc := 33) hs.c0 hs.p0 rfl rfl (r := (so + 4)) (pcr_d (by rw [hs.c0]; decide) 3) ?_
      refine e_iload_n h dX10_stay_36 (pc := 36) rfl ?_
      refine e_iald h dX10_stay_37 (pc := 37) hs.c4 hs.p4 rfl (by rw [hs.l4]; omega) ?_
      refine e_isub h dX10_stay_38 (pc := 38)  ?_
      refine e_callS1 lk_X10_173 ms_X10_round dX10_stay_39 (pc := 39) (Nat.le_of_ble_eq_true rfl) (rmY := rmX10_round) (by decide) h ?_
      refine c_round (by omega) ?_
      rw [show (M (so + 4) j - M (so + 4) i) % 24 = ((stayA S i j : Nat) : Int) by unfold stayA; rw [xi.2.1, xj.2.1]; omega]
      refine e_istore4 h dX10_stay_42 (pc := 42) (by decide) rfl ?_
      refine e_aload_n h dX10_stay_44 (pc := 44) rfl ?_
      refine e_getR h fl_X10_71 dX10_stay_45 (pc := 45) rfl (Nat.lt_of_lt_of_le (by decide) hN) rfl rfl (r := so) (by first | exact hm92 | exact hm9 | (simp (disch := omega) only [up_ne]; exact hm9)) ?_
      refine e_getC h fl_X10_125 dX10_stay_48 (pc := 48) hs.c0 hs.p0 rfl rfl (r := (so + 1)) (pcr_d (by rw [hs.c0]; decide) 0) ?_
      refine e_aload_n h dX10_stay_51 (pc := 51) rfl ?_
      refine e_getR h fl_X10_71 dX10_stay_52 (pc := 52) rfl (Nat.lt_of_lt_of_le (by decide) hN) rfl rfl (r := so) (by first | exact hm92 | exact hm9 | (simp (disch := omega) only [up_ne]; exact hm9)) ?_
      refine e_getC h fl_X10_176 dX10_stay_55 (pc := 55) hs.c0 hs.p0 rfl rfl (r := (so + 3)) (pcr_d (by rw [hs.c0]; decide) 2) ?_
      refine e_iload_n h dX10_stay_58 (pc := 58) rfl ?_
      refine e_iald h dX10_stay_59 (pc := 59) hs.c3 hs.p3 rfl (by rw [hs.l3]; omega) ?_
      rw [xi.1]
      refine e_iald h dX10_stay_60 (pc := 60) hs.c1 hs.p1 (j := (sH S i)) (by omega) (by rw [hs.l1]; omega) ?_
      refine e_aload_n h dX10_stay_61 (pc := 61) rfl ?_
      refine e_getR h fl_X10_71 dX10_stay_62 (pc := 62) rfl (Nat.lt_of_lt_of_le (by decide) hN) rfl rfl (r := so) (by first | exact hm92 | exact hm9 | (simp (disch := omega) only [up_ne]; exact hm9)) ?_
      refine e_getC h fl_X10_125 dX10_stay_65 (pc := 65) hs.c0 hs.p0 rfl rfl (r := (so + 1)) (pcr_d (by rw [hs.c0]; decide) 0) ?_
      refine e_aload_n h dX10_stay_68 (pc := 68) rfl ?_
      refine e_getR h fl_X10_71 dX10_stay_69 (pc := 69) rfl (Nat.lt_of_lt_of_le (by decide) hN) rfl rfl (r := so) (by first | exact hm92 | exact hm9 | (simp (disch := omega) only [up_ne]; exact hm9)) ?_
      refine e_getC h fl_X10_176 dX10_stay_72 (pc := 72) hs.c0 hs.p0 rfl rfl (r := (so + 3)) (pcr_d (by rw [hs.c0]; decide) 2) ?_
      refine e_iload_n h dX10_stay_75 (pc := 75) rfl ?_
      refine e_iald h dX10_stay_76 (pc := 76) hs.c3 hs.p3 rfl (by rw [hs.l3]; omega) ?_
      rw [xj.1]
      refine e_iald h dX10_stay_77 (pc := 77) hs.c1 hs.p1 (j := (sH S j)) (by omega) (by rw [hs.l1]; omega) ?_
      refine e_isub h dX10_stay_78 (pc := 78)  ?_
      refine e_callS1 lk_X10_173 ms_X10_round dX10_stay_79 (pc := 79) (Nat.le_of_ble_eq_true rfl) (rmY := rmX10_round) (by decide) h ?_
      refine c_round (by omega) ?_
      rw [show (M (so + 1) (sH S i) - M (so + 1) (sH S j)) % 24 = ((stayN S i j : Nat) : Int) by unfold stayN; rw [pi_.1, pj_.1]; omega]
      refine e_istore5 h dX10_stay_82 (pc := 82) (by decide) rfl ?_
      refine e_iload h dX10_stay_84 (pc := 84) rfl ?_
      refine e_iload h dX10_stay_86 (pc := 86) rfl ?_
      refine e_iconst h dX10_stay_88 (pc := 88)  ?_
      refine e_callS3 lk_X10_179 ms_X10_firstDayOf dX10_stay_89 (pc := 89) (Nat.le_of_ble_eq_true rfl) (rmY := rmX10_firstDayOf) (by decide) h ?_
      refine c_firstDay (wy := stayA S i j) (ay := stayN S i j) (fr := 0) rfl rfl rfl sA sN (by omega) ?_
      generalize hfd : fdd (fun t => decide (stayN S i j * t % 24 = stayA S i j)) 24 0 = fd
      have hfr1 := fdd_rng (P := fun t => decide (stayN S i j * t % 24 = stayA S i j)) 24 0 (by omega)
      rw [hfd] at hfr1
      refine e_istore6 h dX10_stay_92 (pc := 92) (by decide) rfl ?_
      refine e_iload h dX10_stay_94 (pc := 94) rfl ?_
      refine e_bipush h dX10_stay_96 (pc := 96) (by decide +kernel) ?_
      refine e_icmp_ne h (tgt := 104) dX10_stay_98 (pc := 98) (by decide) (by omega) (by decide) (fun hb98 => ?_) (fun hb98 => ?_)
      · refine e_iload_n h dX10_stay_104 (pc := 104) rfl ?_
        refine e_if_ne h (tgt := 113) dX10_stay_105 (pc := 105) (by decide) (by omega) (fun hb105 => ?_) (fun hb105 => ?_)
        · refine e_iconst h dX10_stay_113 (pc := 113)  ?_
          refine e_iload h dX10_stay_114 (pc := 114) rfl ?_
          refine e_iconst h dX10_stay_116 (pc := 116)  ?_
          refine e_callS3 lk_X10_179 ms_X10_firstDayOf dX10_stay_117 (pc := 117) (Nat.le_of_ble_eq_true rfl) (rmY := rmX10_firstDayOf) (by decide) h ?_
          refine c_firstDay (wy := 0) (ay := stayN S i j) (fr := 1) rfl rfl rfl (by omega) sN (by omega) ?_
          refine e_iret h hr ha dX10_stay_120 (pc := 120) ?_
          exact kt i j _ rfl rfl hii hij hne hzw (by unfold stayV; rw [hfd, if_neg (by omega), if_neg (by omega)])
        · refine e_iload h dX10_stay_108 (pc := 108) rfl ?_
          refine e_goto h dX10_stay_110 (pc := 110) (tgt := 120) (by decide) ?_
          refine e_iret h hr ha dX10_stay_120 (pc := 120) ?_
          exact kt i j _ rfl rfl hii hij hne hzw (by unfold stayV; rw [hfd, if_neg (by omega), if_pos (by omega)])
      · refine e_bipush h dX10_stay_101 (pc := 101) (by decide +kernel) ?_
        refine e_iret h hr ha dX10_stay_103 (pc := 103) ?_
        exact kt i j _ rfl rfl hii hij hne hzw (by unfold stayV; rw [hfd, if_pos (by omega)])
    · skip
      refine e_if_ne h (tgt := 20) dX10_stay_15 (pc := 15) (by decide) (by decide) (fun hz => absurd hz (by decide)) (fun _ => ?_)
      refine e_iconst h dX10_stay_18 (pc := 18)  ?_
      refine e_iret h hr ha dX10_stay_19 (pc := 19) ?_
      exact kb (by omega)
  · skip
    refine e_if_eq h (tgt := 18) dX10_stay_6 (pc := 6) (by decide) (by decide) (fun _ => ?_) (fun hz => absurd hz (by decide))
    refine e_iconst h dX10_stay_18 (pc := 18)  ?_
    refine e_iret h hr ha dX10_stay_19 (pc := 19) ?_
    exact kb (by omega)
set_option maxRecDepth 100000 in
set_option maxHeartbeats 4000000 in
theorem c_meet {gg : GT} {ad : Nat → Nat} {N : Nat} {M : Mem} {Post : Option AV → Mem → Prop} {so dr n : Nat} {b : TB} {S O : SD} {h0 : Nat} {f g : Nat → Int} {z : Nat} {K : Nat → SD} {x y : Int}   (hN : 110 ≤ N) (hR : RepC so dr n b S O h0 f g z K M) (hxx : (-2147483648 ≤ x ∧ x ≤ 2147483647)) (hxy : (-2147483648 ≤ y ∧ y ≤ 2147483647)) (kb : ¬ (0 ≤ x ∧ x < sT S ∧ 0 ≤ y ∧ y < sT S ∧ x ≠ y) → Post (some (vi (-1))) M) (kt : ∀ (i j : Nat) (M2 : Mem) (v : Int), x = (i : Int) → y = (j : Int) → i < sT S → j < sT S → i ≠ j → v = fdd (fun t => meetB (cs S O i t) (cs S O j t)) 60 1 → RepC so dr n b S O h0 f g z K M2 → (∀ p, 110 ≤ p → M2 p = M p) → Post (some (vi v)) M2) : Sp gg yX10_meet cX10_meet 5 (some .int) rmX10_meet [vr 0, vi x, vi y] ad N pT M Post := by
  refine Sp.intro (ls := [some (vr 0), some (vi x), some (vi y), none, none]) (by decide +kernel) rfl (Nat.le_of_ble_eq_true rfl) fun κ hgg h hr ha => ?_
  have h : Ok κ RX10 cX10_meet 5 rmX10_meet := h
  subst hgg
  obtain ⟨hs, hdr, hs82, hdr82, hsd, hs96, hd96⟩ := hR.isS hN
  have hm9 := hR.m9
  have hm10 := hR.m10
  have hwL := hR.ws.1
  have hwT := hR.ws.2.1
  have r9 := hR.so.1.1
  have r10 := hR.so.1.2.1
  have r11 := hR.so.1.2.2.1
  have w4 := hR.ws.2.2.2.1
  have w5 := hR.ws.2.2.2.2.1
  refine e_aload_n h dX10_meet_0 (pc := 0) rfl ?_
  refine e_iload_n h dX10_meet_1 (pc := 1) rfl ?_
  refine e_iload_n h dX10_meet_2 (pc := 2) rfl ?_
  refine e_callV2 lk_X10_158 mv_X10_areTwoTowns dX10_meet_3 (pc := 3) rfl (by decide) (Nat.lt_of_lt_of_le (by decide) hN) (Nat.le_of_ble_eq_true rfl) (rmY := rmX10_areTwoTowns) (by decide) h ?_
  refine c_areTwo hN hR hxx hxy (fun i j ex ey hii hij hne => ?_) (fun hz => ?_)
  · subst ex
    subst ey
    refine e_if_ne h (tgt := 11) dX10_meet_6 (pc := 6) (by decide) (by decide) (fun _ => ?_) (fun hz => absurd hz (by decide))
    refine e_aload_n h dX10_meet_11 (pc := 11) rfl ?_
    refine e_callV0 lk_X10_135 mv_X10_followed dX10_meet_12 (pc := 12) rfl (by decide) (Nat.lt_of_lt_of_le (by decide) hN) (Nat.le_of_ble_eq_true rfl) (rmY := rmX10_followed) (by decide) h ?_
    refine c_followed hN hR (fun M2 hR2 hfl hfr => ?_)
    have hm92 := hR2.m9
    have hm102 := hR2.m10
    obtain ⟨o, hoe⟩ : ∃ o, o = 7 + 4 * i := ⟨_, rfl⟩
    have ho : IsC o N := hoe ▸ isC_fleet hN (by omega)
    have hocr : CR S O i (sH S i) (sF S i) M2 o := by rw [hoe]; exact hfl.2 i (by omega)
    have howf := crs_wf (S := S) (O := O) (i := i) (l0 := sH S i) (x0 := sF S i) (w5 i (by omega)).1 (w5 i (by omega)).2.1 (hR.wo.2.2 i (by omega))
    obtain ⟨o2, ho2e⟩ : ∃ o, o = 7 + 4 * j := ⟨_, rfl⟩
    have ho2 : IsC o2 N := ho2e ▸ isC_fleet hN (by omega)
    have ho2cr : CR S O j (sH S j) (sF S j) M2 o2 := by rw [ho2e]; exact hfl.2 j (by omega)
    have ho2wf := crs_wf (S := S) (O := O) (i := j) (l0 := sH S j) (x0 := sF S j) (w5 j (by omega)).1 (w5 j (by omega)).2.1 (hR.wo.2.2 j (by omega))
    refine e_astore3 h dX10_meet_15 (pc := 15) (by decide) rfl ?_
    refine e_iconst h dX10_meet_16 (pc := 16)  ?_
    refine e_istore4 h dX10_meet_17 (pc := 17) (by decide) rfl ?_
    have loop : ∀ (n k : Nat), 1 ≤ k → k + n = 61 → fdd (fun t => meetB (cs S O i t) (cs S O j t)) n k = fdd (fun t => meetB (cs S O i t) (cs S O j t)) 60 1 → E κ ad N pT M2 19 [some (vr 0), some (vi (i : Int)), some (vi (j : Int)), some (vr 5), some (vi (k : Int))] [] (0, 0) (QR κ ad N pT Post) := by
      intro n
      induction n with
      | zero =>
        intro k hk1 hk hin
        refine e_iload h dX10_meet_19 (pc := 19) rfl ?_
        refine e_bipush h dX10_meet_21 (pc := 21) (by decide +kernel) ?_
        refine e_icmp_gt h (tgt := 55) dX10_meet_23 (pc := 23) (by decide) (by omega) (by decide) (fun hb23 => ?_) (fun hb23 => absurd hb23 (by omega))
        refine e_bipush h dX10_meet_55 (pc := 55) (by decide +kernel) ?_
        refine e_iret h hr ha dX10_meet_57 (pc := 57) ?_
        exact kt i j M2 _ rfl rfl hii hij hne (by rw [← hin]; rfl) hR2 (fun p hp => hfr p (by omega) (by omega))
      | succ n ih =>
        intro k hk1 hk hin
        refine e_iload h dX10_meet_19 (pc := 19) rfl ?_
        refine e_bipush h dX10_meet_21 (pc := 21) (by decide +kernel) ?_
        refine e_icmp_gt h (tgt := 55) dX10_meet_23 (pc := 23) (by decide) (by omega) (by decide) (fun hb23 => absurd hb23 (by omega)) (fun hb23 => ?_)
        refine e_aload_n h dX10_meet_26 (pc := 26) rfl ?_
        refine e_getC h fl_X10_139 dX10_meet_27 (pc := 27) rfl (Nat.lt_of_lt_of_le (by decide) hN) rfl rfl (r := 6) rfl ?_
        refine e_iload_n h dX10_meet_30 (pc := 30) rfl ?_
        refine e_aald3 h dX10_meet_31 (pc := 31) rfl (Nat.lt_of_lt_of_le (by decide) hN) rfl (by show _ < 6; omega) rfl (r := o) (by rw [pcr_103 (by decide)]; omega) ?_
        refine e_aload_n h dX10_meet_32 (pc := 32) rfl ?_
        refine e_getC h fl_X10_139 dX10_meet_33 (pc := 33) rfl (Nat.lt_of_lt_of_le (by decide) hN) rfl rfl (r := 6) rfl ?_
        refine e_iload_n h dX10_meet_36 (pc := 36) rfl ?_
        refine e_aald3 h dX10_meet_37 (pc := 37) rfl (Nat.lt_of_lt_of_le (by decide) hN) rfl (by show _ < 6; omega) rfl (r := o2) (by rw [pcr_103 (by decide)]; omega) ?_
        refine e_iload h dX10_meet_38 (pc := 38) rfl ?_
        refine e_callV2 lk_X10_162 mv_X1_meets dX10_meet_40 (pc := 40) (by rw [ho.c0]; rfl) (by rw [ho.c0]; decide) ho.p0 (Nat.le_of_ble_eq_true rfl) (rmY := rmX1_meets) (by decide) h ?_
        have z1 := (hocr.2 k (by omega))
        have z2 := (ho2cr.2 k (by omega))
        have z3 := howf k
        have z4 := ho2wf k
        refine c_meets (d := k) rfl ho ho2 (by omega) (by omega) (by omega) (by omega) (by omega) (fun m1 m2 m3 => ?_) (fun hm => ?_)
        · have hmt : meetB (cs S O i k) (cs S O j k) = true := meetB_iff.2 ⟨by show (crs S O i _ _ k).1 ≠ 9; omega, by show (crs S O i _ _ k).1 = (crs S O j _ _ k).1; omega, by show (crs S O i _ _ k).2.1 = (crs S O j _ _ k).2.1; omega⟩
          refine e_if_eq h (tgt := 49) dX10_meet_43 (pc := 43) (by decide) (by decide) (fun hz => absurd hz (by decide)) (fun _ => ?_)
          refine e_iload h dX10_meet_46 (pc := 46) rfl ?_
          refine e_iret h hr ha dX10_meet_48 (pc := 48) ?_
          exact kt i j M2 _ rfl rfl hii hij hne (by rw [← hin, fdd_yes hmt]) hR2 (fun p hp => hfr p (by omega) (by omega))
        · have hmt : ¬ meetB (cs S O i k) (cs S O j k) = true := fun q => by
              obtain ⟨u1, u2, u3⟩ := meetB_iff.1 q
              have u1 : (crs S O i (sH S i) (sF S i) k).1 ≠ 9 := u1
              have u2 : (crs S O i (sH S i) (sF S i) k).1 = (crs S O j (sH S j) (sF S j) k).1 := u2
              have u3 : (crs S O i (sH S i) (sF S i) k).2.1 = (crs S O j (sH S j) (sF S j) k).2.1 := u3
              exact hm ⟨by omega, by omega, by omega⟩
          refine e_if_eq h (tgt := 49) dX10_meet_43 (pc := 43) (by decide) (by decide) (fun _ => ?_) (fun hz => absurd hz (by decide))
          refine e_iinc4 h dX10_meet_49 (pc := 49) (by decide) rfl ?_
          refine e_goto h dX10_meet_52 (pc := 52) (tgt := 19) (by decide) ?_
          rw [show (k : Int) + 1 = ((k + 1 : Nat) : Int) by omega]
          exact ih (k + 1) (by omega) (by omega) (by rw [← hin]; exact (fdd_no hmt).symm)
    exact loop 60 1 (by omega) (by omega) rfl
  · skip
    refine e_if_ne h (tgt := 11) dX10_meet_6 (pc := 6) (by decide) (by decide) (fun hz => absurd hz (by decide)) (fun _ => ?_)
    refine e_iconst h dX10_meet_9 (pc := 9)  ?_
    refine e_iret h hr ha dX10_meet_10 (pc := 10) ?_
    exact kb (by omega)
