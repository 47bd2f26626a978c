theorem stay_mod {x : Int} {t : Nat} : ((((x % 24).toNat * t : Nat) : Int)) % 24 = (x * t) % 24 := by
  have h : ((x % 24).toNat : Int) = x % 24 := by omega
  rw [Int.natCast_mul, h, Int.mul_emod (x % 24), Int.emod_emod_of_dvd x (Int.dvd_refl 24), ← Int.mul_emod]
theorem stay_one {fi fj pi pj t : Nat} : (fi + pi * t) % 24 = (fj + pj * t) % 24 ↔ (((pi : Int) - pj) % 24).toNat * t % 24 = (((fj : Int) - fi) % 24).toNat := by
  have h := stay_mod (x := (pi : Int) - pj) (t := t)
  have e : ((pi : Int) - pj) * (t : Int) = ((pi * t : Nat) : Int) - ((pj * t : Nat) : Int) := by rw [Int.sub_mul, Int.natCast_mul, Int.natCast_mul]
  rw [e] at h
  generalize (((pi : Int) - pj) % 24).toNat * t = w at h ⊢
  generalize pi * t = a at h ⊢
  generalize pj * t = c at h ⊢
  omega
theorem stay_zero {pi pj t : Nat} : (((pi * t : Nat) : Int) - ((pj * t : Nat) : Int)).tmod 24 = 0 ↔ (((pi : Int) - pj) % 24).toNat * t % 24 = 0 := by
  have h := stay_mod (x := (pi : Int) - pj) (t := t)
  have e : ((pi : Int) - pj) * (t : Int) = ((pi * t : Nat) : Int) - ((pj * t : Nat) : Int) := by rw [Int.sub_mul, Int.natCast_mul, Int.natCast_mul]
  rw [e] at h
  generalize (((pi : Int) - pj) % 24).toNat * t = w at h ⊢
  generalize ((pi * t : Nat) : Int) - ((pj * t : Nat) : Int) = a at h ⊢
  rw [← Int.dvd_iff_tmod_eq_zero, Int.dvd_iff_emod_eq_zero]
  omega

theorem fdd_neg {P : Nat → Bool} : ∀ n k, fdd P n k = -4 ∨ 0 ≤ fdd P n k
  | 0, _ => Or.inl rfl
  | n + 1, k => by
    unfold fdd
    split
    · right; omega
    · exact fdd_neg n (k + 1)
def ag (P : Nat → Bool) (k : Nat) : Int := if k = 0 then fdd P 24 1 else fdd P (25 - k) k
set_option maxRecDepth 100000 in
set_option maxHeartbeats 4000000 in
theorem m_stay {gg : GT} {ad : Nat → Nat} {N : Nat} {M : Mem} {Post : Option AV → Mem → Prop} {n : Nat} {b : TB} {S O : SD} {h0 : Nat} {f g : Nat → Int} {z : Nat} {K : Nat → SD} {x y w : Int}   (hN : 139 ≤ N) (hR : RepM n b S O h0 f g z K M) (hxx : (-2147483648 ≤ x ∧ x ≤ 2147483647)) (hxy : (-2147483648 ≤ y ∧ y ≤ 2147483647)) (hxw : (-2147483648 ≤ w ∧ w ≤ 2147483647)) (kb : ¬ ((0 ≤ x ∧ x < sT S ∧ 0 ≤ y ∧ y < sT S ∧ x ≠ y) ∧ 0 ≤ w ∧ w ≤ 1) → Post (some (vi (-1))) M) (kt : ∀ (i j : Nat) (v : Int), x = (i : Int) → y = (j : Int) → i < sT S → j < sT S → i ≠ j → 0 ≤ w ∧ w ≤ 1 → v = stayV S i j w → Post (some (vi v)) M) : Sp gg yX11_stay cX11_stay 8 (some .int) rmX11_stay [vr 110, vi x, vi y, vi w] ad N pT M Post := by
  refine Sp.intro (ls := [some (vr 110), some (vi x), some (vi y), some (vi w), none, none, none, none]) (by decide +kernel) rfl (Nat.le_of_ble_eq_true rfl) fun κ hgg h hr ha => ?_
  have h : Ok κ RX11 cX11_stay 8 rmX11_stay := h
  subst hgg
  have hwL := hR.ws.1
  have hwT := hR.ws.2.1
  have hwB := hR.ws.2.2.1
  have w4 := hR.ws.2.2.2.1
  have w5 := hR.ws.2.2.2.2.1
  have r9 := hR.ms.1
  have r10 := hR.ms.2.1
  have r11 := hR.ms.2.2.1
  refine e_aload_n h dX11_stay_0 (pc := 0) rfl ?_
  refine e_iload_n h dX11_stay_1 (pc := 1) rfl ?_
  refine e_callV1 lk_X11_180 mv_X11_isTown dX11_stay_2 (pc := 2) rfl (by decide) (Nat.lt_of_lt_of_le (by decide) hN) (Nat.le_of_ble_eq_true rfl) (rmY := rmX11_isTown) (by decide) h ?_
  refine m_isTown hN hR hxx (fun i ex hii => ?_) (fun hzx => ?_)
  · subst ex
    refine e_if_eq h (tgt := 31) dX11_stay_5 (pc := 5) (by decide) (by decide) (fun hz => absurd hz (by decide)) (fun _ => ?_)
    refine e_aload_n h dX11_stay_8 (pc := 8) rfl ?_
    refine e_iload_n h dX11_stay_9 (pc := 9) rfl ?_
    refine e_callV1 lk_X11_180 mv_X11_isTown dX11_stay_10 (pc := 10) rfl (by decide) (Nat.lt_of_lt_of_le (by decide) hN) (Nat.le_of_ble_eq_true rfl) (rmY := rmX11_isTown) (by decide) h ?_
    refine m_isTown hN hR hxy (fun j ey hij => ?_) (fun hzy => ?_)
    · subst ey
      refine e_if_eq h (tgt := 31) dX11_stay_13 (pc := 13) (by decide) (by decide) (fun hz => absurd hz (by decide)) (fun _ => ?_)
      refine e_iload_n h dX11_stay_16 (pc := 16) rfl ?_
      refine e_iload_n h dX11_stay_17 (pc := 17) rfl ?_
      refine e_icmp_eq h (tgt := 31) dX11_stay_18 (pc := 18) (by decide) (by omega) (by omega) (fun hb18 => ?_) (fun hb18 => ?_)
      · refine e_iconst h dX11_stay_31 (pc := 31)  ?_
        refine e_iret h hr ha dX11_stay_32 (pc := 32) ?_
        exact kb (by omega)
      · have hne : i ≠ j := by omega
        refine e_iload_n h dX11_stay_21 (pc := 21) rfl ?_
        refine e_i2l h dX11_stay_22 (pc := 22) (by omega) ?_
        refine e_lconst h dX11_stay_23 (pc := 23) (x := 0) rfl ?_
        refine e_lconst h dX11_stay_24 (pc := 24) (x := 1) rfl ?_
        refine e_callS3 lk_X11_97 ms_X11_in dX11_stay_25 (pc := 25) (Nat.le_of_ble_eq_true rfl) (rmY := rmX11_in) (by decide) h ?_
        refine c_in (by omega) (by omega) (by omega) (fun hzw => ?_) (fun hzw => ?_)
        · skip
          refine e_if_ne h (tgt := 33) dX11_stay_28 (pc := 28) (by decide) (by decide) (fun _ => ?_) (fun hz => absurd hz (by decide))
          refine e_bipush h dX11_stay_33 (pc := 33) (by decide +kernel) ?_
          refine e_istore4 h dX11_stay_35 (pc := 35) (by decide) rfl ?_
          refine e_bipush h dX11_stay_37 (pc := 37) (by decide +kernel) ?_
          refine e_istore5 h dX11_stay_39 (pc := 39) (by decide) rfl ?_
          refine e_bipush h dX11_stay_41 (pc := 41) (by decide +kernel) ?_
          refine e_istore6 h dX11_stay_43 (pc := 43) (by decide) rfl ?_
          have xi := hR.ms.2.2.2.2.1 i hii
          have xj := hR.ms.2.2.2.2.1 j hij
          have yi := w5 i hii
          have yj := w5 j hij
          have pi_ := hR.ms.2.2.2.1 (sH S i) (by omega)
          have pj_ := hR.ms.2.2.2.1 (sH S j) (by omega)
          have qi_ := (w4 (sH S i) (by omega)).1
          have qj_ := (w4 (sH S j) (by omega)).1
          have loop : ∀ (k : Nat), k ≤ 24 → E κ ad N pT M 45 [some (vr 110), some (vi (i : Int)), some (vi (j : Int)), some (vi w), some (vi (fdd (fun t => decide (stayN S i j * t % 24 = stayA S i j)) (24 - k) k)), some (vi (ag (fun t => decide (stayN S i j * t % 24 = 0)) k)), some (vi ((k : Int) - 1)), none] [] (0, 0) (QR κ ad N pT Post) := by
            intro k
            induction k with
            | zero =>
              intro hk
              have hrg := fdd_rng (P := (fun t => decide (stayN S i j * t % 24 = stayA S i j))) 24 0 (by omega)
              have hng := fdd_neg (P := (fun t => decide (stayN S i j * t % 24 = stayA S i j))) 24 0
              rw [show 24 - 0 = 24 from rfl]
              refine e_iload h dX11_stay_45 (pc := 45) rfl ?_
              refine e_if_lt h (tgt := 177) dX11_stay_47 (pc := 47) (by decide) (by omega) (fun hb47 => ?_) (fun hb47 => absurd hb47 (by omega))
              refine e_iload h dX11_stay_177 (pc := 177) rfl ?_
              refine e_if_lt h (tgt := 186) dX11_stay_179 (pc := 179) (by decide) (by omega) (fun hb179 => ?_) (fun hb179 => ?_)
              · refine e_iload h dX11_stay_186 (pc := 186) rfl ?_
                refine e_goto h dX11_stay_188 (pc := 188) (tgt := 193) (by decide) ?_
                refine e_iret h hr ha dX11_stay_193 (pc := 193) ?_
                exact kt i j _ rfl rfl hii hij hne hzw (by unfold stayV; rcases hng with q | q <;> first | (rw [if_pos q]; exact q) | omega)
              · refine e_iload_n h dX11_stay_182 (pc := 182) rfl ?_
                refine e_if_ne h (tgt := 191) dX11_stay_183 (pc := 183) (by decide) (by omega) (fun hb183 => ?_) (fun hb183 => ?_)
                · refine e_iload h dX11_stay_191 (pc := 191) rfl ?_
                  refine e_iret h hr ha dX11_stay_193 (pc := 193) ?_
                  exact kt i j _ rfl rfl hii hij hne hzw (by unfold stayV; rw [if_neg (by omega), if_neg (by omega)]; rfl)
                · refine e_iload h dX11_stay_186 (pc := 186) rfl ?_
                  refine e_goto h dX11_stay_188 (pc := 188) (tgt := 193) (by decide) ?_
                  refine e_iret h hr ha dX11_stay_193 (pc := 193) ?_
                  exact kt i j _ rfl rfl hii hij hne hzw (by unfold stayV; rw [if_neg (by omega), if_pos (by omega)])
            | succ k ih =>
              intro hk
              rw [show ((k + 1 : Nat) : Int) - 1 = (k : Int) by omega]
              have hmi := Nat.mul_le_mul qi_ (show k ≤ 23 by omega)
              have hmj := Nat.mul_le_mul qj_ (show k ≤ 23 by omega)
              refine e_iload h dX11_stay_45 (pc := 45) rfl ?_
              refine e_if_lt h (tgt := 177) dX11_stay_47 (pc := 47) (by decide) (by omega) (fun hb47 => absurd hb47 (by omega)) (fun hb47 => ?_)
              refine e_aload_n h dX11_stay_50 (pc := 50) rfl ?_
              refine e_getC h fl_X11_28 dX11_stay_51 (pc := 51) rfl (Nat.lt_of_lt_of_le (by decide) hN) rfl rfl (r := 117) rfl ?_
              refine e_iload_n h dX11_stay_54 (pc := 54) rfl ?_
              refine e_iald h dX11_stay_55 (pc := 55) rfl (Nat.lt_of_lt_of_le (by decide) hN) rfl (by show _ < 12; omega) ?_
              rw [xi.2.1]
              refine e_aload_n h dX11_stay_56 (pc := 56) rfl ?_
              refine e_getC h fl_X11_16 dX11_stay_57 (pc := 57) rfl (Nat.lt_of_lt_of_le (by decide) hN) rfl rfl (r := 113) rfl ?_
              refine e_aload_n h dX11_stay_60 (pc := 60) rfl ?_
              refine e_getC h fl_X11_25 dX11_stay_61 (pc := 61) rfl (Nat.lt_of_lt_of_le (by decide) hN) rfl rfl (r := 116) rfl ?_
              refine e_iload_n h dX11_stay_64 (pc := 64) rfl ?_
              refine e_iald h dX11_stay_65 (pc := 65) rfl (Nat.lt_of_lt_of_le (by decide) hN) rfl (by show _ < 12; omega) ?_
              rw [xi.1]
              refine e_iald h dX11_stay_66 (pc := 66) rfl (Nat.lt_of_lt_of_le (by decide) hN) (j := (sH S i)) (by omega) (by show _ < 12; omega) ?_
              rw [pi_.1]
              refine e_iload h dX11_stay_67 (pc := 67) rfl ?_
              refine e_imul h dX11_stay_69 (pc := 69)  ?_
              rw [show (sP S (sH S i) : Int) * (k : Int) = ((sP S (sH S i) * k : Nat) : Int) from (Int.natCast_mul _ _).symm]
              refine e_iadd h dX11_stay_70 (pc := 70)  ?_
              refine e_bipush h dX11_stay_71 (pc := 71) (by decide +kernel) ?_
              refine e_irem h dX11_stay_73 (pc := 73) (by omega) (by decide) ?_
              rw [show ((sF S i : Int) + ((sP S (sH S i) * k : Nat) : Int)).tmod 24 = (((sF S i + sP S (sH S i) * k) % 24 : Nat) : Int) by rw [Int.tmod_eq_emod_of_nonneg (by omega)]; omega]
              refine e_aload_n h dX11_stay_74 (pc := 74) rfl ?_
              refine e_getC h fl_X11_28 dX11_stay_75 (pc := 75) rfl (Nat.lt_of_lt_of_le (by decide) hN) rfl rfl (r := 117) rfl ?_
              refine e_iload_n h dX11_stay_78 (pc := 78) rfl ?_
              refine e_iald h dX11_stay_79 (pc := 79) rfl (Nat.lt_of_lt_of_le (by decide) hN) rfl (by show _ < 12; omega) ?_
              rw [xj.2.1]
              refine e_aload_n h dX11_stay_80 (pc := 80) rfl ?_
              refine e_getC h fl_X11_16 dX11_stay_81 (pc := 81) rfl (Nat.lt_of_lt_of_le (by decide) hN) rfl rfl (r := 113) rfl ?_
              refine e_aload_n h dX11_stay_84 (pc := 84) rfl ?_
              refine e_getC h fl_X11_25 dX11_stay_85 (pc := 85) rfl (Nat.lt_of_lt_of_le (by decide) hN) rfl rfl (r := 116) rfl ?_
              refine e_iload_n h dX11_stay_88 (pc := 88) rfl ?_
              refine e_iald h dX11_stay_89 (pc := 89) rfl (Nat.lt_of_lt_of_le (by decide) hN) rfl (by show _ < 12; omega) ?_
              rw [xj.1]
              refine e_iald h dX11_stay_90 (pc := 90) rfl (Nat.lt_of_lt_of_le (by decide) hN) (j := (sH S j)) (by omega) (by show _ < 12; omega) ?_
              rw [pj_.1]
              refine e_iload h dX11_stay_91 (pc := 91) rfl ?_
              refine e_imul h dX11_stay_93 (pc := 93)  ?_
              rw [show (sP S (sH S j) : Int) * (k : Int) = ((sP S (sH S j) * k : Nat) : Int) from (Int.natCast_mul _ _).symm]
              refine e_iadd h dX11_stay_94 (pc := 94)  ?_
              refine e_bipush h dX11_stay_95 (pc := 95) (by decide +kernel) ?_
              refine e_irem h dX11_stay_97 (pc := 97) (by omega) (by decide) ?_
              rw [show ((sF S j : Int) + ((sP S (sH S j) * k : Nat) : Int)).tmod 24 = (((sF S j + sP S (sH S j) * k) % 24 : Nat) : Int) by rw [Int.tmod_eq_emod_of_nonneg (by omega)]; omega]
              refine e_icmp_ne h (tgt := 105) dX11_stay_98 (pc := 98) (by decide) (by omega) (by omega) (fun hb98 => ?_) (fun hb98 => ?_)
              · refine e_iconst h dX11_stay_105 (pc := 105)  ?_
                refine e_istore7 h dX11_stay_106 (pc := 106) (by decide) rfl ?_
                refine e_iload h dX11_stay_108 (pc := 108) rfl ?_
                refine e_if_eq h (tgt := 118) dX11_stay_110 (pc := 110) (by decide) (by decide) (fun _ => ?_) (fun hz => absurd hz (by decide))
                refine e_iload h dX11_stay_118 (pc := 118) rfl ?_
                refine e_istore4 h dX11_stay_120 (pc := 120) (by decide) rfl ?_
                refine e_iload h dX11_stay_122 (pc := 122) rfl ?_
                refine e_if_le h (tgt := 167) dX11_stay_124 (pc := 124) (by decide) (by omega) (fun hb124 => ?_) (fun hb124 => ?_)
                · refine e_iload h dX11_stay_167 (pc := 167) rfl ?_
                  refine e_istore5 h dX11_stay_169 (pc := 169) (by decide) rfl ?_
                  refine e_iinc6 h dX11_stay_171 (pc := 171) (by decide) rfl ?_
                  refine e_goto h dX11_stay_174 (pc := 174) (tgt := 45) (by decide) ?_
                  have ef : fdd (fun t => decide (stayN S i j * t % 24 = stayA S i j)) (24 - k) k = fdd (fun t => decide (stayN S i j * t % 24 = stayA S i j)) (24 - (k + 1)) (k + 1) := by
                    rw [show 24 - k = (24 - (k + 1)) + 1 by omega]
                    exact fdd_no (by show ¬ decide _ = true; rw [decide_eq_true_eq]; intro q; have := stay_one.2 q; omega)
                  have ea : ag (fun t => decide (stayN S i j * t % 24 = 0)) k = ag (fun t => decide (stayN S i j * t % 24 = 0)) (k + 1) := by rw [show k = 0 by omega]; rfl
                  rw [show (k : Int) + -1 = (k : Int) - 1 by omega]
                  refine e_fgt (ls2 := [some (vr 110), some (vi (i : Int)), some (vi (j : Int)), some (vi w), some (vi (fdd (fun t => decide (stayN S i j * t % 24 = stayA S i j)) (24 - k) k)), some (vi (ag (fun t => decide (stayN S i j * t % 24 = 0)) k)), some (vi ((k : Int) - 1)), none]) ⟨Or.inr rfl, Or.inr rfl, Or.inr rfl, Or.inr rfl, Or.inr (by rw [ef]), Or.inr (by rw [ea]), Or.inr rfl, Or.inl rfl, trivial⟩ ?_
                  exact ih (by omega)
                · refine e_aload_n h dX11_stay_127 (pc := 127) rfl ?_
                  refine e_getC h fl_X11_16 dX11_stay_128 (pc := 128) rfl (Nat.lt_of_lt_of_le (by decide) hN) rfl rfl (r := 113) rfl ?_
                  refine e_aload_n h dX11_stay_131 (pc := 131) rfl ?_
                  refine e_getC h fl_X11_25 dX11_stay_132 (pc := 132) rfl (Nat.lt_of_lt_of_le (by decide) hN) rfl rfl (r := 116) rfl ?_
                  refine e_iload_n h dX11_stay_135 (pc := 135) rfl ?_
                  refine e_iald h dX11_stay_136 (pc := 136) rfl (Nat.lt_of_lt_of_le (by decide) hN) rfl (by show _ < 12; omega) ?_
                  rw [xi.1]
                  refine e_iald h dX11_stay_137 (pc := 137) rfl (Nat.lt_of_lt_of_le (by decide) hN) (j := (sH S i)) (by omega) (by show _ < 12; omega) ?_
                  rw [pi_.1]
                  refine e_iload h dX11_stay_138 (pc := 138) rfl ?_
                  refine e_imul h dX11_stay_140 (pc := 140)  ?_
                  rw [show (sP S (sH S i) : Int) * (k : Int) = ((sP S (sH S i) * k : Nat) : Int) from (Int.natCast_mul _ _).symm]
                  refine e_aload_n h dX11_stay_141 (pc := 141) rfl ?_
                  refine e_getC h fl_X11_16 dX11_stay_142 (pc := 142) rfl (Nat.lt_of_lt_of_le (by decide) hN) rfl rfl (r := 113) rfl ?_
                  refine e_aload_n h dX11_stay_145 (pc := 145) rfl ?_
                  refine e_getC h fl_X11_25 dX11_stay_146 (pc := 146) rfl (Nat.lt_of_lt_of_le (by decide) hN) rfl rfl (r := 116) rfl ?_
                  refine e_iload_n h dX11_stay_149 (pc := 149) rfl ?_
                  refine e_iald h dX11_stay_150 (pc := 150) rfl (Nat.lt_of_lt_of_le (by decide) hN) rfl (by show _ < 12; omega) ?_
                  rw [xj.1]
                  refine e_iald h dX11_stay_151 (pc := 151) rfl (Nat.lt_of_lt_of_le (by decide) hN) (j := (sH S j)) (by omega) (by show _ < 12; omega) ?_
                  rw [pj_.1]
                  refine e_iload h dX11_stay_152 (pc := 152) rfl ?_
                  refine e_imul h dX11_stay_154 (pc := 154)  ?_
                  rw [show (sP S (sH S j) : Int) * (k : Int) = ((sP S (sH S j) * k : Nat) : Int) from (Int.natCast_mul _ _).symm]
                  refine e_isub h dX11_stay_155 (pc := 155)  ?_
                  refine e_bipush h dX11_stay_156 (pc := 156) (by decide +kernel) ?_
                  refine e_irem h dX11_stay_158 (pc := 158) (by omega) (by decide) ?_
                  have htc := tmod_cases (((sP S (sH S i) * k : Nat) : Int) - ((sP S (sH S j) * k : Nat) : Int)) 24 (by decide)
                  refine e_if_ne h (tgt := 167) dX11_stay_159 (pc := 159) (by decide) (by omega) (fun hb159 => ?_) (fun hb159 => ?_)
                  · refine e_iload h dX11_stay_167 (pc := 167) rfl ?_
                    refine e_istore5 h dX11_stay_169 (pc := 169) (by decide) rfl ?_
                    refine e_iinc6 h dX11_stay_171 (pc := 171) (by decide) rfl ?_
                    refine e_goto h dX11_stay_174 (pc := 174) (tgt := 45) (by decide) ?_
                    have ef : fdd (fun t => decide (stayN S i j * t % 24 = stayA S i j)) (24 - k) k = fdd (fun t => decide (stayN S i j * t % 24 = stayA S i j)) (24 - (k + 1)) (k + 1) := by
                      rw [show 24 - k = (24 - (k + 1)) + 1 by omega]
                      exact fdd_no (by show ¬ decide _ = true; rw [decide_eq_true_eq]; intro q; have := stay_one.2 q; omega)
                    have ea : ag (fun t => decide (stayN S i j * t % 24 = 0)) k = ag (fun t => decide (stayN S i j * t % 24 = 0)) (k + 1) := by
                      unfold ag
                      rw [if_neg (by omega), if_neg (by omega), show 25 - k = (25 - (k + 1)) + 1 by omega]
                      exact fdd_no (by show ¬ decide _ = true; rw [decide_eq_true_eq]; intro q; have := stay_zero.2 q; omega)
                    rw [show (k : Int) + -1 = (k : Int) - 1 by omega]
                    refine e_fgt (ls2 := [some (vr 110), some (vi (i : Int)), some (vi (j : Int)), some (vi w), some (vi (fdd (fun t => decide (stayN S i j * t % 24 = stayA S i j)) (24 - k) k)), some (vi (ag (fun t => decide (stayN S i j * t % 24 = 0)) k)), some (vi ((k : Int) - 1)), none]) ⟨Or.inr rfl, Or.inr rfl, Or.inr rfl, Or.inr rfl, Or.inr (by rw [ef]), Or.inr (by rw [ea]), Or.inr rfl, Or.inl rfl, trivial⟩ ?_
                    exact ih (by omega)
                  · refine e_iload h dX11_stay_162 (pc := 162) rfl ?_
                    refine e_goto h dX11_stay_164 (pc := 164) (tgt := 169) (by decide) ?_
                    refine e_istore5 h dX11_stay_169 (pc := 169) (by decide) rfl ?_
                    refine e_iinc6 h dX11_stay_171 (pc := 171) (by decide) rfl ?_
                    refine e_goto h dX11_stay_174 (pc := 174) (tgt := 45) (by decide) ?_
                    have ef : fdd (fun t => decide (stayN S i j * t % 24 = stayA S i j)) (24 - k) k = fdd (fun t => decide (stayN S i j * t % 24 = stayA S i j)) (24 - (k + 1)) (k + 1) := by
                      rw [show 24 - k = (24 - (k + 1)) + 1 by omega]
                      exact fdd_no (by show ¬ decide _ = true; rw [decide_eq_true_eq]; intro q; have := stay_one.2 q; omega)
                    have ea : ag (fun t => decide (stayN S i j * t % 24 = 0)) k = (k : Int) := by
                      unfold ag
                      rw [if_neg (by omega), show 25 - k = (25 - (k + 1)) + 1 by omega]
                      exact fdd_yes (by show decide _ = true; rw [decide_eq_true_eq]; exact stay_zero.1 (by omega))
                    rw [show (k : Int) + -1 = (k : Int) - 1 by omega]
                    refine e_fgt (ls2 := [some (vr 110), some (vi (i : Int)), some (vi (j : Int)), some (vi w), some (vi (fdd (fun t => decide (stayN S i j * t % 24 = stayA S i j)) (24 - k) k)), some (vi (ag (fun t => decide (stayN S i j * t % 24 = 0)) k)), some (vi ((k : Int) - 1)), none]) ⟨Or.inr rfl, Or.inr rfl, Or.inr rfl, Or.inr rfl, Or.inr (by rw [ef]), Or.inr (by rw [ea]), Or.inr rfl, Or.inl rfl, trivial⟩ ?_
                    exact ih (by omega)
              · refine e_iconst h dX11_stay_101 (pc := 101)  ?_
                refine e_goto h dX11_stay_102 (pc := 102) (tgt := 106) (by decide) ?_
                refine e_istore7 h dX11_stay_106 (pc := 106) (by decide) rfl ?_
                refine e_iload h dX11_stay_108 (pc := 108) rfl ?_
                refine e_if_eq h (tgt := 118) dX11_stay_110 (pc := 110) (by decide) (by decide) (fun hz => absurd hz (by decide)) (fun _ => ?_)
                refine e_iload h dX11_stay_113 (pc := 113) rfl ?_
                refine e_goto h dX11_stay_115 (pc := 115) (tgt := 120) (by decide) ?_
                refine e_istore4 h dX11_stay_120 (pc := 120) (by decide) rfl ?_
                refine e_iload h dX11_stay_122 (pc := 122) rfl ?_
                refine e_if_le h (tgt := 167) dX11_stay_124 (pc := 124) (by decide) (by omega) (fun hb124 => ?_) (fun hb124 => ?_)
                · refine e_iload h dX11_stay_167 (pc := 167) rfl ?_
                  refine e_istore5 h dX11_stay_169 (pc := 169) (by decide) rfl ?_
                  refine e_iinc6 h dX11_stay_171 (pc := 171) (by decide) rfl ?_
                  refine e_goto h dX11_stay_174 (pc := 174) (tgt := 45) (by decide) ?_
                  have ef : fdd (fun t => decide (stayN S i j * t % 24 = stayA S i j)) (24 - k) k = (k : Int) := by
                    rw [show 24 - k = (24 - (k + 1)) + 1 by omega]
                    exact fdd_yes (by show decide _ = true; rw [decide_eq_true_eq]; exact stay_one.1 (by omega))
                  have ea : ag (fun t => decide (stayN S i j * t % 24 = 0)) k = ag (fun t => decide (stayN S i j * t % 24 = 0)) (k + 1) := by rw [show k = 0 by omega]; rfl
                  rw [show (k : Int) + -1 = (k : Int) - 1 by omega]
                  refine e_fgt (ls2 := [some (vr 110), some (vi (i : Int)), some (vi (j : Int)), some (vi w), some (vi (fdd (fun t => decide (stayN S i j * t % 24 = stayA S i j)) (24 - k) k)), some (vi (ag (fun t => decide (stayN S i j * t % 24 = 0)) k)), some (vi ((k : Int) - 1)), none]) ⟨Or.inr rfl, Or.inr rfl, Or.inr rfl, Or.inr rfl, Or.inr (by rw [ef]), Or.inr (by rw [ea]), Or.inr rfl, Or.inl rfl, trivial⟩ ?_
                  exact ih (by omega)
                · refine e_aload_n h dX11_stay_127 (pc := 127) rfl ?_
                  refine e_getC h fl_X11_16 dX11_stay_128 (pc := 128) rfl (Nat.lt_of_lt_of_le (by decide) hN) rfl rfl (r := 113) rfl ?_
                  refine e_aload_n h dX11_stay_131 (pc := 131) rfl ?_
                  refine e_getC h fl_X11_25 dX11_stay_132 (pc := 132) rfl (Nat.lt_of_lt_of_le (by decide) hN) rfl rfl (r := 116) rfl ?_
                  refine e_iload_n h dX11_stay_135 (pc := 135) rfl ?_
                  refine e_iald h dX11_stay_136 (pc := 136) rfl (Nat.lt_of_lt_of_le (by decide) hN) rfl (by show _ < 12; omega) ?_
                  rw [xi.1]
                  refine e_iald h dX11_stay_137 (pc := 137) rfl (Nat.lt_of_lt_of_le (by decide) hN) (j := (sH S i)) (by omega) (by show _ < 12; omega) ?_
                  rw [pi_.1]
                  refine e_iload h dX11_stay_138 (pc := 138) rfl ?_
                  refine e_imul h dX11_stay_140 (pc := 140)  ?_
                  rw [show (sP S (sH S i) : Int) * (k : Int) = ((sP S (sH S i) * k : Nat) : Int) from (Int.natCast_mul _ _).symm]
                  refine e_aload_n h dX11_stay_141 (pc := 141) rfl ?_
                  refine e_getC h fl_X11_16 dX11_stay_142 (pc := 142) rfl (Nat.lt_of_lt_of_le (by decide) hN) rfl rfl (r := 113) rfl ?_
                  refine e_aload_n h dX11_stay_145 (pc := 145) rfl ?_
                  refine e_getC h fl_X11_25 dX11_stay_146 (pc := 146) rfl (Nat.lt_of_lt_of_le (by decide) hN) rfl rfl (r := 116) rfl ?_
                  refine e_iload_n h dX11_stay_149 (pc := 149) rfl ?_
                  refine e_iald h dX11_stay_150 (pc := 150) rfl (Nat.lt_of_lt_of_le (by decide) hN) rfl (by show _ < 12; omega) ?_
                  rw [xj.1]
                  refine e_iald h dX11_stay_151 (pc := 151) rfl (Nat.lt_of_lt_of_le (by decide) hN) (j := (sH S j)) (by omega) (by show _ < 12; omega) ?_
                  rw [pj_.1]
                  refine e_iload h dX11_stay_152 (pc := 152) rfl ?_
                  refine e_imul h dX11_stay_154 (pc := 154)  ?_
                  rw [show (sP S (sH S j) : Int) * (k : Int) = ((sP S (sH S j) * k : Nat) : Int) from (Int.natCast_mul _ _).symm]
                  refine e_isub h dX11_stay_155 (pc := 155)  ?_
                  refine e_bipush h dX11_stay_156 (pc := 156) (by decide +kernel) ?_
                  refine e_irem h dX11_stay_158 (pc := 158) (by omega) (by decide) ?_
                  have htc := tmod_cases (((sP S (sH S i) * k : Nat) : Int) - ((sP S (sH S j) * k : Nat) : Int)) 24 (by decide)
                  refine e_if_ne h (tgt := 167) dX11_stay_159 (pc := 159) (by decide) (by omega) (fun hb159 => ?_) (fun hb159 => ?_)
                  · refine e_iload h dX11_stay_167 (pc := 167) rfl ?_
                    refine e_istore5 h dX11_stay_169 (pc := 169) (by decide) rfl ?_
                    refine e_iinc6 h dX11_stay_171 (pc := 171) (by decide) rfl ?_
                    refine e_goto h dX11_stay_174 (pc := 174) (tgt := 45) (by decide) ?_
                    have ef : fdd (fun t => decide (stayN S i j * t % 24 = stayA S i j)) (24 - k) k = (k : Int) := by
                      rw [show 24 - k = (24 - (k + 1)) + 1 by omega]
                      exact fdd_yes (by show decide _ = true; rw [decide_eq_true_eq]; exact stay_one.1 (by omega))
                    have ea : ag (fun t => decide (stayN S i j * t % 24 = 0)) k = ag (fun t => decide (stayN S i j * t % 24 = 0)) (k + 1) := by
                      unfold ag
                      rw [if_neg (by omega), if_neg (by omega), show 25 - k = (25 - (k + 1)) + 1 by omega]
                      exact fdd_no (by show ¬ decide _ = true; rw [decide_eq_true_eq]; intro q; have := stay_zero.2 q; omega)
                    rw [show (k : Int) + -1 = (k : Int) - 1 by omega]
                    refine e_fgt (ls2 := [some (vr 110), some (vi (i : Int)), some (vi (j : Int)), some (vi w), some (vi (fdd (fun t => decide (stayN S i j * t % 24 = stayA S i j)) (24 - k) k)), some (vi (ag (fun t => decide (stayN S i j * t % 24 = 0)) k)), some (vi ((k : Int) - 1)), none]) ⟨Or.inr rfl, Or.inr rfl, Or.inr rfl, Or.inr rfl, Or.inr (by rw [ef]), Or.inr (by rw [ea]), Or.inr rfl, Or.inl rfl, trivial⟩ ?_
                    exact ih (by omega)
                  · refine e_iload h dX11_stay_162 (pc := 162) rfl ?_
                    refine e_goto h dX11_stay_164 (pc := 164) (tgt := 169) (by decide) ?_
                    refine e_istore5 h dX11_stay_169 (pc := 169) (by decide) rfl ?_
                    refine e_iinc6 h dX11_stay_171 (pc := 171) (by decide) rfl ?_
                    refine e_goto h dX11_stay_174 (pc := 174) (tgt := 45) (by decide) ?_
                    have ef : fdd (fun t => decide (stayN S i j * t % 24 = stayA S i j)) (24 - k) k = (k : Int) := by
                      rw [show 24 - k = (24 - (k + 1)) + 1 by omega]
                      exact fdd_yes (by show decide _ = true; rw [decide_eq_true_eq]; exact stay_one.1 (by omega))
                    have ea : ag (fun t => decide (stayN S i j * t % 24 = 0)) k = (k : Int) := by
                      unfold ag
                      rw [if_neg (by omega), show 25 - k = (25 - (k + 1)) + 1 by omega]
                      exact fdd_yes (by show decide _ = true; rw [decide_eq_true_eq]; exact stay_zero.1 (by omega))
                    rw [show (k : Int) + -1 = (k : Int) - 1 by omega]
                    refine e_fgt (ls2 := [some (vr 110), some (vi (i : Int)), some (vi (j : Int)), some (vi w), some (vi (fdd (fun t => decide (stayN S i j * t % 24 = stayA S i j)) (24 - k) k)), some (vi (ag (fun t => decide (stayN S i j * t % 24 = 0)) k)), some (vi ((k : Int) - 1)), none]) ⟨Or.inr rfl, Or.inr rfl, Or.inr rfl, Or.inr rfl, Or.inr (by rw [ef]), Or.inr (by rw [ea]), Or.inr rfl, Or.inl rfl, trivial⟩ ?_
                    exact ih (by omega)
          have hag : ag (fun t => decide (stayN S i j * t % 24 = 0)) 24 = 24 := by
            unfold ag
            rw [if_neg (by omega)]
            exact fdd_yes (by show decide _ = true; rw [decide_eq_true_eq]; omega)
          have l24 := loop 24 (by omega)
          rw [hag] at l24
          exact l24
        · skip
          refine e_if_ne h (tgt := 33) dX11_stay_28 (pc := 28) (by decide) (by decide) (fun hz => absurd hz (by decide)) (fun _ => ?_)
          refine e_iconst h dX11_stay_31 (pc := 31)  ?_
          refine e_iret h hr ha dX11_stay_32 (pc := 32) ?_
          exact kb (by omega)
    · skip
      refine e_if_eq h (tgt := 31) dX11_stay_13 (pc := 13) (by decide) (by decide) (fun _ => ?_) (fun hz => absurd hz (by decide))
      refine e_iconst h dX11_stay_31 (pc := 31)  ?_
      refine e_iret h hr ha dX11_stay_32 (pc := 32) ?_
      exact kb (by omega)
  · skip
    refine e_if_eq h (tgt := 31) dX11_stay_5 (pc := 5) (by decide) (by decide) (fun _ => ?_) (fun hz => absurd hz (by decide))
    refine e_iconst h dX11_stay_31 (pc := 31)  ?_
    refine e_iret h hr ha dX11_stay_32 (pc := 32) ?_
    exact kb (by omega)
