def wB (v : Int) (k : Nat) : Nat := ((BitVec.ofInt 64 v).toNat >>> (8 * k)) % 256
abbrev wZ (v : Int) (k : Nat) : Int := (((Int64.ofInt v).toUInt64 >>> ((Int32.ofInt ((8 * k : Nat) : Int)).toInt64.toUInt64 &&& Int64.toUInt64 63)).toInt64).toInt
theorem W_shr (v : Int) (k : Nat) : ((Int64.ofInt v).toUInt64 >>> ((Int32.ofInt ((8 * k : Nat) : Int)).toInt64.toUInt64 &&& Int64.toUInt64 63)).toInt64 = Int64.ofInt (wZ v k) := (Int64.ofInt_toInt _).symm
theorem W_and (v : Int) {k : Nat} (hk : k < 8) : Int32.ofInt (wZ v k) &&& Int32.ofInt 255 = Int32.ofInt ((wB v k : Nat) : Int) := by
  apply Int32.toBitVec_inj.1
  rw [Int32.toBitVec_and, Int32.toBitVec_ofInt, Int32.toBitVec_ofInt, Int32.toBitVec_ofInt, BitVec.ofInt_natCast]
  have h1 : BitVec.ofInt 32 (wZ v k) = ((BitVec.ofInt 64 v) >>> (8 * k)).signExtend 32 := by
    show BitVec.ofInt 32 (Int64.toInt _) = _
    unfold Int64.toInt
    rw [UInt64.toBitVec_toInt64, UInt64.toBitVec_shiftRight, BitVec.ushiftRight_eq', L_k2 (8 * k) (by omega), Int64.toBitVec_toUInt64, Int64.toBitVec_ofInt]
    rfl
  rw [h1, BitVec.signExtend_eq_setWidth_of_le _ (by decide)]
  apply BitVec.eq_of_toNat_eq
  rw [BitVec.toNat_and, BitVec.toNat_setWidth, BitVec.toNat_ushiftRight, BitVec.toNat_ofNat]
  show _ &&& (2 ^ 8 - 1) = _
  rw [Nat.and_two_pow_sub_one_eq_mod]
  unfold wB
  omega

def wrB (b : TB) (n m : Nat) (v : Int) : TB := fun q => if n ≤ q ∧ q < n + m then wB v (m - 1 - (q - n)) else b q
theorem wB_le (v : Int) (k : Nat) : wB v k ≤ 255 := by unfold wB; omega
theorem TX.wr {b : TB} {n m : Nat} {v : Int} {M : Mem} (h : TX b n M) : TX (wrB b n m v) n M := by
  obtain ⟨h1, h2, h3⟩ := h
  refine ⟨h1, h2, fun k hk => ?_⟩
  have e : wrB b n m v k = b k := if_neg (by omega)
  rw [e]
  exact h3 k hk
theorem TX.app {b : TB} {n m j k : Nat} {v : Int} {M : Mem} (h : TX (wrB b n m v) (n + j) M) (hj : j < m) (hk : k = m - 1 - j) (h300 : n + m ≤ 300) : TX (wrB b n m v) (n + (j + 1)) (up (up M 2 (n + j) ((wB v k : Nat) : Int)) 1 1 (M 1 1 + 1)) := by
  obtain ⟨h1, h2, h3⟩ := h
  refine ⟨by rw [up_eq, h1]; omega, by omega, fun q hq => ?_⟩
  rw [up_ne (by omega)]
  by_cases e : q = n + j
  · subst e
    rw [up_eq]
    have z : wrB b n m v (n + j) = wB v k := by unfold wrB; rw [if_pos (by omega)]; congr 1; omega
    rw [z]
    exact ⟨rfl, wB_le _ _⟩
  · rw [up_ne (by omega)]
    exact h3 q (by omega)
def undoP (O : SD) (hp : Nat) (f g : Nat → Int) : SD := if g hp = -1 then upS O 0 0 (oE O - 1) else upS O 4 (f hp).toNat (g hp).toNat
set_option maxRecDepth 100000 in
set_option maxHeartbeats 4000000 in
theorem c_write {gg : GT} {ad : Nat → Nat} {N : Nat} {M : Mem} {Post : Option AV → Mem → Prop} {so dr n : Nat} {b : TB} {S O : SD} {h0 : Nat} {f g : Nat → Int} {z : Nat} {K : Nat → SD} {x v : Int}   (hN : 110 ≤ N) (hR : RepC so dr n b S O h0 f g z K M) (hxx : (-2147483648 ≤ x ∧ x ≤ 2147483647)) (kb : ¬ (1 ≤ x ∧ x ≤ 8) → Post (some (vi (-1))) M) (kf : ∀ m : Nat, x = (m : Int) → (1 ≤ m ∧ m ≤ 8) → 300 < n + m → Post (some (vi (-3))) M) (kt : ∀ (m : Nat) (M2 : Mem) (a : Int), x = (m : Int) → (1 ≤ m ∧ m ≤ 8) → n + m ≤ 300 → a = ((n + m : Nat) : Int) → RepC so dr (n + m) (wrB b n m v) S O h0 f g z K M2 → (∀ p, 110 ≤ p → M2 p = M p) → Post (some (vi a)) M2) : Sp gg yX10_write cX10_write 5 (some .int) rmX10_write [vr 0, vi x, vj v] ad N pT M Post := by
  refine Sp.intro (ls := [some (vr 0), some (vi x), some (vj v), none, none]) (by decide +kernel) rfl (Nat.le_of_ble_eq_true rfl) fun κ hgg h hr ha => ?_
  have h : Ok κ RX10 cX10_write 5 rmX10_write := h
  subst hgg
  obtain ⟨hs, hdr, hs82, hdr82, hsd, hs96, hd96⟩ := hR.isS hN
  have hm9 := hR.m9
  have hm10 := hR.m10
  have hwL := hR.ws.1
  have hwT := hR.ws.2.1
  have r9 := hR.so.1.1
  have r10 := hR.so.1.2.1
  have r11 := hR.so.1.2.2.1
  have w4 := hR.ws.2.2.2.1
  have w5 := hR.ws.2.2.2.2.1
  refine e_iload_n h dX10_write_0 (pc := 0) rfl ?_
  refine e_iconst h dX10_write_1 (pc := 1)  ?_
  refine e_icmp_lt h (tgt := 11) dX10_write_2 (pc := 2) (by decide) (by omega) (by decide) (fun hb2 => ?_) (fun hb2 => ?_)
  · refine e_iconst h dX10_write_11 (pc := 11)  ?_
    refine e_iret h hr ha dX10_write_12 (pc := 12) ?_
    exact kb (by omega)
  · refine e_iload_n h dX10_write_5 (pc := 5) rfl ?_
    refine e_bipush h dX10_write_6 (pc := 6) (by decide +kernel) ?_
    refine e_icmp_le h (tgt := 13) dX10_write_8 (pc := 8) (by decide) (by omega) (by decide) (fun hb8 => ?_) (fun hb8 => ?_)
    · obtain ⟨m, rfl⟩ : ∃ kk : Nat, x = (kk : Int) := ⟨x.toNat, by omega⟩
      have hm0 := hR.tx.1
      have hm1 := hR.tx.2.1
      refine e_aload_n h dX10_write_13 (pc := 13) rfl ?_
      refine e_getC h fl_X10_10 dX10_write_14 (pc := 14) rfl (Nat.lt_of_lt_of_le (by decide) hN) rfl rfl (r := 1) rfl ?_
      refine e_getI h fl_X10_105 dX10_write_17 (pc := 17) rfl (Nat.lt_of_lt_of_le (by decide) hN) (by decide) ?_
      refine e_iload_n h dX10_write_20 (pc := 20) rfl ?_
      refine e_iadd h dX10_write_21 (pc := 21)  ?_
      refine e_sipush h dX10_write_22 (pc := 22) (by decide +kernel) ?_
      refine e_icmp_le h (tgt := 31) dX10_write_25 (pc := 25) (by decide) (by omega) (by decide) (fun hb25 => ?_) (fun hb25 => ?_)
      · refine e_iload_n h dX10_write_31 (pc := 31) rfl ?_
        refine e_iconst h dX10_write_32 (pc := 32)  ?_
        refine e_isub h dX10_write_33 (pc := 33)  ?_
        refine e_istore4 h dX10_write_34 (pc := 34) (by decide) rfl ?_
        have loop : ∀ (k j : Nat) (M1 : Mem), k + j = m → RepC so dr (n + j) (wrB b n m v) S O h0 f g z K M1 → (∀ p, 110 ≤ p → M1 p = M p) → E κ ad N pT M1 36 [some (vr 0), some (vi (m : Int)), some (vj v), none, some (vi (((k : Nat) : Int) - 1))] [] (0, 0) (QR κ ad N pT Post) := by
          intro k
          induction k with
          | zero =>
            intro j M1 hkj hR1 hfr
            refine e_iload h dX10_write_36 (pc := 36) rfl ?_
            refine e_if_lt h (tgt := 66) dX10_write_38 (pc := 38) (by decide) (by omega) (fun hb38 => ?_) (fun hb38 => absurd hb38 (by omega))
            refine e_aload_n h dX10_write_66 (pc := 66) rfl ?_
            refine e_getC h fl_X10_10 dX10_write_67 (pc := 67) rfl (Nat.lt_of_lt_of_le (by decide) hN) rfl rfl (r := 1) rfl ?_
            refine e_getI h fl_X10_105 dX10_write_70 (pc := 70) rfl (Nat.lt_of_lt_of_le (by decide) hN) (by decide) ?_
            refine e_iret h hr ha dX10_write_73 (pc := 73) ?_
            have hjm : j = m := by omega
            subst hjm
            exact kt j M1 _ rfl (by omega) (by omega) hR1.tx.1 hR1 hfr
          | succ k ih =>
            intro j M1 hkj hR1 hfr
            refine e_iload h dX10_write_36 (pc := 36) rfl ?_
            refine e_if_lt h (tgt := 66) dX10_write_38 (pc := 38) (by decide) (by omega) (fun hb38 => absurd hb38 (by omega)) (fun hb38 => ?_)
            refine e_aload_n h dX10_write_41 (pc := 41) rfl ?_
            refine e_getC h fl_X10_10 dX10_write_42 (pc := 42) rfl (Nat.lt_of_lt_of_le (by decide) hN) rfl rfl (r := 1) rfl ?_
            refine e_lload_n h dX10_write_45 (pc := 45) rfl ?_
            refine e_bipush h dX10_write_46 (pc := 46) (by decide +kernel) ?_
            refine e_iload h dX10_write_48 (pc := 48) rfl ?_
            refine e_imul h dX10_write_50 (pc := 50)  ?_
            rw [show (8 : Int) * (((k + 1 : Nat) : Int) - 1) = ((8 * k : Nat) : Int) by omega]
            refine e_lushr h dX10_write_51 (pc := 51) (W_shr v k) ?_
            refine e_l2i h dX10_write_52 (pc := 52)  ?_
            refine e_sipush h dX10_write_53 (pc := 53) (by decide +kernel) ?_
            refine e_iand h dX10_write_56 (pc := 56) (W_and v (k := k) (by omega)) ?_
            refine e_callV1 lk_X10_94 mv_X9_append dX10_write_57 (pc := 57) rfl (by decide) (Nat.lt_of_lt_of_le (by decide) hN) (Nat.le_of_ble_eq_true rfl) (rmY := rmX9_append) (by decide) h ?_
            refine c_append (n := n + j) (x := wB v k) rfl hN hR1.tx.1 (by omega) ?_
            refine e_iinc4 h dX10_write_60 (pc := 60) (by decide) rfl ?_
            refine e_goto h dX10_write_63 (pc := 63) (tgt := 36) (by decide) ?_
            rw [show ((k + 1 : Nat) : Int) - 1 + -1 = (k : Int) - 1 by omega]
            exact ih (j + 1) _ (by omega) ⟨hR1.ds, ((congrFun (by rw [up_row (by omega), up_row (by omega)]) 9).trans hR1.m9), ((congrFun (by rw [up_row (by omega), up_row (by omega)]) 10).trans hR1.m10), (hR1.tx.app (by omega) (by omega) (by omega)), (hR1.so.to (fun p a b => (by rw [up_row (by omega), up_row (by omega)]))), hR1.ws, hR1.wo, (hR1.bs.to (by rw [up_row (by omega), up_row (by omega)])), (hR1.bd.to (by rw [up_row (by omega), up_row (by omega)])), (hR1.hr.to (by rw [up_row (by omega), up_row (by omega)]) (by rw [up_row (by omega), up_row (by omega)]) (by rw [up_row (by omega), up_row (by omega)])), hR1.h8, hR1.hw, ((congrFun (by rw [up_row (by omega), up_row (by omega)]) 1).trans hR1.m70), hR1.z2, (hR1.kp.to hR1.z2 (fun p a b => (by rw [up_row (by omega), up_row (by omega)]))), (hR1.fc.to hR1.ws.2.1.2 (congrFun (by rw [up_row (by omega), up_row (by omega)]) 11) (fun p a b => (by rw [up_row (by omega), up_row (by omega)]))), (hR1.od.to (by rw [up_row (by omega), up_row (by omega)])), (hR1.ch.to (by rw [up_row (by omega), up_row (by omega)])), (hR1.ja.to (by rw [up_row (by omega), up_row (by omega)])), (hR1.jb.to (by rw [up_row (by omega), up_row (by omega)]))⟩ (fun p hp => by rw [up_row (by omega), up_row (by omega)]; exact hfr p hp)
        exact loop m 0 M (by omega) ⟨hR.ds, ((congrFun rfl 9).trans hR.m9), ((congrFun rfl 10).trans hR.m10), hR.tx.wr, hR.so, hR.ws, hR.wo, (hR.bs.to rfl), (hR.bd.to rfl), (hR.hr.to rfl rfl rfl), hR.h8, hR.hw, ((congrFun rfl 1).trans hR.m70), hR.z2, (hR.kp.to hR.z2 (fun p a b => rfl)), (hR.fc.to hR.ws.2.1.2 (congrFun rfl 11) (fun p a b => rfl)), (hR.od.to rfl), (hR.ch.to rfl), (hR.ja.to rfl), (hR.jb.to rfl)⟩ (fun _ _ => rfl)
      · refine e_bipush h dX10_write_28 (pc := 28) (by decide +kernel) ?_
        refine e_iret h hr ha dX10_write_30 (pc := 30) ?_
        exact kf m rfl (by omega) (by omega)
    · refine e_iconst h dX10_write_11 (pc := 11)  ?_
      refine e_iret h hr ha dX10_write_12 (pc := 12) ?_
      exact kb (by omega)
set_option maxRecDepth 100000 in
set_option maxHeartbeats 4000000 in
theorem c_undo {gg : GT} {ad : Nat → Nat} {N : Nat} {M : Mem} {Post : Option AV → Mem → Prop} {so dr n : Nat} {b : TB} {S O : SD} {h0 : Nat} {f g : Nat → Int} {z : Nat} {K : Nat → SD}   (hN : 110 ≤ N) (hR : RepC so dr n b S O h0 f g z K M) (kb : h0 = 0 → Post (some (vi (-2))) M) (kt : ∀ hp : Nat, h0 = hp + 1 → ∀ (M2 : Mem) (v : Int), v = (hp : Int) → RepC so dr n b S (undoP O hp f g) hp f g z K M2 → (∀ p, 110 ≤ p → M2 p = M p) → Post (some (vi v)) M2) : Sp gg yX10_undo cX10_undo 1 (some .int) rmX10_undo [vr 0] ad N pT M Post := by
  refine Sp.intro (ls := [some (vr 0)]) (by decide +kernel) rfl (Nat.le_of_ble_eq_true rfl) fun κ hgg h hr ha => ?_
  have h : Ok κ RX10 cX10_undo 1 rmX10_undo := h
  subst hgg
  obtain ⟨hs, hdr, hs82, hdr82, hsd, hs96, hd96⟩ := hR.isS hN
  have hm9 := hR.m9
  have hm10 := hR.m10
  have hwL := hR.ws.1
  have hwT := hR.ws.2.1
  have r9 := hR.so.1.1
  have r10 := hR.so.1.2.1
  have r11 := hR.so.1.2.2.1
  have w4 := hR.ws.2.2.2.1
  have w5 := hR.ws.2.2.2.2.1
  by_cases hz : h0 = 0
  · subst hz
    refine e_aload_n h dX10_undo_0 (pc := 0) rfl ?_
    refine e_getC h fl_X10_57 dX10_undo_1 (pc := 1) rfl (Nat.lt_of_lt_of_le (by decide) hN) rfl rfl (r := 67) rfl ?_
    refine e_aload_n h dX10_undo_4 (pc := 4) rfl ?_
    refine e_getR h fl_X10_71 dX10_undo_5 (pc := 5) rfl (Nat.lt_of_lt_of_le (by decide) hN) rfl rfl (r := so) (by first | exact hm92 | exact hm9 | (simp (disch := omega) only [up_ne]; exact hm9)) ?_
    refine e_getC h fl_X10_222 dX10_undo_8 (pc := 8) hs.c0 hs.p0 rfl rfl (r := (so + 9)) (pcr_d (by rw [hs.c0]; decide) 8) ?_
    refine e_callV1 lk_X10_240 mv_X3_takeBack dX10_undo_11 (pc := 11) rfl (by decide) (Nat.lt_of_lt_of_le (by decide) hN) (Nat.le_of_ble_eq_true rfl) (rmY := rmX3_takeBack) (by decide) h ?_
    refine c_takeBack (q := so + 9) (q4 := so + 13) (h0 := 0) (f := fun _ => 0) (g := fun _ => 0) (e := oE O) (i := 0) hN rfl hs.o (by omega) ⟨hR.hr.1, fun k hk => absurd hk (by omega)⟩ (by omega) (fun q => absurd q (by decide)) hR.wo.1 (fun _ => ⟨rfl, by omega⟩) (by decide) (fun q => absurd q (by decide)) (fun q => absurd q (by decide)) (fun _ => ?_)
    · skip
      refine e_if_ne h (tgt := 20) dX10_undo_14 (pc := 14) (by decide) (by decide) (fun hz => absurd hz (by decide)) (fun _ => ?_)
      refine e_bipush h dX10_undo_17 (pc := 17) (by decide +kernel) ?_
      refine e_iret h hr ha dX10_undo_19 (pc := 19) ?_
      exact kb rfl
  · obtain ⟨hp, rfl⟩ : ∃ hp, h0 = hp + 1 := ⟨h0 - 1, by omega⟩
    have h8 := hR.h8
    have hwk := hR.hw.2 hp (by omega)
    have hwc : cE g hp + (if g hp = -1 then 1 else 0) ≤ oE O := hR.hw.1
    have hE0 : g hp = -1 → 0 < oE O := fun q => by rw [if_pos q] at hwc; omega
    have hG0 : g hp ≠ -1 → (f hp = ((f hp).toNat : Int) ∧ (f hp).toNat < 6) ∧ 0 ≤ g hp ∧ g hp ≤ 60 ∧ (f hp).toNat < sT S := fun q => by
      rcases hwk with z | ⟨z1, z2, i, z3, z4⟩
      · exact absurd z q
      · omega
    refine e_aload_n h dX10_undo_0 (pc := 0) rfl ?_
    refine e_getC h fl_X10_57 dX10_undo_1 (pc := 1) rfl (Nat.lt_of_lt_of_le (by decide) hN) rfl rfl (r := 67) rfl ?_
    refine e_aload_n h dX10_undo_4 (pc := 4) rfl ?_
    refine e_getR h fl_X10_71 dX10_undo_5 (pc := 5) rfl (Nat.lt_of_lt_of_le (by decide) hN) rfl rfl (r := so) (by first | exact hm92 | exact hm9 | (simp (disch := omega) only [up_ne]; exact hm9)) ?_
    refine e_getC h fl_X10_222 dX10_undo_8 (pc := 8) hs.c0 hs.p0 rfl rfl (r := (so + 9)) (pcr_d (by rw [hs.c0]; decide) 8) ?_
    refine e_callV1 lk_X10_240 mv_X3_takeBack dX10_undo_11 (pc := 11) rfl (by decide) (Nat.lt_of_lt_of_le (by decide) hN) (Nat.le_of_ble_eq_true rfl) (rmY := rmX3_takeBack) (by decide) h ?_
    refine c_takeBack (q := so + 9) (q4 := so + 13) (h0 := hp + 1) (f := f) (g := g) (e := oE O) (i := (f hp).toNat) hN rfl hs.o (by omega) hR.hr h8 (fun q => ⟨hR.so.2.1, hE0 q⟩) hR.wo.1 (fun q => (hG0 q).1) (by show -1 ≤ g hp ∧ g hp ≤ 60; rcases hwk with z | z <;> omega) (fun _ hgm => ?_) (fun _ hgm => ?_) (fun q => absurd q (by omega))
    · have hgm : g hp = -1 := hgm
      have hE0 := hE0 hgm
      clear hwk
      refine e_if_ne h (tgt := 20) dX10_undo_14 (pc := 14) (by decide) (by decide) (fun _ => ?_) (fun hz => absurd hz (by decide))
      refine e_aload_n h dX10_undo_20 (pc := 20) rfl ?_
      refine e_iconst h dX10_undo_21 (pc := 21)  ?_
      refine e_putZ h fl_X10_78 dX10_undo_22 (pc := 22) rfl (Nat.lt_of_lt_of_le (by decide) hN) rfl (by decide) ?_
      refine e_aload_n h dX10_undo_25 (pc := 25) rfl ?_
      refine e_getC h fl_X10_57 dX10_undo_26 (pc := 26) rfl (Nat.lt_of_lt_of_le (by decide) hN) rfl rfl (r := 67) rfl ?_
      refine e_getI h fl_X10_244 dX10_undo_29 (pc := 29) rfl (Nat.lt_of_lt_of_le (by decide) hN) (by decide) ?_
      try simp (disch := omega) only [up_eq, up_ne]
      refine e_iret h hr ha dX10_undo_32 (pc := 32) ?_
      refine kt hp rfl _ _ ?_ ?_ (fun p hp => by rw [up_row (by omega), up_row (by omega), up_row (by omega)])
      · first | rfl | (simp (disch := omega) only [up_eq, up_ne]; rfl)
      · have e : undoP O hp f g = upS O 0 0 (oE O - 1) := if_pos hgm
        rw [e]
        exact ⟨hR.ds, (by simp (disch := omega) only [up_eq, up_ne]; exact hR.m9), (by simp (disch := omega) only [up_eq, up_ne]; exact hR.m10), (hR.tx.to (by rw [up_row (by omega), up_row (by omega), up_row (by omega)]) (by rw [up_row (by omega), up_row (by omega), up_row (by omega)])), ⟨hR.so.1.to (fun p a b => by rw [up_row (by omega), up_row (by omega), up_row (by omega)]), (OR_drop (hR.so.2.to (M' := up M 67 2 ((hp + 1 - 1 : Nat) : Int)) (up_row (by omega)) (up_row (by omega)) (up_row (by omega)) (up_row (by omega)) (up_row (by omega))) (by omega) (by omega) (by omega) (by omega) hE0 (by rw [up_row (by omega)])).to (up_row (by omega)) (up_row (by omega)) (up_row (by omega)) (up_row (by omega)) (up_row (by omega))⟩, hR.ws, (WO_drop hR.wo), (hR.bs.to (by rw [up_row (by omega), up_row (by omega), up_row (by omega)])), (hR.bd.to (by rw [up_row (by omega), up_row (by omega), up_row (by omega)])), (HR.pop (h0 := hp + 1) hR.hr (by omega) (by simp (disch := omega) only [up_eq, up_ne]) (by rw [up_row (by omega), up_row (by omega), up_row (by omega)]) (by rw [up_row (by omega), up_row (by omega), up_row (by omega)])), (by omega), (HW_back hR.hw (by rw [if_pos hgm]; show oE O ≤ oE O - 1 + 1; omega)), ((congrFun (by rw [up_row (by omega), up_row (by omega), up_row (by omega)]) 1).trans hR.m70), hR.z2, (hR.kp.to hR.z2 (fun p a b => (by rw [up_row (by omega), up_row (by omega), up_row (by omega)]))), (Or.inl (up_eq _ _ _ _)), (hR.od.to (by rw [up_row (by omega), up_row (by omega), up_row (by omega)])), (hR.ch.to (by rw [up_row (by omega), up_row (by omega), up_row (by omega)])), (hR.ja.to (by rw [up_row (by omega), up_row (by omega), up_row (by omega)])), (hR.jb.to (by rw [up_row (by omega), up_row (by omega), up_row (by omega)]))⟩
    · have hgm : g hp ≠ -1 := hgm
      have hG0 := hG0 hgm
      clear hwk
      have hgp : ((g hp).toNat : Int) = g hp := by omega
      refine e_if_ne h (tgt := 20) dX10_undo_14 (pc := 14) (by decide) (by decide) (fun _ => ?_) (fun hz => absurd hz (by decide))
      refine e_aload_n h dX10_undo_20 (pc := 20) rfl ?_
      refine e_iconst h dX10_undo_21 (pc := 21)  ?_
      refine e_putZ h fl_X10_78 dX10_undo_22 (pc := 22) rfl (Nat.lt_of_lt_of_le (by decide) hN) rfl (by decide) ?_
      refine e_aload_n h dX10_undo_25 (pc := 25) rfl ?_
      refine e_getC h fl_X10_57 dX10_undo_26 (pc := 26) rfl (Nat.lt_of_lt_of_le (by decide) hN) rfl rfl (r := 67) rfl ?_
      refine e_getI h fl_X10_244 dX10_undo_29 (pc := 29) rfl (Nat.lt_of_lt_of_le (by decide) hN) (by decide) ?_
      try simp (disch := omega) only [up_eq, up_ne]
      refine e_iret h hr ha dX10_undo_32 (pc := 32) ?_
      refine kt hp rfl _ _ ?_ ?_ (fun p hp => by rw [up_row (by omega), up_row (by omega), up_row (by omega)])
      · first | rfl | (simp (disch := omega) only [up_eq, up_ne]; rfl)
      · have e : undoP O hp f g = upS O 4 (f hp).toNat (g hp).toNat := if_neg hgm
        rw [e]
        show RepC _ _ _ _ _ _ _ _ _ _ _ (up (up (up M 67 2 ((hp + 1 - 1 : Nat) : Int)) (so + 13) (f hp).toNat (g hp)) 0 11 1)
        rw [show (up (up M 67 2 ((hp + 1 - 1 : Nat) : Int)) (so + 13) (f hp).toNat (g hp)) = up (up M 67 2 ((hp + 1 - 1 : Nat) : Int)) (so + 13) (f hp).toNat (((g hp).toNat : Nat) : Int) by rw [hgp]]
        exact ⟨hR.ds, (by simp (disch := omega) only [up_eq, up_ne]; exact hR.m9), (by simp (disch := omega) only [up_eq, up_ne]; exact hR.m10), (hR.tx.to (by rw [up_row (by omega), up_row (by omega), up_row (by omega)]) (by rw [up_row (by omega), up_row (by omega), up_row (by omega)])), ⟨hR.so.1.to (fun p a b => by rw [up_row (by omega), up_row (by omega), up_row (by omega)]), (OR_gas (hR.so.2.to (M' := up M 67 2 ((hp + 1 - 1 : Nat) : Int)) (up_row (by omega)) (up_row (by omega)) (up_row (by omega)) (up_row (by omega)) (up_row (by omega))) (by omega) (by omega) (by omega) (by omega)).to (up_row (by omega)) (up_row (by omega)) (up_row (by omega)) (up_row (by omega)) (up_row (by omega))⟩, hR.ws, (WO_gas hR.wo (by omega)), (hR.bs.to (by rw [up_row (by omega), up_row (by omega), up_row (by omega)])), (hR.bd.to (by rw [up_row (by omega), up_row (by omega), up_row (by omega)])), (HR.pop (h0 := hp + 1) hR.hr (by omega) (by simp (disch := omega) only [up_eq, up_ne]) (by rw [up_row (by omega), up_row (by omega), up_row (by omega)]) (by rw [up_row (by omega), up_row (by omega), up_row (by omega)])), (by omega), (HW_back hR.hw (by rw [if_neg hgm]; exact Nat.le_refl _)), ((congrFun (by rw [up_row (by omega), up_row (by omega), up_row (by omega)]) 1).trans hR.m70), hR.z2, (hR.kp.to hR.z2 (fun p a b => (by rw [up_row (by omega), up_row (by omega), up_row (by omega)]))), (Or.inl (up_eq _ _ _ _)), (hR.od.to (by rw [up_row (by omega), up_row (by omega), up_row (by omega)])), (hR.ch.to (by rw [up_row (by omega), up_row (by omega), up_row (by omega)])), (hR.ja.to (by rw [up_row (by omega), up_row (by omega), up_row (by omega)])), (hR.jb.to (by rw [up_row (by omega), up_row (by omega), up_row (by omega)]))⟩
