abbrev wY (v : Int) (k : Nat) : Int := (Int64.ofInt v >>> ((Int32.ofInt ((8 * k : Nat) : Int)).toInt64 &&& 63)).toInt
theorem W_sar (v : Int) (k : Nat) : Int64.ofInt v >>> ((Int32.ofInt ((8 * k : Nat) : Int)).toInt64 &&& 63) = Int64.ofInt (wY v k) := (Int64.ofInt_toInt _).symm
theorem W_and2 (v : Int) {k : Nat} (hk : k < 8) : Int64.ofInt (wY v k) &&& Int64.ofInt 255 = Int64.ofInt ((wB v k : Nat) : Int) := by
  rw [← W_sar]
  apply Int64.toBitVec_inj.1
  rw [Int64.toBitVec_and, Int64.toBitVec_shiftRight, Int64.toBitVec_ofInt, Int64.toBitVec_ofInt, Int64.toBitVec_ofInt, BitVec.ofInt_natCast, BitVec.sshiftRight_eq', L_k1 (8 * k) (by omega)]
  apply BitVec.eq_of_getLsbD_eq
  intro i hi
  rw [BitVec.getLsbD_and, BitVec.getLsbD_sshiftRight, BitVec.getLsbD_ofNat]
  have e : (BitVec.ofInt 64 255).getLsbD i = decide (i < 8) := by
    show Nat.testBit 255 i = _
    exact Nat.testBit_two_pow_sub_one 8 i
  rw [e]
  unfold wB
  rw [show 256 = 2 ^ 8 from rfl, Nat.testBit_mod_two_pow, Nat.testBit_shiftRight]
  by_cases h8 : i < 8
  · have h9 : 8 * k + i < 64 := by omega
    simp [h8, h9, hi, BitVec.getLsbD]
  · simp [h8]

theorem MT.wr {b : TB} {n m : Nat} {v : Int} {M : Mem} (h : MT b n M) : MT (wrB b n m v) n M := by
  obtain ⟨h1, h2, h3⟩ := h
  refine ⟨h1, h2, fun k hk => ?_⟩
  have e : wrB b n m v k = b k := if_neg (by omega)
  rw [e]
  exact h3 k hk
theorem MT.app {b : TB} {n m j k : Nat} {v w : Int} {M : Mem} (h : MT (wrB b n m v) (n + j) M) (hj : j < m) (hk : k = m - 1 - j) (h300 : n + m ≤ 300) (hw : w = ((n + (j + 1) : Nat) : Int)) : MT (wrB b n m v) (n + (j + 1)) (up (up M 111 (n + j) ((wB v k : Nat) : Int)) 110 0 w) := by
  obtain ⟨h1, h2, h3⟩ := h
  refine ⟨by rw [up_eq, hw], by omega, fun q hq => ?_⟩
  rw [up_ne (by omega)]
  by_cases e : q = n + j
  · subst e
    rw [up_eq]
    have z : wrB b n m v (n + j) = wB v k := by unfold wrB; rw [if_pos (by omega)]; congr 1; omega
    rw [z]
    exact ⟨rfl, wB_le _ _⟩
  · rw [up_ne (by omega)]
    exact h3 q (by omega)
set_option maxRecDepth 100000 in
set_option maxHeartbeats 4000000 in
theorem m_write {gg : GT} {ad : Nat → Nat} {N : Nat} {M : Mem} {Post : Option AV → Mem → Prop} {n : Nat} {b : TB} {S O : SD} {h0 : Nat} {f g : Nat → Int} {z : Nat} {K : Nat → SD} {x v : Int}   (hN : 139 ≤ N) (hR : RepM n b S O h0 f g z K M) (hxx : (-2147483648 ≤ x ∧ x ≤ 2147483647)) (kb : ¬ (1 ≤ x ∧ x ≤ 8) → Post (some (vi (-1))) M) (kf : ∀ m : Nat, x = (m : Int) → (1 ≤ m ∧ m ≤ 8) → 300 < n + m → Post (some (vi (-3))) M) (kt : ∀ (m : Nat) (M2 : Mem) (a : Int), x = (m : Int) → (1 ≤ m ∧ m ≤ 8) → n + m ≤ 300 → a = ((n + m : Nat) : Int) → RepM (n + m) (wrB b n m v) S O h0 f g z K M2 → (∀ p, p < 110 → M2 p = M p) → Post (some (vi a)) M2) : Sp gg yX11_write cX11_write 5 (some .int) rmX11_write [vr 110, vi x, vj v] ad N pT M Post := by
  refine Sp.intro (ls := [some (vr 110), some (vi x), some (vj v), none, none]) (by decide +kernel) rfl (Nat.le_of_ble_eq_true rfl) fun κ hgg h hr ha => ?_
  have h : Ok κ RX11 cX11_write 5 rmX11_write := h
  subst hgg
  have hwL := hR.ws.1
  have hwT := hR.ws.2.1
  have hwB := hR.ws.2.2.1
  have w4 := hR.ws.2.2.2.1
  have w5 := hR.ws.2.2.2.2.1
  have r9 := hR.ms.1
  have r10 := hR.ms.2.1
  have r11 := hR.ms.2.2.1
  refine e_iload_n h dX11_write_0 (pc := 0) rfl ?_
  refine e_i2l h dX11_write_1 (pc := 1) (by omega) ?_
  refine e_lconst h dX11_write_2 (pc := 2) (x := 1) rfl ?_
  refine e_ldc2 h dX11_write_3 (pc := 3) (x := 8) kl_X11_95 rfl ?_
  refine e_callS3 lk_X11_97 ms_X11_in dX11_write_6 (pc := 6) (Nat.le_of_ble_eq_true rfl) (rmY := rmX11_in) (by decide) h ?_
  have hm0 := hR.tx.1
  have hm1 := hR.tx.2.1
  refine c_in (by omega) (by omega) (by omega) (fun hzx => ?_) (fun hzx => ?_)
  · obtain ⟨m, rfl⟩ : ∃ kk : Nat, x = (kk : Int) := ⟨x.toNat, by omega⟩
    refine e_if_ne h (tgt := 14) dX11_write_9 (pc := 9) (by decide) (by decide) (fun _ => ?_) (fun hz => absurd hz (by decide))
    refine e_aload_n h dX11_write_14 (pc := 14) rfl ?_
    refine e_getI h fl_X11_101 dX11_write_15 (pc := 15) rfl (Nat.lt_of_lt_of_le (by decide) hN) (by decide) ?_
    refine e_iload_n h dX11_write_18 (pc := 18) rfl ?_
    refine e_iadd h dX11_write_19 (pc := 19)  ?_
    refine e_sipush h dX11_write_20 (pc := 20) (by decide +kernel) ?_
    refine e_icmp_le h (tgt := 29) dX11_write_23 (pc := 23) (by decide) (by omega) (by decide) (fun hb23 => ?_) (fun hb23 => ?_)
    · refine e_iload_n h dX11_write_29 (pc := 29) rfl ?_
      refine e_iconst h dX11_write_30 (pc := 30)  ?_
      refine e_isub h dX11_write_31 (pc := 31)  ?_
      refine e_istore4 h dX11_write_32 (pc := 32) (by decide) rfl ?_
      have loop : ∀ (k j : Nat) (M1 : Mem), k + j = m → RepM (n + j) (wrB b n m v) S O h0 f g z K M1 → (∀ p, p < 110 → M1 p = M p) → E κ ad N pT M1 34 [some (vr 110), some (vi (m : Int)), some (vj v), none, some (vi (((k : Nat) : Int) - 1))] [] (0, 0) (QR κ ad N pT Post) := by
        intro k
        induction k with
        | zero =>
          intro j M1 hkj hR1 hfr
          refine e_iload h dX11_write_34 (pc := 34) rfl ?_
          refine e_if_lt h (tgt := 76) dX11_write_36 (pc := 36) (by decide) (by omega) (fun hb36 => ?_) (fun hb36 => absurd hb36 (by omega))
          refine e_aload_n h dX11_write_76 (pc := 76) rfl ?_
          refine e_getI h fl_X11_101 dX11_write_77 (pc := 77) rfl (Nat.lt_of_lt_of_le (by decide) hN) (by decide) ?_
          refine e_iret h hr ha dX11_write_80 (pc := 80) ?_
          have hjm : j = m := by omega
          subst hjm
          exact kt j M1 _ rfl (by omega) (by omega) hR1.tx.1 hR1 hfr
        | succ k ih =>
          intro j M1 hkj hR1 hfr
          have hl1 := hR1.tx.1
          refine e_iload h dX11_write_34 (pc := 34) rfl ?_
          refine e_if_lt h (tgt := 76) dX11_write_36 (pc := 36) (by decide) (by omega) (fun hb36 => absurd hb36 (by omega)) (fun hb36 => ?_)
          refine e_aload_n h dX11_write_39 (pc := 39) rfl ?_
          refine e_getC h fl_X11_7 dX11_write_40 (pc := 40) rfl (Nat.lt_of_lt_of_le (by decide) hN) rfl rfl (r := 111) rfl ?_
          refine e_aload_n h dX11_write_43 (pc := 43) rfl ?_
          refine e_getI h fl_X11_101 dX11_write_44 (pc := 44) rfl (Nat.lt_of_lt_of_le (by decide) hN) (by decide) ?_
          refine e_lload_n h dX11_write_47 (pc := 47) rfl ?_
          refine e_bipush h dX11_write_48 (pc := 48) (by decide +kernel) ?_
          refine e_iload h dX11_write_50 (pc := 50) rfl ?_
          refine e_imul h dX11_write_52 (pc := 52)  ?_
          rw [show (8 : Int) * (((k + 1 : Nat) : Int) - 1) = ((8 * k : Nat) : Int) by omega]
          refine e_lshr h dX11_write_53 (pc := 53) (W_sar v k) ?_
          refine e_ldc2 h dX11_write_54 (pc := 54) (x := 255) kl_X11_105 rfl ?_
          refine e_land h dX11_write_57 (pc := 57) (W_and2 v (k := k) (by omega)) ?_
          refine e_l2i h dX11_write_58 (pc := 58)  ?_
          refine e_iast h dX11_write_59 (pc := 59) rfl (Nat.lt_of_lt_of_le (by decide) hN) (j := (n + j)) (by omega) (by show _ < 300; omega) ?_
          refine e_aload_n h dX11_write_60 (pc := 60) rfl ?_
          refine e_dup h dX11_write_61 (pc := 61) rfl ?_
          refine e_getI h fl_X11_101 dX11_write_62 (pc := 62) rfl (Nat.lt_of_lt_of_le (by decide) hN) (by decide) ?_
          try simp (disch := omega) only [up_eq, up_ne]
          refine e_iconst h dX11_write_65 (pc := 65)  ?_
          refine e_iadd h dX11_write_66 (pc := 66)  ?_
          refine e_putI h fl_X11_101 dX11_write_67 (pc := 67) rfl (Nat.lt_of_lt_of_le (by decide) hN) rfl ?_
          refine e_iinc4 h dX11_write_70 (pc := 70) (by decide) rfl ?_
          refine e_goto h dX11_write_73 (pc := 73) (tgt := 34) (by decide) ?_
          rw [show ((k + 1 : Nat) : Int) - 1 + -1 = (k : Int) - 1 by omega]
          exact ih (j + 1) _ (by omega) ⟨(hR1.tx.app (by omega) (by omega) (by omega) (by omega)), (hR1.ms.to (by rw [up_row (by omega), up_row (by omega)]) (by rw [up_row (by omega), up_row (by omega)]) (by rw [up_row (by omega), up_row (by omega)]) (by rw [up_row (by omega), up_row (by omega)]) (by rw [up_row (by omega), up_row (by omega)]) (by rw [up_row (by omega), up_row (by omega)]) (by rw [up_row (by omega), up_row (by omega)]) (by rw [up_row (by omega), up_row (by omega)]) (by rw [up_row (by omega), up_row (by omega)]) (by rw [up_row (by omega), up_row (by omega)]) (by rw [up_row (by omega), up_row (by omega)])), (hR1.mo.to (by rw [up_row (by omega), up_row (by omega)]) (by rw [up_row (by omega), up_row (by omega)]) (by rw [up_row (by omega), up_row (by omega)]) (by rw [up_row (by omega), up_row (by omega)]) (by rw [up_row (by omega), up_row (by omega)])), hR1.ws, hR1.wo, (hR1.un.to (by rw [up_ne (by omega), up_ne (by omega)]) (by rw [up_row (by omega), up_row (by omega)])), hR1.h8, hR1.hw, (Eq.trans (by rw [up_ne (by omega), up_ne (by omega)]) hR1.m18), hR1.z2, (hR1.kp.to (by rw [up_row (by omega), up_row (by omega)]) (by rw [up_row (by omega), up_row (by omega)]) (by rw [up_row (by omega), up_row (by omega)]) (by rw [up_row (by omega), up_row (by omega)]) (by rw [up_row (by omega), up_row (by omega)]))⟩ (fun p hp => by rw [up_row (by omega), up_row (by omega)]; exact hfr p hp)
      exact loop m 0 M (by omega) ⟨hR.tx.wr, (hR.ms.to rfl rfl rfl rfl rfl rfl rfl rfl rfl rfl rfl), (hR.mo.to rfl rfl rfl rfl rfl), hR.ws, hR.wo, (hR.un.to rfl rfl), hR.h8, hR.hw, (Eq.trans rfl hR.m18), hR.z2, (hR.kp.to rfl rfl rfl rfl rfl)⟩ (fun _ _ => rfl)
    · refine e_bipush h dX11_write_26 (pc := 26) (by decide +kernel) ?_
      refine e_iret h hr ha dX11_write_28 (pc := 28) ?_
      exact kf m rfl (by omega) (by omega)
  · skip
    refine e_if_ne h (tgt := 14) dX11_write_9 (pc := 9) (by decide) (by decide) (fun hz => absurd hz (by decide)) (fun _ => ?_)
    refine e_iconst h dX11_write_12 (pc := 12)  ?_
    refine e_iret h hr ha dX11_write_13 (pc := 13) ?_
    exact kb (by omega)
set_option maxRecDepth 100000 in
set_option maxHeartbeats 4000000 in
theorem m_isSeen {gg : GT} {ad : Nat → Nat} {N : Nat} {M : Mem} {Post : Option AV → Mem → Prop} {x y m : Int}   (hxx : (-2147483648 ≤ x ∧ x ≤ 2147483647)) (hxy : (-2147483648 ≤ y ∧ y ≤ 2147483647)) (hxm : (-2147483648 ≤ m ∧ m ≤ 2147483647)) (kt : (0 ≤ x ∧ x ≤ 23) ∧ (0 ≤ y ∧ y ≤ 23) ∧ 1 ≤ m ∧ m ≤ 99 → Post (some (vi 1)) M) (kf : ¬ ((0 ≤ x ∧ x ≤ 23) ∧ (0 ≤ y ∧ y ≤ 23) ∧ 1 ≤ m ∧ m ≤ 99) → Post (some (vi 0)) M) : Sp gg yX11_isSeen cX11_isSeen 3 (some .boolean) rmX11_isSeen [vi x, vi y, vi m] ad N pT M Post := by
  refine Sp.intro (ls := [some (vi x), some (vi y), some (vi m)]) (by decide +kernel) rfl (Nat.le_of_ble_eq_true rfl) fun κ hgg h hr ha => ?_
  have h : Ok κ RX11 cX11_isSeen 3 rmX11_isSeen := h
  subst hgg
  refine e_iload_n h dX11_isSeen_0 (pc := 0) rfl ?_
  refine e_callS1 lk_X11_209 ms_X11_isPlace dX11_isSeen_1 (pc := 1) (Nat.le_of_ble_eq_true rfl) (rmY := rmX11_isPlace) (by decide) h ?_
  refine m_isPlace hxx (fun hzx => ?_) (fun hzx => ?_)
  · skip
    refine e_if_eq h (tgt := 30) dX11_isSeen_4 (pc := 4) (by decide) (by decide) (fun hz => absurd hz (by decide)) (fun _ => ?_)
    refine e_iload_n h dX11_isSeen_7 (pc := 7) rfl ?_
    refine e_callS1 lk_X11_209 ms_X11_isPlace dX11_isSeen_8 (pc := 8) (Nat.le_of_ble_eq_true rfl) (rmY := rmX11_isPlace) (by decide) h ?_
    refine m_isPlace hxy (fun hzy => ?_) (fun hzy => ?_)
    · skip
      refine e_if_eq h (tgt := 30) dX11_isSeen_11 (pc := 11) (by decide) (by decide) (fun hz => absurd hz (by decide)) (fun _ => ?_)
      refine e_iload_n h dX11_isSeen_14 (pc := 14) rfl ?_
      refine e_i2l h dX11_isSeen_15 (pc := 15) (by omega) ?_
      refine e_lconst h dX11_isSeen_16 (pc := 16) (x := 1) rfl ?_
      refine e_ldc2 h dX11_isSeen_17 (pc := 17) (x := 99) kl_X11_212 rfl ?_
      refine e_callS3 lk_X11_97 ms_X11_in dX11_isSeen_20 (pc := 20) (Nat.le_of_ble_eq_true rfl) (rmY := rmX11_in) (by decide) h ?_
      refine c_in (by omega) (by omega) (by omega) (fun hzm => ?_) (fun hzm => ?_)
      · skip
        refine e_if_eq h (tgt := 30) dX11_isSeen_23 (pc := 23) (by decide) (by decide) (fun hz => absurd hz (by decide)) (fun _ => ?_)
        refine e_iconst h dX11_isSeen_26 (pc := 26)  ?_
        refine e_goto h dX11_isSeen_27 (pc := 27) (tgt := 31) (by decide) ?_
        refine e_zret h hr ha dX11_isSeen_31 (pc := 31) (by decide) ?_
        exact kt (by omega)
      · skip
        refine e_if_eq h (tgt := 30) dX11_isSeen_23 (pc := 23) (by decide) (by decide) (fun _ => ?_) (fun hz => absurd hz (by decide))
        refine e_iconst h dX11_isSeen_30 (pc := 30)  ?_
        refine e_zret h hr ha dX11_isSeen_31 (pc := 31) (by decide) ?_
        exact kf (by omega)
    · skip
      refine e_if_eq h (tgt := 30) dX11_isSeen_11 (pc := 11) (by decide) (by decide) (fun _ => ?_) (fun hz => absurd hz (by decide))
      refine e_iconst h dX11_isSeen_30 (pc := 30)  ?_
      refine e_zret h hr ha dX11_isSeen_31 (pc := 31) (by decide) ?_
      exact kf (by omega)
  · skip
    refine e_if_eq h (tgt := 30) dX11_isSeen_4 (pc := 4) (by decide) (by decide) (fun _ => ?_) (fun hz => absurd hz (by decide))
    refine e_iconst h dX11_isSeen_30 (pc := 30)  ?_
    refine e_zret h hr ha dX11_isSeen_31 (pc := 31) (by decide) ?_
    exact kf (by omega)
set_option maxRecDepth 100000 in
set_option maxHeartbeats 4000000 in
theorem m_seen {gg : GT} {ad : Nat → Nat} {N : Nat} {M : Mem} {Post : Option AV → Mem → Prop} {n : Nat} {b : TB} {S O : SD} {h0 : Nat} {f g : Nat → Int} {z : Nat} {K : Nat → SD} {x y m : Int}   (hN : 139 ≤ N) (hR : RepM n b S O h0 f g z K M) (hxx : (-2147483648 ≤ x ∧ x ≤ 2147483647)) (hxy : (-2147483648 ≤ y ∧ y ≤ 2147483647)) (hxm : (-2147483648 ≤ m ∧ m ≤ 2147483647)) (kb : ¬ (0 ≤ x ∧ x ≤ 23 ∧ 0 ≤ y ∧ y ≤ 23 ∧ 1 ≤ m ∧ m ≤ 99) → Post (some (vi (-1))) M) (kt : ∀ (x1 y1 n1 : Nat) (v : Int), x = (x1 : Int) → y = (y1 : Int) → m = (n1 : Int) → x1 ≤ 23 → y1 ≤ 23 → (1 ≤ n1 ∧ n1 ≤ 99) → v = ((fit S x1 y1 n1 (sL S) : Nat) : Int) → Post (some (vi v)) M) : Sp gg yX11_seen cX11_seen 4 (some .int) rmX11_seen [vr 110, vi x, vi y, vi m] ad N pT M Post := by
  refine Sp.intro (ls := [some (vr 110), some (vi x), some (vi y), some (vi m)]) (by decide +kernel) rfl (Nat.le_of_ble_eq_true rfl) fun κ hgg h hr ha => ?_
  have h : Ok κ RX11 cX11_seen 4 rmX11_seen := h
  subst hgg
  have hwL := hR.ws.1
  have hwT := hR.ws.2.1
  have hwB := hR.ws.2.2.1
  have w4 := hR.ws.2.2.2.1
  have w5 := hR.ws.2.2.2.2.1
  have r9 := hR.ms.1
  have r10 := hR.ms.2.1
  have r11 := hR.ms.2.2.1
  refine e_iload_n h dX11_seen_0 (pc := 0) rfl ?_
  refine e_iload_n h dX11_seen_1 (pc := 1) rfl ?_
  refine e_iload_n h dX11_seen_2 (pc := 2) rfl ?_
  refine e_callS3 lk_X11_214 ms_X11_isSeen dX11_seen_3 (pc := 3) (Nat.le_of_ble_eq_true rfl) (rmY := rmX11_isSeen) (by decide) h ?_
  refine m_isSeen hxx hxy hxm (fun hz => ?_) (fun hz => ?_)
  · obtain ⟨x1, rfl⟩ : ∃ kk : Nat, x = (kk : Int) := ⟨x.toNat, by omega⟩
    obtain ⟨y1, rfl⟩ : ∃ kk : Nat, y = (kk : Int) := ⟨y.toNat, by omega⟩
    obtain ⟨n1, rfl⟩ : ∃ kk : Nat, m = (kk : Int) := ⟨m.toNat, by omega⟩
    refine e_if_eq h (tgt := 19) dX11_seen_6 (pc := 6) (by decide) (by decide) (fun hz => absurd hz (by decide)) (fun _ => ?_)
    refine e_aload_n h dX11_seen_9 (pc := 9) rfl ?_
    refine e_iload_n h dX11_seen_10 (pc := 10) rfl ?_
    refine e_iload_n h dX11_seen_11 (pc := 11) rfl ?_
    refine e_iload_n h dX11_seen_12 (pc := 12) rfl ?_
    refine e_callV3 lk_X11_218 mv_X11_levelsOf dX11_seen_13 (pc := 13) rfl (by decide) (Nat.lt_of_lt_of_le (by decide) hN) (Nat.le_of_ble_eq_true rfl) (rmY := rmX11_levelsOf) (by decide) h ?_
    refine m_levelsOf rfl rfl rfl hN hR (by omega) (by omega) (by omega) ?_
    refine e_goto h dX11_seen_16 (pc := 16) (tgt := 20) (by decide) ?_
    refine e_iret h hr ha dX11_seen_20 (pc := 20) ?_
    exact kt x1 y1 n1 _ rfl rfl rfl (by omega) (by omega) (by omega) rfl
  · skip
    refine e_if_eq h (tgt := 19) dX11_seen_6 (pc := 6) (by decide) (by decide) (fun _ => ?_) (fun hz => absurd hz (by decide))
    refine e_iconst h dX11_seen_19 (pc := 19)  ?_
    refine e_iret h hr ha dX11_seen_20 (pc := 20) ?_
    exact kb (by omega)
set_option maxRecDepth 100000 in
set_option maxHeartbeats 4000000 in
theorem m_seenTwice {gg : GT} {ad : Nat → Nat} {N : Nat} {M : Mem} {Post : Option AV → Mem → Prop} {n : Nat} {b : TB} {S O : SD} {h0 : Nat} {f g : Nat → Int} {z : Nat} {K : Nat → SD} {x y m u v : Int}   (hN : 139 ≤ N) (hR : RepM n b S O h0 f g z K M) (hxx : (-2147483648 ≤ x ∧ x ≤ 2147483647)) (hxy : (-2147483648 ≤ y ∧ y ≤ 2147483647)) (hxm : (-2147483648 ≤ m ∧ m ≤ 2147483647)) (hxu : (-2147483648 ≤ u ∧ u ≤ 2147483647)) (hxv : (-2147483648 ≤ v ∧ v ≤ 2147483647)) (kb : ¬ (0 ≤ x ∧ x ≤ 23 ∧ 0 ≤ y ∧ y ≤ 23 ∧ 1 ≤ m ∧ m ≤ 99 ∧ 0 ≤ u ∧ u ≤ 23 ∧ 1 ≤ v ∧ v ≤ 99) → Post (some (vi (-1))) M) (kt : ∀ (x1 y1 n1 y2 n2 : Nat) (a : Int), x = (x1 : Int) → y = (y1 : Int) → m = (n1 : Int) → u = (y2 : Int) → v = (n2 : Int) → x1 ≤ 23 → y1 ≤ 23 → (1 ≤ n1 ∧ n1 ≤ 99) → y2 ≤ 23 → (1 ≤ n2 ∧ n2 ≤ 99) → a = ((fit S x1 y1 n1 (sL S) &&& fit S y1 y2 n2 (sL S) : Nat) : Int) → Post (some (vi a)) M) : Sp gg yX11_seenTwice cX11_seenTwice 6 (some .int) rmX11_seenTwice [vr 110, vi x, vi y, vi m, vi u, vi v] ad N pT M Post := by
  refine Sp.intro (ls := [some (vr 110), some (vi x), some (vi y), some (vi m), some (vi u), some (vi v)]) (by decide +kernel) rfl (Nat.le_of_ble_eq_true rfl) fun κ hgg h hr ha => ?_
  have h : Ok κ RX11 cX11_seenTwice 6 rmX11_seenTwice := h
  subst hgg
  have hwL := hR.ws.1
  have hwT := hR.ws.2.1
  have hwB := hR.ws.2.2.1
  have w4 := hR.ws.2.2.2.1
  have w5 := hR.ws.2.2.2.2.1
  have r9 := hR.ms.1
  have r10 := hR.ms.2.1
  have r11 := hR.ms.2.2.1
  refine e_iload_n h dX11_seenTwice_0 (pc := 0) rfl ?_
  refine e_iload_n h dX11_seenTwice_1 (pc := 1) rfl ?_
  refine e_iload_n h dX11_seenTwice_2 (pc := 2) rfl ?_
  refine e_callS3 lk_X11_214 ms_X11_isSeen dX11_seenTwice_3 (pc := 3) (Nat.le_of_ble_eq_true rfl) (rmY := rmX11_isSeen) (by decide) h ?_
  refine m_isSeen hxx hxy hxm (fun hz => ?_) (fun hz => ?_)
  · skip
    refine e_if_eq h (tgt := 40) dX11_seenTwice_6 (pc := 6) (by decide) (by decide) (fun hz => absurd hz (by decide)) (fun _ => ?_)
    refine e_iload_n h dX11_seenTwice_9 (pc := 9) rfl ?_
    refine e_iload h dX11_seenTwice_10 (pc := 10) rfl ?_
    refine e_iload h dX11_seenTwice_12 (pc := 12) rfl ?_
    refine e_callS3 lk_X11_214 ms_X11_isSeen dX11_seenTwice_14 (pc := 14) (Nat.le_of_ble_eq_true rfl) (rmY := rmX11_isSeen) (by decide) h ?_
    refine m_isSeen hxy hxu hxv (fun hz2 => ?_) (fun hz2 => ?_)
    · obtain ⟨x1, rfl⟩ : ∃ kk : Nat, x = (kk : Int) := ⟨x.toNat, by omega⟩
      obtain ⟨y1, rfl⟩ : ∃ kk : Nat, y = (kk : Int) := ⟨y.toNat, by omega⟩
      obtain ⟨n1, rfl⟩ : ∃ kk : Nat, m = (kk : Int) := ⟨m.toNat, by omega⟩
      obtain ⟨y2, rfl⟩ : ∃ kk : Nat, u = (kk : Int) := ⟨u.toNat, by omega⟩
      obtain ⟨n2, rfl⟩ : ∃ kk : Nat, v = (kk : Int) := ⟨v.toNat, by omega⟩
      refine e_if_eq h (tgt := 40) dX11_seenTwice_17 (pc := 17) (by decide) (by decide) (fun hz => absurd hz (by decide)) (fun _ => ?_)
      refine e_aload_n h dX11_seenTwice_20 (pc := 20) rfl ?_
      refine e_iload_n h dX11_seenTwice_21 (pc := 21) rfl ?_
      refine e_iload_n h dX11_seenTwice_22 (pc := 22) rfl ?_
      refine e_iload_n h dX11_seenTwice_23 (pc := 23) rfl ?_
      refine e_callV3 lk_X11_218 mv_X11_levelsOf dX11_seenTwice_24 (pc := 24) rfl (by decide) (Nat.lt_of_lt_of_le (by decide) hN) (Nat.le_of_ble_eq_true rfl) (rmY := rmX11_levelsOf) (by decide) h ?_
      refine m_levelsOf rfl rfl rfl hN hR (by omega) (by omega) (by omega) ?_
      refine e_aload_n h dX11_seenTwice_27 (pc := 27) rfl ?_
      refine e_iload_n h dX11_seenTwice_28 (pc := 28) rfl ?_
      refine e_iload h dX11_seenTwice_29 (pc := 29) rfl ?_
      refine e_iload h dX11_seenTwice_31 (pc := 31) rfl ?_
      refine e_callV3 lk_X11_218 mv_X11_levelsOf dX11_seenTwice_33 (pc := 33) rfl (by decide) (Nat.lt_of_lt_of_le (by decide) hN) (Nat.le_of_ble_eq_true rfl) (rmY := rmX11_levelsOf) (by decide) h ?_
      refine m_levelsOf rfl rfl rfl hN hR (by omega) (by omega) (by omega) ?_
      refine e_iand h dX11_seenTwice_36 (pc := 36) (L32_and (fit S x1 y1 n1 (sL S)) (fit S y1 y2 n2 (sL S))) ?_
      refine e_goto h dX11_seenTwice_37 (pc := 37) (tgt := 41) (by decide) ?_
      refine e_iret h hr ha dX11_seenTwice_41 (pc := 41) ?_
      exact kt x1 y1 n1 y2 n2 _ rfl rfl rfl rfl rfl (by omega) (by omega) (by omega) (by omega) (by omega) rfl
    · skip
      refine e_if_eq h (tgt := 40) dX11_seenTwice_17 (pc := 17) (by decide) (by decide) (fun _ => ?_) (fun hz => absurd hz (by decide))
      refine e_iconst h dX11_seenTwice_40 (pc := 40)  ?_
      refine e_iret h hr ha dX11_seenTwice_41 (pc := 41) ?_
      exact kb (by omega)
  · skip
    refine e_if_eq h (tgt := 40) dX11_seenTwice_6 (pc := 6) (by decide) (by decide) (fun _ => ?_) (fun hz => absurd hz (by decide))
    refine e_iconst h dX11_seenTwice_40 (pc := 40)  ?_
    refine e_iret h hr ha dX11_seenTwice_41 (pc := 41) ?_
    exact kb (by omega)
set_option maxRecDepth 100000 in
set_option maxHeartbeats 4000000 in
theorem m_dropped {gg : GT} {ad : Nat → Nat} {N : Nat} {M : Mem} {Post : Option AV → Mem → Prop} {n : Nat} {b : TB} {S O : SD} {h0 : Nat} {f g : Nat → Int} {z : Nat} {K : Nat → SD} {x y m w : Int}   (hN : 139 ≤ N) (hR : RepM n b S O h0 f g z K M) (hxx : (-2147483648 ≤ x ∧ x ≤ 2147483647)) (hxy : (-2147483648 ≤ y ∧ y ≤ 2147483647)) (hxm : (-2147483648 ≤ m ∧ m ≤ 2147483647)) (hxw : (-2147483648 ≤ w ∧ w ≤ 2147483647)) (kb : ¬ (0 ≤ x ∧ x < sL S ∧ 0 ≤ y ∧ y ≤ 23 ∧ 0 ≤ m ∧ m ≤ 60 ∧ 0 ≤ w ∧ w ≤ 1) → Post (some (vi (-1))) M) (kt : ∀ (l x1 n1 : Nat) (v : Int), x = (l : Int) → y = (x1 : Int) → m = (n1 : Int) → l < sL S → x1 ≤ 23 → n1 ≤ 60 → 0 ≤ w ∧ w ≤ 1 → v = dropV S l x1 n1 w → Post (some (vi v)) M) : Sp gg yX11_dropped cX11_dropped 8 (some .int) rmX11_dropped [vr 110, vi x, vi y, vi m, vi w] ad N pT M Post := by
  refine Sp.intro (ls := [some (vr 110), some (vi x), some (vi y), some (vi m), some (vi w), none, none, none]) (by decide +kernel) rfl (Nat.le_of_ble_eq_true rfl) fun κ hgg h hr ha => ?_
  have h : Ok κ RX11 cX11_dropped 8 rmX11_dropped := h
  subst hgg
  have hwL := hR.ws.1
  have hwT := hR.ws.2.1
  have hwB := hR.ws.2.2.1
  have w4 := hR.ws.2.2.2.1
  have w5 := hR.ws.2.2.2.2.1
  have r9 := hR.ms.1
  have r10 := hR.ms.2.1
  have r11 := hR.ms.2.2.1
  refine e_aload_n h dX11_dropped_0 (pc := 0) rfl ?_
  refine e_iload_n h dX11_dropped_1 (pc := 1) rfl ?_
  refine e_callV1 lk_X11_156 mv_X11_isLevel dX11_dropped_2 (pc := 2) rfl (by decide) (Nat.lt_of_lt_of_le (by decide) hN) (Nat.le_of_ble_eq_true rfl) (rmY := rmX11_isLevel) (by decide) h ?_
  refine m_isLevel hN hR hxx (fun l ex hil => ?_) (fun hzx => ?_)
  · subst ex
    refine e_if_eq h (tgt := 38) dX11_dropped_5 (pc := 5) (by decide) (by decide) (fun hz => absurd hz (by decide)) (fun _ => ?_)
    refine e_iload_n h dX11_dropped_8 (pc := 8) rfl ?_
    refine e_callS1 lk_X11_209 ms_X11_isPlace dX11_dropped_9 (pc := 9) (Nat.le_of_ble_eq_true rfl) (rmY := rmX11_isPlace) (by decide) h ?_
    refine m_isPlace hxy (fun hzy => ?_) (fun hzy => ?_)
    · obtain ⟨x1, rfl⟩ : ∃ kk : Nat, y = (kk : Int) := ⟨y.toNat, by omega⟩
      refine e_if_eq h (tgt := 38) dX11_dropped_12 (pc := 12) (by decide) (by decide) (fun hz => absurd hz (by decide)) (fun _ => ?_)
      refine e_iload_n h dX11_dropped_15 (pc := 15) rfl ?_
      refine e_i2l h dX11_dropped_16 (pc := 16) (by omega) ?_
      refine e_lconst h dX11_dropped_17 (pc := 17) (x := 0) rfl ?_
      refine e_ldc2 h dX11_dropped_18 (pc := 18) (x := 60) kl_X11_130 rfl ?_
      refine e_callS3 lk_X11_97 ms_X11_in dX11_dropped_21 (pc := 21) (Nat.le_of_ble_eq_true rfl) (rmY := rmX11_in) (by decide) h ?_
      refine c_in (by omega) (by omega) (by omega) (fun hzm => ?_) (fun hzm => ?_)
      · obtain ⟨n1, rfl⟩ : ∃ kk : Nat, m = (kk : Int) := ⟨m.toNat, by omega⟩
        refine e_if_eq h (tgt := 38) dX11_dropped_24 (pc := 24) (by decide) (by decide) (fun hz => absurd hz (by decide)) (fun _ => ?_)
        refine e_iload h dX11_dropped_27 (pc := 27) rfl ?_
        refine e_i2l h dX11_dropped_29 (pc := 29) (by omega) ?_
        refine e_lconst h dX11_dropped_30 (pc := 30) (x := 0) rfl ?_
        refine e_lconst h dX11_dropped_31 (pc := 31) (x := 1) rfl ?_
        refine e_callS3 lk_X11_97 ms_X11_in dX11_dropped_32 (pc := 32) (Nat.le_of_ble_eq_true rfl) (rmY := rmX11_in) (by decide) h ?_
        refine c_in (by omega) (by omega) (by omega) (fun hzw => ?_) (fun hzw => ?_)
        · skip
          refine e_if_ne h (tgt := 40) dX11_dropped_35 (pc := 35) (by decide) (by decide) (fun _ => ?_) (fun hz => absurd hz (by decide))
          refine e_iload_n h dX11_dropped_40 (pc := 40) rfl ?_
          refine e_istore5 h dX11_dropped_41 (pc := 41) (by decide) rfl ?_
          refine e_iload_n h dX11_dropped_43 (pc := 43) rfl ?_
          refine e_iconst h dX11_dropped_44 (pc := 44)  ?_
          refine e_iadd h dX11_dropped_45 (pc := 45)  ?_
          refine e_istore6 h dX11_dropped_46 (pc := 46) (by decide) rfl ?_
          refine e_iconst h dX11_dropped_48 (pc := 48)  ?_
          refine e_istore7 h dX11_dropped_49 (pc := 49) (by decide) rfl ?_
          have loop : ∀ (m k : Nat), k + m = min n1 (l + 1) → E κ ad N pT M 51 [some (vr 110), some (vi (l : Int)), some (vi (x1 : Int)), some (vi (n1 : Int)), some (vi w), some (vi ((dp S l x1 k : Nat) : Int)), some (vi ((l : Int) + 1 - (k : Int))), some (vi (k : Int))] [] (0, 0) (QR κ ad N pT Post) := by
            intro m
            induction m with
            | zero =>
              intro k hk
              refine e_iload h dX11_dropped_51 (pc := 51) rfl ?_
              refine e_iload_n h dX11_dropped_53 (pc := 53) rfl ?_
              refine e_icmp_ge h (tgt := 86) dX11_dropped_54 (pc := 54) (by decide) (by omega) (by omega) (fun hb54 => ?_) (fun hb54 => ?_)
              · refine e_iload h dX11_dropped_86 (pc := 86) rfl ?_
                refine e_iconst h dX11_dropped_88 (pc := 88)  ?_
                refine e_icmp_ne h (tgt := 97) dX11_dropped_89 (pc := 89) (by decide) (by omega) (by decide) (fun hb89 => ?_) (fun hb89 => ?_)
                · refine e_iload h dX11_dropped_97 (pc := 97) rfl ?_
                  refine e_if_ne h (tgt := 107) dX11_dropped_99 (pc := 99) (by decide) (by omega) (fun hb99 => ?_) (fun hb99 => ?_)
                  · refine e_iload h dX11_dropped_107 (pc := 107) rfl ?_
                    refine e_iconst h dX11_dropped_109 (pc := 109)  ?_
                    refine e_isub h dX11_dropped_110 (pc := 110)  ?_
                    refine e_iret h hr ha dX11_dropped_111 (pc := 111) ?_
                    exact kt l x1 n1 _ rfl rfl rfl hil (by omega) (by omega) hzw (by unfold dropV; rw [if_neg (by omega), if_pos (by omega)]; omega)
                  · refine e_bipush h dX11_dropped_102 (pc := 102) (by decide +kernel) ?_
                    refine e_goto h dX11_dropped_104 (pc := 104) (tgt := 111) (by decide) ?_
                    refine e_iret h hr ha dX11_dropped_111 (pc := 111) ?_
                    exact kt l x1 n1 _ rfl rfl rfl hil (by omega) (by omega) hzw (by unfold dropV; rw [if_neg (by omega), if_neg (by omega)])
                · refine e_iload h dX11_dropped_92 (pc := 92) rfl ?_
                  refine e_goto h dX11_dropped_94 (pc := 94) (tgt := 111) (by decide) ?_
                  refine e_iret h hr ha dX11_dropped_111 (pc := 111) ?_
                  exact kt l x1 n1 _ rfl rfl rfl hil (by omega) (by omega) hzw (by unfold dropV; rw [if_pos (by omega), show min n1 (l + 1) = k by omega])
              · refine e_iload h dX11_dropped_57 (pc := 57) rfl ?_
                refine e_if_le h (tgt := 86) dX11_dropped_59 (pc := 59) (by decide) (by omega) (fun hb59 => ?_) (fun hb59 => absurd hb59 (by omega))
                refine e_iload h dX11_dropped_86 (pc := 86) rfl ?_
                refine e_iconst h dX11_dropped_88 (pc := 88)  ?_
                refine e_icmp_ne h (tgt := 97) dX11_dropped_89 (pc := 89) (by decide) (by omega) (by decide) (fun hb89 => ?_) (fun hb89 => ?_)
                · refine e_iload h dX11_dropped_97 (pc := 97) rfl ?_
                  refine e_if_ne h (tgt := 107) dX11_dropped_99 (pc := 99) (by decide) (by omega) (fun hb99 => ?_) (fun hb99 => ?_)
                  · refine e_iload h dX11_dropped_107 (pc := 107) rfl ?_
                    refine e_iconst h dX11_dropped_109 (pc := 109)  ?_
                    refine e_isub h dX11_dropped_110 (pc := 110)  ?_
                    refine e_iret h hr ha dX11_dropped_111 (pc := 111) ?_
                    exact kt l x1 n1 _ rfl rfl rfl hil (by omega) (by omega) hzw (by unfold dropV; rw [if_neg (by omega), if_pos (by omega)]; omega)
                  · refine e_bipush h dX11_dropped_102 (pc := 102) (by decide +kernel) ?_
                    refine e_goto h dX11_dropped_104 (pc := 104) (tgt := 111) (by decide) ?_
                    refine e_iret h hr ha dX11_dropped_111 (pc := 111) ?_
                    exact kt l x1 n1 _ rfl rfl rfl hil (by omega) (by omega) hzw (by unfold dropV; rw [if_neg (by omega), if_neg (by omega)])
                · refine e_iload h dX11_dropped_92 (pc := 92) rfl ?_
                  refine e_goto h dX11_dropped_94 (pc := 94) (tgt := 111) (by decide) ?_
                  refine e_iret h hr ha dX11_dropped_111 (pc := 111) ?_
                  exact kt l x1 n1 _ rfl rfl rfl hil (by omega) (by omega) hzw (by unfold dropV; rw [if_pos (by omega), show min n1 (l + 1) = k by omega])
            | succ m ih =>
              intro k hk
              refine e_iload h dX11_dropped_51 (pc := 51) rfl ?_
              refine e_iload_n h dX11_dropped_53 (pc := 53) rfl ?_
              refine e_icmp_ge h (tgt := 86) dX11_dropped_54 (pc := 54) (by decide) (by omega) (by omega) (fun hb54 => absurd hb54 (by omega)) (fun hb54 => ?_)
              refine e_iload h dX11_dropped_57 (pc := 57) rfl ?_
              refine e_if_le h (tgt := 86) dX11_dropped_59 (pc := 59) (by decide) (by omega) (fun hb59 => absurd hb59 (by omega)) (fun hb59 => ?_)
              refine e_iinc6 h dX11_dropped_62 (pc := 62) (by decide) rfl ?_
              refine e_iload h dX11_dropped_65 (pc := 65) rfl ?_
              refine e_aload_n h dX11_dropped_67 (pc := 67) rfl ?_
              refine e_getC h fl_X11_16 dX11_dropped_68 (pc := 68) rfl (Nat.lt_of_lt_of_le (by decide) hN) rfl rfl (r := 113) rfl ?_
              refine e_iload h dX11_dropped_71 (pc := 71) rfl ?_
              refine e_iald h dX11_dropped_73 (pc := 73) rfl (Nat.lt_of_lt_of_le (by decide) hN) (j := (l - k)) (by omega) (by show _ < 12; omega) ?_
              rw [(hR.ms.2.2.2.1 (l - k) (by omega)).1]
              have hpk := (w4 (l - k) (by omega)).1
              have hdp := dp_lt (S := S) (l := l) (x := x1) (by omega) k
              refine e_iadd h dX11_dropped_74 (pc := 74)  ?_
              refine e_bipush h dX11_dropped_75 (pc := 75) (by decide +kernel) ?_
              refine e_irem h dX11_dropped_77 (pc := 77) (by omega) (by decide) ?_
              rw [show ((dp S l x1 k : Nat) + (sP S (l - k) : Nat) : Int).tmod 24 = ((dp S l x1 (k + 1) : Nat) : Int) by rw [Int.tmod_eq_emod_of_nonneg (by omega)]; show _ = (((dp S l x1 k + sP S (l - k)) % 24 : Nat) : Int); omega]
              refine e_istore5 h dX11_dropped_78 (pc := 78) (by decide) rfl ?_
              refine e_iinc7 h dX11_dropped_80 (pc := 80) (by decide) rfl ?_
              refine e_goto h dX11_dropped_83 (pc := 83) (tgt := 51) (by decide) ?_
              rw [show (l : Int) + 1 - (k : Int) + -1 = (l : Int) + 1 - ((k + 1 : Nat) : Int) by omega, show (k : Int) + 1 = ((k + 1 : Nat) : Int) by omega]
              exact ih (k + 1) (by omega)
          exact cast (by congr 3) (loop (min n1 (l + 1)) 0 (by omega))
        · skip
          refine e_if_ne h (tgt := 40) dX11_dropped_35 (pc := 35) (by decide) (by decide) (fun hz => absurd hz (by decide)) (fun _ => ?_)
          refine e_iconst h dX11_dropped_38 (pc := 38)  ?_
          refine e_iret h hr ha dX11_dropped_39 (pc := 39) ?_
          exact kb (by omega)
      · skip
        refine e_if_eq h (tgt := 38) dX11_dropped_24 (pc := 24) (by decide) (by decide) (fun _ => ?_) (fun hz => absurd hz (by decide))
        refine e_iconst h dX11_dropped_38 (pc := 38)  ?_
        refine e_iret h hr ha dX11_dropped_39 (pc := 39) ?_
        exact kb (by omega)
    · skip
      refine e_if_eq h (tgt := 38) dX11_dropped_12 (pc := 12) (by decide) (by decide) (fun _ => ?_) (fun hz => absurd hz (by decide))
      refine e_iconst h dX11_dropped_38 (pc := 38)  ?_
      refine e_iret h hr ha dX11_dropped_39 (pc := 39) ?_
      exact kb (by omega)
  · skip
    refine e_if_eq h (tgt := 38) dX11_dropped_5 (pc := 5) (by decide) (by decide) (fun _ => ?_) (fun hz => absurd hz (by decide))
    refine e_iconst h dX11_dropped_38 (pc := 38)  ?_
    refine e_iret h hr ha dX11_dropped_39 (pc := 39) ?_
    exact kb (by omega)
