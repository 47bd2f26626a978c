theorem L_shr {a : Nat} (ha : a < 2 ^ 63) {k : Nat} (hk : k < 64) : Int64.ofInt a >>> ((Int32.ofInt k).toInt64 &&& 63) = Int64.ofInt ((a >>> k : Nat) : Int) := by
  apply Int64.toBitVec_inj.1
  rw [Int64.toBitVec_shiftRight, BitVec.sshiftRight_eq', L_k1 k hk, Int64.toBitVec_ofInt, Int64.toBitVec_ofInt, BitVec.ofInt_natCast, BitVec.ofInt_natCast]
  rw [BitVec.sshiftRight_eq_of_msb_false (by rw [BitVec.msb_eq_false_iff_two_mul_lt, BitVec.toNat_ofNat, Nat.mod_eq_of_lt (by omega)]; omega)]
  apply BitVec.eq_of_toNat_eq
  rw [BitVec.toNat_ushiftRight, BitVec.toNat_ofNat, BitVec.toNat_ofNat, Nat.mod_eq_of_lt (by omega), Nat.mod_eq_of_lt]
  exact Nat.lt_of_le_of_lt (by rw [Nat.shiftRight_eq_div_pow]; exact Nat.div_le_self _ _) (by omega)
set_option maxRecDepth 100000 in
set_option maxHeartbeats 4000000 in
theorem m_highest {gg : GT} {ad : Nat → Nat} {N : Nat} {M : Mem} {Post : Option AV → Mem → Prop} {a : Nat}  {xa : Int} (hxa : xa = ((a : Nat) : Int))  (ha61 : a < 2 ^ 61) (ha0 : a ≠ 0) (K : ∀ v : Nat, a.testBit v = true → (∀ k, a.testBit k = true → k ≤ v) → Post (some (vi (v : Int))) M) : Sp gg yX11_highest cX11_highest 3 (some .int) rmX11_highest [vj xa] ad N pT M Post := by
  refine Sp.intro (ls := [some (vj xa), none, none]) (by decide +kernel) rfl (Nat.le_of_ble_eq_true rfl) fun κ hgg h hr ha => ?_
  have h : Ok κ RX11 cX11_highest 3 rmX11_highest := h
  subst hgg
  subst hxa
  have loop : ∀ (m k : Nat), k < m → k ≤ 60 → (∀ j, a.testBit j = true → j ≤ k) → E κ ad N pT M 3 [some (vj (a : Int)), none, some (vi (k : Int))] [] (0, 0) (QR κ ad N pT Post) := by
    intro m
    induction m with
    | zero => intro k h1; exact absurd h1 (by omega)
    | succ m ih =>
      intro k hm hk60 hv
      refine e_lload_n h dX11_highest_3 (pc := 3) rfl ?_
      refine e_iload_n h dX11_highest_4 (pc := 4) rfl ?_
      refine e_lshr h dX11_highest_5 (pc := 5) (L_shr (a := a) (by omega) (k := k) (by omega)) ?_
      refine e_lconst h dX11_highest_6 (pc := 6) (x := 1) rfl ?_
      refine e_land h dX11_highest_7 (pc := 7) (L_and (a >>> k) 1) ?_
      have hod := tb_odd a k
      have hle := odd_le a k
      generalize (a >>> k &&& 1) = w at hod hle ⊢
      refine e_lconst h dX11_highest_8 (pc := 8) (x := 0) rfl ?_
      refine e_lcmp h dX11_highest_9 (pc := 9) (by omega) (by decide) ?_
      generalize hlc9 : lcmp _ _ = lc9
      have hlr9 := lcmp_spec hlc9
      refine e_if_ne h (tgt := 19) dX11_highest_10 (pc := 10) (by decide) (by omega) (fun hb10 => ?_) (fun hb10 => ?_)
      · refine e_iload_n h dX11_highest_19 (pc := 19) rfl ?_
        refine e_iret h hr ha dX11_highest_20 (pc := 20) ?_
        exact K k (hod.1 (by omega)) hv
      · refine e_iinc2 h dX11_highest_13 (pc := 13) (by decide) rfl ?_
        refine e_goto h dX11_highest_16 (pc := 16) (tgt := 3) (by decide) ?_
        have hno : ¬ a.testBit k = true := fun z => (hod.2 z) (by omega)
        have hk0 : 0 < k := by
          rcases Nat.eq_zero_or_pos k with q | q
          · subst q
            obtain ⟨j, hj⟩ := tb_nz.1 ha0
            have := hv j hj
            have e : j = 0 := by omega
            subst e
            exact absurd hj hno
          · exact q
        rw [show (k : Int) + -1 = ((k - 1 : Nat) : Int) by omega]
        exact ih (k - 1) (by omega) (by omega) (fun j hj => by
          have := hv j hj
          by_cases e : j = k
          · subst e; exact absurd hj hno
          · omega)
  refine e_bipush h dX11_highest_0 (pc := 0) (by decide +kernel) ?_
  refine e_istore2 h dX11_highest_2 (pc := 2) (by decide) rfl ?_
  exact loop 61 60 (by omega) (by omega) (fun j hj => by have := tb_lt ha61 hj; omega)
set_option maxRecDepth 100000 in
set_option maxHeartbeats 4000000 in
theorem m_carry {gg : GT} {ad : Nat → Nat} {N : Nat} {M : Mem} {Post : Option AV → Mem → Prop} {n : Nat} {b : TB} {S O : SD} {h0 : Nat} {f g : Nat → Int} {z : Nat} {K : Nat → SD} {i l x g1 d : Nat}  {xi : Int} (hxi : xi = (i : Int)) {xl : Int} (hxl : xl = (l : Int)) {xx : Int} (hxx : xx = (x : Int)) {xg1 : Int} (hxg1 : xg1 = (g1 : Int))  (hN : 139 ≤ N) (hR : RepM n b S O h0 f g z K M) (hi : i < sT S) (hl : l < sL S) (hx : x < 24) (hg60 : g1 ≤ 60) (h27 : M 110 27 = (d : Int)) (hd : d < 60) (hjb : JB M 135) (K : ∀ M2 : Mem, ADD M M2 135 (fun c g => ∃ l2, SK l g1 l2 ∧ TO S i (d + 1) l2 x g1 c g) → Post none M2) : Sp gg yX11_carry cX11_carry 6 none rmX11_carry [vr 110, vi xi, vi xl, vi xx, vi xg1] ad N pT M Post := by
  refine Sp.intro (ls := [some (vr 110), some (vi xi), some (vi xl), some (vi xx), some (vi xg1), none]) (by decide +kernel) rfl (Nat.le_of_ble_eq_true rfl) fun κ hgg h hr ha => ?_
  have h : Ok κ RX11 cX11_carry 6 rmX11_carry := h
  subst hgg
  subst hxi
  subst hxl
  subst hxx
  subst hxg1
  have hwL := hR.ws.1
  have hwT := hR.ws.2.1
  have hwB := hR.ws.2.2.1
  have w4 := hR.ws.2.2.2.1
  have w5 := hR.ws.2.2.2.2.1
  have r9 := hR.ms.1
  have r10 := hR.ms.2.1
  have r11 := hR.ms.2.2.1
  have hkk := w5 i hi
  have rest : ∀ l2 : Nat, SK l g1 l2 → l2 < sL S → E κ ad N pT M 12 [some (vr 110), some (vi (i : Int)), some (vi (l : Int)), some (vi (x : Int)), some (vi (g1 : Int)), none] [vi (l2 : Int)] (0, 0) (QR κ ad N pT Post) := by
    intro l2 hsk hl2
    have hpl := (w4 l2 hl2).1
    obtain ⟨n1, hn1, hn2⟩ := hjb (24 * l2 + (x + sP S l2) % 24) (by omega)
    refine e_istore5 h dX11_carry_12 (pc := 12) (by decide) rfl ?_
    refine e_iload h dX11_carry_14 (pc := 14) rfl ?_
    refine e_if_lt h (tgt := 67) dX11_carry_16 (pc := 16) (by decide) (by omega) (fun hb16 => absurd hb16 (by omega)) (fun hb16 => ?_)
    refine e_aload_n h dX11_carry_19 (pc := 19) rfl ?_
    refine e_getC h fl_X11_83 dX11_carry_20 (pc := 20) rfl (Nat.lt_of_lt_of_le (by decide) hN) rfl rfl (r := 135) rfl ?_
    refine e_bipush h dX11_carry_23 (pc := 23) (by decide +kernel) ?_
    refine e_iload h dX11_carry_25 (pc := 25) rfl ?_
    refine e_imul h dX11_carry_27 (pc := 27)  ?_
    refine e_iload_n h dX11_carry_28 (pc := 28) rfl ?_
    refine e_aload_n h dX11_carry_29 (pc := 29) rfl ?_
    refine e_getC h fl_X11_16 dX11_carry_30 (pc := 30) rfl (Nat.lt_of_lt_of_le (by decide) hN) rfl rfl (r := 113) rfl ?_
    refine e_iload h dX11_carry_33 (pc := 33) rfl ?_
    refine e_iald h dX11_carry_35 (pc := 35) rfl (Nat.lt_of_lt_of_le (by decide) hN) rfl (by show _ < 12; omega) ?_
    rw [(hR.ms.2.2.2.1 l2 hl2).1]
    refine e_iadd h dX11_carry_36 (pc := 36)  ?_
    refine e_bipush h dX11_carry_37 (pc := 37) (by decide +kernel) ?_
    refine e_irem h dX11_carry_39 (pc := 39) (by omega) (by decide) ?_
    rw [show ((x : Int) + (sP S l2 : Int)).tmod 24 = (((x + sP S l2) % 24 : Nat) : Int) by rw [Int.tmod_eq_emod_of_nonneg (by omega)]; omega]
    refine e_iadd h dX11_carry_40 (pc := 40)  ?_
    refine e_dup2 h dX11_carry_41 (pc := 41) rfl rfl ?_
    refine e_lald h dX11_carry_42 (pc := 42) rfl (Nat.lt_of_lt_of_le (by decide) hN) (j := (24 * l2 + (x + sP S l2) % 24)) (by omega) (by show _ < 144; omega) ?_
    rw [hn1]
    refine e_lconst h dX11_carry_43 (pc := 43) (x := 1) rfl ?_
    refine e_aload_n h dX11_carry_44 (pc := 44) rfl ?_
    refine e_aload_n h dX11_carry_45 (pc := 45) rfl ?_
    refine e_getC h fl_X11_34 dX11_carry_46 (pc := 46) rfl (Nat.lt_of_lt_of_le (by decide) hN) rfl rfl (r := 119) rfl ?_
    refine e_iload_n h dX11_carry_49 (pc := 49) rfl ?_
    refine e_iald h dX11_carry_50 (pc := 50) rfl (Nat.lt_of_lt_of_le (by decide) hN) rfl (by show _ < 12; omega) ?_
    refine e_iload h dX11_carry_51 (pc := 51) rfl ?_
    refine e_iload h dX11_carry_53 (pc := 53) rfl ?_
    refine e_aload_n h dX11_carry_55 (pc := 55) rfl ?_
    refine e_getI h fl_X11_159 dX11_carry_56 (pc := 56) rfl (Nat.lt_of_lt_of_le (by decide) hN) (by decide) ?_
    refine e_iconst h dX11_carry_59 (pc := 59)  ?_
    refine e_iadd h dX11_carry_60 (pc := 60)  ?_
    refine e_callV4 lk_X11_166 mv_X11_leftOf dX11_carry_61 (pc := 61) rfl (by decide) (Nat.lt_of_lt_of_le (by decide) hN) (Nat.le_of_ble_eq_true rfl) (rmY := rmX11_leftOf) (by decide) h ?_
    have hgl := gasL_le (S := S) (i := i) (l := l2) (d := d + 1) (g := g1)
    refine m_leftOf (kd := sK S i) (g1 := g1) (l := l2) (t := d + 1) (i := i) (hR.ms.2.2.2.2.1 i hi).2.2.2 rfl rfl (by omega) hN hR rfl hkk.2.2.2.2 hl2 hg60 (by omega) ?_
    refine e_lshl h dX11_carry_64 (pc := 64) (L_shl 1 (k := gasL S i l2 (d + 1) g1) (by omega)) ?_
    refine e_lor h dX11_carry_65 (pc := 65) (L_or n1 (1 <<< gasL S i l2 (d + 1) g1)) ?_
    refine e_last h dX11_carry_66 (pc := 66) rfl (Nat.lt_of_lt_of_le (by decide) hN) (j := (24 * l2 + (x + sP S l2) % 24)) (by omega) (by show _ < 144; omega) ?_
    refine e_vret h hr ha dX11_carry_67 (pc := 67) ?_
    refine K _ (ADD.up hjb hn1 (fun g => ?_) (fun c1 g z => ?_) hn2)
    · rw [Nat.testBit_or, Bool.or_eq_true, tb_shl1]
      constructor
      · rintro (z | z)
        · exact Or.inl z
        · exact Or.inr ⟨l2, hsk, rfl, z⟩
      · rintro (z | ⟨l3, z1, z2, z3⟩)
        · exact Or.inl z
        · have e : l3 = l2 := by unfold SK at z1 hsk; omega
          subst e
          exact Or.inr z3
    · obtain ⟨l3, z1, z2, z3⟩ := z
      have e : l3 = l2 := by unfold SK at z1 hsk; omega
      subst e
      exact ⟨z2, by omega⟩
  by_cases hg : g1 = 0
  · by_cases hl0 : l = 0
    · subst hl0
      subst hg
      refine e_iload h dX11_carry_0 (pc := 0) rfl ?_
      refine e_if_ne h (tgt := 11) dX11_carry_2 (pc := 2) (by decide) (by omega) (fun hb2 => absurd hb2 (by omega)) (fun hb2 => ?_)
      refine e_iload_n h dX11_carry_5 (pc := 5) rfl ?_
      refine e_iconst h dX11_carry_6 (pc := 6)  ?_
      refine e_isub h dX11_carry_7 (pc := 7)  ?_
      refine e_goto h dX11_carry_8 (pc := 8) (tgt := 12) (by decide) ?_
      refine e_istore5 h dX11_carry_12 (pc := 12) (by decide) rfl ?_
      refine e_iload h dX11_carry_14 (pc := 14) rfl ?_
      refine e_if_lt h (tgt := 67) dX11_carry_16 (pc := 16) (by decide) (by omega) (fun hb16 => ?_) (fun hb16 => absurd hb16 (by omega))
      refine e_vret h hr ha dX11_carry_67 (pc := 67) ?_
      exact K M (ADD.none hjb (fun c g z => by obtain ⟨l2, z1, z2⟩ := z; unfold SK at z1; omega))
    · skip
      refine e_iload h dX11_carry_0 (pc := 0) rfl ?_
      refine e_if_ne h (tgt := 11) dX11_carry_2 (pc := 2) (by decide) (by omega) (fun hb2 => absurd hb2 (by omega)) (fun hb2 => ?_)
      refine e_iload_n h dX11_carry_5 (pc := 5) rfl ?_
      refine e_iconst h dX11_carry_6 (pc := 6)  ?_
      refine e_isub h dX11_carry_7 (pc := 7)  ?_
      refine e_goto h dX11_carry_8 (pc := 8) (tgt := 12) (by decide) ?_
      rw [show (l : Int) - 1 = ((l - 1 : Nat) : Int) by omega]
      exact rest (l - 1) (Or.inr ⟨hg, by omega⟩) (by omega)
  · skip
    refine e_iload h dX11_carry_0 (pc := 0) rfl ?_
    refine e_if_ne h (tgt := 11) dX11_carry_2 (pc := 2) (by decide) (by omega) (fun hb2 => ?_) (fun hb2 => absurd hb2 (by omega))
    refine e_iload_n h dX11_carry_11 (pc := 11) rfl ?_
    exact rest l (Or.inl ⟨by omega, rfl⟩) hl
