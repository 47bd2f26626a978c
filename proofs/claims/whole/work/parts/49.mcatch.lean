theorem RC_lim {S O : SD} {i : Nat} (hw : WS S) (hi : i < sT S) : ∀ (d c g : Nat), RC S O i d c g → c < 24 * sL S
  | 0, c, g, h => by
    have := hw.2.2.2.2.1 i hi
    have h1 : c = 24 * sH S i + sF S i := h.1
    omega
  | d + 1, c, g, h => by
    obtain ⟨m, k, z1, z2, l1, k1, l2, h2, h3, h4⟩ := h
    have h5 := h4.1
    unfold SK at h3
    unfold MVE at h2
    omega
theorem cs_float {S O : SD} {j : Nat} {d : Nat} (h : (cs S O j d).1 ≠ 9) : ∀ t, t ≤ d → (cs S O j t).1 ≠ 9 := by
  intro t ht z
  have e : ∀ n, (cs S O j (t + n)).1 = 9 := by
    intro n
    induction n with
    | zero => exact z
    | succ n ih => show (crs S O j _ _ (t + n + 1)).1 = 9; rw [(crs_lost ih).1]; exact ih
  have := e (d - t)
  rw [show t + (d - t) = d by omega] at this
  exact h this
theorem MG.to {S O : SD} {d : Nat} {M M2 : Mem} (h : MG S O d M) (a : M2 110 = M 110) (b : M2 130 = M 130) (c : M2 131 = M 131) (e : M2 132 = M 132) (f : M2 133 = M 133) : MG S O d M2 := by unfold MG; rw [a, b, c, e, f]; exact h
theorem exMax {a n : Nat} (ha : a < 2 ^ n) (h0 : a ≠ 0) : ∃ v, a.testBit v = true ∧ ∀ k, a.testBit k = true → k ≤ v := by
  have e : ∀ m, m ≤ n → (∀ k, a.testBit k = true → k < m) → ∃ v, a.testBit v = true ∧ ∀ k, a.testBit k = true → k ≤ v := by
    intro m
    induction m with
    | zero => intro _ h; obtain ⟨k, hk⟩ := tb_nz.1 h0; exact absurd (h k hk) (by omega)
    | succ m ih =>
      intro hm h
      by_cases q : a.testBit m = true
      · exact ⟨m, q, fun k hk => by have := h k hk; omega⟩
      · exact ih (by omega) (fun k hk => by
          have := h k hk
          by_cases z : k = m
          · subst z; exact absurd hk q
          · omega)
  exact e n (Nat.le_refl n) (fun k hk => tb_lt ha hk)
set_option maxRecDepth 100000 in
set_option maxHeartbeats 4000000 in
theorem m_catches {gg : GT} {ad : Nat → Nat} {N : Nat} {M : Mem} {Post : Option AV → Mem → Prop} {n : Nat} {b : TB} {S O : SD} {h0 : Nat} {f g : Nat → Int} {z : Nat} {K : Nat → SD} {x y w : Int}   (hN : 139 ≤ N) (hR : RepM n b S O h0 f g z K M) (hxx : (-2147483648 ≤ x ∧ x ≤ 2147483647)) (hxy : (-2147483648 ≤ y ∧ y ≤ 2147483647)) (hxw : (-2147483648 ≤ w ∧ w ≤ 2147483647)) (kb : ¬ ((0 ≤ x ∧ x < sT S ∧ 0 ≤ y ∧ y < sT S ∧ x ≠ y) ∧ 0 ≤ w ∧ w ≤ 1) → Post (some (vi (-1))) M) (kt : ∀ (i j : Nat) (M2 : Mem) (v : Int), x = (i : Int) → y = (j : Int) → i < sT S → j < sT S → i ≠ j → 0 ≤ w ∧ w ≤ 1 → CV S O i j w v → RepM n b S O h0 f g z K M2 → (∀ p, p < 110 → M2 p = M p) → Post (some (vi v)) M2) : Sp gg yX11_catches cX11_catches 5 (some .int) rmX11_catches [vr 110, vi x, vi y, vi w] ad N pT M Post := by
  refine Sp.intro (ls := [some (vr 110), some (vi x), some (vi y), some (vi w), none]) (by decide +kernel) rfl (Nat.le_of_ble_eq_true rfl) fun κ hgg h hr ha => ?_
  have h : Ok κ RX11 cX11_catches 5 rmX11_catches := h
  subst hgg
  have hwL := hR.ws.1
  have hwT := hR.ws.2.1
  have hwB := hR.ws.2.2.1
  have w4 := hR.ws.2.2.2.1
  have w5 := hR.ws.2.2.2.2.1
  have r9 := hR.ms.1
  have r10 := hR.ms.2.1
  have r11 := hR.ms.2.2.1
  refine e_aload_n h dX11_catches_0 (pc := 0) rfl ?_
  refine e_iload_n h dX11_catches_1 (pc := 1) rfl ?_
  refine e_callV1 lk_X11_180 mv_X11_isTown dX11_catches_2 (pc := 2) rfl (by decide) (Nat.lt_of_lt_of_le (by decide) hN) (Nat.le_of_ble_eq_true rfl) (rmY := rmX11_isTown) (by decide) h ?_
  refine m_isTown hN hR hxx (fun i ex hii => ?_) (fun hzx => ?_)
  · subst ex
    refine e_if_eq h (tgt := 31) dX11_catches_5 (pc := 5) (by decide) (by decide) (fun hz => absurd hz (by decide)) (fun _ => ?_)
    refine e_aload_n h dX11_catches_8 (pc := 8) rfl ?_
    refine e_iload_n h dX11_catches_9 (pc := 9) rfl ?_
    refine e_callV1 lk_X11_180 mv_X11_isTown dX11_catches_10 (pc := 10) rfl (by decide) (Nat.lt_of_lt_of_le (by decide) hN) (Nat.le_of_ble_eq_true rfl) (rmY := rmX11_isTown) (by decide) h ?_
    refine m_isTown hN hR hxy (fun j ey hij => ?_) (fun hzy => ?_)
    · subst ey
      refine e_if_eq h (tgt := 31) dX11_catches_13 (pc := 13) (by decide) (by decide) (fun hz => absurd hz (by decide)) (fun _ => ?_)
      refine e_iload_n h dX11_catches_16 (pc := 16) rfl ?_
      refine e_iload_n h dX11_catches_17 (pc := 17) rfl ?_
      refine e_icmp_eq h (tgt := 31) dX11_catches_18 (pc := 18) (by decide) (by omega) (by omega) (fun hb18 => ?_) (fun hb18 => ?_)
      · refine e_iconst h dX11_catches_31 (pc := 31)  ?_
        refine e_iret h hr ha dX11_catches_32 (pc := 32) ?_
        exact kb (by omega)
      · have hne : i ≠ j := by omega
        refine e_iload_n h dX11_catches_21 (pc := 21) rfl ?_
        refine e_i2l h dX11_catches_22 (pc := 22) (by omega) ?_
        refine e_lconst h dX11_catches_23 (pc := 23) (x := 0) rfl ?_
        refine e_lconst h dX11_catches_24 (pc := 24) (x := 1) rfl ?_
        refine e_callS3 lk_X11_97 ms_X11_in dX11_catches_25 (pc := 25) (Nat.le_of_ble_eq_true rfl) (rmY := rmX11_in) (by decide) h ?_
        refine c_in (by omega) (by omega) (by omega) (fun hzw => ?_) (fun hzw => ?_)
        · skip
          refine e_if_ne h (tgt := 33) dX11_catches_28 (pc := 28) (by decide) (by decide) (fun _ => ?_) (fun hz => absurd hz (by decide))
          refine e_iconst h dX11_catches_33 (pc := 33)  ?_
          refine e_istore4 h dX11_catches_34 (pc := 34) (by decide) rfl ?_
          have hxi5 := w5 i hii
          have hgo := hR.wo.2.2 i hii
          have hL6 := hR.ws.1.2
          have start : ∀ Mz : Mem, (∀ c, c < 144 → Mz 134 c = 0) → (∀ q, q ≠ 134 → Mz q = M q) → E κ ad N pT Mz 58 [some (vr 110), some (vi (i : Int)), some (vi (j : Int)), some (vi w), none] [] (0, 0) (QR κ ad N pT Post) := by
            intro Mz hz hfz
            have hRm := hR.row (M2 := Mz) (fun q h1 h2 => hfz q h1)
            refine e_aload_n h dX11_catches_58 (pc := 58) rfl ?_
            refine e_callV0 lk_X11_170 mv_X11_begin dX11_catches_59 (pc := 59) rfl (by decide) (Nat.lt_of_lt_of_le (by decide) hN) (Nat.le_of_ble_eq_true rfl) (rmY := rmX11_begin) (by decide) h ?_
            refine m_begin hN (fun M0 b1 b2 b3 => ?_)
            have hG0 := MG_0 hRm b1 b2
            have hR0 := hRm.go (fun q j hq => b3 q j (by omega))
            have gi := hG0.2 i hii
            have h134 : M0 134 = Mz 134 := by funext q; exact b3 134 q (by omega)
            have e1 : M0 130 i = (sH S i : Nat) := gi.1
            have e2 : M0 131 i = (sF S i : Nat) := gi.2.1
            have e3 : M0 132 i = (oG O i : Nat) := gi.2.2.1
            refine e_aload_n h dX11_catches_62 (pc := 62) rfl ?_
            refine e_getC h fl_X11_79 dX11_catches_63 (pc := 63) rfl (Nat.lt_of_lt_of_le (by decide) hN) rfl rfl (r := 134) rfl ?_
            refine e_bipush h dX11_catches_66 (pc := 66) (by decide +kernel) ?_
            refine e_aload_n h dX11_catches_68 (pc := 68) rfl ?_
            refine e_getC h fl_X11_67 dX11_catches_69 (pc := 69) rfl (Nat.lt_of_lt_of_le (by decide) hN) rfl rfl (r := 130) rfl ?_
            refine e_iload_n h dX11_catches_72 (pc := 72) rfl ?_
            refine e_iald h dX11_catches_73 (pc := 73) rfl (Nat.lt_of_lt_of_le (by decide) hN) rfl (by show _ < 6; omega) ?_
            refine e_imul h dX11_catches_74 (pc := 74)  ?_
            refine e_aload_n h dX11_catches_75 (pc := 75) rfl ?_
            refine e_getC h fl_X11_70 dX11_catches_76 (pc := 76) rfl (Nat.lt_of_lt_of_le (by decide) hN) rfl rfl (r := 131) rfl ?_
            refine e_iload_n h dX11_catches_79 (pc := 79) rfl ?_
            refine e_iald h dX11_catches_80 (pc := 80) rfl (Nat.lt_of_lt_of_le (by decide) hN) rfl (by show _ < 6; omega) ?_
            refine e_iadd h dX11_catches_81 (pc := 81)  ?_
            refine e_lconst h dX11_catches_82 (pc := 82) (x := 1) rfl ?_
            refine e_aload_n h dX11_catches_83 (pc := 83) rfl ?_
            refine e_getC h fl_X11_73 dX11_catches_84 (pc := 84) rfl (Nat.lt_of_lt_of_le (by decide) hN) rfl rfl (r := 132) rfl ?_
            refine e_iload_n h dX11_catches_87 (pc := 87) rfl ?_
            refine e_iald h dX11_catches_88 (pc := 88) rfl (Nat.lt_of_lt_of_le (by decide) hN) rfl (by show _ < 6; omega) ?_
            rw [e3]
            refine e_lshl h dX11_catches_89 (pc := 89) (L_shl 1 (k := oG O i) (by omega)) ?_
            refine e_last h dX11_catches_90 (pc := 90) rfl (Nat.lt_of_lt_of_le (by decide) hN) (j := (24 * sH S i + sF S i)) (by omega) (by show _ < 144; omega) ?_
            refine e_iconst h dX11_catches_91 (pc := 91)  ?_
            refine e_istore4 h dX11_catches_92 (pc := 92) (by decide) rfl ?_
            have loop : ∀ (m0 d : Nat) (M1 : Mem), d + m0 = 20 → MG S O d M1 → RepM n b S O h0 f g z K M1 → JB M1 134 → (∀ c g, c < 144 → (bt M1 134 c g ↔ RC S O i d c g)) → (∀ t, 1 ≤ t → t ≤ d → (cs S O j t).1 ≠ 9 → ∀ g, ¬ RC S O i t (24 * (cs S O j t).1 + (cs S O j t).2.1) g) → (∀ p, p < 110 → M1 p = M p) → E κ ad N pT M1 94 [some (vr 110), some (vi (i : Int)), some (vi (j : Int)), some (vi w), some (vi ((d + 1 : Nat) : Int))] [] (0, 0) (QR κ ad N pT Post) := by
              intro m0
              induction m0 with
              | zero =>
                intro d M1 hd hG1 hR1 hJ1 hB1 hno hf1
                refine e_iload h dX11_catches_94 (pc := 94) rfl ?_
                refine e_bipush h dX11_catches_96 (pc := 96) (by decide +kernel) ?_
                refine e_icmp_gt h (tgt := 187) dX11_catches_98 (pc := 98) (by decide) (by omega) (by decide) (fun hb98 => ?_) (fun hb98 => absurd hb98 (by omega))
                refine e_bipush h dX11_catches_187 (pc := 187) (by decide +kernel) ?_
                refine e_iret h hr ha dX11_catches_189 (pc := 189) ?_
                exact kt i j M1 _ rfl rfl hii hij hne hzw (Or.inr ⟨fun t z1 z2 z3 => hno t z1 (by omega) (z3 t z1 (Nat.le_refl t)), rfl⟩) hR1 hf1
              | succ m0 ih =>
                intro d M1 hd hG1 hR1 hJ1 hB1 hno hf1
                refine e_iload h dX11_catches_94 (pc := 94) rfl ?_
                refine e_bipush h dX11_catches_96 (pc := 96) (by decide +kernel) ?_
                refine e_icmp_gt h (tgt := 187) dX11_catches_98 (pc := 98) (by decide) (by omega) (by decide) (fun hb98 => absurd hb98 (by omega)) (fun hb98 => ?_)
                refine e_aload_n h dX11_catches_101 (pc := 101) rfl ?_
                refine e_iload_n h dX11_catches_102 (pc := 102) rfl ?_
                refine e_callV1 lk_X11_196 mv_X11_carryAll dX11_catches_103 (pc := 103) rfl (by decide) (Nat.lt_of_lt_of_le (by decide) hN) (Nat.le_of_ble_eq_true rfl) (rmY := rmX11_carryAll) (by decide) h ?_
                refine m_carryAll (i := i) (d := d) rfl hN hR1 hii hG1.1 (by omega) hJ1 (fun c g hc hb => RC_lim hR.ws hii d c g ((hB1 c g hc).1 hb)) (fun M2 hJ2 hB2 hf2 => ?_)
                have hR2 := hR1.row hf2
                have hG2 := hG1.to (hf2 110 (by omega) (by omega)) (hf2 130 (by omega) (by omega)) (hf2 131 (by omega) (by omega)) (hf2 132 (by omega) (by omega)) (hf2 133 (by omega) (by omega))
                refine e_aload_n h dX11_catches_106 (pc := 106) rfl ?_
                refine e_callV0 lk_X11_173 mv_X11_goDay dX11_catches_107 (pc := 107) rfl (by decide) (Nat.lt_of_lt_of_le (by decide) hN) (Nat.le_of_ble_eq_true rfl) (rmY := rmX11_goDay) (by decide) h ?_
                refine m_goDay hN hR2 hG2 (by omega) (fun M3 hG3 hR3 hf3 => ?_)
                have gj := hG3.2 j hij
                have cj : ((cs S O j (d + 1)).1 < sL S ∨ (cs S O j (d + 1)).1 = 9) ∧ (cs S O j (d + 1)).2.1 ≤ 23 := by have z := crs_wf (S := S) (O := O) (i := j) (w5 j hij).1 (w5 j hij).2.1 (hR.wo.2.2 j hij) (d + 1); exact ⟨z.1, z.2.1⟩
                have h134 : M3 134 = M2 134 := by funext q; exact hf3 134 q (by omega)
                have hJ3 : JB M3 134 := hJ2.to h134
                have hB3 : ∀ c g, c < 144 → (bt M3 134 c g ↔ RC S O i (d + 1) c g) := fun c g hc => by
                  unfold bt
                  rw [h134]
                  exact (hB2 c g hc).trans (RC_succ hL6 hB1)
                have hfr3 : ∀ p, p < 110 → M3 p = M p := fun p hp => by
                  funext q
                  rw [hf3 p q (by omega), hf2 p (by omega) (by omega), hf1 p hp]
                refine e_aload_n h dX11_catches_110 (pc := 110) rfl ?_
                refine e_getC h fl_X11_67 dX11_catches_111 (pc := 111) rfl (Nat.lt_of_lt_of_le (by decide) hN) rfl rfl (r := 130) rfl ?_
                refine e_iload_n h dX11_catches_114 (pc := 114) rfl ?_
                refine e_iald h dX11_catches_115 (pc := 115) rfl (Nat.lt_of_lt_of_le (by decide) hN) rfl (by show _ < 6; omega) ?_
                refine e_bipush h dX11_catches_116 (pc := 116) (by decide +kernel) ?_
                refine e_icmp_eq h (tgt := 181) dX11_catches_118 (pc := 118) (by decide) (by omega) (by decide) (fun hb118 => ?_) (fun hb118 => ?_)
                · refine e_iinc4 h dX11_catches_181 (pc := 181) (by decide) rfl ?_
                  refine e_goto h dX11_catches_184 (pc := 184) (tgt := 94) (by decide) ?_
                  rw [show ((d + 1 : Nat) : Int) + 1 = ((d + 1 + 1 : Nat) : Int) by omega]
                  exact ih (d + 1) M3 (by omega) hG3 hR3 hJ3 hB3 (fun t z1 z2 z4 g z3 => by
                    by_cases e : t = d + 1
                    · subst e
                      exact absurd z4 (by show ¬ (cs S O j (d + 1)).1 ≠ 9; omega)
                    · exact hno t z1 (by omega) z4 g z3) hfr3
                · have c9 : (cs S O j (d + 1)).1 ≠ 9 := by omega
                  obtain ⟨a, ha1, ha2⟩ := hJ3 (24 * (cs S O j (d + 1)).1 + (cs S O j (d + 1)).2.1) (by omega)
                  have hba : ∀ g, a.testBit g = true ↔ RC S O i (d + 1) (24 * (cs S O j (d + 1)).1 + (cs S O j (d + 1)).2.1) g := fun g => by
                    have z := hB3 (24 * (cs S O j (d + 1)).1 + (cs S O j (d + 1)).2.1) g (by omega)
                    unfold bt at z
                    rw [ha1] at z
                    exact z
                  refine e_aload_n h dX11_catches_121 (pc := 121) rfl ?_
                  refine e_getC h fl_X11_79 dX11_catches_122 (pc := 122) rfl (Nat.lt_of_lt_of_le (by decide) hN) rfl rfl (r := 134) rfl ?_
                  refine e_bipush h dX11_catches_125 (pc := 125) (by decide +kernel) ?_
                  refine e_aload_n h dX11_catches_127 (pc := 127) rfl ?_
                  refine e_getC h fl_X11_67 dX11_catches_128 (pc := 128) rfl (Nat.lt_of_lt_of_le (by decide) hN) rfl rfl (r := 130) rfl ?_
                  refine e_iload_n h dX11_catches_131 (pc := 131) rfl ?_
                  refine e_iald h dX11_catches_132 (pc := 132) rfl (Nat.lt_of_lt_of_le (by decide) hN) rfl (by show _ < 6; omega) ?_
                  refine e_imul h dX11_catches_133 (pc := 133)  ?_
                  refine e_aload_n h dX11_catches_134 (pc := 134) rfl ?_
                  refine e_getC h fl_X11_70 dX11_catches_135 (pc := 135) rfl (Nat.lt_of_lt_of_le (by decide) hN) rfl rfl (r := 131) rfl ?_
                  refine e_iload_n h dX11_catches_138 (pc := 138) rfl ?_
                  refine e_iald h dX11_catches_139 (pc := 139) rfl (Nat.lt_of_lt_of_le (by decide) hN) rfl (by show _ < 6; omega) ?_
                  refine e_iadd h dX11_catches_140 (pc := 140)  ?_
                  refine e_lald h dX11_catches_141 (pc := 141) rfl (Nat.lt_of_lt_of_le (by decide) hN) (j := (24 * (cs S O j (d + 1)).1 + (cs S O j (d + 1)).2.1)) (by omega) (by show _ < 144; omega) ?_
                  rw [ha1]
                  refine e_lconst h dX11_catches_142 (pc := 142) (x := 0) rfl ?_
                  refine e_lcmp h dX11_catches_143 (pc := 143) (by omega) (by decide) ?_
                  generalize hlc143 : lcmp _ _ = lc143
                  have hlr143 := lcmp_spec hlc143
                  refine e_if_eq h (tgt := 181) dX11_catches_144 (pc := 144) (by decide) (by omega) (fun hb144 => ?_) (fun hb144 => ?_)
                  · refine e_iinc4 h dX11_catches_181 (pc := 181) (by decide) rfl ?_
                    refine e_goto h dX11_catches_184 (pc := 184) (tgt := 94) (by decide) ?_
                    rw [show ((d + 1 : Nat) : Int) + 1 = ((d + 1 + 1 : Nat) : Int) by omega]
                    exact ih (d + 1) M3 (by omega) hG3 hR3 hJ3 hB3 (fun t z1 z2 z4 g z3 => by
                      by_cases e : t = d + 1
                      · subst e
                        have z3 := (hba g).2 z3
                        rw [show a = 0 by omega] at z3
                        simp at z3
                      · exact hno t z1 (by omega) z4 g z3) hfr3
                  · refine e_iload_n h dX11_catches_147 (pc := 147) rfl ?_
                    refine e_if_ne h (tgt := 156) dX11_catches_148 (pc := 148) (by decide) (by omega) (fun hb148 => ?_) (fun hb148 => ?_)
                    · refine e_aload_n h dX11_catches_156 (pc := 156) rfl ?_
                      refine e_getC h fl_X11_79 dX11_catches_157 (pc := 157) rfl (Nat.lt_of_lt_of_le (by decide) hN) rfl rfl (r := 134) rfl ?_
                      refine e_bipush h dX11_catches_160 (pc := 160) (by decide +kernel) ?_
                      refine e_aload_n h dX11_catches_162 (pc := 162) rfl ?_
                      refine e_getC h fl_X11_67 dX11_catches_163 (pc := 163) rfl (Nat.lt_of_lt_of_le (by decide) hN) rfl rfl (r := 130) rfl ?_
                      refine e_iload_n h dX11_catches_166 (pc := 166) rfl ?_
                      refine e_iald h dX11_catches_167 (pc := 167) rfl (Nat.lt_of_lt_of_le (by decide) hN) rfl (by show _ < 6; omega) ?_
                      refine e_imul h dX11_catches_168 (pc := 168)  ?_
                      refine e_aload_n h dX11_catches_169 (pc := 169) rfl ?_
                      refine e_getC h fl_X11_70 dX11_catches_170 (pc := 170) rfl (Nat.lt_of_lt_of_le (by decide) hN) rfl rfl (r := 131) rfl ?_
                      refine e_iload_n h dX11_catches_173 (pc := 173) rfl ?_
                      refine e_iald h dX11_catches_174 (pc := 174) rfl (Nat.lt_of_lt_of_le (by decide) hN) rfl (by show _ < 6; omega) ?_
                      refine e_iadd h dX11_catches_175 (pc := 175)  ?_
                      refine e_lald h dX11_catches_176 (pc := 176) rfl (Nat.lt_of_lt_of_le (by decide) hN) (j := (24 * (cs S O j (d + 1)).1 + (cs S O j (d + 1)).2.1)) (by omega) (by show _ < 144; omega) ?_
                      rw [ha1]
                      refine e_callS1 lk_X11_199 ms_X11_highest dX11_catches_177 (pc := 177) (Nat.le_of_ble_eq_true rfl) (rmY := rmX11_highest) (by decide) h ?_
                      have hnz : a ≠ 0 := by omega
                      refine m_highest (a := a) rfl ha2 hnz (fun v0 hv1 hv2 => ?_)
                      refine e_iret h hr ha dX11_catches_180 (pc := 180) ?_
                      exact kt i j M3 _ rfl rfl hii hij hne hzw (Or.inl ⟨d + 1, v0, by omega, by omega, fun t z1 z2 => cs_float c9 t z2, fun t z1 z2 g => hno t z1 (by omega) (cs_float c9 t (by omega)) g, (hba v0).1 hv1, fun k hk => hv2 k ((hba k).2 hk), by rw [if_neg (by omega)]⟩) hR3 hfr3
                    · refine e_iload h dX11_catches_151 (pc := 151) rfl ?_
                      refine e_goto h dX11_catches_153 (pc := 153) (tgt := 180) (by decide) ?_
                      refine e_iret h hr ha dX11_catches_180 (pc := 180) ?_
                      have hnz : a ≠ 0 := by omega
                      obtain ⟨gg0, hg1, hg2⟩ := exMax ha2 hnz
                      exact kt i j M3 _ rfl rfl hii hij hne hzw (Or.inl ⟨d + 1, gg0, by omega, by omega, fun t z1 z2 => cs_float c9 t z2, fun t z1 z2 g => hno t z1 (by omega) (cs_float c9 t (by omega)) g, (hba gg0).1 hg1, fun k hk => hg2 k ((hba k).2 hk), by rw [if_pos (by omega)]⟩) hR3 hfr3
            have hw0 : 1 <<< oG O i < 2 ^ 61 := lt_pow_of (fun g hg => by rw [tb_shl1] at hg; omega)
            refine loop 20 0 _ (by omega) (hG0.to (up_row (by omega)) (up_row (by omega)) (up_row (by omega)) (up_row (by omega)) (up_row (by omega))) (hR0.row (fun q h1 h2 => up_row (by omega))) (fun c hc => ?_) (fun c g hc => ?_) (fun t z1 z2 => absurd z1 (by omega)) (fun p hp => by rw [up_row (by omega)]; funext q; rw [b3 p q (by omega), hfz p (by omega)])
            · by_cases e : c = 24 * sH S i + sF S i
              · subst e; exact ⟨1 <<< oG O i, up_eq _ _ _ _, hw0⟩
              · rw [up_ne (Or.inr e), h134]; exact ⟨0, hz c hc, by decide⟩
            · unfold bt
              show _ ↔ c = 24 * sH S i + sF S i ∧ g = oG O i
              by_cases e : c = 24 * sH S i + sF S i
              · subst e
                rw [up_eq]
                show (1 <<< oG O i).testBit g = true ↔ _
                rw [tb_shl1]
                exact ⟨fun z => ⟨rfl, z⟩, fun z => z.2⟩
              · rw [up_ne (Or.inr e), h134]
                exact ⟨fun z => absurd z (bt_0 (hz c hc)), fun z => absurd z.1 e⟩
          have loopz : ∀ (m k : Nat) (Mz : Mem), k ≤ 144 → 144 < k + m → (∀ j, j < k → Mz 134 j = 0) → (∀ q, q ≠ 134 → Mz q = M q) → E κ ad N pT Mz 36 [some (vr 110), some (vi (i : Int)), some (vi (j : Int)), some (vi w), some (vi (k : Int))] [] (0, 0) (QR κ ad N pT Post) := by
            intro m
            induction m with
            | zero => intro k Mz h1 h2; exact absurd h2 (by omega)
            | succ m ihz =>
              intro k Mz hk hm hS hfr
              refine e_iload h dX11_catches_36 (pc := 36) rfl ?_
              refine e_sipush h dX11_catches_38 (pc := 38) (by decide +kernel) ?_
              refine e_icmp_ge h (tgt := 58) dX11_catches_41 (pc := 41) (by decide) (by omega) (by decide) (fun hb41 => ?_) (fun hb41 => ?_)
              · refine e_fgt (ls2 := [some (vr 110), some (vi (i : Int)), some (vi (j : Int)), some (vi w), none]) ⟨Or.inr rfl, Or.inr rfl, Or.inr rfl, Or.inr rfl, Or.inl rfl, trivial⟩ ?_
                exact start Mz (fun c hc => hS c (by omega)) hfr
              · refine e_aload_n h dX11_catches_44 (pc := 44) rfl ?_
                refine e_getC h fl_X11_79 dX11_catches_45 (pc := 45) rfl (Nat.lt_of_lt_of_le (by decide) hN) rfl rfl (r := 134) rfl ?_
                refine e_iload h dX11_catches_48 (pc := 48) rfl ?_
                refine e_lconst h dX11_catches_50 (pc := 50) (x := 0) rfl ?_
                refine e_last h dX11_catches_51 (pc := 51) rfl (Nat.lt_of_lt_of_le (by decide) hN) rfl (by show _ < 144; omega) ?_
                refine e_iinc4 h dX11_catches_52 (pc := 52) (by decide) rfl ?_
                refine e_goto h dX11_catches_55 (pc := 55) (tgt := 36) (by decide) ?_
                rw [show (k : Int) + 1 = ((k + 1 : Nat) : Int) by omega]
                exact ihz (k + 1) _ (by omega) (by omega) (fun j hj => by
                  by_cases e : j = k
                  · subst e; exact up_eq _ _ _ _
                  · rw [up_ne (Or.inr e)]; exact hS j (by omega)) (fun q hq => by rw [up_row hq]; exact hfr q hq)
          exact loopz 145 0 M (by omega) (by omega) (fun j hj => absurd hj (by omega)) (fun _ _ => rfl)
        · skip
          refine e_if_ne h (tgt := 33) dX11_catches_28 (pc := 28) (by decide) (by decide) (fun hz => absurd hz (by decide)) (fun _ => ?_)
          refine e_iconst h dX11_catches_31 (pc := 31)  ?_
          refine e_iret h hr ha dX11_catches_32 (pc := 32) ?_
          exact kb (by omega)
    · skip
      refine e_if_eq h (tgt := 31) dX11_catches_13 (pc := 13) (by decide) (by decide) (fun _ => ?_) (fun hz => absurd hz (by decide))
      refine e_iconst h dX11_catches_31 (pc := 31)  ?_
      refine e_iret h hr ha dX11_catches_32 (pc := 32) ?_
      exact kb (by omega)
  · skip
    refine e_if_eq h (tgt := 31) dX11_catches_5 (pc := 5) (by decide) (by decide) (fun _ => ?_) (fun hz => absurd hz (by decide))
    refine e_iconst h dX11_catches_31 (pc := 31)  ?_
    refine e_iret h hr ha dX11_catches_32 (pc := 32) ?_
    exact kb (by omega)
