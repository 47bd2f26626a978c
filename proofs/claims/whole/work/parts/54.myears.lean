set_option maxRecDepth 100000 in
set_option maxHeartbeats 4000000 in
theorem m_year {gg : GT} {ad : Nat → Nat} {N : Nat} {M : Mem} {Post : Option AV → Mem → Prop} {n : Nat} {b : TB} {S O : SD} {h0 : Nat} {f g : Nat → Int} {z : Nat} {K : Nat → SD} {x w : Int}   (hN : 139 ≤ N) (hR : RepM n b S O h0 f g z K M) (hxx : (-2147483648 ≤ x ∧ x ≤ 2147483647)) (hxw : (-2147483648 ≤ w ∧ w ≤ 2147483647)) (kb : ¬ (0 ≤ x ∧ x ≤ 9999 ∧ 0 ≤ w ∧ w ≤ 1) → Post (some (vi (-1))) M) (kt : ∀ (zz : Nat) (M2 : Mem) (v : Int), x = (zz : Int) → zz ≤ 9999 → 0 ≤ w ∧ w ≤ 1 → v = yearV S O zz w → RepM n b S O h0 f g z K M2 → (∀ p, p < 110 → M2 p = M p) → Post (some (vi v)) M2) : Sp gg yX11_year cX11_year 6 (some .int) rmX11_year [vr 110, vi x, vi w] ad N pT M Post := by
  refine Sp.intro (ls := [some (vr 110), some (vi x), some (vi w), none, none, none]) (by decide +kernel) rfl (Nat.le_of_ble_eq_true rfl) fun κ hgg h hr ha => ?_
  have h : Ok κ RX11 cX11_year 6 rmX11_year := h
  subst hgg
  have hwL := hR.ws.1
  have hwT := hR.ws.2.1
  have hwB := hR.ws.2.2.1
  have w4 := hR.ws.2.2.2.1
  have w5 := hR.ws.2.2.2.2.1
  have r9 := hR.ms.1
  have r10 := hR.ms.2.1
  have r11 := hR.ms.2.2.1
  refine e_iload_n h dX11_year_0 (pc := 0) rfl ?_
  refine e_i2l h dX11_year_1 (pc := 1) (by omega) ?_
  refine e_lconst h dX11_year_2 (pc := 2) (x := 0) rfl ?_
  refine e_ldc2 h dX11_year_3 (pc := 3) (x := 9999) kl_X11_229 rfl ?_
  refine e_callS3 lk_X11_97 ms_X11_in dX11_year_6 (pc := 6) (Nat.le_of_ble_eq_true rfl) (rmY := rmX11_in) (by decide) h ?_
  refine c_in (by omega) (by omega) (by omega) (fun hzx => ?_) (fun hzx => ?_)
  · obtain ⟨zz, rfl⟩ : ∃ kk : Nat, x = (kk : Int) := ⟨x.toNat, by omega⟩
    refine e_if_eq h (tgt := 22) dX11_year_9 (pc := 9) (by decide) (by decide) (fun hz => absurd hz (by decide)) (fun _ => ?_)
    refine e_iload_n h dX11_year_12 (pc := 12) rfl ?_
    refine e_i2l h dX11_year_13 (pc := 13) (by omega) ?_
    refine e_lconst h dX11_year_14 (pc := 14) (x := 0) rfl ?_
    refine e_lconst h dX11_year_15 (pc := 15) (x := 1) rfl ?_
    refine e_callS3 lk_X11_97 ms_X11_in dX11_year_16 (pc := 16) (Nat.le_of_ble_eq_true rfl) (rmY := rmX11_in) (by decide) h ?_
    refine c_in (by omega) (by omega) (by omega) (fun hzw => ?_) (fun hzw => ?_)
    · skip
      refine e_if_ne h (tgt := 24) dX11_year_19 (pc := 19) (by decide) (by decide) (fun _ => ?_) (fun hz => absurd hz (by decide))
      refine e_iconst h dX11_year_24 (pc := 24)  ?_
      refine e_istore3 h dX11_year_25 (pc := 25) (by decide) rfl ?_
      have hz9 : zz ≤ 9999 := by omega
      have hyp : ∀ i, yP zz i ≤ 23 := fun i => by unfold yP; omega
      have fin : ∀ M1 : Mem, (∀ j, j < sT S → M1 117 j = (yP zz j : Nat)) → (∀ j, j < sT S → M1 138 j = (sF S j : Nat)) → (∀ q, q ≠ 117 → q ≠ 138 → M1 q = M q) → E κ ad N pT M1 91 [some (vr 110), some (vi (zz : Int)), some (vi w), none, none, none] [] (0, 0) (QR κ ad N pT Post) := by
        intro M1 hm hh hfr
        have hRF := hR.fst (F := yP zz) (M2 := M1) (fun j hj => hyp j) hfr hm
        refine e_aload_n h dX11_year_91 (pc := 91) rfl ?_
        refine e_bipush h dX11_year_92 (pc := 92) (by decide +kernel) ?_
        refine e_callV1 lk_X11_190 mv_X11_marketsTo dX11_year_94 (pc := 94) rfl (by decide) (Nat.lt_of_lt_of_le (by decide) hN) (Nat.le_of_ble_eq_true rfl) (rmY := rmX11_marketsTo) (by decide) h ?_
        refine m_marketsTo (t := 60) rfl hN hRF (by omega) (fun M2 hG2 hR2 hf2 => ?_)
        have h138 : M2 138 = M1 138 := by funext j; exact hf2 138 j (by omega)
        have hsum : mt (fun i => cs (fstS S (yP zz)) O i) (sT (fstS S (yP zz))) 60 = mt (fun i => crs S O i (sH S i) (yP zz i)) (sT S) 60 := by
          rw [mt_cong (B := fun i => crs S O i (sH S i) (yP zz i)) (B2 := fun i => cs (fstS S (yP zz)) O i) (fun i t => cs_fst)]
          rfl
        rw [hsum]
        refine e_istore3 h dX11_year_97 (pc := 97) (by decide) rfl ?_
        refine e_iconst h dX11_year_98 (pc := 98)  ?_
        refine e_istore4 h dX11_year_99 (pc := 99) (by decide) rfl ?_
        refine e_iconst h dX11_year_101 (pc := 101)  ?_
        refine e_istore5 h dX11_year_102 (pc := 102) (by decide) rfl ?_
        have loop3 : ∀ (m k : Nat) (M3 : Mem), k ≤ sT S → sT S < k + m → (∀ j, j < sT S → M3 117 j = ((if j < k then sF S j else yP zz j : Nat) : Int)) → (∀ q, q ≠ 117 → M3 q = M2 q) → E κ ad N pT M3 104 [some (vr 110), some (vi (zz : Int)), some (vi w), some (vi ((mt (fun i => crs S O i (sH S i) (yP zz i)) (sT S) 60 : Nat) : Int)), some (vi ((cnt (fun i => (fun i => lst S O i (sH S i) (yP zz i) 60) i != -4) k : Nat) : Int)), some (vi (k : Int))] [] (0, 0) (QR κ ad N pT Post) := by
          intro m
          induction m with
          | zero => intro k M3 h1 h2; exact absurd h2 (by omega)
          | succ m ih =>
            intro k M3 hk hm0 h117 hfr3
            have e115 : M3 115 0 = (sT S : Nat) := by rw [hfr3 115 (by omega)]; exact hR2.ms.2.1
            refine e_iload h dX11_year_104 (pc := 104) rfl ?_
            refine e_aload_n h dX11_year_106 (pc := 106) rfl ?_
            refine e_getC h fl_X11_22 dX11_year_107 (pc := 107) rfl (Nat.lt_of_lt_of_le (by decide) hN) rfl rfl (r := 115) rfl ?_
            refine e_iconst h dX11_year_110 (pc := 110)  ?_
            refine e_iald h dX11_year_111 (pc := 111) rfl (Nat.lt_of_lt_of_le (by decide) hN) (j := 0) rfl (by decide) ?_
            refine e_icmp_ge h (tgt := 157) dX11_year_112 (pc := 112) (by decide) (by omega) (by omega) (fun hb112 => ?_) (fun hb112 => ?_)
            · have hkT : k = sT S := by omega
              refine e_iload_n h dX11_year_157 (pc := 157) rfl ?_
              refine e_if_ne h (tgt := 165) dX11_year_158 (pc := 158) (by decide) (by omega) (fun hb158 => ?_) (fun hb158 => ?_)
              · refine e_iload h dX11_year_165 (pc := 165) rfl ?_
                refine e_iret h hr ha dX11_year_167 (pc := 167) ?_
                have hRE := hR2.fst (F := sF S) (M2 := M3) (fun j hj => (w5 j hj).2.1) (fun q h1 h2 => hfr3 q h1) (fun j hj => by have hj2 : j < sT S := hj; rw [h117 j hj2, if_pos (by omega)])
                rw [fstS_fstS, fstS_same] at hRE
                exact kt zz M3 _ rfl (by omega) hzw (by unfold yearV; rw [if_neg (by omega)]; rw [hkT]; rfl) hRE (fun p hp => by rw [hfr3 p (by omega)]; funext j; rw [hf2 p j (by omega), hfr p (by omega) (by omega)])
              · refine e_iload_n h dX11_year_161 (pc := 161) rfl ?_
                refine e_goto h dX11_year_162 (pc := 162) (tgt := 167) (by decide) ?_
                refine e_iret h hr ha dX11_year_167 (pc := 167) ?_
                have hRE := hR2.fst (F := sF S) (M2 := M3) (fun j hj => (w5 j hj).2.1) (fun q h1 h2 => hfr3 q h1) (fun j hj => by have hj2 : j < sT S := hj; rw [h117 j hj2, if_pos (by omega)])
                rw [fstS_fstS, fstS_same] at hRE
                exact kt zz M3 _ rfl (by omega) hzw (by unfold yearV; rw [if_pos (by omega)]; rw [am_half]) hRE (fun p hp => by rw [hfr3 p (by omega)]; funext j; rw [hf2 p j (by omega), hfr p (by omega) (by omega)])
            · have hkT : k < sT S := by omega
              have hhk : M3 138 k = (sF S k : Nat) := by rw [hfr3 138 (by omega), h138]; exact hh k hkT
              have g9 : M3 130 k = ((crs S O k (sH S k) (yP zz k) 60).1 : Nat) := by rw [hfr3 130 (by omega), (hG2.2 k hkT).1, cs_fst]
              have hl9 := lst_nine (S := S) (O := O) (i := k) (l0 := sH S k) (x0 := yP zz k) (by have := (w5 k hkT).1; omega) 60
              have hwf9 := (crs_wf (S := S) (O := O) (i := k) (l0 := sH S k) (x0 := yP zz k) (w5 k hkT).1 (hyp k) (hR.wo.2.2 k hkT) 60).1
              refine e_iload h dX11_year_115 (pc := 115) rfl ?_
              refine e_aload_n h dX11_year_117 (pc := 117) rfl ?_
              refine e_getC h fl_X11_67 dX11_year_118 (pc := 118) rfl (Nat.lt_of_lt_of_le (by decide) hN) rfl rfl (r := 130) rfl ?_
              refine e_iload h dX11_year_121 (pc := 121) rfl ?_
              refine e_iald h dX11_year_123 (pc := 123) rfl (Nat.lt_of_lt_of_le (by decide) hN) rfl (by show _ < 6; omega) ?_
              refine e_bipush h dX11_year_124 (pc := 124) (by decide +kernel) ?_
              refine e_icmp_ne h (tgt := 133) dX11_year_126 (pc := 126) (by decide) (by omega) (by decide) (fun hb126 => ?_) (fun hb126 => ?_)
              · refine e_iconst h dX11_year_133 (pc := 133)  ?_
                refine e_iadd h dX11_year_134 (pc := 134)  ?_
                refine e_istore4 h dX11_year_135 (pc := 135) (by decide) rfl ?_
                refine e_aload_n h dX11_year_137 (pc := 137) rfl ?_
                refine e_getC h fl_X11_28 dX11_year_138 (pc := 138) rfl (Nat.lt_of_lt_of_le (by decide) hN) rfl rfl (r := 117) rfl ?_
                refine e_iload h dX11_year_141 (pc := 141) rfl ?_
                refine e_aload_n h dX11_year_143 (pc := 143) rfl ?_
                refine e_getC h fl_X11_92 dX11_year_144 (pc := 144) rfl (Nat.lt_of_lt_of_le (by decide) hN) rfl rfl (r := 138) rfl ?_
                refine e_iload h dX11_year_147 (pc := 147) rfl ?_
                refine e_iald h dX11_year_149 (pc := 149) rfl (Nat.lt_of_lt_of_le (by decide) hN) rfl (by show _ < 6; omega) ?_
                rw [hhk]
                refine e_iast h dX11_year_150 (pc := 150) rfl (Nat.lt_of_lt_of_le (by decide) hN) rfl (by show _ < 12; omega) ?_
                refine e_iinc5 h dX11_year_151 (pc := 151) (by decide) rfl ?_
                refine e_goto h dX11_year_154 (pc := 154) (tgt := 104) (by decide) ?_
                rw [show ((cnt (fun i => (fun i => lst S O i (sH S i) (yP zz i) 60) i != -4) k : Nat) : Int) + 0 = ((cnt (fun i => (fun i => lst S O i (sH S i) (yP zz i) 60) i != -4) (k + 1) : Nat) : Int) from ?_, show (k : Int) + 1 = ((k + 1 : Nat) : Int) by omega]
                · refine ih (k + 1) _ (by omega) (by omega) (fun j hj => ?_) (fun q hq => by rw [up_row hq]; exact hfr3 q hq)
                  by_cases e : j = k
                  · subst e; rw [up_eq, if_pos (by omega)]
                  · rw [up_ne (by omega), h117 j hj]
                    by_cases e2 : j < k
                    · rw [if_pos e2, if_pos (by omega)]
                    · rw [if_neg e2, if_neg (by omega)]
                · show _ = ((cnt (fun i => (fun i => lst S O i (sH S i) (yP zz i) 60) i != -4) k + (if ((fun i => lst S O i (sH S i) (yP zz i) 60) k != -4) = true then 1 else 0) : Nat) : Int)
                  rw [if_neg (fun z => absurd (hl9.1 (bne_iff_ne.1 z)) (by omega))]
                  omega
              · refine e_iconst h dX11_year_129 (pc := 129)  ?_
                refine e_goto h dX11_year_130 (pc := 130) (tgt := 134) (by decide) ?_
                refine e_iadd h dX11_year_134 (pc := 134)  ?_
                refine e_istore4 h dX11_year_135 (pc := 135) (by decide) rfl ?_
                refine e_aload_n h dX11_year_137 (pc := 137) rfl ?_
                refine e_getC h fl_X11_28 dX11_year_138 (pc := 138) rfl (Nat.lt_of_lt_of_le (by decide) hN) rfl rfl (r := 117) rfl ?_
                refine e_iload h dX11_year_141 (pc := 141) rfl ?_
                refine e_aload_n h dX11_year_143 (pc := 143) rfl ?_
                refine e_getC h fl_X11_92 dX11_year_144 (pc := 144) rfl (Nat.lt_of_lt_of_le (by decide) hN) rfl rfl (r := 138) rfl ?_
                refine e_iload h dX11_year_147 (pc := 147) rfl ?_
                refine e_iald h dX11_year_149 (pc := 149) rfl (Nat.lt_of_lt_of_le (by decide) hN) rfl (by show _ < 6; omega) ?_
                rw [hhk]
                refine e_iast h dX11_year_150 (pc := 150) rfl (Nat.lt_of_lt_of_le (by decide) hN) rfl (by show _ < 12; omega) ?_
                refine e_iinc5 h dX11_year_151 (pc := 151) (by decide) rfl ?_
                refine e_goto h dX11_year_154 (pc := 154) (tgt := 104) (by decide) ?_
                rw [show ((cnt (fun i => (fun i => lst S O i (sH S i) (yP zz i) 60) i != -4) k : Nat) : Int) + 1 = ((cnt (fun i => (fun i => lst S O i (sH S i) (yP zz i) 60) i != -4) (k + 1) : Nat) : Int) from ?_, show (k : Int) + 1 = ((k + 1 : Nat) : Int) by omega]
                · refine ih (k + 1) _ (by omega) (by omega) (fun j hj => ?_) (fun q hq => by rw [up_row hq]; exact hfr3 q hq)
                  by_cases e : j = k
                  · subst e; rw [up_eq, if_pos (by omega)]
                  · rw [up_ne (by omega), h117 j hj]
                    by_cases e2 : j < k
                    · rw [if_pos e2, if_pos (by omega)]
                    · rw [if_neg e2, if_neg (by omega)]
                · show _ = ((cnt (fun i => (fun i => lst S O i (sH S i) (yP zz i) 60) i != -4) k + (if ((fun i => lst S O i (sH S i) (yP zz i) 60) k != -4) = true then 1 else 0) : Nat) : Int)
                  rw [if_pos (bne_iff_ne.2 (hl9.2 (by omega)))]
                  omega
        exact loop3 (sT S + 1) 0 M2 (by omega) (by omega) (fun j hj => by rw [if_neg (by omega)]; exact (hR2.ms.2.2.2.2.1 j hj).2.1) (fun _ _ => rfl)
      have loop : ∀ (m k : Nat) (M1 : Mem), k ≤ sT S → sT S < k + m → (∀ j, j < sT S → M1 117 j = ((if j < k then yP zz j else sF S j : Nat) : Int)) → (∀ j, j < k → M1 138 j = (sF S j : Nat)) → (∀ q, q ≠ 117 → q ≠ 138 → M1 q = M q) → E κ ad N pT M1 26 [some (vr 110), some (vi (zz : Int)), some (vi w), some (vi (k : Int)), none, none] [] (0, 0) (QR κ ad N pT Post) := by
        intro m
        induction m with
        | zero => intro k M1 h1 h2; exact absurd h2 (by omega)
        | succ m ih =>
          intro k M1 hk hm0 hm hh hfr
          have e115 : M1 115 0 = (sT S : Nat) := by rw [hfr 115 (by omega) (by omega)]; exact r10
          refine e_iload_n h dX11_year_26 (pc := 26) rfl ?_
          refine e_aload_n h dX11_year_27 (pc := 27) rfl ?_
          refine e_getC h fl_X11_22 dX11_year_28 (pc := 28) rfl (Nat.lt_of_lt_of_le (by decide) hN) rfl rfl (r := 115) rfl ?_
          refine e_iconst h dX11_year_31 (pc := 31)  ?_
          refine e_iald h dX11_year_32 (pc := 32) rfl (Nat.lt_of_lt_of_le (by decide) hN) (j := 0) rfl (by decide) ?_
          refine e_icmp_ge h (tgt := 91) dX11_year_33 (pc := 33) (by decide) (by omega) (by omega) (fun hb33 => ?_) (fun hb33 => ?_)
          · have hkT : k = sT S := by omega
            refine e_fgt (ls2 := [some (vr 110), some (vi (zz : Int)), some (vi w), none, none, none]) ⟨Or.inr rfl, Or.inr rfl, Or.inr rfl, Or.inl rfl, Or.inr rfl, Or.inr rfl, trivial⟩ ?_
            exact fin M1 (fun j hj => by rw [hm j hj, if_pos (by omega)]) (fun j hj => hh j (by omega)) hfr
          · have hkT : k < sT S := by omega
            have hyq := yQ_le (z := zz) (i := k) hz9 (by omega)
            have hmk : M1 117 k = (sF S k : Nat) := by rw [hm k hkT, if_neg (by omega)]
            refine e_ldc2 h dX11_year_36 (pc := 36) (x := 7919) kl_X11_231 rfl ?_
            refine e_iload_n h dX11_year_39 (pc := 39) rfl ?_
            refine e_i2l h dX11_year_40 (pc := 40) (by omega) ?_
            refine e_lmul h dX11_year_41 (pc := 41)  ?_
            refine e_ldc2 h dX11_year_42 (pc := 42) (x := 6151) kl_X11_233 rfl ?_
            refine e_iload_n h dX11_year_45 (pc := 45) rfl ?_
            refine e_i2l h dX11_year_46 (pc := 46) (by omega) ?_
            refine e_lmul h dX11_year_47 (pc := 47)  ?_
            refine e_ladd h dX11_year_48 (pc := 48)  ?_
            refine e_lconst h dX11_year_49 (pc := 49) (x := 1) rfl ?_
            refine e_ladd h dX11_year_50 (pc := 50)  ?_
            rw [show (7919 : Int) * (zz : Int) + 6151 * (k : Int) + 1 = ((yQ zz k : Nat) : Int) by unfold yQ; omega]
            refine e_lstore4 h dX11_year_51 (pc := 51) (by decide) rfl ?_
            refine e_aload_n h dX11_year_53 (pc := 53) rfl ?_
            refine e_getC h fl_X11_92 dX11_year_54 (pc := 54) rfl (Nat.lt_of_lt_of_le (by decide) hN) rfl rfl (r := 138) rfl ?_
            refine e_iload_n h dX11_year_57 (pc := 57) rfl ?_
            refine e_aload_n h dX11_year_58 (pc := 58) rfl ?_
            refine e_getC h fl_X11_28 dX11_year_59 (pc := 59) rfl (Nat.lt_of_lt_of_le (by decide) hN) rfl rfl (r := 117) rfl ?_
            refine e_iload_n h dX11_year_62 (pc := 62) rfl ?_
            refine e_iald h dX11_year_63 (pc := 63) rfl (Nat.lt_of_lt_of_le (by decide) hN) rfl (by show _ < 12; omega) ?_
            rw [hmk]
            refine e_iast h dX11_year_64 (pc := 64) rfl (Nat.lt_of_lt_of_le (by decide) hN) rfl (by show _ < 6; omega) ?_
            refine e_aload_n h dX11_year_65 (pc := 65) rfl ?_
            refine e_getC h fl_X11_28 dX11_year_66 (pc := 66) rfl (Nat.lt_of_lt_of_le (by decide) hN) rfl rfl (r := 117) rfl ?_
            refine e_iload_n h dX11_year_69 (pc := 69) rfl ?_
            refine e_lload h dX11_year_70 (pc := 70) rfl ?_
            refine e_lload h dX11_year_72 (pc := 72) rfl ?_
            refine e_lmul h dX11_year_74 (pc := 74)  ?_
            rw [show ((yQ zz k : Nat) : Int) * ((yQ zz k : Nat) : Int) = ((yQ zz k * yQ zz k : Nat) : Int) by rw [Int.natCast_mul]]
            generalize hqm : yQ zz k * yQ zz k = qm at hyq
            refine e_ldc2 h dX11_year_75 (pc := 75) (x := 65521) kl_X11_235 rfl ?_
            refine e_lrem h dX11_year_78 (pc := 78) (by omega) (by decide) ?_
            rw [show ((qm : Nat) : Int).tmod 65521 = ((qm % 65521 : Nat) : Int) by rw [Int.tmod_eq_emod_of_nonneg (by omega)]; omega]
            refine e_ldc2 h dX11_year_79 (pc := 79) (x := 24) kl_X11_237 rfl ?_
            refine e_lrem h dX11_year_82 (pc := 82) (by omega) (by decide) ?_
            rw [show ((qm % 65521 : Nat) : Int).tmod 24 = ((qm % 65521 % 24 : Nat) : Int) by rw [Int.tmod_eq_emod_of_nonneg (by omega)]; omega]
            refine e_l2i h dX11_year_83 (pc := 83)  ?_
            refine e_iast h dX11_year_84 (pc := 84) rfl (Nat.lt_of_lt_of_le (by decide) hN) rfl (by show _ < 12; omega) ?_
            refine e_iinc3 h dX11_year_85 (pc := 85) (by decide) rfl ?_
            refine e_goto h dX11_year_88 (pc := 88) (tgt := 26) (by decide) ?_
            rw [show (k : Int) + 1 = ((k + 1 : Nat) : Int) by omega]
            refine e_fgt (ls2 := [some (vr 110), some (vi (zz : Int)), some (vi w), some (vi ((k + 1 : Nat) : Int)), none, none]) ⟨Or.inr rfl, Or.inr rfl, Or.inr rfl, Or.inr rfl, Or.inl rfl, Or.inl rfl, trivial⟩ ?_
            refine ih (k + 1) _ (by omega) (by omega) (fun j hj => ?_) (fun j hj => ?_) (fun q h1 h2 => by rw [up_row (by omega), up_row (by omega)]; exact hfr q h1 h2)
            · by_cases e : j = k
              · subst e
                rw [up_eq, if_pos (by omega)]
                unfold yP
                rw [hqm]
              · rw [up_ne (by omega), up_ne (by omega), hm j hj]
                by_cases e2 : j < k
                · rw [if_pos e2, if_pos (by omega)]
                · rw [if_neg e2, if_neg (by omega)]
            · rw [up_ne (by omega)]
              by_cases e : j = k
              · subst e; rw [up_eq]
              · rw [up_ne (by omega)]; exact hh j (by omega)
      exact loop (sT S + 1) 0 M (by omega) (by omega) (fun j hj => by rw [if_neg (by omega)]; exact (hR.ms.2.2.2.2.1 j hj).2.1) (fun j hj => absurd hj (by omega)) (fun _ _ _ => rfl)
    · skip
      refine e_if_ne h (tgt := 24) dX11_year_19 (pc := 19) (by decide) (by decide) (fun hz => absurd hz (by decide)) (fun _ => ?_)
      refine e_iconst h dX11_year_22 (pc := 22)  ?_
      refine e_iret h hr ha dX11_year_23 (pc := 23) ?_
      exact kb (by omega)
  · skip
    refine e_if_eq h (tgt := 22) dX11_year_9 (pc := 9) (by decide) (by decide) (fun _ => ?_) (fun hz => absurd hz (by decide))
    refine e_iconst h dX11_year_22 (pc := 22)  ?_
    refine e_iret h hr ha dX11_year_23 (pc := 23) ?_
    exact kb (by omega)
