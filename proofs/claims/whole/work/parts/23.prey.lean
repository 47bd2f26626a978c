theorem RC_succ {S O : SD} {i d c g nw : Nat} {M : Mem} (hL : sL S ≤ 6) (h : ∀ c g, c < 144 → (bt M nw c g ↔ RC S O i d c g)) : PD S i (d + 1) M nw (24 * sL S) c g ↔ RC S O i (d + 1) c g := by
  constructor
  · rintro ⟨m, k, z1, z2, z3⟩
    exact ⟨m, k, z1, (h m k (by omega)).1 z2, z3⟩
  · rintro ⟨m, k, z1, z2, z3⟩
    exact ⟨m, k, z1, (h m k (by omega)).2 z2, z3⟩
set_option maxRecDepth 100000 in
set_option maxHeartbeats 4000000 in
theorem c_hunt {gg : GT} {ad : Nat → Nat} {N : Nat} {M : Mem} {Post : Option AV → Mem → Prop} {S O : SD} {so i o : Nat} {lv pl : Nat → Nat}  {xi : Int} (hxi : xi = (i : Int))  (hN : 110 ≤ N) (hs : IsS so N) (s82 : 82 ≤ so) (hsr : SR S M so) (hor : OR O (sT S) M (so + 9) (so + 10) (so + 11) (so + 12) (so + 13)) (hws : WS S) (hi : i < sT S) (hg60 : oG O i ≤ 60) (ho : IsC o N) (o61 : o + 4 ≤ 61) (hch : ChaseP M) (hjb : JB M 62 ∧ JB M 63) (hcr : ∀ t, t ≤ 20 → M (o + 1) t = (lv t : Int) ∧ M (o + 2) t = (pl t : Int) ∧ (lv t < 6 ∨ lv t = 9) ∧ pl t ≤ 23) (KT0 : ∀ (d g : Nat) (M2 : Mem), 1 ≤ d → d ≤ 20 → (∀ t, 1 ≤ t → t ≤ d → lv t ≠ 9) → (∀ t, 1 ≤ t → t < d → ∀ g, ¬ RC S O i t (24 * lv t + pl t) g) → RC S O i d (24 * lv d + pl d) g → (∀ k, RC S O i d (24 * lv d + pl d) k → k ≤ g) → M2 61 2 = (d : Int) → M2 61 3 = (g : Int) → ChaseP M2 → (JB M2 62 ∧ JB M2 63) → (∀ q, (q ≠ 61 ∧ q ≠ 62 ∧ q ≠ 63) → M2 q = M q) → Post (some (vi 1)) M2) (KF0 : ∀ M2 : Mem, (∀ t, 1 ≤ t → t ≤ 20 → (∀ u, 1 ≤ u → u ≤ t → lv u ≠ 9) → ∀ g, ¬ RC S O i t (24 * lv t + pl t) g) → ChaseP M2 → (JB M2 62 ∧ JB M2 63) → (∀ q, (q ≠ 61 ∧ q ≠ 62 ∧ q ≠ 63) → M2 q = M q) → Post (some (vi 0)) M2) : Sp gg yX0_hunt cX0_hunt 7 (some .boolean) rmX0_hunt [vr 61, vr so, vi xi, vr o] ad N pT M Post := by
  refine Sp.intro (ls := [some (vr 61), some (vr so), some (vi xi), some (vr o), none, none, none]) (by decide +kernel) rfl (Nat.le_of_ble_eq_true rfl) fun κ hgg h hr ha => ?_
  have h : Ok κ RX0 cX0_hunt 7 rmX0_hunt := h
  subst hgg
  subst hxi
  have jbo : ∀ {a b : Nat} {M2 : Mem}, a ≠ b → 62 ≤ a → a ≤ 63 → 62 ≤ b → b ≤ 63 → JB M2 a → JB M2 b → JB M2 62 ∧ JB M2 63 := by
    intro a b M2 h0 h1 h2 h3 h4 h5 h6
    rcases (show a = 62 ∧ b = 63 ∨ a = 63 ∧ b = 62 by omega) with ⟨rfl, rfl⟩ | ⟨rfl, rfl⟩
    · exact ⟨h5, h6⟩
    · exact ⟨h6, h5⟩
  obtain ⟨nw, th, hnw, hth, hne, n1, n2, t1, t2, e0, e1⟩ := hch.get hN
  have hjt : JB M th := by rcases (show th = 62 ∨ th = 63 by omega) with rfl | rfl; exact hjb.1; exact hjb.2
  have loop : ∀ (n d nw th : Nat) (M1 : Mem), d ≤ 20 → 20 < d + n → IsJL nw N → IsJL th N → nw ≠ th → 62 ≤ nw → nw ≤ 63 → 62 ≤ th → th ≤ 63 → M1 61 0 = (nw : Int) → M1 61 1 = (th : Int) → JB M1 nw → JB M1 th → (∀ c g, c < 144 → (bt M1 nw c g ↔ RC S O i d c g)) → (∀ t, 1 ≤ t → t ≤ d → lv t ≠ 9) → (∀ t, 1 ≤ t → t ≤ d → ∀ g, ¬ RC S O i t (24 * lv t + pl t) g) → (∀ q, (q ≠ 61 ∧ q ≠ 62 ∧ q ≠ 63) → M1 q = M q) → E κ ad N pT M1 41 [some (vr 61), some (vr so), some (vi (i : Int)), some (vr o), some (vi ((d + 1 : Nat) : Int)), none, none] [] (0, 0) (QR κ ad N pT Post) := by
    intro n
    induction n with
    | zero => intro d nw th M1 h1 h2; exact absurd h2 (by omega)
    | succ n ih =>
      intro d nw th M1 hd20 hn hnw hth hne n1 n2 t1 t2 e0 e1 hjn hjt hbn hfl hno hfr
      refine e_iload h dX0_hunt_41 (pc := 41) rfl ?_
      refine e_bipush h dX0_hunt_43 (pc := 43) (by decide +kernel) ?_
      refine e_icmp_gt h (tgt := 117) dX0_hunt_45 (pc := 45) (by decide) (by omega) (by decide) (fun hb45 => ?_) (fun hb45 => ?_)
      · skip
        refine e_iconst h dX0_hunt_117 (pc := 117)  ?_
        refine e_zret h hr ha dX0_hunt_118 (pc := 118) (by decide) ?_
        exact KF0 M1 (fun t z1 z2 z3 => hno t z1 (by omega)) (ChaseP.mk hne n1 n2 t1 t2 e0 e1) (jbo hne n1 n2 t1 t2 hjn hjt) (fun q hq => hfr q hq)
      · have q1 : M1 (o + 1) (d + 1) = (lv (d + 1) : Int) := by rw [hfr (o + 1) (by omega)]; exact (hcr (d + 1) (by omega)).1
        have q2 := (hcr (d + 1) (by omega)).2.2.1
        refine e_aload_n h dX0_hunt_48 (pc := 48) rfl ?_
        refine e_iload h dX0_hunt_49 (pc := 49) rfl ?_
        refine e_callV1 lk_X0_44 mv_X1_floats dX0_hunt_51 (pc := 51) (by rw [ho.c0]; rfl) (by rw [ho.c0]; decide) ho.p0 (Nat.le_of_ble_eq_true rfl) (rmY := rmX1_floats) (by decide) h ?_
        refine c_floats (d := d + 1) rfl ho (by omega) (by omega) (fun hf => ?_) (fun hf => ?_)
        · skip
          refine e_if_eq h (tgt := 117) dX0_hunt_54 (pc := 54) (by decide) (by decide) (fun hz => absurd hz (by decide)) (fun _ => ?_)
          refine e_aload_n h dX0_hunt_57 (pc := 57) rfl ?_
          refine e_iload h dX0_hunt_58 (pc := 58) rfl ?_
          refine e_putI h fl_X0_50 dX0_hunt_60 (pc := 60) rfl (Nat.lt_of_lt_of_le (by decide) hN) rfl ?_
          refine e_aload_n h dX0_hunt_63 (pc := 63) rfl ?_
          refine e_aload_n h dX0_hunt_64 (pc := 64) rfl ?_
          refine e_iload_n h dX0_hunt_65 (pc := 65) rfl ?_
          refine e_callV2 lk_X0_54 mv_X0_passDay dX0_hunt_66 (pc := 66) rfl (by decide) (Nat.lt_of_lt_of_le (by decide) hN) (Nat.le_of_ble_eq_true rfl) (rmY := rmX0_passDay) (by decide) h ?_
          refine c_passDay (S := S) (d := d + 1) rfl hN hs s82 (hsr.to (fun p a b => by rw [up_row (by omega)]; exact hfr p (by omega))) hws hi (up_eq _ _ _ _) (by omega) (by simp (disch := omega) only [up_eq, up_ne]; exact e0) (by simp (disch := omega) only [up_eq, up_ne]; exact e1) hnw hth hne n1 n2 t1 t2 (fun c hc => by have := hjn c hc; simp (disch := omega) only [up_eq, up_ne]; exact this) (fun M2 f0 f1 hj2 hb2 hff => ?_)
          have hb3 : ∀ c g, c < 144 → (bt M2 th c g ↔ RC S O i (d + 1) c g) := fun c g hc => by
            rw [hb2 c g hc]
            exact RC_succ hws.1.2 (fun c g hc => by have := hbn c g hc; unfold bt at this ⊢; simp (disch := omega) only [up_eq, up_ne]; exact this)
          have hfr2 : ∀ q, (q ≠ 61 ∧ q ≠ 62 ∧ q ≠ 63) → M2 q = M q := fun q hq => by
            funext j
            rw [hff q j (by omega) (by omega), up_ne (by omega), hfr q hq]
          have q3 : M2 (o + 1) (d + 1) = (lv (d + 1) : Int) := by rw [hfr2 (o + 1) (by omega)]; exact (hcr (d + 1) (by omega)).1
          have q4 : M2 (o + 2) (d + 1) = (pl (d + 1) : Int) := by rw [hfr2 (o + 2) (by omega)]; exact (hcr (d + 1) (by omega)).2.1
          have q5 := (hcr (d + 1) (by omega)).2.2.2
          have q6 : lv (d + 1) < 6 := by omega
          have q7 : M2 61 2 = ((d + 1 : Nat) : Int) := by rw [hff 61 2 (by omega) (by omega), up_eq]
          obtain ⟨a, ha1, ha2⟩ := hj2 (24 * lv (d + 1) + pl (d + 1)) (by omega)
          have hba : ∀ g, a.testBit g = true ↔ RC S O i (d + 1) (24 * lv (d + 1) + pl (d + 1)) g := fun g => by
            have z := hb3 (24 * lv (d + 1) + pl (d + 1)) g (by omega)
            unfold bt at z
            rw [ha1] at z
            exact z
          refine e_aload_n h dX0_hunt_69 (pc := 69) rfl ?_
          refine e_getR h fl_X0_9 dX0_hunt_70 (pc := 70) rfl (Nat.lt_of_lt_of_le (by decide) hN) rfl rfl (r := th) (by first | exact f0 | (simp (disch := omega) only [up_ne]; exact f0)) ?_
          refine e_aload_n h dX0_hunt_73 (pc := 73) rfl ?_
          refine e_getC h fl_X0_58 dX0_hunt_74 (pc := 74) ho.c0 ho.p0 rfl rfl (r := (o + 1)) (pcr_d (by rw [ho.c0]; decide) 0) ?_
          refine e_iload h dX0_hunt_77 (pc := 77) rfl ?_
          refine e_iald h dX0_hunt_79 (pc := 79) ho.c1 ho.p1 (j := (d + 1)) (by omega) (by rw [ho.l1]; omega) ?_
          try simp (disch := omega) only [up_eq, up_ne]
          refine e_aload_n h dX0_hunt_80 (pc := 80) rfl ?_
          refine e_getC h fl_X0_61 dX0_hunt_81 (pc := 81) ho.c0 ho.p0 rfl rfl (r := (o + 2)) (pcr_d (by rw [ho.c0]; decide) 1) ?_
          refine e_iload h dX0_hunt_84 (pc := 84) rfl ?_
          refine e_iald h dX0_hunt_86 (pc := 86) ho.c2 ho.p2 (j := (d + 1)) (by omega) (by rw [ho.l2]; omega) ?_
          try simp (disch := omega) only [up_eq, up_ne]
          refine e_callS2 lk_X0_31 ms_X0_cell dX0_hunt_87 (pc := 87) (Nat.le_of_ble_eq_true rfl) (rmY := rmX0_cell) (by decide) h ?_
          refine c_cell (l := lv (d + 1)) (x := pl (d + 1)) q3 q4 q6 (by omega) ?_
          refine e_lald h dX0_hunt_90 (pc := 90) hth.c0 hth.p0 rfl (by rw [hth.l0]; omega) ?_
          try simp (disch := omega) only [up_eq, up_ne]
          rw [ha1]
          refine e_lstore5 h dX0_hunt_91 (pc := 91) (by decide) rfl ?_
          refine e_lload h dX0_hunt_93 (pc := 93) rfl ?_
          refine e_lconst h dX0_hunt_95 (pc := 95) (x := 0) rfl ?_
          refine e_lcmp h dX0_hunt_96 (pc := 96) (by omega) (by decide) ?_
          generalize hlc96 : lcmp _ _ = lc96
          have hlr96 := lcmp_spec hlc96
          refine e_if_eq h (tgt := 111) dX0_hunt_97 (pc := 97) (by decide) (by omega) (fun hb97 => ?_) (fun hb97 => ?_)
          · refine e_iinc4 h dX0_hunt_111 (pc := 111) (by decide) rfl ?_
            refine e_goto h dX0_hunt_114 (pc := 114) (tgt := 41) (by decide) ?_
            rw [show ((d + 1 : Nat) : Int) + 1 = ((d + 1 + 1 : Nat) : Int) by omega]
            refine e_fgt (ls2 := [some (vr 61), some (vr so), some (vi (i : Int)), some (vr o), some (vi ((d + 1 + 1 : Nat) : Int)), none, none]) ⟨Or.inr rfl, Or.inr rfl, Or.inr rfl, Or.inr rfl, Or.inr rfl, Or.inl rfl, Or.inl rfl, trivial⟩ ?_
            have ha0 : a = 0 := by omega
            exact ih (d + 1) th nw M2 (by omega) (by omega) hth hnw (fun z => hne z.symm) t1 t2 n1 n2 f0 f1 hj2 (fun c hc => by rw [hff nw c (by omega) (by omega)]; simp (disch := omega) only [up_eq, up_ne]; exact hjn c hc) hb3 (fun t z1 z2 => by
              by_cases e : t = d + 1
              · subst e; omega
              · exact hfl t z1 (by omega)) (fun t z1 z2 g z3 => by
              by_cases e : t = d + 1
              · subst e
                have z4 := (hba g).2 z3
                rw [ha0] at z4
                simp at z4
              · exact hno t z1 (by omega) g z3) hfr2
          · have hnz : a ≠ 0 := by omega
            refine e_aload_n h dX0_hunt_100 (pc := 100) rfl ?_
            refine e_lload h dX0_hunt_101 (pc := 101) rfl ?_
            refine e_callS1 lk_X0_64 ms_X0_highest dX0_hunt_103 (pc := 103) (Nat.le_of_ble_eq_true rfl) (rmY := rmX0_highest) (by decide) h ?_
            refine c_highest (a := a) rfl ha2 hnz (fun v hv1 hv2 => ?_)
            refine e_putI h fl_X0_68 dX0_hunt_106 (pc := 106) rfl (Nat.lt_of_lt_of_le (by decide) hN) rfl ?_
            refine e_iconst h dX0_hunt_109 (pc := 109)  ?_
            refine e_zret h hr ha dX0_hunt_110 (pc := 110) (by decide) ?_
            exact KT0 (d + 1) v _ (by omega) (by omega) (fun t z1 z2 => by
              by_cases e : t = d + 1
              · subst e; omega
              · exact hfl t z1 (by omega)) (fun t z1 z2 => hno t z1 (by omega)) ((hba v).1 hv1) (fun g hg => hv2 g ((hba g).2 hg)) (by simp (disch := omega) only [up_eq, up_ne]; exact q7) (by simp (disch := omega) only [up_eq, up_ne]) (ChaseP.mk (fun z => hne z.symm) t1 t2 n1 n2 (by simp (disch := omega) only [up_eq, up_ne]; exact f0) (by simp (disch := omega) only [up_eq, up_ne]; exact f1)) (jbo (fun z => hne z.symm) t1 t2 n1 n2 (fun c hc => by simp (disch := omega) only [up_eq, up_ne]; exact hj2 c hc) (fun c hc => by simp (disch := omega) only [up_eq, up_ne]; rw [hff nw c (by omega) (by omega)]; simp (disch := omega) only [up_eq, up_ne]; exact hjn c hc)) (fun q hq => by rw [up_row (by omega)]; exact hfr2 q hq)
        · skip
          refine e_if_eq h (tgt := 117) dX0_hunt_54 (pc := 54) (by decide) (by decide) (fun _ => ?_) (fun hz => absurd hz (by decide))
          refine e_iconst h dX0_hunt_117 (pc := 117)  ?_
          refine e_zret h hr ha dX0_hunt_118 (pc := 118) (by decide) ?_
          exact KF0 M1 (fun t z1 z2 z3 => by
            by_cases e : t ≤ d
            · exact hno t z1 e
            · exact absurd (show lv (d + 1) = 9 by omega) (z3 (d + 1) (by omega) (by omega))) (ChaseP.mk hne n1 n2 t1 t2 e0 e1) (jbo hne n1 n2 t1 t2 hjn hjt) (fun q hq => hfr q hq)
  refine e_aload_n h dX0_hunt_0 (pc := 0) rfl ?_
  refine e_getR h fl_X0_9 dX0_hunt_1 (pc := 1) rfl (Nat.lt_of_lt_of_le (by decide) hN) rfl rfl (r := nw) (by first | exact e0 | exact f0) ?_
  refine e_callS1 lk_X0_18 ms_X0_empty dX0_hunt_4 (pc := 4) (Nat.le_of_ble_eq_true rfl) (rmY := rmX0_empty) (by decide) h ?_
  refine c_empty hnw (fun M2 hz hf => ?_)
  have f0 : M2 61 0 = nw := by rw [hf 61 (by omega)]; exact e0
  have s2 : SO S O M2 so := ⟨hsr.to (fun p a b => hf p (by omega)), hor.to (hf _ (by omega)) (hf _ (by omega)) (hf _ (by omega)) (hf _ (by omega)) (hf _ (by omega))⟩
  have x2 := s2.1.2.2.2.2.1 i hi
  have x3 := hws.2.2.2.2.1 i hi
  have x4 := s2.2.2.2 i hi
  have x5 := hws.2.1
  have x6 := hws.1
  refine e_aload_n h dX0_hunt_7 (pc := 7) rfl ?_
  refine e_getR h fl_X0_9 dX0_hunt_8 (pc := 8) rfl (Nat.lt_of_lt_of_le (by decide) hN) rfl rfl (r := nw) (by first | exact e0 | exact f0) ?_
  refine e_aload_n h dX0_hunt_11 (pc := 11) rfl ?_
  refine e_getC h fl_X0_22 dX0_hunt_12 (pc := 12) hs.c0 hs.p0 rfl rfl (r := (so + 3)) (pcr_d (by rw [hs.c0]; decide) 2) ?_
  refine e_iload_n h dX0_hunt_15 (pc := 15) rfl ?_
  refine e_iald h dX0_hunt_16 (pc := 16) hs.c3 hs.p3 rfl (by rw [hs.l3]; omega) ?_
  refine e_aload_n h dX0_hunt_17 (pc := 17) rfl ?_
  refine e_getC h fl_X0_28 dX0_hunt_18 (pc := 18) hs.c0 hs.p0 rfl rfl (r := (so + 4)) (pcr_d (by rw [hs.c0]; decide) 3) ?_
  refine e_iload_n h dX0_hunt_21 (pc := 21) rfl ?_
  refine e_iald h dX0_hunt_22 (pc := 22) hs.c4 hs.p4 rfl (by rw [hs.l4]; omega) ?_
  refine e_callS2 lk_X0_31 ms_X0_cell dX0_hunt_23 (pc := 23) (Nat.le_of_ble_eq_true rfl) (rmY := rmX0_cell) (by decide) h ?_
  refine c_cell (l := sH S i) (x := sF S i) x2.1 x2.2.1 (by omega) (by omega) ?_
  refine e_lconst h dX0_hunt_26 (pc := 26) (x := 1) rfl ?_
  refine e_aload_n h dX0_hunt_27 (pc := 27) rfl ?_
  refine e_getC h fl_X0_35 dX0_hunt_28 (pc := 28) hs.c0 hs.p0 rfl rfl (r := (so + 9)) (pcr_d (by rw [hs.c0]; decide) 8) ?_
  refine e_getC h fl_X0_39 dX0_hunt_31 (pc := 31) hs.c9 hs.p9 rfl rfl (r := (so + 13)) (pcr_d (by rw [hs.c9]; decide) 3) ?_
  refine e_iload_n h dX0_hunt_34 (pc := 34) rfl ?_
  refine e_iald h dX0_hunt_35 (pc := 35) hs.c13 hs.p13 rfl (by rw [hs.l13]; omega) ?_
  rw [x4]
  refine e_lshl h dX0_hunt_36 (pc := 36) (L_shl 1 (k := oG O i) (by omega)) ?_
  refine e_last h dX0_hunt_37 (pc := 37) hnw.c0 hnw.p0 rfl (by rw [hnw.l0]; omega) ?_
  refine e_iconst h dX0_hunt_38 (pc := 38)  ?_
  refine e_istore4 h dX0_hunt_39 (pc := 39) (by decide) rfl ?_
  have hw0 : 1 <<< oG O i < 2 ^ 61 := lt_pow_of (fun g hg => by rw [tb_shl1] at hg; omega)
  refine loop 21 0 nw th _ (by omega) (by omega) hnw hth hne n1 n2 t1 t2 (by simp (disch := omega) only [up_eq, up_ne]; exact f0) (by simp (disch := omega) only [up_eq, up_ne]; rw [hf 61 (by omega)]; exact e1) (fun c hc => ?_) (fun c hc => by simp (disch := omega) only [up_eq, up_ne]; rw [hf th (by omega)]; exact hjt c hc) (fun c g hc => ?_) (fun t z1 z2 => absurd z1 (by omega)) (fun t z1 z2 => absurd z1 (by omega)) (fun q hq => by rw [up_row (by omega)]; exact hf q (by omega))
  · by_cases e : c = 24 * sH S i + sF S i
    · subst e; exact ⟨1 <<< oG O i, up_eq _ _ _ _, hw0⟩
    · rw [up_ne (Or.inr e)]; exact ⟨0, hz c hc, by decide⟩
  · unfold bt
    show _ ↔ c = 24 * sH S i + sF S i ∧ g = oG O i
    by_cases e : c = 24 * sH S i + sF S i
    · subst e
      rw [up_eq]
      show (1 <<< oG O i).testBit g = true ↔ _
      rw [tb_shl1]
      exact ⟨fun z => ⟨rfl, z⟩, fun z => z.2⟩
    · rw [up_ne (Or.inr e)]
      exact ⟨fun z => absurd z (bt_0 (hz c hc)), fun z => absurd z.1 e⟩
