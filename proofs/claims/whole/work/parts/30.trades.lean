set_option maxRecDepth 100000 in
set_option maxHeartbeats 4000000 in
theorem c_trades {gg : GT} {ad : Nat → Nat} {N : Nat} {M : Mem} {Post : Option AV → Mem → Prop} {so dr n : Nat} {b : TB} {S O : SD} {h0 : Nat} {f g : Nat → Int} {z : Nat} {K : Nat → SD} {x y w : Int}   (hN : 110 ≤ N) (hR : RepC so dr n b S O h0 f g z K M) (hxx : (-2147483648 ≤ x ∧ x ≤ 2147483647)) (hxy : (-2147483648 ≤ y ∧ y ≤ 2147483647)) (hxw : (-2147483648 ≤ w ∧ w ≤ 2147483647)) (kb : ¬ (0 ≤ x ∧ x < sT S ∧ 1 ≤ y ∧ y ≤ 60 ∧ 0 ≤ w ∧ w ≤ 1) → Post (some (vi (-1))) M) (kt : ∀ (i n1 : Nat) (M2 : Mem) (v : Int), x = (i : Int) → y = (n1 : Int) → i < sT S → (1 ≤ n1 ∧ n1 ≤ 60) → 0 ≤ w ∧ w ≤ 1 → v = tradV S O i n1 w → RepC so dr n b S O h0 f g z K M2 → (∀ p, 110 ≤ p → M2 p = M p) → Post (some (vi v)) M2) : Sp gg yX10_trades cX10_trades 9 (some .int) rmX10_trades [vr 0, vi x, vi y, vi w] ad N pT M Post := by
  refine Sp.intro (ls := [some (vr 0), some (vi x), some (vi y), some (vi w), none, none, none, none, none]) (by decide +kernel) rfl (Nat.le_of_ble_eq_true rfl) fun κ hgg h hr ha => ?_
  have h : Ok κ RX10 cX10_trades 9 rmX10_trades := h
  subst hgg
  obtain ⟨hs, hdr, hs82, hdr82, hsd, hs96, hd96⟩ := hR.isS hN
  have hm9 := hR.m9
  have hm10 := hR.m10
  have hwL := hR.ws.1
  have hwT := hR.ws.2.1
  have r9 := hR.so.1.1
  have r10 := hR.so.1.2.1
  have r11 := hR.so.1.2.2.1
  have w4 := hR.ws.2.2.2.1
  have w5 := hR.ws.2.2.2.2.1
  refine e_aload_n h dX10_trades_0 (pc := 0) rfl ?_
  refine e_iload_n h dX10_trades_1 (pc := 1) rfl ?_
  refine e_callV1 lk_X10_132 mv_X10_isTown dX10_trades_2 (pc := 2) rfl (by decide) (Nat.lt_of_lt_of_le (by decide) hN) (Nat.le_of_ble_eq_true rfl) (rmY := rmX10_isTown) (by decide) h ?_
  refine c_isTown hN hR hxx (fun i ex hii => ?_) (fun hzx => ?_)
  · subst ex
    refine e_if_eq h (tgt := 27) dX10_trades_5 (pc := 5) (by decide) (by decide) (fun hz => absurd hz (by decide)) (fun _ => ?_)
    refine e_iload_n h dX10_trades_8 (pc := 8) rfl ?_
    refine e_iconst h dX10_trades_9 (pc := 9)  ?_
    refine e_bipush h dX10_trades_10 (pc := 10) (by decide +kernel) ?_
    refine e_callS3 lk_X10_121 ms_X10_isWithin dX10_trades_12 (pc := 12) (Nat.le_of_ble_eq_true rfl) (rmY := rmX10_isWithin) (by decide) h ?_
    refine c_isWithin hxy (by decide) (by decide) (fun hzy => ?_) (fun hzy => ?_)
    · obtain ⟨n1, rfl⟩ : ∃ kk : Nat, y = (kk : Int) := ⟨y.toNat, by omega⟩
      refine e_if_eq h (tgt := 27) dX10_trades_15 (pc := 15) (by decide) (by decide) (fun hz => absurd hz (by decide)) (fun _ => ?_)
      refine e_iload_n h dX10_trades_18 (pc := 18) rfl ?_
      refine e_iconst h dX10_trades_19 (pc := 19)  ?_
      refine e_iconst h dX10_trades_20 (pc := 20)  ?_
      refine e_callS3 lk_X10_121 ms_X10_isWithin dX10_trades_21 (pc := 21) (Nat.le_of_ble_eq_true rfl) (rmY := rmX10_isWithin) (by decide) h ?_
      refine c_isWithin hxw (by decide) (by decide) (fun hzw => ?_) (fun hzw => ?_)
      · skip
        refine e_if_ne h (tgt := 29) dX10_trades_24 (pc := 24) (by decide) (by decide) (fun _ => ?_) (fun hz => absurd hz (by decide))
        refine e_aload_n h dX10_trades_29 (pc := 29) rfl ?_
        refine e_callV0 lk_X10_135 mv_X10_followed dX10_trades_30 (pc := 30) rfl (by decide) (Nat.lt_of_lt_of_le (by decide) hN) (Nat.le_of_ble_eq_true rfl) (rmY := rmX10_followed) (by decide) h ?_
        refine c_followed hN hR (fun M2 hR2 hfl hfr => ?_)
        have hm92 := hR2.m9
        have hm102 := hR2.m10
        refine e_astore4 h dX10_trades_33 (pc := 33) (by decide) rfl ?_
        refine e_iconst h dX10_trades_35 (pc := 35)  ?_
        refine e_istore5 h dX10_trades_36 (pc := 36) (by decide) rfl ?_
        refine e_iconst h dX10_trades_38 (pc := 38)  ?_
        refine e_istore6 h dX10_trades_39 (pc := 39) (by decide) rfl ?_
        refine e_iconst h dX10_trades_41 (pc := 41)  ?_
        refine e_istore7 h dX10_trades_42 (pc := 42) (by decide) rfl ?_
        have loop : ∀ (m k : Nat) (M1 : Mem), k ≤ sL S → sL S < k + m → RepC so dr n b S O h0 f g z K M1 → FLT S O M1 → (∀ p, (p < 57 ∨ 61 ≤ p) → 0 ≤ p → M1 p = M2 p) → E κ ad N pT M1 44 [some (vr 0), some (vi (i : Int)), some (vi (n1 : Int)), some (vi w), some (vr 5), some (vi (bm (fun l => ((mw (crs S O i l (sF S i)) (fun j => cs S O j) i n1 (sT S) : Nat) : Int)) (-1) k).1), some (vi (bm (fun l => ((mw (crs S O i l (sF S i)) (fun j => cs S O j) i n1 (sT S) : Nat) : Int)) (-1) k).2), some (vi ((k : Int))), none] [] (0, 0) (QR κ ad N pT Post) := by
          intro m
          induction m with
          | zero => intro k M1 h1 h2; exact absurd h2 (by omega)
          | succ m ih =>
            intro k M1 hk hm0 hR1 hfl1 hfr1
            have p9 := hR1.m9
            have pL := hR1.so.1.1
            refine e_iload h dX10_trades_44 (pc := 44) rfl ?_
            refine e_aload_n h dX10_trades_46 (pc := 46) rfl ?_
            refine e_getR h fl_X10_71 dX10_trades_47 (pc := 47) rfl (Nat.lt_of_lt_of_le (by decide) hN) rfl rfl (r := so) (by first | exact q9 | exact p9) ?_
            refine e_getI h fl_X10_192 dX10_trades_50 (pc := 50) hs.c0 hs.p0 (by decide) ?_
            refine e_icmp_ge h (tgt := 113) dX10_trades_53 (pc := 53) (by decide) (by omega) (by omega) (fun hb53 => ?_) (fun hb53 => ?_)
            · refine e_iload_n h dX10_trades_113 (pc := 113) rfl ?_
              refine e_if_ne h (tgt := 122) dX10_trades_114 (pc := 114) (by decide) (by omega) (fun hb114 => ?_) (fun hb114 => ?_)
              · refine e_iload h dX10_trades_122 (pc := 122) rfl ?_
                refine e_iret h hr ha dX10_trades_124 (pc := 124) ?_
                have hkL : k = sL S := by omega
                rw [hkL]
                exact kt i n1 M1 _ rfl rfl hii (by omega) hzw (by unfold tradV; rw [if_neg (by omega)]) hR1 (fun p hp => (hfr1 p (by omega) (by omega)).trans (hfr p (by omega) (by omega)))
              · refine e_iload h dX10_trades_117 (pc := 117) rfl ?_
                refine e_goto h dX10_trades_119 (pc := 119) (tgt := 124) (by decide) ?_
                refine e_iret h hr ha dX10_trades_124 (pc := 124) ?_
                have hkL : k = sL S := by omega
                rw [hkL]
                exact kt i n1 M1 _ rfl rfl hii (by omega) hzw (by unfold tradV; rw [if_pos (by omega)]) hR1 (fun p hp => (hfr1 p (by omega) (by omega)).trans (hfr p (by omega) (by omega)))
            · have hkl : k < sL S := by omega
              refine e_aload_n h dX10_trades_56 (pc := 56) rfl ?_
              refine e_getC h fl_X10_36 dX10_trades_57 (pc := 57) rfl (Nat.lt_of_lt_of_le (by decide) hN) rfl rfl (r := 57) rfl ?_
              refine e_aload_n h dX10_trades_60 (pc := 60) rfl ?_
              refine e_getR h fl_X10_71 dX10_trades_61 (pc := 61) rfl (Nat.lt_of_lt_of_le (by decide) hN) rfl rfl (r := so) (by first | exact q9 | exact p9) ?_
              refine e_iload_n h dX10_trades_64 (pc := 64) rfl ?_
              refine e_iload h dX10_trades_65 (pc := 65) rfl ?_
              refine e_aload_n h dX10_trades_67 (pc := 67) rfl ?_
              refine e_getR h fl_X10_71 dX10_trades_68 (pc := 68) rfl (Nat.lt_of_lt_of_le (by decide) hN) rfl rfl (r := so) (by first | exact q9 | exact p9) ?_
              refine e_getC h fl_X10_170 dX10_trades_71 (pc := 71) hs.c0 hs.p0 rfl rfl (r := (so + 4)) (pcr_d (by rw [hs.c0]; decide) 3) ?_
              refine e_iload_n h dX10_trades_74 (pc := 74) rfl ?_
              refine e_iald h dX10_trades_75 (pc := 75) hs.c4 hs.p4 rfl (by rw [hs.l4]; omega) ?_
              refine e_callV4 lk_X10_195 mv_X1_follow dX10_trades_76 (pc := 76) rfl (by decide) (Nat.lt_of_lt_of_le (by decide) hN) (Nat.le_of_ble_eq_true rfl) (rmY := rmX1_follow) (by decide) h ?_
              refine c_follow (S := S) (O := O) (i := i) (l0 := k) (x0 := sF S i) rfl rfl (hR1.so.1.2.2.2.2.1 i hii).2.1 (isC_trial hN) hs hR1.so (by omega) hR.ws hR.wo hii (by omega) (w5 i hii).2.1 (fun M3 hcr hf3 => ?_)
              have q9 : M3 0 9 = so := by rw [hf3 0 9 (by omega)]; exact p9
              have hfl3 : FLT S O M3 := hfl1.to hwT.2 (fun p a b => by funext j; exact hf3 p j (by omega))
              refine e_aload h dX10_trades_79 (pc := 79) rfl ?_
              refine e_aload_n h dX10_trades_81 (pc := 81) rfl ?_
              refine e_getC h fl_X10_36 dX10_trades_82 (pc := 82) rfl (Nat.lt_of_lt_of_le (by decide) hN) rfl rfl (r := 57) rfl ?_
              refine e_iload_n h dX10_trades_85 (pc := 85) rfl ?_
              refine e_iload_n h dX10_trades_86 (pc := 86) rfl ?_
              refine e_callV3 lk_X10_199 mv_X2_marketsWith dX10_trades_87 (pc := 87) rfl (by decide) (Nat.lt_of_lt_of_le (by decide) hN) (Nat.le_of_ble_eq_true rfl) (rmY := rmX2_marketsWith) (by decide) h ?_
              refine c_marketsWith (i := i) (n := n1) (T := sT S) (A := crs S O i k (sF S i)) (B := fun j => cs S O j) rfl rfl (isF_a hN) (isC_trial hN) hfl3.1 hwT.2 (TR.of hcr hwL.2 hkl (w5 i hii).2.1 (hR.wo.2.2 i hii)) (fun j hj => TR.of (hfl3.2 j hj) hwL.2 (w5 j hj).1 (w5 j hj).2.1 (hR.wo.2.2 j hj)) (by omega) (by omega) ?_
              have hml : ∀ l, mw (crs S O i l (sF S i)) (fun j => cs S O j) i n1 (sT S) ≤ n1 * sT S := fun l => mw_le (sT S)
              have hmn := Nat.mul_le_mul (show n1 ≤ 60 by omega) hwT.2
              have hmk := hml k
              have hbr := bm_rng (val := (fun l => ((mw (crs S O i l (sF S i)) (fun j => cs S O j) i n1 (sT S) : Nat) : Int))) (s := -1) (B := 360) (by omega) (by omega) k (fun j hj => by
                have := hml j
                show (0 : Int) ≤ ((mw _ _ _ _ _ : Nat) : Int) ∧ ((mw _ _ _ _ _ : Nat) : Int) ≤ 360
                omega)
              refine e_istore8 h dX10_trades_90 (pc := 90) (by decide) rfl ?_
              refine e_iload h dX10_trades_92 (pc := 92) rfl ?_
              refine e_iload h dX10_trades_94 (pc := 94) rfl ?_
              refine e_icmp_le h (tgt := 107) dX10_trades_96 (pc := 96) (by decide) (by omega) (by omega) (fun hb96 => ?_) (fun hb96 => ?_)
              · refine e_iinc7 h dX10_trades_107 (pc := 107) (by decide) rfl ?_
                refine e_goto h dX10_trades_110 (pc := 110) (tgt := 44) (by decide) ?_
                rw [show (k : Int) + 1 = ((k + 1 : Nat) : Int) by omega]
                refine e_fgt (ls2 := [some (vr 0), some (vi (i : Int)), some (vi (n1 : Int)), some (vi w), some (vr 5), some (vi (bm (fun l => ((mw (crs S O i l (sF S i)) (fun j => cs S O j) i n1 (sT S) : Nat) : Int)) (-1) (k + 1)).1), some (vi (bm (fun l => ((mw (crs S O i l (sF S i)) (fun j => cs S O j) i n1 (sT S) : Nat) : Int)) (-1) (k + 1)).2), some (vi ((k + 1 : Nat) : Int)), none]) ⟨Or.inr rfl, Or.inr rfl, Or.inr rfl, Or.inr rfl, Or.inr rfl, Or.inr (by rw [bm_n (by show ¬ ((mw (crs S O i k (sF S i)) (fun j => cs S O j) i n1 (sT S) : Nat) : Int) > _; omega)]), Or.inr (by rw [bm_n (by show ¬ ((mw (crs S O i k (sF S i)) (fun j => cs S O j) i n1 (sT S) : Nat) : Int) > _; omega)]), Or.inr rfl, Or.inl rfl, trivial⟩ ?_
                exact ih (k + 1) M3 (by omega) (by omega) ⟨hR1.ds, ((congrFun (by funext j; exact hf3 0 j (by omega)) 9).trans hR1.m9), ((congrFun (by funext j; exact hf3 0 j (by omega)) 10).trans hR1.m10), (hR1.tx.to (by funext j; exact hf3 1 j (by omega)) (by funext j; exact hf3 2 j (by omega))), (hR1.so.to (fun p a b => (by funext j; exact hf3 p j (by omega)))), hR1.ws, hR1.wo, (hR1.bs.to (by funext j; exact hf3 (so + 12) j (by omega))), (hR1.bd.to (by funext j; exact hf3 (dr + 12) j (by omega))), (hR1.hr.to (by funext j; exact hf3 67 j (by omega)) (by funext j; exact hf3 68 j (by omega)) (by funext j; exact hf3 69 j (by omega))), hR1.h8, hR1.hw, ((congrFun (by funext j; exact hf3 70 j (by omega)) 1).trans hR1.m70), hR1.z2, (hR1.kp.to hR1.z2 (fun p a b => (by funext j; exact hf3 p j (by omega)))), (hR1.fc.to hR1.ws.2.1.2 (congrFun (by funext j; exact hf3 0 j (by omega)) 11) (fun p a b => (by funext j; exact hf3 p j (by omega)))), (hR1.od.to (by funext j; exact hf3 64 j (by omega))), (hR1.ch.to (by funext j; exact hf3 61 j (by omega))), (hR1.ja.to (by funext j; exact hf3 62 j (by omega))), (hR1.jb.to (by funext j; exact hf3 63 j (by omega)))⟩ hfl3 (fun p hp hp2 => by funext j; rw [hf3 p j (by omega), hfr1 p hp hp2])
              · refine e_iload h dX10_trades_99 (pc := 99) rfl ?_
                refine e_istore6 h dX10_trades_101 (pc := 101) (by decide) rfl ?_
                refine e_iload h dX10_trades_103 (pc := 103) rfl ?_
                refine e_istore5 h dX10_trades_105 (pc := 105) (by decide) rfl ?_
                refine e_iinc7 h dX10_trades_107 (pc := 107) (by decide) rfl ?_
                refine e_goto h dX10_trades_110 (pc := 110) (tgt := 44) (by decide) ?_
                rw [show (k : Int) + 1 = ((k + 1 : Nat) : Int) by omega]
                refine e_fgt (ls2 := [some (vr 0), some (vi (i : Int)), some (vi (n1 : Int)), some (vi w), some (vr 5), some (vi (bm (fun l => ((mw (crs S O i l (sF S i)) (fun j => cs S O j) i n1 (sT S) : Nat) : Int)) (-1) (k + 1)).1), some (vi (bm (fun l => ((mw (crs S O i l (sF S i)) (fun j => cs S O j) i n1 (sT S) : Nat) : Int)) (-1) (k + 1)).2), some (vi ((k + 1 : Nat) : Int)), none]) ⟨Or.inr rfl, Or.inr rfl, Or.inr rfl, Or.inr rfl, Or.inr rfl, Or.inr (by rw [bm_y (by show ((mw (crs S O i k (sF S i)) (fun j => cs S O j) i n1 (sT S) : Nat) : Int) > _; omega)]), Or.inr (by rw [bm_y (by show ((mw (crs S O i k (sF S i)) (fun j => cs S O j) i n1 (sT S) : Nat) : Int) > _; omega)]), Or.inr rfl, Or.inl rfl, trivial⟩ ?_
                exact ih (k + 1) M3 (by omega) (by omega) ⟨hR1.ds, ((congrFun (by funext j; exact hf3 0 j (by omega)) 9).trans hR1.m9), ((congrFun (by funext j; exact hf3 0 j (by omega)) 10).trans hR1.m10), (hR1.tx.to (by funext j; exact hf3 1 j (by omega)) (by funext j; exact hf3 2 j (by omega))), (hR1.so.to (fun p a b => (by funext j; exact hf3 p j (by omega)))), hR1.ws, hR1.wo, (hR1.bs.to (by funext j; exact hf3 (so + 12) j (by omega))), (hR1.bd.to (by funext j; exact hf3 (dr + 12) j (by omega))), (hR1.hr.to (by funext j; exact hf3 67 j (by omega)) (by funext j; exact hf3 68 j (by omega)) (by funext j; exact hf3 69 j (by omega))), hR1.h8, hR1.hw, ((congrFun (by funext j; exact hf3 70 j (by omega)) 1).trans hR1.m70), hR1.z2, (hR1.kp.to hR1.z2 (fun p a b => (by funext j; exact hf3 p j (by omega)))), (hR1.fc.to hR1.ws.2.1.2 (congrFun (by funext j; exact hf3 0 j (by omega)) 11) (fun p a b => (by funext j; exact hf3 p j (by omega)))), (hR1.od.to (by funext j; exact hf3 64 j (by omega))), (hR1.ch.to (by funext j; exact hf3 61 j (by omega))), (hR1.ja.to (by funext j; exact hf3 62 j (by omega))), (hR1.jb.to (by funext j; exact hf3 63 j (by omega)))⟩ hfl3 (fun p hp hp2 => by funext j; rw [hf3 p j (by omega), hfr1 p hp hp2])
        exact loop (sL S + 1) 0 M2 (by omega) (by omega) hR2 hfl (fun _ _ _ => rfl)
      · skip
        refine e_if_ne h (tgt := 29) dX10_trades_24 (pc := 24) (by decide) (by decide) (fun hz => absurd hz (by decide)) (fun _ => ?_)
        refine e_iconst h dX10_trades_27 (pc := 27)  ?_
        refine e_iret h hr ha dX10_trades_28 (pc := 28) ?_
        exact kb (by omega)
    · skip
      refine e_if_eq h (tgt := 27) dX10_trades_15 (pc := 15) (by decide) (by decide) (fun _ => ?_) (fun hz => absurd hz (by decide))
      refine e_iconst h dX10_trades_27 (pc := 27)  ?_
      refine e_iret h hr ha dX10_trades_28 (pc := 28) ?_
      exact kb (by omega)
  · skip
    refine e_if_eq h (tgt := 27) dX10_trades_5 (pc := 5) (by decide) (by decide) (fun _ => ?_) (fun hz => absurd hz (by decide))
    refine e_iconst h dX10_trades_27 (pc := 27)  ?_
    refine e_iret h hr ha dX10_trades_28 (pc := 28) ?_
    exact kb (by omega)
theorem lst_rng {S O : SD} {i l0 x0 : Nat} : ∀ d : Nat, -4 ≤ lst S O i l0 x0 d ∧ lst S O i l0 x0 d ≤ d
  | 0 => by unfold lst; omega
  | d + 1 => by
    have := lst_rng (S := S) (O := O) (i := i) (l0 := l0) (x0 := x0) d
    unfold lst
    split <;> omega
set_option maxRecDepth 100000 in
set_option maxHeartbeats 4000000 in
theorem c_year {gg : GT} {ad : Nat → Nat} {N : Nat} {M : Mem} {Post : Option AV → Mem → Prop} {so dr n : Nat} {b : TB} {S O : SD} {h0 : Nat} {f g : Nat → Int} {z : Nat} {K : Nat → SD} {x w : Int}   (hN : 110 ≤ N) (hR : RepC so dr n b S O h0 f g z K M) (hxx : (-2147483648 ≤ x ∧ x ≤ 2147483647)) (hxw : (-2147483648 ≤ w ∧ w ≤ 2147483647)) (kb : ¬ (0 ≤ x ∧ x ≤ 9999 ∧ 0 ≤ w ∧ w ≤ 1) → Post (some (vi (-1))) M) (kt : ∀ (zz : Nat) (M2 : Mem) (v : Int), x = (zz : Int) → zz ≤ 9999 → 0 ≤ w ∧ w ≤ 1 → v = yearV S O zz w → RepC so dr n b S O h0 f g z K M2 → (∀ p, 110 ≤ p → M2 p = M p) → Post (some (vi v)) M2) : Sp gg yX10_year cX10_year 3 (some .int) rmX10_year [vr 0, vi x, vi w] ad N pT M Post := by
  refine Sp.intro (ls := [some (vr 0), some (vi x), some (vi w)]) (by decide +kernel) rfl (Nat.le_of_ble_eq_true rfl) fun κ hgg h hr ha => ?_
  have h : Ok κ RX10 cX10_year 3 rmX10_year := h
  subst hgg
  obtain ⟨hs, hdr, hs82, hdr82, hsd, hs96, hd96⟩ := hR.isS hN
  have hm9 := hR.m9
  have hm10 := hR.m10
  have hwL := hR.ws.1
  have hwT := hR.ws.2.1
  have r9 := hR.so.1.1
  have r10 := hR.so.1.2.1
  have r11 := hR.so.1.2.2.1
  have w4 := hR.ws.2.2.2.1
  have w5 := hR.ws.2.2.2.2.1
  refine e_iload_n h dX10_year_0 (pc := 0) rfl ?_
  refine e_iconst h dX10_year_1 (pc := 1)  ?_
  refine e_sipush h dX10_year_2 (pc := 2) (by decide +kernel) ?_
  refine e_callS3 lk_X10_121 ms_X10_isWithin dX10_year_5 (pc := 5) (Nat.le_of_ble_eq_true rfl) (rmY := rmX10_isWithin) (by decide) h ?_
  refine c_isWithin hxx (by decide) (by decide) (fun hzx => ?_) (fun hzx => ?_)
  · obtain ⟨zz, rfl⟩ : ∃ kk : Nat, x = (kk : Int) := ⟨x.toNat, by omega⟩
    refine e_if_eq h (tgt := 20) dX10_year_8 (pc := 8) (by decide) (by decide) (fun hz => absurd hz (by decide)) (fun _ => ?_)
    refine e_iload_n h dX10_year_11 (pc := 11) rfl ?_
    refine e_iconst h dX10_year_12 (pc := 12)  ?_
    refine e_iconst h dX10_year_13 (pc := 13)  ?_
    refine e_callS3 lk_X10_121 ms_X10_isWithin dX10_year_14 (pc := 14) (Nat.le_of_ble_eq_true rfl) (rmY := rmX10_isWithin) (by decide) h ?_
    refine c_isWithin hxw (by decide) (by decide) (fun hzw => ?_) (fun hzw => ?_)
    · skip
      refine e_if_ne h (tgt := 22) dX10_year_17 (pc := 17) (by decide) (by decide) (fun _ => ?_) (fun hz => absurd hz (by decide))
      refine e_aload_n h dX10_year_22 (pc := 22) rfl ?_
      refine e_getC h fl_X10_30 dX10_year_23 (pc := 23) rfl (Nat.lt_of_lt_of_le (by decide) hN) rfl rfl (r := 31) rfl ?_
      refine e_aload_n h dX10_year_26 (pc := 26) rfl ?_
      refine e_getR h fl_X10_71 dX10_year_27 (pc := 27) rfl (Nat.lt_of_lt_of_le (by decide) hN) rfl rfl (r := so) (by first | exact hm92 | exact hm9 | (simp (disch := omega) only [up_ne]; exact hm9)) ?_
      refine e_iload_n h dX10_year_30 (pc := 30) rfl ?_
      refine e_callV2 lk_X10_247 mv_X2_followYear dX10_year_31 (pc := 31) rfl (by decide) (Nat.lt_of_lt_of_le (by decide) hN) (Nat.le_of_ble_eq_true rfl) (rmY := rmX2_followYear) (by decide) h ?_
      refine c_followYear (S := S) (O := O) (z := zz) rfl (isF_y hN) hs hR.so (by omega) hR.ws hR.wo (by omega) (fun M3 hf1 hf2 hf3 => ?_)
      have hyp : ∀ i, yP zz i ≤ 23 := fun i => by unfold yP; omega
      refine e_iload_n h dX10_year_34 (pc := 34) rfl ?_
      refine e_if_ne h (tgt := 50) dX10_year_35 (pc := 35) (by decide) (by omega) (fun hb35 => ?_) (fun hb35 => ?_)
      · refine e_aload_n h dX10_year_50 (pc := 50) rfl ?_
        refine e_getC h fl_X10_30 dX10_year_51 (pc := 51) rfl (Nat.lt_of_lt_of_le (by decide) hN) rfl rfl (r := 31) rfl ?_
        refine e_callV0 lk_X10_251 mv_X2_lostTowns dX10_year_54 (pc := 54) rfl (by decide) (Nat.lt_of_lt_of_le (by decide) hN) (Nat.le_of_ble_eq_true rfl) (rmY := rmX2_lostTowns) (by decide) h ?_
        refine c_lostTowns (T := sT S) (L := fun i => lst S O i (sH S i) (yP zz i) 60) (isF_y hN) hf1 hwT.2 (fun j hj => ⟨(hf2 j hj).1, lst_rng 60⟩) ?_
        refine e_iret h hr ha dX10_year_57 (pc := 57) ?_
        exact kt zz M3 _ rfl (by omega) hzw (by unfold yearV; rw [if_neg (by omega)]) ⟨hR.ds, ((congrFun (by funext j; exact hf3 0 j (by omega)) 9).trans hR.m9), ((congrFun (by funext j; exact hf3 0 j (by omega)) 10).trans hR.m10), (hR.tx.to (by funext j; exact hf3 1 j (by omega)) (by funext j; exact hf3 2 j (by omega))), (hR.so.to (fun p a b => (by funext j; exact hf3 p j (by omega)))), hR.ws, hR.wo, (hR.bs.to (by funext j; exact hf3 (so + 12) j (by omega))), (hR.bd.to (by funext j; exact hf3 (dr + 12) j (by omega))), (hR.hr.to (by funext j; exact hf3 67 j (by omega)) (by funext j; exact hf3 68 j (by omega)) (by funext j; exact hf3 69 j (by omega))), hR.h8, hR.hw, ((congrFun (by funext j; exact hf3 70 j (by omega)) 1).trans hR.m70), hR.z2, (hR.kp.to hR.z2 (fun p a b => (by funext j; exact hf3 p j (by omega)))), (hR.fc.to hR.ws.2.1.2 (congrFun (by funext j; exact hf3 0 j (by omega)) 11) (fun p a b => (by funext j; exact hf3 p j (by omega)))), (hR.od.to (by funext j; exact hf3 64 j (by omega))), (hR.ch.to (by funext j; exact hf3 61 j (by omega))), (hR.ja.to (by funext j; exact hf3 62 j (by omega))), (hR.jb.to (by funext j; exact hf3 63 j (by omega)))⟩ (fun p hp => by funext j; exact hf3 p j (by omega))
      · refine e_aload_n h dX10_year_38 (pc := 38) rfl ?_
        refine e_getC h fl_X10_30 dX10_year_39 (pc := 39) rfl (Nat.lt_of_lt_of_le (by decide) hN) rfl rfl (r := 31) rfl ?_
        refine e_bipush h dX10_year_42 (pc := 42) (by decide +kernel) ?_
        refine e_callV1 lk_X10_166 mv_X2_allMarkets dX10_year_44 (pc := 44) rfl (by decide) (Nat.lt_of_lt_of_le (by decide) hN) (Nat.le_of_ble_eq_true rfl) (rmY := rmX2_allMarkets) (by decide) h ?_
        refine c_allMarkets (T := sT S) (B := fun i => crs S O i (sH S i) (yP zz i)) (n := 60) rfl (isF_y hN) hf1 hwT.2 (fun j hj => TR.of (hf2 j hj) hwL.2 (w5 j hj).1 (hyp j) (hR.wo.2.2 j hj)) (by omega) ?_
        refine e_goto h dX10_year_47 (pc := 47) (tgt := 57) (by decide) ?_
        refine e_iret h hr ha dX10_year_57 (pc := 57) ?_
        exact kt zz M3 _ rfl (by omega) hzw (by unfold yearV; rw [if_pos (by omega)]) ⟨hR.ds, ((congrFun (by funext j; exact hf3 0 j (by omega)) 9).trans hR.m9), ((congrFun (by funext j; exact hf3 0 j (by omega)) 10).trans hR.m10), (hR.tx.to (by funext j; exact hf3 1 j (by omega)) (by funext j; exact hf3 2 j (by omega))), (hR.so.to (fun p a b => (by funext j; exact hf3 p j (by omega)))), hR.ws, hR.wo, (hR.bs.to (by funext j; exact hf3 (so + 12) j (by omega))), (hR.bd.to (by funext j; exact hf3 (dr + 12) j (by omega))), (hR.hr.to (by funext j; exact hf3 67 j (by omega)) (by funext j; exact hf3 68 j (by omega)) (by funext j; exact hf3 69 j (by omega))), hR.h8, hR.hw, ((congrFun (by funext j; exact hf3 70 j (by omega)) 1).trans hR.m70), hR.z2, (hR.kp.to hR.z2 (fun p a b => (by funext j; exact hf3 p j (by omega)))), (hR.fc.to hR.ws.2.1.2 (congrFun (by funext j; exact hf3 0 j (by omega)) 11) (fun p a b => (by funext j; exact hf3 p j (by omega)))), (hR.od.to (by funext j; exact hf3 64 j (by omega))), (hR.ch.to (by funext j; exact hf3 61 j (by omega))), (hR.ja.to (by funext j; exact hf3 62 j (by omega))), (hR.jb.to (by funext j; exact hf3 63 j (by omega)))⟩ (fun p hp => by funext j; exact hf3 p j (by omega))
    · skip
      refine e_if_ne h (tgt := 22) dX10_year_17 (pc := 17) (by decide) (by decide) (fun hz => absurd hz (by decide)) (fun _ => ?_)
      refine e_iconst h dX10_year_20 (pc := 20)  ?_
      refine e_iret h hr ha dX10_year_21 (pc := 21) ?_
      exact kb (by omega)
  · skip
    refine e_if_eq h (tgt := 20) dX10_year_8 (pc := 8) (by decide) (by decide) (fun _ => ?_) (fun hz => absurd hz (by decide))
    refine e_iconst h dX10_year_20 (pc := 20)  ?_
    refine e_iret h hr ha dX10_year_21 (pc := 21) ?_
    exact kb (by omega)
