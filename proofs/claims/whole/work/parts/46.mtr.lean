theorem t1_le {B : Nat → TJ} {t i : Nat} : ∀ j, t1 B t i j ≤ j
  | 0 => Nat.le_refl _
  | j + 1 => by
    have := t1_le (B := B) (t := t) (i := i) j
    unfold t1
    split <;> omega
theorem t2_le {B : Nat → TJ} {i T : Nat} : ∀ n, t2 B i T n ≤ T * n
  | 0 => Nat.zero_le _
  | n + 1 => by
    have := t2_le (B := B) (i := i) (T := T) n
    have h2 := t1_le (B := B) (t := n + 1) (i := i) T
    unfold t2
    rw [Nat.mul_succ]
    omega
set_option maxRecDepth 100000 in
set_option maxHeartbeats 4000000 in
theorem m_trades {gg : GT} {ad : Nat → Nat} {N : Nat} {M : Mem} {Post : Option AV → Mem → Prop} {n : Nat} {b : TB} {S O : SD} {h0 : Nat} {f g : Nat → Int} {z : Nat} {K : Nat → SD} {x y w : Int}   (hN : 139 ≤ N) (hR : RepM n b S O h0 f g z K M) (hxx : (-2147483648 ≤ x ∧ x ≤ 2147483647)) (hxy : (-2147483648 ≤ y ∧ y ≤ 2147483647)) (hxw : (-2147483648 ≤ w ∧ w ≤ 2147483647)) (kb : ¬ (0 ≤ x ∧ x < sT S ∧ 1 ≤ y ∧ y ≤ 60 ∧ 0 ≤ w ∧ w ≤ 1) → Post (some (vi (-1))) M) (kt : ∀ (i n1 : Nat) (M2 : Mem) (v : Int), x = (i : Int) → y = (n1 : Int) → i < sT S → (1 ≤ n1 ∧ n1 ≤ 60) → 0 ≤ w ∧ w ≤ 1 → v = (if w = 0 then (bm (fun l => ((t2 (fun j => cs (upS S 4 i l) O j) i (sT S) n1 : Nat) : Int)) (-4) (sL S)).1 else (bm (fun l => ((t2 (fun j => cs (upS S 4 i l) O j) i (sT S) n1 : Nat) : Int)) (-4) (sL S)).2) → RepM n b S O h0 f g z K M2 → (∀ p, p < 110 → M2 p = M p) → Post (some (vi v)) M2) : Sp gg yX11_trades cX11_trades 9 (some .int) rmX11_trades [vr 110, vi x, vi y, vi w] ad N pT M Post := by
  refine Sp.intro (ls := [some (vr 110), some (vi x), some (vi y), some (vi w), none, none, none, none, none]) (by decide +kernel) rfl (Nat.le_of_ble_eq_true rfl) fun κ hgg h hr ha => ?_
  have h : Ok κ RX11 cX11_trades 9 rmX11_trades := h
  subst hgg
  have hwL := hR.ws.1
  have hwT := hR.ws.2.1
  have hwB := hR.ws.2.2.1
  have w4 := hR.ws.2.2.2.1
  have w5 := hR.ws.2.2.2.2.1
  have r9 := hR.ms.1
  have r10 := hR.ms.2.1
  have r11 := hR.ms.2.2.1
  refine e_aload_n h dX11_trades_0 (pc := 0) rfl ?_
  refine e_iload_n h dX11_trades_1 (pc := 1) rfl ?_
  refine e_callV1 lk_X11_180 mv_X11_isTown dX11_trades_2 (pc := 2) rfl (by decide) (Nat.lt_of_lt_of_le (by decide) hN) (Nat.le_of_ble_eq_true rfl) (rmY := rmX11_isTown) (by decide) h ?_
  refine m_isTown hN hR hxx (fun i ex hii => ?_) (fun hzx => ?_)
  · subst ex
    refine e_if_eq h (tgt := 30) dX11_trades_5 (pc := 5) (by decide) (by decide) (fun hz => absurd hz (by decide)) (fun _ => ?_)
    refine e_iload_n h dX11_trades_8 (pc := 8) rfl ?_
    refine e_i2l h dX11_trades_9 (pc := 9) (by omega) ?_
    refine e_lconst h dX11_trades_10 (pc := 10) (x := 1) rfl ?_
    refine e_ldc2 h dX11_trades_11 (pc := 11) (x := 60) kl_X11_130 rfl ?_
    refine e_callS3 lk_X11_97 ms_X11_in dX11_trades_14 (pc := 14) (Nat.le_of_ble_eq_true rfl) (rmY := rmX11_in) (by decide) h ?_
    refine c_in (by omega) (by omega) (by omega) (fun hzy => ?_) (fun hzy => ?_)
    · obtain ⟨n1, rfl⟩ : ∃ kk : Nat, y = (kk : Int) := ⟨y.toNat, by omega⟩
      refine e_if_eq h (tgt := 30) dX11_trades_17 (pc := 17) (by decide) (by decide) (fun hz => absurd hz (by decide)) (fun _ => ?_)
      refine e_iload_n h dX11_trades_20 (pc := 20) rfl ?_
      refine e_i2l h dX11_trades_21 (pc := 21) (by omega) ?_
      refine e_lconst h dX11_trades_22 (pc := 22) (x := 0) rfl ?_
      refine e_lconst h dX11_trades_23 (pc := 23) (x := 1) rfl ?_
      refine e_callS3 lk_X11_97 ms_X11_in dX11_trades_24 (pc := 24) (Nat.le_of_ble_eq_true rfl) (rmY := rmX11_in) (by decide) h ?_
      refine c_in (by omega) (by omega) (by omega) (fun hzw => ?_) (fun hzw => ?_)
      · skip
        refine e_if_ne h (tgt := 32) dX11_trades_27 (pc := 27) (by decide) (by decide) (fun _ => ?_) (fun hz => absurd hz (by decide))
        refine e_aload_n h dX11_trades_32 (pc := 32) rfl ?_
        refine e_getC h fl_X11_25 dX11_trades_33 (pc := 33) rfl (Nat.lt_of_lt_of_le (by decide) hN) rfl rfl (r := 116) rfl ?_
        refine e_iload_n h dX11_trades_36 (pc := 36) rfl ?_
        refine e_iald h dX11_trades_37 (pc := 37) rfl (Nat.lt_of_lt_of_le (by decide) hN) rfl (by show _ < 12; omega) ?_
        rw [(hR.ms.2.2.2.2.1 i hii).1]
        refine e_istore4 h dX11_trades_38 (pc := 38) (by decide) rfl ?_
        refine e_iconst h dX11_trades_40 (pc := 40)  ?_
        refine e_istore5 h dX11_trades_41 (pc := 41) (by decide) rfl ?_
        refine e_bipush h dX11_trades_43 (pc := 43) (by decide +kernel) ?_
        refine e_istore6 h dX11_trades_45 (pc := 45) (by decide) rfl ?_
        refine e_iconst h dX11_trades_47 (pc := 47)  ?_
        refine e_istore7 h dX11_trades_48 (pc := 48) (by decide) rfl ?_
        have loop : ∀ (m0 k hc : Nat) (M1 : Mem), k ≤ sL S → sL S < k + m0 → hc < sL S → RepM n b (upS S 4 i hc) O h0 f g z K M1 → (∀ p, p < 110 → M1 p = M p) → E κ ad N pT M1 50 [some (vr 110), some (vi (i : Int)), some (vi (n1 : Int)), some (vi w), some (vi (sH S i : Int)), some (vi (bm (fun l => ((t2 (fun j => cs (upS S 4 i l) O j) i (sT S) n1 : Nat) : Int)) (-4) k).1), some (vi (bm (fun l => ((t2 (fun j => cs (upS S 4 i l) O j) i (sT S) n1 : Nat) : Int)) (-4) k).2), some (vi ((k : Nat) : Int)), none] [] (0, 0) (QR κ ad N pT Post) := by
          intro m0
          induction m0 with
          | zero => intro k hc M1 h1 h2; exact absurd h2 (by omega)
          | succ m0 ih =>
            intro k hc M1 hk hm0 hcl hR1 hf1
            have p9 : M1 112 0 = (sL S : Nat) := hR1.ms.1
            refine e_iload h dX11_trades_50 (pc := 50) rfl ?_
            refine e_aload_n h dX11_trades_52 (pc := 52) rfl ?_
            refine e_getC h fl_X11_13 dX11_trades_53 (pc := 53) rfl (Nat.lt_of_lt_of_le (by decide) hN) rfl rfl (r := 112) rfl ?_
            refine e_iconst h dX11_trades_56 (pc := 56)  ?_
            refine e_iald h dX11_trades_57 (pc := 57) rfl (Nat.lt_of_lt_of_le (by decide) hN) (j := 0) rfl (by decide) ?_
            refine e_icmp_ge h (tgt := 115) dX11_trades_58 (pc := 58) (by decide) (by omega) (by omega) (fun hb58 => ?_) (fun hb58 => ?_)
            · refine e_aload_n h dX11_trades_115 (pc := 115) rfl ?_
              refine e_getC h fl_X11_25 dX11_trades_116 (pc := 116) rfl (Nat.lt_of_lt_of_le (by decide) hN) rfl rfl (r := 116) rfl ?_
              refine e_iload_n h dX11_trades_119 (pc := 119) rfl ?_
              refine e_iload h dX11_trades_120 (pc := 120) rfl ?_
              refine e_iast h dX11_trades_122 (pc := 122) rfl (Nat.lt_of_lt_of_le (by decide) hN) rfl (by show _ < 12; omega) ?_
              refine e_iload_n h dX11_trades_123 (pc := 123) rfl ?_
              refine e_if_ne h (tgt := 132) dX11_trades_124 (pc := 124) (by decide) (by omega) (fun hb124 => ?_) (fun hb124 => ?_)
              · refine e_iload h dX11_trades_132 (pc := 132) rfl ?_
                refine e_iret h hr ha dX11_trades_134 (pc := 134) ?_
                have hkL : k = sL S := by omega
                have hRE := hR1.home (i := i) (l := sH S i) (M2 := up M1 116 i (sH S i : Int)) (w5 i hii).1 (fun q hq => up_row hq) (home_hm rfl (fun j hj => (hR1.ms.2.2.2.2.1 j hj).1))
                rw [upS_upS, upS_home] at hRE
                rw [hkL]
                exact kt i n1 _ _ rfl rfl hii (by omega) hzw (by rw [if_neg (by omega)]) hRE (fun p hp => by rw [up_row (by omega)]; exact hf1 p hp)
              · refine e_iload h dX11_trades_127 (pc := 127) rfl ?_
                refine e_goto h dX11_trades_129 (pc := 129) (tgt := 134) (by decide) ?_
                refine e_iret h hr ha dX11_trades_134 (pc := 134) ?_
                have hkL : k = sL S := by omega
                have hRE := hR1.home (i := i) (l := sH S i) (M2 := up M1 116 i (sH S i : Int)) (w5 i hii).1 (fun q hq => up_row hq) (home_hm rfl (fun j hj => (hR1.ms.2.2.2.2.1 j hj).1))
                rw [upS_upS, upS_home] at hRE
                rw [hkL]
                exact kt i n1 _ _ rfl rfl hii (by omega) hzw (by rw [if_pos (by omega)]) hRE (fun p hp => by rw [up_row (by omega)]; exact hf1 p hp)
            · have hkl : k < sL S := by omega
              refine e_aload_n h dX11_trades_61 (pc := 61) rfl ?_
              refine e_getC h fl_X11_25 dX11_trades_62 (pc := 62) rfl (Nat.lt_of_lt_of_le (by decide) hN) rfl rfl (r := 116) rfl ?_
              refine e_iload_n h dX11_trades_65 (pc := 65) rfl ?_
              refine e_iload h dX11_trades_66 (pc := 66) rfl ?_
              refine e_iast h dX11_trades_68 (pc := 68) rfl (Nat.lt_of_lt_of_le (by decide) hN) rfl (by show _ < 12; omega) ?_
              refine e_aload_n h dX11_trades_69 (pc := 69) rfl ?_
              refine e_iload_n h dX11_trades_70 (pc := 70) rfl ?_
              refine e_iload_n h dX11_trades_71 (pc := 71) rfl ?_
              refine e_callV2 lk_X11_203 mv_X11_tradesOf dX11_trades_72 (pc := 72) rfl (by decide) (Nat.lt_of_lt_of_le (by decide) hN) (Nat.le_of_ble_eq_true rfl) (rmY := rmX11_tradesOf) (by decide) h ?_
              have hRk0 := hR1.home (i := i) (l := k) (M2 := up M1 116 i (k : Int)) hkl (fun q hq => up_row hq) (home_hm rfl (fun j hj => (hR1.ms.2.2.2.2.1 j hj).1))
              rw [upS_upS] at hRk0
              refine m_tradesOf (i := i) (t := n1) rfl rfl hN hRk0 hii (by omega) (fun M2 hG2 hR2 hf2 => ?_)
              have htl : ∀ l, t2 (fun j => cs (upS S 4 i l) O j) i (sT S) n1 ≤ sT S * n1 := fun l => t2_le n1
              have hmn := Nat.mul_le_mul hwT.2 (show n1 ≤ 60 by omega)
              have hv2 := htl k
              rw [show ((t2 (fun i_1 => cs (upS S 4 i k) O i_1) i (sT (upS S 4 i k)) n1 : Nat) : Int) = ((t2 (fun j => cs (upS S 4 i k) O j) i (sT S) n1 : Nat) : Int) from rfl]
              have hbr := bm_rng (val := (fun l => ((t2 (fun j => cs (upS S 4 i l) O j) i (sT S) n1 : Nat) : Int))) (s := -4) (B := 360) (by omega) (by omega) k (fun jj hj => by
                have := htl jj
                show (0 : Int) ≤ ((t2 (fun j => cs (upS S 4 i jj) O j) i (sT S) n1 : Nat) : Int) ∧ ((t2 (fun j => cs (upS S 4 i jj) O j) i (sT S) n1 : Nat) : Int) ≤ 360
                omega)
              refine e_istore8 h dX11_trades_75 (pc := 75) (by decide) rfl ?_
              refine e_iload h dX11_trades_77 (pc := 77) rfl ?_
              refine e_iload h dX11_trades_79 (pc := 79) rfl ?_
              refine e_icmp_le h (tgt := 89) dX11_trades_81 (pc := 81) (by decide) (by omega) (by omega) (fun hb81 => ?_) (fun hb81 => ?_)
              · refine e_iload h dX11_trades_89 (pc := 89) rfl ?_
                refine e_istore5 h dX11_trades_91 (pc := 91) (by decide) rfl ?_
                refine e_iload h dX11_trades_93 (pc := 93) rfl ?_
                refine e_iload h dX11_trades_95 (pc := 95) rfl ?_
                refine e_icmp_le h (tgt := 105) dX11_trades_97 (pc := 97) (by decide) (by omega) (by omega) (fun hb97 => ?_) (fun hb97 => absurd hb97 (by omega))
                refine e_iload h dX11_trades_105 (pc := 105) rfl ?_
                refine e_istore6 h dX11_trades_107 (pc := 107) (by decide) rfl ?_
                refine e_iinc7 h dX11_trades_109 (pc := 109) (by decide) rfl ?_
                refine e_goto h dX11_trades_112 (pc := 112) (tgt := 50) (by decide) ?_
                rw [show (k : Int) + 1 = ((k + 1 : Nat) : Int) by omega]
                have e : bm (fun l => ((t2 (fun j => cs (upS S 4 i l) O j) i (sT S) n1 : Nat) : Int)) (-4) (k + 1) = _ := bm_n (by show ¬ ((t2 (fun j => cs (upS S 4 i k) O j) i (sT S) n1 : Nat) : Int) > _; omega)
                refine e_fgt (ls2 := [some (vr 110), some (vi (i : Int)), some (vi (n1 : Int)), some (vi w), some (vi (sH S i : Int)), some (vi (bm (fun l => ((t2 (fun j => cs (upS S 4 i l) O j) i (sT S) n1 : Nat) : Int)) (-4) (k + 1)).1), some (vi (bm (fun l => ((t2 (fun j => cs (upS S 4 i l) O j) i (sT S) n1 : Nat) : Int)) (-4) (k + 1)).2), some (vi (((k + 1) : Nat) : Int)), none]) ⟨Or.inr rfl, Or.inr rfl, Or.inr rfl, Or.inr rfl, Or.inr rfl, Or.inr (by rw [e]), Or.inr (by rw [e]), Or.inr rfl, Or.inl rfl, trivial⟩ ?_
                exact ih (k + 1) k M2 (by omega) (by omega) hkl hR2 (fun p hp => by funext j; rw [hf2 p j (by omega), up_row (by omega), hf1 p hp])
              · refine e_iload h dX11_trades_84 (pc := 84) rfl ?_
                refine e_goto h dX11_trades_86 (pc := 86) (tgt := 91) (by decide) ?_
                refine e_istore5 h dX11_trades_91 (pc := 91) (by decide) rfl ?_
                refine e_iload h dX11_trades_93 (pc := 93) rfl ?_
                refine e_iload h dX11_trades_95 (pc := 95) rfl ?_
                refine e_icmp_le h (tgt := 105) dX11_trades_97 (pc := 97) (by decide) (by omega) (by omega) (fun hb97 => absurd hb97 (by omega)) (fun hb97 => ?_)
                refine e_iload h dX11_trades_100 (pc := 100) rfl ?_
                refine e_goto h dX11_trades_102 (pc := 102) (tgt := 107) (by decide) ?_
                refine e_istore6 h dX11_trades_107 (pc := 107) (by decide) rfl ?_
                refine e_iinc7 h dX11_trades_109 (pc := 109) (by decide) rfl ?_
                refine e_goto h dX11_trades_112 (pc := 112) (tgt := 50) (by decide) ?_
                rw [show (k : Int) + 1 = ((k + 1 : Nat) : Int) by omega]
                have e : bm (fun l => ((t2 (fun j => cs (upS S 4 i l) O j) i (sT S) n1 : Nat) : Int)) (-4) (k + 1) = _ := bm_y (by show ((t2 (fun j => cs (upS S 4 i k) O j) i (sT S) n1 : Nat) : Int) > _; omega)
                refine e_fgt (ls2 := [some (vr 110), some (vi (i : Int)), some (vi (n1 : Int)), some (vi w), some (vi (sH S i : Int)), some (vi (bm (fun l => ((t2 (fun j => cs (upS S 4 i l) O j) i (sT S) n1 : Nat) : Int)) (-4) (k + 1)).1), some (vi (bm (fun l => ((t2 (fun j => cs (upS S 4 i l) O j) i (sT S) n1 : Nat) : Int)) (-4) (k + 1)).2), some (vi (((k + 1) : Nat) : Int)), none]) ⟨Or.inr rfl, Or.inr rfl, Or.inr rfl, Or.inr rfl, Or.inr rfl, Or.inr (by rw [e]), Or.inr (by rw [e]), Or.inr rfl, Or.inl rfl, trivial⟩ ?_
                exact ih (k + 1) k M2 (by omega) (by omega) hkl hR2 (fun p hp => by funext j; rw [hf2 p j (by omega), up_row (by omega), hf1 p hp])
        exact loop (sL S + 1) 0 (sH S i) M (by omega) (by omega) (w5 i hii).1 (by rw [upS_home]; exact hR) (fun _ _ => rfl)
      · skip
        refine e_if_ne h (tgt := 32) dX11_trades_27 (pc := 27) (by decide) (by decide) (fun hz => absurd hz (by decide)) (fun _ => ?_)
        refine e_iconst h dX11_trades_30 (pc := 30)  ?_
        refine e_iret h hr ha dX11_trades_31 (pc := 31) ?_
        exact kb (by omega)
    · skip
      refine e_if_eq h (tgt := 30) dX11_trades_17 (pc := 17) (by decide) (by decide) (fun _ => ?_) (fun hz => absurd hz (by decide))
      refine e_iconst h dX11_trades_30 (pc := 30)  ?_
      refine e_iret h hr ha dX11_trades_31 (pc := 31) ?_
      exact kb (by omega)
  · skip
    refine e_if_eq h (tgt := 30) dX11_trades_5 (pc := 5) (by decide) (by decide) (fun _ => ?_) (fun hz => absurd hz (by decide))
    refine e_iconst h dX11_trades_30 (pc := 30)  ?_
    refine e_iret h hr ha dX11_trades_31 (pc := 31) ?_
    exact kb (by omega)
