theorem RepM.home {n : Nat} {b : TB} {S O : SD} {h0 : Nat} {f g : Nat → Int} {z : Nat} {K : Nat → SD} {M M2 : Mem} {i l : Nat} (h : RepM n b S O h0 f g z K M) (hl : l < sL S) (hf : ∀ q, q ≠ 116 → M2 q = M q) (hm : ∀ j, j < sT S → M2 116 j = (if (4 : Nat) = 4 ∧ j = i then l else S 4 j : Nat)) : RepM n b (upS S 4 i l) O h0 f g z K M2 := ⟨(h.tx.to (congrFun (hf 110 (by omega)) 0) (hf 111 (by omega))), ⟨by rw [hf 112 (by omega)]; exact h.ms.1, by rw [hf 115 (by omega)]; exact h.ms.2.1, by rw [hf 120 (by omega)]; exact h.ms.2.2.1, fun j hj => by rw [hf 113 (by omega), hf 114 (by omega)]; exact h.ms.2.2.2.1 j hj, fun j hj => ⟨by rw [hm j hj]; rfl, by rw [hf 117 (by omega)]; exact (h.ms.2.2.2.2.1 j hj).2.1, by rw [hf 118 (by omega)]; exact (h.ms.2.2.2.2.1 j hj).2.2.1, by rw [hf 119 (by omega)]; exact (h.ms.2.2.2.2.1 j hj).2.2.2⟩, fun j hj => by rw [hf 121 (by omega), hf 122 (by omega)]; exact h.ms.2.2.2.2.2 j hj⟩, (h.mo.to (hf 123 (by omega)) (hf 124 (by omega)) (hf 125 (by omega)) (hf 126 (by omega)) (hf 127 (by omega))), ⟨h.ws.1, h.ws.2.1, h.ws.2.2.1, h.ws.2.2.2.1, fun j hj => by
    have z := h.ws.2.2.2.2.1 j hj
    refine ⟨?_, z.2⟩
    show (if (4 : Nat) = 4 ∧ j = i then l else S 4 j) < sL S
    split
    · exact hl
    · exact z.1, h.ws.2.2.2.2.2⟩, h.wo, (h.un.to (congrFun (hf 110 (by omega)) 19) (hf 128 (by omega))), h.h8, h.hw, (Eq.trans (congrFun (hf 110 (by omega)) 18) h.m18), h.z2, (h.kp.to (hf 123 (by omega)) (hf 124 (by omega)) (hf 125 (by omega)) (hf 126 (by omega)) (hf 127 (by omega)))⟩
theorem upS_upS {S : SD} {f k x y : Nat} : upS (upS S f k x) f k y = upS S f k y := by
  funext a c
  unfold upS
  by_cases e : a = f ∧ c = k
  · rw [if_pos e, if_pos e]
  · rw [if_neg e, if_neg e, if_neg e]
theorem upS_same {S : SD} {f k x : Nat} (h : x = S f k) : upS S f k x = S := by
  subst h
  funext a c
  unfold upS
  by_cases e : a = f ∧ c = k
  · rw [if_pos e, e.1, e.2]
  · rw [if_neg e]
theorem upS_home {S : SD} {i : Nat} : upS S 4 i (sH S i) = S := upS_same rfl
theorem home_hm {S : SD} {i l : Nat} {T : Nat} {M1 : Mem} {v : Int} (hv : v = (l : Int)) (h : ∀ j, j < T → M1 116 j = (S 4 j : Nat)) : ∀ j, j < T → up M1 116 i v 116 j = (if (4 : Nat) = 4 ∧ j = i then l else S 4 j : Nat) := fun j hj => by
  by_cases e : j = i
  · subst e; rw [up_eq, if_pos ⟨rfl, rfl⟩, hv]
  · rw [up_ne (Or.inr e), if_neg (fun q => e q.2)]; exact h j hj
set_option maxRecDepth 100000 in
set_option maxHeartbeats 4000000 in
theorem m_keeps {gg : GT} {ad : Nat → Nat} {N : Nat} {M : Mem} {Post : Option AV → Mem → Prop} {n : Nat} {b : TB} {S O : SD} {h0 : Nat} {f g : Nat → Int} {z : Nat} {K : Nat → SD} {x y w : Int}   (hN : 139 ≤ N) (hR : RepM n b S O h0 f g z K M) (hxx : (-2147483648 ≤ x ∧ x ≤ 2147483647)) (hxy : (-2147483648 ≤ y ∧ y ≤ 2147483647)) (hxw : (-2147483648 ≤ w ∧ w ≤ 2147483647)) (kb : ¬ (0 ≤ x ∧ x < sT S ∧ 0 ≤ y ∧ y ≤ 60 ∧ 0 ≤ w ∧ w ≤ 1) → Post (some (vi (-1))) M) (kt : ∀ (i n1 : Nat) (M2 : Mem) (v : Int), x = (i : Int) → y = (n1 : Int) → i < sT S → n1 ≤ 60 → 0 ≤ w ∧ w ≤ 1 → v = (if w = 0 then (bm (fun l => (((crs S O i l (sF S i) n1).2.2 : Nat) : Int)) (-4) (sL S)).1 else (bm (fun l => (((crs S O i l (sF S i) n1).2.2 : Nat) : Int)) (-4) (sL S)).2) → RepM n b S O h0 f g z K M2 → (∀ p, p < 110 → M2 p = M p) → Post (some (vi v)) M2) : Sp gg yX11_keeps cX11_keeps 8 (some .int) rmX11_keeps [vr 110, vi x, vi y, vi w] ad N pT M Post := by
  refine Sp.intro (ls := [some (vr 110), some (vi x), some (vi y), some (vi w), none, none, none, none]) (by decide +kernel) rfl (Nat.le_of_ble_eq_true rfl) fun κ hgg h hr ha => ?_
  have h : Ok κ RX11 cX11_keeps 8 rmX11_keeps := h
  subst hgg
  have hwL := hR.ws.1
  have hwT := hR.ws.2.1
  have hwB := hR.ws.2.2.1
  have w4 := hR.ws.2.2.2.1
  have w5 := hR.ws.2.2.2.2.1
  have r9 := hR.ms.1
  have r10 := hR.ms.2.1
  have r11 := hR.ms.2.2.1
  refine e_aload_n h dX11_keeps_0 (pc := 0) rfl ?_
  refine e_iload_n h dX11_keeps_1 (pc := 1) rfl ?_
  refine e_callV1 lk_X11_180 mv_X11_isTown dX11_keeps_2 (pc := 2) rfl (by decide) (Nat.lt_of_lt_of_le (by decide) hN) (Nat.le_of_ble_eq_true rfl) (rmY := rmX11_isTown) (by decide) h ?_
  refine m_isTown hN hR hxx (fun i ex hii => ?_) (fun hzx => ?_)
  · subst ex
    refine e_if_eq h (tgt := 30) dX11_keeps_5 (pc := 5) (by decide) (by decide) (fun hz => absurd hz (by decide)) (fun _ => ?_)
    refine e_iload_n h dX11_keeps_8 (pc := 8) rfl ?_
    refine e_i2l h dX11_keeps_9 (pc := 9) (by omega) ?_
    refine e_lconst h dX11_keeps_10 (pc := 10) (x := 0) rfl ?_
    refine e_ldc2 h dX11_keeps_11 (pc := 11) (x := 60) kl_X11_130 rfl ?_
    refine e_callS3 lk_X11_97 ms_X11_in dX11_keeps_14 (pc := 14) (Nat.le_of_ble_eq_true rfl) (rmY := rmX11_in) (by decide) h ?_
    refine c_in (by omega) (by omega) (by omega) (fun hzy => ?_) (fun hzy => ?_)
    · obtain ⟨n1, rfl⟩ : ∃ kk : Nat, y = (kk : Int) := ⟨y.toNat, by omega⟩
      refine e_if_eq h (tgt := 30) dX11_keeps_17 (pc := 17) (by decide) (by decide) (fun hz => absurd hz (by decide)) (fun _ => ?_)
      refine e_iload_n h dX11_keeps_20 (pc := 20) rfl ?_
      refine e_i2l h dX11_keeps_21 (pc := 21) (by omega) ?_
      refine e_lconst h dX11_keeps_22 (pc := 22) (x := 0) rfl ?_
      refine e_lconst h dX11_keeps_23 (pc := 23) (x := 1) rfl ?_
      refine e_callS3 lk_X11_97 ms_X11_in dX11_keeps_24 (pc := 24) (Nat.le_of_ble_eq_true rfl) (rmY := rmX11_in) (by decide) h ?_
      refine c_in (by omega) (by omega) (by omega) (fun hzw => ?_) (fun hzw => ?_)
      · skip
        refine e_if_ne h (tgt := 32) dX11_keeps_27 (pc := 27) (by decide) (by decide) (fun _ => ?_) (fun hz => absurd hz (by decide))
        refine e_aload_n h dX11_keeps_32 (pc := 32) rfl ?_
        refine e_getC h fl_X11_25 dX11_keeps_33 (pc := 33) rfl (Nat.lt_of_lt_of_le (by decide) hN) rfl rfl (r := 116) rfl ?_
        refine e_iload_n h dX11_keeps_36 (pc := 36) rfl ?_
        refine e_iald h dX11_keeps_37 (pc := 37) rfl (Nat.lt_of_lt_of_le (by decide) hN) rfl (by show _ < 12; omega) ?_
        rw [(hR.ms.2.2.2.2.1 i hii).1]
        refine e_istore4 h dX11_keeps_38 (pc := 38) (by decide) rfl ?_
        refine e_iconst h dX11_keeps_40 (pc := 40)  ?_
        refine e_istore5 h dX11_keeps_41 (pc := 41) (by decide) rfl ?_
        refine e_bipush h dX11_keeps_43 (pc := 43) (by decide +kernel) ?_
        refine e_istore6 h dX11_keeps_45 (pc := 45) (by decide) rfl ?_
        refine e_iconst h dX11_keeps_47 (pc := 47)  ?_
        refine e_istore7 h dX11_keeps_48 (pc := 48) (by decide) rfl ?_
        have loop : ∀ (m0 k hc : Nat) (M1 : Mem), k ≤ sL S → sL S < k + m0 → hc < sL S → RepM n b (upS S 4 i hc) O h0 f g z K M1 → (∀ p, p < 110 → M1 p = M p) → E κ ad N pT M1 50 [some (vr 110), some (vi (i : Int)), some (vi (n1 : Int)), some (vi w), some (vi (sH S i : Int)), some (vi (bm (fun l => (((crs S O i l (sF S i) n1).2.2 : Nat) : Int)) (-4) k).1), some (vi (bm (fun l => (((crs S O i l (sF S i) n1).2.2 : Nat) : Int)) (-4) k).2), some (vi (k : Int))] [] (0, 0) (QR κ ad N pT Post) := by
          intro m0
          induction m0 with
          | zero => intro k hc M1 h1 h2; exact absurd h2 (by omega)
          | succ m0 ih =>
            intro k hc M1 hk hm0 hcl hR1 hf1
            have p9 : M1 112 0 = (sL S : Nat) := hR1.ms.1
            refine e_iload h dX11_keeps_50 (pc := 50) rfl ?_
            refine e_aload_n h dX11_keeps_52 (pc := 52) rfl ?_
            refine e_getC h fl_X11_13 dX11_keeps_53 (pc := 53) rfl (Nat.lt_of_lt_of_le (by decide) hN) rfl rfl (r := 112) rfl ?_
            refine e_iconst h dX11_keeps_56 (pc := 56)  ?_
            refine e_iald h dX11_keeps_57 (pc := 57) rfl (Nat.lt_of_lt_of_le (by decide) hN) (j := 0) rfl (by decide) ?_
            refine e_icmp_ge h (tgt := 124) dX11_keeps_58 (pc := 58) (by decide) (by omega) (by omega) (fun hb58 => ?_) (fun hb58 => ?_)
            · refine e_aload_n h dX11_keeps_124 (pc := 124) rfl ?_
              refine e_getC h fl_X11_25 dX11_keeps_125 (pc := 125) rfl (Nat.lt_of_lt_of_le (by decide) hN) rfl rfl (r := 116) rfl ?_
              refine e_iload_n h dX11_keeps_128 (pc := 128) rfl ?_
              refine e_iload h dX11_keeps_129 (pc := 129) rfl ?_
              refine e_iast h dX11_keeps_131 (pc := 131) rfl (Nat.lt_of_lt_of_le (by decide) hN) rfl (by show _ < 12; omega) ?_
              refine e_iload_n h dX11_keeps_132 (pc := 132) rfl ?_
              refine e_if_ne h (tgt := 141) dX11_keeps_133 (pc := 133) (by decide) (by omega) (fun hb133 => ?_) (fun hb133 => ?_)
              · refine e_iload h dX11_keeps_141 (pc := 141) rfl ?_
                refine e_iret h hr ha dX11_keeps_143 (pc := 143) ?_
                have hkL : k = sL S := by omega
                have hRE := hR1.home (i := i) (l := sH S i) (M2 := up M1 116 i (sH S i : Int)) (w5 i hii).1 (fun q hq => up_row hq) (home_hm rfl (fun j hj => (hR1.ms.2.2.2.2.1 j hj).1))
                rw [upS_upS, upS_home] at hRE
                rw [hkL]
                exact kt i n1 _ _ rfl rfl hii (by omega) hzw (by rw [if_neg (by omega)]) hRE (fun p hp => by rw [up_row (by omega)]; exact hf1 p hp)
              · refine e_iload h dX11_keeps_136 (pc := 136) rfl ?_
                refine e_goto h dX11_keeps_138 (pc := 138) (tgt := 143) (by decide) ?_
                refine e_iret h hr ha dX11_keeps_143 (pc := 143) ?_
                have hkL : k = sL S := by omega
                have hRE := hR1.home (i := i) (l := sH S i) (M2 := up M1 116 i (sH S i : Int)) (w5 i hii).1 (fun q hq => up_row hq) (home_hm rfl (fun j hj => (hR1.ms.2.2.2.2.1 j hj).1))
                rw [upS_upS, upS_home] at hRE
                rw [hkL]
                exact kt i n1 _ _ rfl rfl hii (by omega) hzw (by rw [if_pos (by omega)]) hRE (fun p hp => by rw [up_row (by omega)]; exact hf1 p hp)
            · have hkl : k < sL S := by omega
              refine e_aload_n h dX11_keeps_61 (pc := 61) rfl ?_
              refine e_getC h fl_X11_25 dX11_keeps_62 (pc := 62) rfl (Nat.lt_of_lt_of_le (by decide) hN) rfl rfl (r := 116) rfl ?_
              refine e_iload_n h dX11_keeps_65 (pc := 65) rfl ?_
              refine e_iload h dX11_keeps_66 (pc := 66) rfl ?_
              refine e_iast h dX11_keeps_68 (pc := 68) rfl (Nat.lt_of_lt_of_le (by decide) hN) rfl (by show _ < 12; omega) ?_
              refine e_aload_n h dX11_keeps_69 (pc := 69) rfl ?_
              refine e_iload_n h dX11_keeps_70 (pc := 70) rfl ?_
              refine e_callV1 lk_X11_183 mv_X11_go dX11_keeps_71 (pc := 71) rfl (by decide) (Nat.lt_of_lt_of_le (by decide) hN) (Nat.le_of_ble_eq_true rfl) (rmY := rmX11_go) (by decide) h ?_
              have hRk0 := hR1.home (i := i) (l := k) (M2 := up M1 116 i (k : Int)) hkl (fun q hq => up_row hq) (home_hm rfl (fun j hj => (hR1.ms.2.2.2.2.1 j hj).1))
              rw [upS_upS] at hRk0
              refine m_go (t := n1) rfl hN hRk0 (by omega) (fun M2 hG2 hR2 hf2 => ?_)
              have e45 : S45 S (upS S 4 i k) := S45_up (Or.inl rfl)
              have hv : M2 132 i = ((crs S O i k (sF S i) n1).2.2 : Nat) := by
                rw [(hG2.2 i hii).2.2.1]
                show (((crs (upS S 4 i k) O i (if (4 : Nat) = 4 ∧ i = i then k else S 4 i) (sF S i) n1).2.2 : Nat) : Int) = _
                rw [crs_45 e45, if_pos ⟨rfl, rfl⟩]
              have hwf : ∀ l, l < sL S → (crs S O i l (sF S i) n1).2.2 ≤ 60 := fun l hl => (crs_wf (S := S) (O := O) (i := i) (l0 := l) (x0 := sF S i) hl (w5 i hii).2.1 (hR.wo.2.2 i hii) n1).2.2
              have hv2 := hwf k hkl
              have hbr := bm_rng (val := (fun l => (((crs S O i l (sF S i) n1).2.2 : Nat) : Int))) (s := -4) (B := 60) (by omega) (by omega) k (fun j hj => by
                have := hwf j (by omega)
                show (0 : Int) ≤ ((crs S O i j (sF S i) n1).2.2 : Nat) ∧ (((crs S O i j (sF S i) n1).2.2 : Nat) : Int) ≤ 60
                omega)
              refine e_aload_n h dX11_keeps_74 (pc := 74) rfl ?_
              refine e_getC h fl_X11_73 dX11_keeps_75 (pc := 75) rfl (Nat.lt_of_lt_of_le (by decide) hN) rfl rfl (r := 132) rfl ?_
              refine e_iload_n h dX11_keeps_78 (pc := 78) rfl ?_
              refine e_iald h dX11_keeps_79 (pc := 79) rfl (Nat.lt_of_lt_of_le (by decide) hN) rfl (by show _ < 6; omega) ?_
              try simp (disch := omega) only [up_eq, up_ne]
              refine e_iload h dX11_keeps_80 (pc := 80) rfl ?_
              refine e_icmp_le h (tgt := 90) dX11_keeps_82 (pc := 82) (by decide) (by omega) (by omega) (fun hb82 => ?_) (fun hb82 => ?_)
              · refine e_iload h dX11_keeps_90 (pc := 90) rfl ?_
                refine e_istore5 h dX11_keeps_92 (pc := 92) (by decide) rfl ?_
                refine e_aload_n h dX11_keeps_94 (pc := 94) rfl ?_
                refine e_getC h fl_X11_73 dX11_keeps_95 (pc := 95) rfl (Nat.lt_of_lt_of_le (by decide) hN) rfl rfl (r := 132) rfl ?_
                refine e_iload_n h dX11_keeps_98 (pc := 98) rfl ?_
                refine e_iald h dX11_keeps_99 (pc := 99) rfl (Nat.lt_of_lt_of_le (by decide) hN) rfl (by show _ < 6; omega) ?_
                try simp (disch := omega) only [up_eq, up_ne]
                refine e_iload h dX11_keeps_100 (pc := 100) rfl ?_
                refine e_icmp_le h (tgt := 114) dX11_keeps_102 (pc := 102) (by decide) (by omega) (by omega) (fun hb102 => ?_) (fun hb102 => absurd hb102 (by omega))
                refine e_iload h dX11_keeps_114 (pc := 114) rfl ?_
                refine e_istore6 h dX11_keeps_116 (pc := 116) (by decide) rfl ?_
                refine e_iinc7 h dX11_keeps_118 (pc := 118) (by decide) rfl ?_
                refine e_goto h dX11_keeps_121 (pc := 121) (tgt := 50) (by decide) ?_
                rw [show (k : Int) + 1 = ((k + 1 : Nat) : Int) by omega]
                have e : bm (fun l => (((crs S O i l (sF S i) n1).2.2 : Nat) : Int)) (-4) (k + 1) = _ := bm_n (by show ¬ (((crs S O i k (sF S i) n1).2.2 : Nat) : Int) > _; omega)
                exact cast (by rw [e]; rfl) (ih (k + 1) k M2 (by omega) (by omega) hkl hR2 (fun p hp => by funext j; rw [hf2 p j (by omega), up_row (by omega), hf1 p hp]))
              · refine e_iload h dX11_keeps_85 (pc := 85) rfl ?_
                refine e_goto h dX11_keeps_87 (pc := 87) (tgt := 92) (by decide) ?_
                refine e_istore5 h dX11_keeps_92 (pc := 92) (by decide) rfl ?_
                refine e_aload_n h dX11_keeps_94 (pc := 94) rfl ?_
                refine e_getC h fl_X11_73 dX11_keeps_95 (pc := 95) rfl (Nat.lt_of_lt_of_le (by decide) hN) rfl rfl (r := 132) rfl ?_
                refine e_iload_n h dX11_keeps_98 (pc := 98) rfl ?_
                refine e_iald h dX11_keeps_99 (pc := 99) rfl (Nat.lt_of_lt_of_le (by decide) hN) rfl (by show _ < 6; omega) ?_
                try simp (disch := omega) only [up_eq, up_ne]
                refine e_iload h dX11_keeps_100 (pc := 100) rfl ?_
                refine e_icmp_le h (tgt := 114) dX11_keeps_102 (pc := 102) (by decide) (by omega) (by omega) (fun hb102 => absurd hb102 (by omega)) (fun hb102 => ?_)
                refine e_aload_n h dX11_keeps_105 (pc := 105) rfl ?_
                refine e_getC h fl_X11_73 dX11_keeps_106 (pc := 106) rfl (Nat.lt_of_lt_of_le (by decide) hN) rfl rfl (r := 132) rfl ?_
                refine e_iload_n h dX11_keeps_109 (pc := 109) rfl ?_
                refine e_iald h dX11_keeps_110 (pc := 110) rfl (Nat.lt_of_lt_of_le (by decide) hN) rfl (by show _ < 6; omega) ?_
                try simp (disch := omega) only [up_eq, up_ne]
                rw [hv]
                refine e_goto h dX11_keeps_111 (pc := 111) (tgt := 116) (by decide) ?_
                refine e_istore6 h dX11_keeps_116 (pc := 116) (by decide) rfl ?_
                refine e_iinc7 h dX11_keeps_118 (pc := 118) (by decide) rfl ?_
                refine e_goto h dX11_keeps_121 (pc := 121) (tgt := 50) (by decide) ?_
                rw [show (k : Int) + 1 = ((k + 1 : Nat) : Int) by omega]
                have e : bm (fun l => (((crs S O i l (sF S i) n1).2.2 : Nat) : Int)) (-4) (k + 1) = _ := bm_y (by show (((crs S O i k (sF S i) n1).2.2 : Nat) : Int) > _; omega)
                exact cast (by rw [e]; rfl) (ih (k + 1) k M2 (by omega) (by omega) hkl hR2 (fun p hp => by funext j; rw [hf2 p j (by omega), up_row (by omega), hf1 p hp]))
        exact loop (sL S + 1) 0 (sH S i) M (by omega) (by omega) (w5 i hii).1 (by rw [upS_home]; exact hR) (fun _ _ => rfl)
      · skip
        refine e_if_ne h (tgt := 32) dX11_keeps_27 (pc := 27) (by decide) (by decide) (fun hz => absurd hz (by decide)) (fun _ => ?_)
        refine e_iconst h dX11_keeps_30 (pc := 30)  ?_
        refine e_iret h hr ha dX11_keeps_31 (pc := 31) ?_
        exact kb (by omega)
    · skip
      refine e_if_eq h (tgt := 30) dX11_keeps_17 (pc := 17) (by decide) (by decide) (fun _ => ?_) (fun hz => absurd hz (by decide))
      refine e_iconst h dX11_keeps_30 (pc := 30)  ?_
      refine e_iret h hr ha dX11_keeps_31 (pc := 31) ?_
      exact kb (by omega)
  · skip
    refine e_if_eq h (tgt := 30) dX11_keeps_5 (pc := 5) (by decide) (by decide) (fun _ => ?_) (fun hz => absurd hz (by decide))
    refine e_iconst h dX11_keeps_30 (pc := 30)  ?_
    refine e_iret h hr ha dX11_keeps_31 (pc := 31) ?_
    exact kb (by omega)
