theorem MG_0 {n : Nat} {b : TB} {S O : SD} {h0 : Nat} {f g : Nat → Int} {z : Nat} {K : Nat → SD} {M M2 : Mem} (hR : RepM n b S O h0 f g z K M) (b1 : M2 110 27 = 0) (b2 : ∀ j, j < 6 → M2 130 j = M 116 j ∧ M2 131 j = M 117 j ∧ M2 132 j = M 123 j ∧ M2 133 j = -4) : MG S O 0 M2 := by
  refine ⟨b1, fun i hi => ?_⟩
  have hT := hR.ws.2.1
  have z := b2 i (by omega)
  have y := hR.ms.2.2.2.2.1 i hi
  rw [z.1, z.2.1, z.2.2.1, z.2.2.2]
  exact ⟨y.1, y.2.1, hR.mo.2.2 i hi, rfl⟩
set_option maxRecDepth 100000 in
set_option maxHeartbeats 4000000 in
theorem m_go {gg : GT} {ad : Nat → Nat} {N : Nat} {M : Mem} {Post : Option AV → Mem → Prop} {n : Nat} {b : TB} {S O : SD} {h0 : Nat} {f g : Nat → Int} {z : Nat} {K : Nat → SD} {t : Nat}  {xt : Int} (hxt : xt = (t : Int))  (hN : 139 ≤ N) (hR : RepM n b S O h0 f g z K M) (ht : t ≤ 60) (Kgo : ∀ M2 : Mem, MG S O t M2 → RepM n b S O h0 f g z K M2 → (∀ q j, (q ≠ 130 ∧ q ≠ 131 ∧ q ≠ 132 ∧ q ≠ 133 ∧ (q ≠ 110 ∨ j ≠ 27)) → M2 q j = M q j) → Post none M2) : Sp gg yX11_go cX11_go 2 none rmX11_go [vr 110, vi xt] ad N pT M Post := by
  refine Sp.intro (ls := [some (vr 110), some (vi xt)]) (by decide +kernel) rfl (Nat.le_of_ble_eq_true rfl) fun κ hgg h hr ha => ?_
  have h : Ok κ RX11 cX11_go 2 rmX11_go := h
  subst hgg
  subst hxt
  have hwL := hR.ws.1
  have hwT := hR.ws.2.1
  have hwB := hR.ws.2.2.1
  have w4 := hR.ws.2.2.2.1
  have w5 := hR.ws.2.2.2.2.1
  have r9 := hR.ms.1
  have r10 := hR.ms.2.1
  have r11 := hR.ms.2.2.1
  have loop : ∀ (m0 d : Nat) (M1 : Mem), d + m0 = t → MG S O d M1 → RepM n b S O h0 f g z K M1 → (∀ q j, (q ≠ 130 ∧ q ≠ 131 ∧ q ≠ 132 ∧ q ≠ 133 ∧ (q ≠ 110 ∨ j ≠ 27)) → M1 q j = M q j) → E κ ad N pT M1 4 [some (vr 110), some (vi (t : Int))] [] (0, 0) (QR κ ad N pT Post) := by
    intro m0
    induction m0 with
    | zero =>
      intro d M1 hdn hG1 hR1 hf1 
      have h27 := hG1.1
      refine e_aload_n h dX11_go_4 (pc := 4) rfl ?_
      refine e_getI h fl_X11_159 dX11_go_5 (pc := 5) rfl (Nat.lt_of_lt_of_le (by decide) hN) (by decide) ?_
      refine e_iload_n h dX11_go_8 (pc := 8) rfl ?_
      refine e_icmp_ge h (tgt := 19) dX11_go_9 (pc := 9) (by decide) (by omega) (by omega) (fun hb9 => ?_) (fun hb9 => absurd hb9 (by omega))
      refine e_vret h hr ha dX11_go_19 (pc := 19) ?_
      have hdt : d = t := by omega
      subst hdt
      exact Kgo M1 hG1 hR1 hf1
    | succ m0 ih =>
      intro d M1 hdn hG1 hR1 hf1 
      have h27 := hG1.1
      refine e_aload_n h dX11_go_4 (pc := 4) rfl ?_
      refine e_getI h fl_X11_159 dX11_go_5 (pc := 5) rfl (Nat.lt_of_lt_of_le (by decide) hN) (by decide) ?_
      refine e_iload_n h dX11_go_8 (pc := 8) rfl ?_
      refine e_icmp_ge h (tgt := 19) dX11_go_9 (pc := 9) (by decide) (by omega) (by omega) (fun hb9 => absurd hb9 (by omega)) (fun hb9 => ?_)
      refine e_aload_n h dX11_go_12 (pc := 12) rfl ?_
      refine e_callV0 lk_X11_173 mv_X11_goDay dX11_go_13 (pc := 13) rfl (by decide) (Nat.lt_of_lt_of_le (by decide) hN) (Nat.le_of_ble_eq_true rfl) (rmY := rmX11_goDay) (by decide) h ?_
      refine m_goDay hN hR1 hG1 (by omega) (fun M2 hG2 hR2 hf2 => ?_)
      refine e_goto h dX11_go_16 (pc := 16) (tgt := 4) (by decide) ?_
      exact ih (d + 1) M2 (by omega) hG2 hR2 (fun q j hq => by rw [hf2 q j hq]; exact hf1 q j hq)
  refine e_aload_n h dX11_go_0 (pc := 0) rfl ?_
  refine e_callV0 lk_X11_170 mv_X11_begin dX11_go_1 (pc := 1) rfl (by decide) (Nat.lt_of_lt_of_le (by decide) hN) (Nat.le_of_ble_eq_true rfl) (rmY := rmX11_begin) (by decide) h ?_
  refine m_begin hN (fun M0 b1 b2 b3 => ?_)
  exact loop t 0 M0 (by omega) (MG_0 hR b1 b2) (hR.go (fun q j hq => b3 q j (by omega))) (fun q j hq => b3 q j (by omega))
set_option maxRecDepth 100000 in
set_option maxHeartbeats 4000000 in
theorem m_town {gg : GT} {ad : Nat → Nat} {N : Nat} {M : Mem} {Post : Option AV → Mem → Prop} {n : Nat} {b : TB} {S O : SD} {h0 : Nat} {f g : Nat → Int} {z : Nat} {K : Nat → SD} {x y w : Int}   (hN : 139 ≤ N) (hR : RepM n b S O h0 f g z K M) (hxx : (-2147483648 ≤ x ∧ x ≤ 2147483647)) (hxy : (-2147483648 ≤ y ∧ y ≤ 2147483647)) (hxw : (-2147483648 ≤ w ∧ w ≤ 2147483647)) (kb : ¬ (0 ≤ x ∧ x < sT S ∧ 0 ≤ y ∧ y ≤ 60 ∧ 0 ≤ w ∧ w ≤ 2) → Post (some (vi (-1))) M) (kt : ∀ (i t : Nat) (M2 : Mem) (v : Int), x = (i : Int) → y = (t : Int) → i < sT S → t ≤ 60 → 0 ≤ w ∧ w ≤ 2 → v = townV S O i t w → RepM n b S O h0 f g z K M2 → (∀ p, p < 110 → M2 p = M p) → Post (some (vi v)) M2) : Sp gg yX11_town cX11_town 4 (some .int) rmX11_town [vr 110, vi x, vi y, vi w] ad N pT M Post := by
  refine Sp.intro (ls := [some (vr 110), some (vi x), some (vi y), some (vi w)]) (by decide +kernel) rfl (Nat.le_of_ble_eq_true rfl) fun κ hgg h hr ha => ?_
  have h : Ok κ RX11 cX11_town 4 rmX11_town := h
  subst hgg
  have hwL := hR.ws.1
  have hwT := hR.ws.2.1
  have hwB := hR.ws.2.2.1
  have w4 := hR.ws.2.2.2.1
  have w5 := hR.ws.2.2.2.2.1
  have r9 := hR.ms.1
  have r10 := hR.ms.2.1
  have r11 := hR.ms.2.2.1
  refine e_aload_n h dX11_town_0 (pc := 0) rfl ?_
  refine e_iload_n h dX11_town_1 (pc := 1) rfl ?_
  refine e_callV1 lk_X11_180 mv_X11_isTown dX11_town_2 (pc := 2) rfl (by decide) (Nat.lt_of_lt_of_le (by decide) hN) (Nat.le_of_ble_eq_true rfl) (rmY := rmX11_isTown) (by decide) h ?_
  refine m_isTown hN hR hxx (fun i ex hii => ?_) (fun hzx => ?_)
  · subst ex
    refine e_if_eq h (tgt := 32) dX11_town_5 (pc := 5) (by decide) (by decide) (fun hz => absurd hz (by decide)) (fun _ => ?_)
    refine e_iload_n h dX11_town_8 (pc := 8) rfl ?_
    refine e_i2l h dX11_town_9 (pc := 9) (by omega) ?_
    refine e_lconst h dX11_town_10 (pc := 10) (x := 0) rfl ?_
    refine e_ldc2 h dX11_town_11 (pc := 11) (x := 60) kl_X11_130 rfl ?_
    refine e_callS3 lk_X11_97 ms_X11_in dX11_town_14 (pc := 14) (Nat.le_of_ble_eq_true rfl) (rmY := rmX11_in) (by decide) h ?_
    refine c_in (by omega) (by omega) (by omega) (fun hzy => ?_) (fun hzy => ?_)
    · obtain ⟨t, rfl⟩ : ∃ kk : Nat, y = (kk : Int) := ⟨y.toNat, by omega⟩
      refine e_if_eq h (tgt := 32) dX11_town_17 (pc := 17) (by decide) (by decide) (fun hz => absurd hz (by decide)) (fun _ => ?_)
      refine e_iload_n h dX11_town_20 (pc := 20) rfl ?_
      refine e_i2l h dX11_town_21 (pc := 21) (by omega) ?_
      refine e_lconst h dX11_town_22 (pc := 22) (x := 0) rfl ?_
      refine e_ldc2 h dX11_town_23 (pc := 23) (x := 2) kl_X11_118 rfl ?_
      refine e_callS3 lk_X11_97 ms_X11_in dX11_town_26 (pc := 26) (Nat.le_of_ble_eq_true rfl) (rmY := rmX11_in) (by decide) h ?_
      refine c_in (by omega) (by omega) (by omega) (fun hzw => ?_) (fun hzw => ?_)
      · skip
        refine e_if_ne h (tgt := 34) dX11_town_29 (pc := 29) (by decide) (by decide) (fun _ => ?_) (fun hz => absurd hz (by decide))
        refine e_aload_n h dX11_town_34 (pc := 34) rfl ?_
        refine e_iload_n h dX11_town_35 (pc := 35) rfl ?_
        refine e_callV1 lk_X11_183 mv_X11_go dX11_town_36 (pc := 36) rfl (by decide) (Nat.lt_of_lt_of_le (by decide) hN) (Nat.le_of_ble_eq_true rfl) (rmY := rmX11_go) (by decide) h ?_
        have hcw0 := crs_wf (S := S) (O := O) (i := i) (w5 i hii).1 (w5 i hii).2.1 (hR.wo.2.2 i hii) t
        have hcw : ((cs S O i t).1 < sL S ∨ (cs S O i t).1 = 9) ∧ (cs S O i t).2.1 ≤ 23 := ⟨hcw0.1, hcw0.2.1⟩
        refine m_go rfl hN hR (by omega) (fun M2 hG2 hR2 hf2 => ?_)
        have hGi := hG2.2 i hii
        refine e_iload_n h dX11_town_39 (pc := 39) rfl ?_
        refine e_if_ne h (tgt := 52) dX11_town_40 (pc := 40) (by decide) (by omega) (fun hb40 => ?_) (fun hb40 => ?_)
        · refine e_iload_n h dX11_town_52 (pc := 52) rfl ?_
          refine e_iconst h dX11_town_53 (pc := 53)  ?_
          refine e_icmp_ne h (tgt := 66) dX11_town_54 (pc := 54) (by decide) (by omega) (by decide) (fun hb54 => ?_) (fun hb54 => ?_)
          · refine e_aload_n h dX11_town_66 (pc := 66) rfl ?_
            refine e_getC h fl_X11_67 dX11_town_67 (pc := 67) rfl (Nat.lt_of_lt_of_le (by decide) hN) rfl rfl (r := 130) rfl ?_
            refine e_iload_n h dX11_town_70 (pc := 70) rfl ?_
            refine e_iald h dX11_town_71 (pc := 71) rfl (Nat.lt_of_lt_of_le (by decide) hN) rfl (by show _ < 6; omega) ?_
            refine e_bipush h dX11_town_72 (pc := 72) (by decide +kernel) ?_
            refine e_icmp_ne h (tgt := 82) dX11_town_74 (pc := 74) (by decide) (by omega) (by decide) (fun hb74 => ?_) (fun hb74 => ?_)
            · refine e_aload_n h dX11_town_82 (pc := 82) rfl ?_
              refine e_getC h fl_X11_70 dX11_town_83 (pc := 83) rfl (Nat.lt_of_lt_of_le (by decide) hN) rfl rfl (r := 131) rfl ?_
              refine e_iload_n h dX11_town_86 (pc := 86) rfl ?_
              refine e_iald h dX11_town_87 (pc := 87) rfl (Nat.lt_of_lt_of_le (by decide) hN) rfl (by show _ < 6; omega) ?_
              refine e_iret h hr ha dX11_town_88 (pc := 88) ?_
              exact kt i t M2 _ rfl rfl hii (by omega) hzw (by unfold townV; rw [if_neg (by omega), if_pos (by omega), if_neg (by omega)]; exact hGi.2.1) hR2 (fun p hp => by funext j; exact hf2 p j (by omega))
            · refine e_bipush h dX11_town_77 (pc := 77) (by decide +kernel) ?_
              refine e_goto h dX11_town_79 (pc := 79) (tgt := 88) (by decide) ?_
              refine e_iret h hr ha dX11_town_88 (pc := 88) ?_
              exact kt i t M2 _ rfl rfl hii (by omega) hzw (by unfold townV; rw [if_neg (by omega), if_pos (by omega), if_pos (by omega)]) hR2 (fun p hp => by funext j; exact hf2 p j (by omega))
          · refine e_aload_n h dX11_town_57 (pc := 57) rfl ?_
            refine e_getC h fl_X11_73 dX11_town_58 (pc := 58) rfl (Nat.lt_of_lt_of_le (by decide) hN) rfl rfl (r := 132) rfl ?_
            refine e_iload_n h dX11_town_61 (pc := 61) rfl ?_
            refine e_iald h dX11_town_62 (pc := 62) rfl (Nat.lt_of_lt_of_le (by decide) hN) rfl (by show _ < 6; omega) ?_
            refine e_goto h dX11_town_63 (pc := 63) (tgt := 88) (by decide) ?_
            refine e_iret h hr ha dX11_town_88 (pc := 88) ?_
            exact kt i t M2 _ rfl rfl hii (by omega) hzw (by unfold townV; rw [if_neg (by omega), if_neg (by omega)]; exact hGi.2.2.1) hR2 (fun p hp => by funext j; exact hf2 p j (by omega))
        · refine e_aload_n h dX11_town_43 (pc := 43) rfl ?_
          refine e_getC h fl_X11_67 dX11_town_44 (pc := 44) rfl (Nat.lt_of_lt_of_le (by decide) hN) rfl rfl (r := 130) rfl ?_
          refine e_iload_n h dX11_town_47 (pc := 47) rfl ?_
          refine e_iald h dX11_town_48 (pc := 48) rfl (Nat.lt_of_lt_of_le (by decide) hN) rfl (by show _ < 6; omega) ?_
          refine e_goto h dX11_town_49 (pc := 49) (tgt := 88) (by decide) ?_
          refine e_iret h hr ha dX11_town_88 (pc := 88) ?_
          exact kt i t M2 _ rfl rfl hii (by omega) hzw (by unfold townV; rw [if_pos (by omega)]; exact hGi.1) hR2 (fun p hp => by funext j; exact hf2 p j (by omega))
      · skip
        refine e_if_ne h (tgt := 34) dX11_town_29 (pc := 29) (by decide) (by decide) (fun hz => absurd hz (by decide)) (fun _ => ?_)
        refine e_iconst h dX11_town_32 (pc := 32)  ?_
        refine e_iret h hr ha dX11_town_33 (pc := 33) ?_
        exact kb (by omega)
    · skip
      refine e_if_eq h (tgt := 32) dX11_town_17 (pc := 17) (by decide) (by decide) (fun _ => ?_) (fun hz => absurd hz (by decide))
      refine e_iconst h dX11_town_32 (pc := 32)  ?_
      refine e_iret h hr ha dX11_town_33 (pc := 33) ?_
      exact kb (by omega)
  · skip
    refine e_if_eq h (tgt := 32) dX11_town_5 (pc := 5) (by decide) (by decide) (fun _ => ?_) (fun hz => absurd hz (by decide))
    refine e_iconst h dX11_town_32 (pc := 32)  ?_
    refine e_iret h hr ha dX11_town_33 (pc := 33) ?_
    exact kb (by omega)
set_option maxRecDepth 100000 in
set_option maxHeartbeats 4000000 in
theorem m_lost {gg : GT} {ad : Nat → Nat} {N : Nat} {M : Mem} {Post : Option AV → Mem → Prop} {n : Nat} {b : TB} {S O : SD} {h0 : Nat} {f g : Nat → Int} {z : Nat} {K : Nat → SD} {x : Int}   (hN : 139 ≤ N) (hR : RepM n b S O h0 f g z K M) (hxx : (-2147483648 ≤ x ∧ x ≤ 2147483647)) (kb : ¬ (0 ≤ x ∧ x < sT S) → Post (some (vi (-1))) M) (kt : ∀ (i : Nat) (M2 : Mem) (v : Int), x = (i : Int) → i < sT S → v = lst S O i (sH S i) (sF S i) 60 → RepM n b S O h0 f g z K M2 → (∀ p, p < 110 → M2 p = M p) → Post (some (vi v)) M2) : Sp gg yX11_lost cX11_lost 2 (some .int) rmX11_lost [vr 110, vi x] ad N pT M Post := by
  refine Sp.intro (ls := [some (vr 110), some (vi x)]) (by decide +kernel) rfl (Nat.le_of_ble_eq_true rfl) fun κ hgg h hr ha => ?_
  have h : Ok κ RX11 cX11_lost 2 rmX11_lost := h
  subst hgg
  have hwL := hR.ws.1
  have hwT := hR.ws.2.1
  have hwB := hR.ws.2.2.1
  have w4 := hR.ws.2.2.2.1
  have w5 := hR.ws.2.2.2.2.1
  have r9 := hR.ms.1
  have r10 := hR.ms.2.1
  have r11 := hR.ms.2.2.1
  refine e_aload_n h dX11_lost_0 (pc := 0) rfl ?_
  refine e_iload_n h dX11_lost_1 (pc := 1) rfl ?_
  refine e_callV1 lk_X11_180 mv_X11_isTown dX11_lost_2 (pc := 2) rfl (by decide) (Nat.lt_of_lt_of_le (by decide) hN) (Nat.le_of_ble_eq_true rfl) (rmY := rmX11_isTown) (by decide) h ?_
  refine m_isTown hN hR hxx (fun i ex hii => ?_) (fun hzx => ?_)
  · subst ex
    refine e_if_ne h (tgt := 10) dX11_lost_5 (pc := 5) (by decide) (by decide) (fun _ => ?_) (fun hz => absurd hz (by decide))
    refine e_aload_n h dX11_lost_10 (pc := 10) rfl ?_
    refine e_bipush h dX11_lost_11 (pc := 11) (by decide +kernel) ?_
    refine e_callV1 lk_X11_183 mv_X11_go dX11_lost_13 (pc := 13) rfl (by decide) (Nat.lt_of_lt_of_le (by decide) hN) (Nat.le_of_ble_eq_true rfl) (rmY := rmX11_go) (by decide) h ?_
    refine m_go (t := 60) rfl hN hR (by omega) (fun M2 hG2 hR2 hf2 => ?_)
    have hGi := hG2.2 i hii
    refine e_aload_n h dX11_lost_16 (pc := 16) rfl ?_
    refine e_getC h fl_X11_76 dX11_lost_17 (pc := 17) rfl (Nat.lt_of_lt_of_le (by decide) hN) rfl rfl (r := 133) rfl ?_
    refine e_iload_n h dX11_lost_20 (pc := 20) rfl ?_
    refine e_iald h dX11_lost_21 (pc := 21) rfl (Nat.lt_of_lt_of_le (by decide) hN) rfl (by show _ < 6; omega) ?_
    refine e_iret h hr ha dX11_lost_22 (pc := 22) ?_
    exact kt i M2 _ rfl hii hGi.2.2.2 hR2 (fun p hp => by funext j; exact hf2 p j (by omega))
  · skip
    refine e_if_ne h (tgt := 10) dX11_lost_5 (pc := 5) (by decide) (by decide) (fun hz => absurd hz (by decide)) (fun _ => ?_)
    refine e_iconst h dX11_lost_8 (pc := 8)  ?_
    refine e_iret h hr ha dX11_lost_9 (pc := 9) ?_
    exact kb (by omega)
set_option maxRecDepth 100000 in
set_option maxHeartbeats 4000000 in
theorem m_meet {gg : GT} {ad : Nat → Nat} {N : Nat} {M : Mem} {Post : Option AV → Mem → Prop} {n : Nat} {b : TB} {S O : SD} {h0 : Nat} {f g : Nat → Int} {z : Nat} {K : Nat → SD} {x y : Int}   (hN : 139 ≤ N) (hR : RepM n b S O h0 f g z K M) (hxx : (-2147483648 ≤ x ∧ x ≤ 2147483647)) (hxy : (-2147483648 ≤ y ∧ y ≤ 2147483647)) (kb : ¬ (0 ≤ x ∧ x < sT S ∧ 0 ≤ y ∧ y < sT S ∧ x ≠ y) → Post (some (vi (-1))) M) (kt : ∀ (i j : Nat) (M2 : Mem) (v : Int), x = (i : Int) → y = (j : Int) → i < sT S → j < sT S → i ≠ j → v = fdd (fun t => meetB (cs S O i t) (cs S O j t)) 60 1 → RepM n b S O h0 f g z K M2 → (∀ p, p < 110 → M2 p = M p) → Post (some (vi v)) M2) : Sp gg yX11_meet cX11_meet 3 (some .int) rmX11_meet [vr 110, vi x, vi y] ad N pT M Post := by
  refine Sp.intro (ls := [some (vr 110), some (vi x), some (vi y)]) (by decide +kernel) rfl (Nat.le_of_ble_eq_true rfl) fun κ hgg h hr ha => ?_
  have h : Ok κ RX11 cX11_meet 3 rmX11_meet := h
  subst hgg
  have hwL := hR.ws.1
  have hwT := hR.ws.2.1
  have hwB := hR.ws.2.2.1
  have w4 := hR.ws.2.2.2.1
  have w5 := hR.ws.2.2.2.2.1
  have r9 := hR.ms.1
  have r10 := hR.ms.2.1
  have r11 := hR.ms.2.2.1
  refine e_aload_n h dX11_meet_0 (pc := 0) rfl ?_
  refine e_iload_n h dX11_meet_1 (pc := 1) rfl ?_
  refine e_callV1 lk_X11_180 mv_X11_isTown dX11_meet_2 (pc := 2) rfl (by decide) (Nat.lt_of_lt_of_le (by decide) hN) (Nat.le_of_ble_eq_true rfl) (rmY := rmX11_isTown) (by decide) h ?_
  refine m_isTown hN hR hxx (fun i ex hii => ?_) (fun hzx => ?_)
  · subst ex
    refine e_if_eq h (tgt := 21) dX11_meet_5 (pc := 5) (by decide) (by decide) (fun hz => absurd hz (by decide)) (fun _ => ?_)
    refine e_aload_n h dX11_meet_8 (pc := 8) rfl ?_
    refine e_iload_n h dX11_meet_9 (pc := 9) rfl ?_
    refine e_callV1 lk_X11_180 mv_X11_isTown dX11_meet_10 (pc := 10) rfl (by decide) (Nat.lt_of_lt_of_le (by decide) hN) (Nat.le_of_ble_eq_true rfl) (rmY := rmX11_isTown) (by decide) h ?_
    refine m_isTown hN hR hxy (fun j ey hij => ?_) (fun hzy => ?_)
    · subst ey
      refine e_if_eq h (tgt := 21) dX11_meet_13 (pc := 13) (by decide) (by decide) (fun hz => absurd hz (by decide)) (fun _ => ?_)
      refine e_iload_n h dX11_meet_16 (pc := 16) rfl ?_
      refine e_iload_n h dX11_meet_17 (pc := 17) rfl ?_
      refine e_icmp_ne h (tgt := 23) dX11_meet_18 (pc := 18) (by decide) (by omega) (by omega) (fun hb18 => ?_) (fun hb18 => ?_)
      · have hne : i ≠ j := by omega
        refine e_aload_n h dX11_meet_23 (pc := 23) rfl ?_
        refine e_callV0 lk_X11_170 mv_X11_begin dX11_meet_24 (pc := 24) rfl (by decide) (Nat.lt_of_lt_of_le (by decide) hN) (Nat.le_of_ble_eq_true rfl) (rmY := rmX11_begin) (by decide) h ?_
        refine m_begin hN (fun M0 b1 b2 b3 => ?_)
        have loop : ∀ (m0 d : Nat) (M1 : Mem), d + m0 = 60 → MG S O d M1 → RepM n b S O h0 f g z K M1 → (∀ q j, (q ≠ 130 ∧ q ≠ 131 ∧ q ≠ 132 ∧ q ≠ 133 ∧ (q ≠ 110 ∨ j ≠ 27)) → M1 q j = M q j) → fdd (fun t => meetB (cs S O i t) (cs S O j t)) m0 (d + 1) = fdd (fun t => meetB (cs S O i t) (cs S O j t)) 60 1 → E κ ad N pT M1 27 [some (vr 110), some (vi (i : Int)), some (vi (j : Int))] [] (0, 0) (QR κ ad N pT Post) := by
          intro m0
          induction m0 with
          | zero =>
            intro d M1 hdn hG1 hR1 hf1 hin
            have h27 := hG1.1
            refine e_aload_n h dX11_meet_27 (pc := 27) rfl ?_
            refine e_getI h fl_X11_159 dX11_meet_28 (pc := 28) rfl (Nat.lt_of_lt_of_le (by decide) hN) (by decide) ?_
            refine e_bipush h dX11_meet_31 (pc := 31) (by decide +kernel) ?_
            refine e_icmp_ge h (tgt := 54) dX11_meet_33 (pc := 33) (by decide) (by omega) (by decide) (fun hb33 => ?_) (fun hb33 => absurd hb33 (by omega))
            refine e_bipush h dX11_meet_54 (pc := 54) (by decide +kernel) ?_
            refine e_iret h hr ha dX11_meet_56 (pc := 56) ?_
            have hd60 : d = 60 := by omega
            exact kt i j M1 _ rfl rfl hii hij hne (by rw [← hin]; rfl) hR1 (fun p hp => by funext j; exact hf1 p j (by omega))
          | succ m0 ih =>
            intro d M1 hdn hG1 hR1 hf1 hin
            have h27 := hG1.1
            refine e_aload_n h dX11_meet_27 (pc := 27) rfl ?_
            refine e_getI h fl_X11_159 dX11_meet_28 (pc := 28) rfl (Nat.lt_of_lt_of_le (by decide) hN) (by decide) ?_
            refine e_bipush h dX11_meet_31 (pc := 31) (by decide +kernel) ?_
            refine e_icmp_ge h (tgt := 54) dX11_meet_33 (pc := 33) (by decide) (by omega) (by decide) (fun hb33 => absurd hb33 (by omega)) (fun hb33 => ?_)
            refine e_aload_n h dX11_meet_36 (pc := 36) rfl ?_
            refine e_callV0 lk_X11_173 mv_X11_goDay dX11_meet_37 (pc := 37) rfl (by decide) (Nat.lt_of_lt_of_le (by decide) hN) (Nat.le_of_ble_eq_true rfl) (rmY := rmX11_goDay) (by decide) h ?_
            refine m_goDay hN hR1 hG1 (by omega) (fun M2 hG2 hR2 hf2 => ?_)
            refine e_aload_n h dX11_meet_40 (pc := 40) rfl ?_
            refine e_iload_n h dX11_meet_41 (pc := 41) rfl ?_
            refine e_iload_n h dX11_meet_42 (pc := 42) rfl ?_
            refine e_callV2 lk_X11_176 mv_X11_areTogether dX11_meet_43 (pc := 43) rfl (by decide) (Nat.lt_of_lt_of_le (by decide) hN) (Nat.le_of_ble_eq_true rfl) (rmY := rmX11_areTogether) (by decide) h ?_
            have ci : ((cs S O i (d + 1)).1 < sL S ∨ (cs S O i (d + 1)).1 = 9) ∧ (cs S O i (d + 1)).2.1 ≤ 23 := by have z := crs_wf (S := S) (O := O) (i := i) (w5 i hii).1 (w5 i hii).2.1 (hR.wo.2.2 i hii) (d + 1); exact ⟨z.1, z.2.1⟩
            have gi := hG2.2 i hii
            have cj : ((cs S O j (d + 1)).1 < sL S ∨ (cs S O j (d + 1)).1 = 9) ∧ (cs S O j (d + 1)).2.1 ≤ 23 := by have z := crs_wf (S := S) (O := O) (i := j) (w5 j hij).1 (w5 j hij).2.1 (hR.wo.2.2 j hij) (d + 1); exact ⟨z.1, z.2.1⟩
            have gj := hG2.2 j hij
            refine m_areTogether (i := i) (j := j) rfl rfl hN (by omega) (by omega) (by omega) (by omega) (by omega) (by omega) (fun hm => ?_) (fun hm => ?_)
            · have hmt : meetB (cs S O i (d + 1)) (cs S O j (d + 1)) = true := meetB_iff.2 ⟨by omega, by omega, by omega⟩
              refine e_if_eq h (tgt := 27) dX11_meet_46 (pc := 46) (by decide) (by decide) (fun hz => absurd hz (by decide)) (fun _ => ?_)
              refine e_aload_n h dX11_meet_49 (pc := 49) rfl ?_
              refine e_getI h fl_X11_159 dX11_meet_50 (pc := 50) rfl (Nat.lt_of_lt_of_le (by decide) hN) (by decide) ?_
              refine e_iret h hr ha dX11_meet_53 (pc := 53) ?_
              exact kt i j M2 _ rfl rfl hii hij hne (by rw [← hin, fdd_yes hmt]; exact hG2.1) hR2 (fun p hp => by funext j; rw [hf2 p j (by omega)]; exact hf1 p j (by omega))
            · have hmt : ¬ meetB (cs S O i (d + 1)) (cs S O j (d + 1)) = true := fun q => by have u := meetB_iff.1 q; exact hm ⟨by omega, by omega, by omega⟩
              refine e_if_eq h (tgt := 27) dX11_meet_46 (pc := 46) (by decide) (by decide) (fun _ => ?_) (fun hz => absurd hz (by decide))
              exact ih (d + 1) M2 (by omega) hG2 hR2 (fun q j hq => by rw [hf2 q j hq]; exact hf1 q j hq) (by rw [← hin]; exact (fdd_no hmt).symm)
        exact loop 60 0 M0 (by omega) (MG_0 hR b1 b2) (hR.go (fun q j hq => b3 q j (by omega))) (fun q j hq => b3 q j (by omega)) rfl
      · refine e_iconst h dX11_meet_21 (pc := 21)  ?_
        refine e_iret h hr ha dX11_meet_22 (pc := 22) ?_
        exact kb (by omega)
    · skip
      refine e_if_eq h (tgt := 21) dX11_meet_13 (pc := 13) (by decide) (by decide) (fun _ => ?_) (fun hz => absurd hz (by decide))
      refine e_iconst h dX11_meet_21 (pc := 21)  ?_
      refine e_iret h hr ha dX11_meet_22 (pc := 22) ?_
      exact kb (by omega)
  · skip
    refine e_if_eq h (tgt := 21) dX11_meet_5 (pc := 5) (by decide) (by decide) (fun _ => ?_) (fun hz => absurd hz (by decide))
    refine e_iconst h dX11_meet_21 (pc := 21)  ?_
    refine e_iret h hr ha dX11_meet_22 (pc := 22) ?_
    exact kb (by omega)
