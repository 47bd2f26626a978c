abbrev cs (S O : SD) (i t : Nat) : Nat × Nat × Nat := crs S O i (sH S i) (sF S i) t
def townV (S O : SD) (i t : Nat) (w : Int) : Int := if w = 0 then ((cs S O i t).1 : Nat) else if w = 1 then (if (cs S O i t).1 = 9 then -4 else ((cs S O i t).2.1 : Nat)) else ((cs S O i t).2.2 : Nat)
/-- the first of so many days on which P is -/
def fdd (P : Nat → Bool) : Nat → Nat → Int
  | 0, _ => -4
  | n + 1, k => if P k = true then (k : Int) else fdd P n (k + 1)
theorem meetB_iff {c c2 : Nat × Nat × Nat} : meetB c c2 = true ↔ c.1 ≠ 9 ∧ c.1 = c2.1 ∧ c.2.1 = c2.2.1 := by
  unfold meetB
  simp
def cntV (S O : SD) (h0 z n : Nat) (w : Int) : Int := if w = 0 then (sL S : Int) else if w = 1 then (sT S : Int) else if w = 2 then (oE O : Int) else if w = 3 then (sB S : Int) else if w = 4 then (h0 : Int) else if w = 5 then (z : Int) else if w = 6 then (n : Int) else -1
theorem rep_rng {so dr n : Nat} {b : TB} {S O : SD} {h0 : Nat} {f g : Nat → Int} {z : Nat} {K : Nat → SD} {M : Mem} {N : Nat} (hN : 110 ≤ N) (h : RepC so dr n b S O h0 f g z K M) : True := trivial
set_option maxRecDepth 100000 in
set_option maxHeartbeats 4000000 in
theorem c_level {gg : GT} {ad : Nat → Nat} {N : Nat} {M : Mem} {Post : Option AV → Mem → Prop} {so dr n : Nat} {b : TB} {S O : SD} {h0 : Nat} {f g : Nat → Int} {z : Nat} {K : Nat → SD} {x w : Int}   (hN : 110 ≤ N) (hR : RepC so dr n b S O h0 f g z K M) (hxx : (-2147483648 ≤ x ∧ x ≤ 2147483647)) (hxw : (-2147483648 ≤ w ∧ w ≤ 2147483647)) (kb : ¬ (0 ≤ x ∧ x < sL S ∧ 0 ≤ w ∧ w ≤ 1) → Post (some (vi (-1))) M) (kt : ∀ (l : Nat) (v : Int), x = (l : Int) → l < sL S → 0 ≤ w ∧ w ≤ 1 → v = (if w = 0 then (sP S l : Int) else (sW S l : Int)) → Post (some (vi v)) M) : Sp gg yX10_level cX10_level 3 (some .int) rmX10_level [vr 0, vi x, vi w] ad N pT M Post := by
  refine Sp.intro (ls := [some (vr 0), some (vi x), some (vi w)]) (by decide +kernel) rfl (Nat.le_of_ble_eq_true rfl) fun κ hgg h hr ha => ?_
  have h : Ok κ RX10 cX10_level 3 rmX10_level := h
  subst hgg
  obtain ⟨hs, hdr, hs82, hdr82, hsd, hs96, hd96⟩ := hR.isS hN
  have hm9 := hR.m9
  have hm10 := hR.m10
  have hwL := hR.ws.1
  have hwT := hR.ws.2.1
  have r9 := hR.so.1.1
  have r10 := hR.so.1.2.1
  have r11 := hR.so.1.2.2.1
  have w4 := hR.ws.2.2.2.1
  have w5 := hR.ws.2.2.2.2.1
  refine e_aload_n h dX10_level_0 (pc := 0) rfl ?_
  refine e_iload_n h dX10_level_1 (pc := 1) rfl ?_
  refine e_callV1 lk_X10_117 mv_X10_isLevel dX10_level_2 (pc := 2) rfl (by decide) (Nat.lt_of_lt_of_le (by decide) hN) (Nat.le_of_ble_eq_true rfl) (rmY := rmX10_isLevel) (by decide) h ?_
  refine c_isLevel hN hR hxx (fun l ex hil => ?_) (fun hzx => ?_)
  · subst ex
    refine e_if_eq h (tgt := 17) dX10_level_5 (pc := 5) (by decide) (by decide) (fun hz => absurd hz (by decide)) (fun _ => ?_)
    refine e_iload_n h dX10_level_8 (pc := 8) rfl ?_
    refine e_iconst h dX10_level_9 (pc := 9)  ?_
    refine e_iconst h dX10_level_10 (pc := 10)  ?_
    refine e_callS3 lk_X10_121 ms_X10_isWithin dX10_level_11 (pc := 11) (Nat.le_of_ble_eq_true rfl) (rmY := rmX10_isWithin) (by decide) h ?_
    refine c_isWithin hxw (by decide) (by decide) (fun hzw => ?_) (fun hzw => ?_)
    · skip
      refine e_if_ne h (tgt := 19) dX10_level_14 (pc := 14) (by decide) (by decide) (fun _ => ?_) (fun hz => absurd hz (by decide))
      refine e_iload_n h dX10_level_19 (pc := 19) rfl ?_
      refine e_if_ne h (tgt := 35) dX10_level_20 (pc := 20) (by decide) (by omega) (fun hb20 => ?_) (fun hb20 => ?_)
      · refine e_aload_n h dX10_level_35 (pc := 35) rfl ?_
        refine e_getR h fl_X10_71 dX10_level_36 (pc := 36) rfl (Nat.lt_of_lt_of_le (by decide) hN) rfl rfl (r := so) (by first | exact hm92 | exact hm9 | (simp (disch := omega) only [up_ne]; exact hm9)) ?_
        refine e_getC h fl_X10_129 dX10_level_39 (pc := 39) hs.c0 hs.p0 rfl rfl (r := (so + 2)) (pcr_d (by rw [hs.c0]; decide) 1) ?_
        refine e_iload_n h dX10_level_42 (pc := 42) rfl ?_
        refine e_iald h dX10_level_43 (pc := 43) hs.c2 hs.p2 rfl (by rw [hs.l2]; omega) ?_
        rw [(hR.so.1.2.2.2.1 l hil).2]
        refine e_iret h hr ha dX10_level_44 (pc := 44) ?_
        exact kt l _ rfl hil hzw (by rw [if_neg (by omega)])
      · refine e_aload_n h dX10_level_23 (pc := 23) rfl ?_
        refine e_getR h fl_X10_71 dX10_level_24 (pc := 24) rfl (Nat.lt_of_lt_of_le (by decide) hN) rfl rfl (r := so) (by first | exact hm92 | exact hm9 | (simp (disch := omega) only [up_ne]; exact hm9)) ?_
        refine e_getC h fl_X10_125 dX10_level_27 (pc := 27) hs.c0 hs.p0 rfl rfl (r := (so + 1)) (pcr_d (by rw [hs.c0]; decide) 0) ?_
        refine e_iload_n h dX10_level_30 (pc := 30) rfl ?_
        refine e_iald h dX10_level_31 (pc := 31) hs.c1 hs.p1 rfl (by rw [hs.l1]; omega) ?_
        rw [(hR.so.1.2.2.2.1 l hil).1]
        refine e_goto h dX10_level_32 (pc := 32) (tgt := 44) (by decide) ?_
        refine e_iret h hr ha dX10_level_44 (pc := 44) ?_
        exact kt l _ rfl hil hzw (by rw [if_pos (by omega)])
    · skip
      refine e_if_ne h (tgt := 19) dX10_level_14 (pc := 14) (by decide) (by decide) (fun hz => absurd hz (by decide)) (fun _ => ?_)
      refine e_iconst h dX10_level_17 (pc := 17)  ?_
      refine e_iret h hr ha dX10_level_18 (pc := 18) ?_
      exact kb (by omega)
  · skip
    refine e_if_eq h (tgt := 17) dX10_level_5 (pc := 5) (by decide) (by decide) (fun _ => ?_) (fun hz => absurd hz (by decide))
    refine e_iconst h dX10_level_17 (pc := 17)  ?_
    refine e_iret h hr ha dX10_level_18 (pc := 18) ?_
    exact kb (by omega)
set_option maxRecDepth 100000 in
set_option maxHeartbeats 4000000 in
theorem c_town {gg : GT} {ad : Nat → Nat} {N : Nat} {M : Mem} {Post : Option AV → Mem → Prop} {so dr n : Nat} {b : TB} {S O : SD} {h0 : Nat} {f g : Nat → Int} {z : Nat} {K : Nat → SD} {x y w : Int}   (hN : 110 ≤ N) (hR : RepC so dr n b S O h0 f g z K M) (hxx : (-2147483648 ≤ x ∧ x ≤ 2147483647)) (hxy : (-2147483648 ≤ y ∧ y ≤ 2147483647)) (hxw : (-2147483648 ≤ w ∧ w ≤ 2147483647)) (kb : ¬ (0 ≤ x ∧ x < sT S ∧ 0 ≤ y ∧ y ≤ 60 ∧ 0 ≤ w ∧ w ≤ 2) → Post (some (vi (-1))) M) (kt : ∀ (i t : Nat) (M2 : Mem) (v : Int), x = (i : Int) → y = (t : Int) → i < sT S → t ≤ 60 → 0 ≤ w ∧ w ≤ 2 → v = townV S O i t w → RepC so dr n b S O h0 f g z K M2 → (∀ p, 110 ≤ p → M2 p = M p) → Post (some (vi v)) M2) : Sp gg yX10_town cX10_town 5 (some .int) rmX10_town [vr 0, vi x, vi y, vi w] ad N pT M Post := by
  refine Sp.intro (ls := [some (vr 0), some (vi x), some (vi y), some (vi w), none]) (by decide +kernel) rfl (Nat.le_of_ble_eq_true rfl) fun κ hgg h hr ha => ?_
  have h : Ok κ RX10 cX10_town 5 rmX10_town := h
  subst hgg
  obtain ⟨hs, hdr, hs82, hdr82, hsd, hs96, hd96⟩ := hR.isS hN
  have hm9 := hR.m9
  have hm10 := hR.m10
  have hwL := hR.ws.1
  have hwT := hR.ws.2.1
  have r9 := hR.so.1.1
  have r10 := hR.so.1.2.1
  have r11 := hR.so.1.2.2.1
  have w4 := hR.ws.2.2.2.1
  have w5 := hR.ws.2.2.2.2.1
  refine e_aload_n h dX10_town_0 (pc := 0) rfl ?_
  refine e_iload_n h dX10_town_1 (pc := 1) rfl ?_
  refine e_callV1 lk_X10_132 mv_X10_isTown dX10_town_2 (pc := 2) rfl (by decide) (Nat.lt_of_lt_of_le (by decide) hN) (Nat.le_of_ble_eq_true rfl) (rmY := rmX10_isTown) (by decide) h ?_
  refine c_isTown hN hR hxx (fun i ex hii => ?_) (fun hzx => ?_)
  · subst ex
    refine e_if_eq h (tgt := 27) dX10_town_5 (pc := 5) (by decide) (by decide) (fun hz => absurd hz (by decide)) (fun _ => ?_)
    refine e_iload_n h dX10_town_8 (pc := 8) rfl ?_
    refine e_iconst h dX10_town_9 (pc := 9)  ?_
    refine e_bipush h dX10_town_10 (pc := 10) (by decide +kernel) ?_
    refine e_callS3 lk_X10_121 ms_X10_isWithin dX10_town_12 (pc := 12) (Nat.le_of_ble_eq_true rfl) (rmY := rmX10_isWithin) (by decide) h ?_
    refine c_isWithin hxy (by decide) (by decide) (fun hzy => ?_) (fun hzy => ?_)
    · obtain ⟨t, rfl⟩ : ∃ kk : Nat, y = (kk : Int) := ⟨y.toNat, by omega⟩
      refine e_if_eq h (tgt := 27) dX10_town_15 (pc := 15) (by decide) (by decide) (fun hz => absurd hz (by decide)) (fun _ => ?_)
      refine e_iload_n h dX10_town_18 (pc := 18) rfl ?_
      refine e_iconst h dX10_town_19 (pc := 19)  ?_
      refine e_iconst h dX10_town_20 (pc := 20)  ?_
      refine e_callS3 lk_X10_121 ms_X10_isWithin dX10_town_21 (pc := 21) (Nat.le_of_ble_eq_true rfl) (rmY := rmX10_isWithin) (by decide) h ?_
      refine c_isWithin hxw (by decide) (by decide) (fun hzw => ?_) (fun hzw => ?_)
      · skip
        refine e_if_ne h (tgt := 29) dX10_town_24 (pc := 24) (by decide) (by decide) (fun _ => ?_) (fun hz => absurd hz (by decide))
        refine e_aload_n h dX10_town_29 (pc := 29) rfl ?_
        refine e_callV0 lk_X10_135 mv_X10_followed dX10_town_30 (pc := 30) rfl (by decide) (Nat.lt_of_lt_of_le (by decide) hN) (Nat.le_of_ble_eq_true rfl) (rmY := rmX10_followed) (by decide) h ?_
        refine c_followed hN hR (fun M2 hR2 hfl hfr => ?_)
        have hm92 := hR2.m9
        have hm102 := hR2.m10
        obtain ⟨o, hoe⟩ : ∃ o, o = 7 + 4 * i := ⟨_, rfl⟩
        have ho : IsC o N := hoe ▸ isC_fleet hN (by omega)
        have hocr : CR S O i (sH S i) (sF S i) M2 o := by rw [hoe]; exact hfl.2 i (by omega)
        have howf := crs_wf (S := S) (O := O) (i := i) (l0 := sH S i) (x0 := sF S i) (w5 i (by omega)).1 (w5 i (by omega)).2.1 (hR.wo.2.2 i (by omega))
        refine e_getC h fl_X10_139 dX10_town_33 (pc := 33) rfl (Nat.lt_of_lt_of_le (by decide) hN) rfl rfl (r := 6) rfl ?_
        refine e_iload_n h dX10_town_36 (pc := 36) rfl ?_
        refine e_aald3 h dX10_town_37 (pc := 37) rfl (Nat.lt_of_lt_of_le (by decide) hN) rfl (by show _ < 6; omega) rfl (r := o) (by rw [pcr_103 (by decide)]; omega) ?_
        refine e_astore4 h dX10_town_38 (pc := 38) (by decide) rfl ?_
        refine e_iload_n h dX10_town_40 (pc := 40) rfl ?_
        rcases (show w = 0 ∨ w = 1 ∨ w = 2 by omega) with hq | hq | hq
        · refine e_lookV h dX10_town_41 (pc := 41) (v := 0) (by omega) (by decide) (by decide) (off := 27) (by decide +kernel) (tgt := 68) (by decide) ?_
          refine e_aload h dX10_town_68 (pc := 68) rfl ?_
          refine e_getC h fl_X10_143 dX10_town_70 (pc := 70) ho.c0 ho.p0 rfl rfl (r := (o + 1)) (pcr_d (by rw [ho.c0]; decide) 0) ?_
          refine e_iload_n h dX10_town_73 (pc := 73) rfl ?_
          refine e_iald h dX10_town_74 (pc := 74) ho.c1 ho.p1 rfl (by rw [ho.l1]; omega) ?_
          refine e_iret h hr ha dX10_town_75 (pc := 75) ?_
          exact kt i t M2 _ rfl rfl hii (by omega) hzw (by unfold townV; rw [if_pos (by omega)]; exact (hocr.2 t (by omega)).1) hR2 (fun p hp => hfr p (by omega) (by omega))
        · refine e_lookV h dX10_town_41 (pc := 41) (v := 1) (by omega) (by decide) (by decide) (off := 35) (by decide +kernel) (tgt := 76) (by decide) ?_
          refine e_aload h dX10_town_76 (pc := 76) rfl ?_
          refine e_iload_n h dX10_town_78 (pc := 78) rfl ?_
          refine e_callV1 lk_X10_146 mv_X1_floats dX10_town_79 (pc := 79) (by rw [ho.c0]; rfl) (by rw [ho.c0]; decide) ho.p0 (Nat.le_of_ble_eq_true rfl) (rmY := rmX1_floats) (by decide) h ?_
          have zt := (hocr.2 t (by omega)).1
          have zw := (howf t).1
          refine c_floats (d := t) rfl ho (by omega) (by omega) (fun hf => ?_) (fun hf => ?_)
          · skip
            refine e_if_eq h (tgt := 95) dX10_town_82 (pc := 82) (by decide) (by decide) (fun hz => absurd hz (by decide)) (fun _ => ?_)
            refine e_aload h dX10_town_85 (pc := 85) rfl ?_
            refine e_getC h fl_X10_149 dX10_town_87 (pc := 87) ho.c0 ho.p0 rfl rfl (r := (o + 2)) (pcr_d (by rw [ho.c0]; decide) 1) ?_
            refine e_iload_n h dX10_town_90 (pc := 90) rfl ?_
            refine e_iald h dX10_town_91 (pc := 91) ho.c2 ho.p2 rfl (by rw [ho.l2]; omega) ?_
            refine e_goto h dX10_town_92 (pc := 92) (tgt := 97) (by decide) ?_
            refine e_iret h hr ha dX10_town_97 (pc := 97) ?_
            exact kt i t M2 _ rfl rfl hii (by omega) hzw (by unfold townV; have z : M2 (o + 1) t = ((cs S O i t).1 : Nat) := (hocr.2 t (by omega)).1; rw [if_neg (by omega), if_pos (by omega), if_neg (by omega)]; exact (hocr.2 t (by omega)).2.1) hR2 (fun p hp => hfr p (by omega) (by omega))
          · skip
            refine e_if_eq h (tgt := 95) dX10_town_82 (pc := 82) (by decide) (by decide) (fun _ => ?_) (fun hz => absurd hz (by decide))
            refine e_bipush h dX10_town_95 (pc := 95) (by decide +kernel) ?_
            refine e_iret h hr ha dX10_town_97 (pc := 97) ?_
            exact kt i t M2 _ rfl rfl hii (by omega) hzw (by unfold townV; have z : M2 (o + 1) t = ((cs S O i t).1 : Nat) := (hocr.2 t (by omega)).1; rw [if_neg (by omega), if_pos (by omega), if_pos (by omega)]) hR2 (fun p hp => hfr p (by omega) (by omega))
        · refine e_lookup h dX10_town_41 (pc := 41) (by omega) (by decide) (by show Op.lookupswitch.offset [(0, 27), (1, 35)] 57 _ = 57; rw [Op.lookupswitch.offset_cons, if_neg (by omega), Op.lookupswitch.offset_cons, if_neg (by omega)]; rfl) (tgt := 98) (by decide) ?_
          refine e_aload h dX10_town_98 (pc := 98) rfl ?_
          refine e_getC h fl_X10_152 dX10_town_100 (pc := 100) ho.c0 ho.p0 rfl rfl (r := (o + 3)) (pcr_d (by rw [ho.c0]; decide) 2) ?_
          refine e_iload_n h dX10_town_103 (pc := 103) rfl ?_
          refine e_iald h dX10_town_104 (pc := 104) ho.c3 ho.p3 rfl (by rw [ho.l3]; omega) ?_
          refine e_iret h hr ha dX10_town_105 (pc := 105) ?_
          exact kt i t M2 _ rfl rfl hii (by omega) hzw (by unfold townV; rw [if_neg (by omega), if_neg (by omega)]; exact (hocr.2 t (by omega)).2.2) hR2 (fun p hp => hfr p (by omega) (by omega))
      · skip
        refine e_if_ne h (tgt := 29) dX10_town_24 (pc := 24) (by decide) (by decide) (fun hz => absurd hz (by decide)) (fun _ => ?_)
        refine e_iconst h dX10_town_27 (pc := 27)  ?_
        refine e_iret h hr ha dX10_town_28 (pc := 28) ?_
        exact kb (by omega)
    · skip
      refine e_if_eq h (tgt := 27) dX10_town_15 (pc := 15) (by decide) (by decide) (fun _ => ?_) (fun hz => absurd hz (by decide))
      refine e_iconst h dX10_town_27 (pc := 27)  ?_
      refine e_iret h hr ha dX10_town_28 (pc := 28) ?_
      exact kb (by omega)
  · skip
    refine e_if_eq h (tgt := 27) dX10_town_5 (pc := 5) (by decide) (by decide) (fun _ => ?_) (fun hz => absurd hz (by decide))
    refine e_iconst h dX10_town_27 (pc := 27)  ?_
    refine e_iret h hr ha dX10_town_28 (pc := 28) ?_
    exact kb (by omega)
set_option maxRecDepth 100000 in
set_option maxHeartbeats 4000000 in
theorem c_lost {gg : GT} {ad : Nat → Nat} {N : Nat} {M : Mem} {Post : Option AV → Mem → Prop} {so dr n : Nat} {b : TB} {S O : SD} {h0 : Nat} {f g : Nat → Int} {z : Nat} {K : Nat → SD} {x : Int}   (hN : 110 ≤ N) (hR : RepC so dr n b S O h0 f g z K M) (hxx : (-2147483648 ≤ x ∧ x ≤ 2147483647)) (kb : ¬ (0 ≤ x ∧ x < sT S) → Post (some (vi (-1))) M) (kt : ∀ (i : Nat) (M2 : Mem) (v : Int), x = (i : Int) → i < sT S → v = lst S O i (sH S i) (sF S i) 60 → RepC so dr n b S O h0 f g z K M2 → (∀ p, 110 ≤ p → M2 p = M p) → Post (some (vi v)) M2) : Sp gg yX10_lost cX10_lost 2 (some .int) rmX10_lost [vr 0, vi x] ad N pT M Post := by
  refine Sp.intro (ls := [some (vr 0), some (vi x)]) (by decide +kernel) rfl (Nat.le_of_ble_eq_true rfl) fun κ hgg h hr ha => ?_
  have h : Ok κ RX10 cX10_lost 2 rmX10_lost := h
  subst hgg
  obtain ⟨hs, hdr, hs82, hdr82, hsd, hs96, hd96⟩ := hR.isS hN
  have hm9 := hR.m9
  have hm10 := hR.m10
  have hwL := hR.ws.1
  have hwT := hR.ws.2.1
  have r9 := hR.so.1.1
  have r10 := hR.so.1.2.1
  have r11 := hR.so.1.2.2.1
  have w4 := hR.ws.2.2.2.1
  have w5 := hR.ws.2.2.2.2.1
  refine e_aload_n h dX10_lost_0 (pc := 0) rfl ?_
  refine e_iload_n h dX10_lost_1 (pc := 1) rfl ?_
  refine e_callV1 lk_X10_132 mv_X10_isTown dX10_lost_2 (pc := 2) rfl (by decide) (Nat.lt_of_lt_of_le (by decide) hN) (Nat.le_of_ble_eq_true rfl) (rmY := rmX10_isTown) (by decide) h ?_
  refine c_isTown hN hR hxx (fun i ex hii => ?_) (fun hzx => ?_)
  · subst ex
    refine e_if_ne h (tgt := 10) dX10_lost_5 (pc := 5) (by decide) (by decide) (fun _ => ?_) (fun hz => absurd hz (by decide))
    refine e_aload_n h dX10_lost_10 (pc := 10) rfl ?_
    refine e_callV0 lk_X10_135 mv_X10_followed dX10_lost_11 (pc := 11) rfl (by decide) (Nat.lt_of_lt_of_le (by decide) hN) (Nat.le_of_ble_eq_true rfl) (rmY := rmX10_followed) (by decide) h ?_
    refine c_followed hN hR (fun M2 hR2 hfl hfr => ?_)
    have hm92 := hR2.m9
    have hm102 := hR2.m10
    obtain ⟨o, hoe⟩ : ∃ o, o = 7 + 4 * i := ⟨_, rfl⟩
    have ho : IsC o N := hoe ▸ isC_fleet hN (by omega)
    have hocr : CR S O i (sH S i) (sF S i) M2 o := by rw [hoe]; exact hfl.2 i (by omega)
    have howf := crs_wf (S := S) (O := O) (i := i) (l0 := sH S i) (x0 := sF S i) (w5 i (by omega)).1 (w5 i (by omega)).2.1 (hR.wo.2.2 i (by omega))
    refine e_getC h fl_X10_139 dX10_lost_14 (pc := 14) rfl (Nat.lt_of_lt_of_le (by decide) hN) rfl rfl (r := 6) rfl ?_
    refine e_iload_n h dX10_lost_17 (pc := 17) rfl ?_
    refine e_aald3 h dX10_lost_18 (pc := 18) rfl (Nat.lt_of_lt_of_le (by decide) hN) rfl (by show _ < 6; omega) rfl (r := o) (by rw [pcr_103 (by decide)]; omega) ?_
    refine e_getI h fl_X10_155 dX10_lost_19 (pc := 19) ho.c0 ho.p0 (by decide) ?_
    refine e_iret h hr ha dX10_lost_22 (pc := 22) ?_
    exact kt i M2 _ rfl hii hocr.1 hR2 (fun p hp => hfr p (by omega) (by omega))
  · skip
    refine e_if_ne h (tgt := 10) dX10_lost_5 (pc := 5) (by decide) (by decide) (fun hz => absurd hz (by decide)) (fun _ => ?_)
    refine e_iconst h dX10_lost_8 (pc := 8)  ?_
    refine e_iret h hr ha dX10_lost_9 (pc := 9) ?_
    exact kb (by omega)
set_option maxRecDepth 100000 in
set_option maxHeartbeats 4000000 in
theorem c_markets {gg : GT} {ad : Nat → Nat} {N : Nat} {M : Mem} {Post : Option AV → Mem → Prop} {so dr n : Nat} {b : TB} {S O : SD} {h0 : Nat} {f g : Nat → Int} {z : Nat} {K : Nat → SD} {x : Int}   (hN : 110 ≤ N) (hR : RepC so dr n b S O h0 f g z K M) (hxx : (-2147483648 ≤ x ∧ x ≤ 2147483647)) (kb : ¬ (1 ≤ x ∧ x ≤ 60) → Post (some (vi (-1))) M) (kt : ∀ (n1 : Nat) (M2 : Mem) (v : Int), x = (n1 : Int) → 1 ≤ n1 ∧ n1 ≤ 60 → v = ((am (fun i => cs S O i) n1 (sT S) (sT S) / 2 : Nat) : Int) → RepC so dr n b S O h0 f g z K M2 → (∀ p, 110 ≤ p → M2 p = M p) → Post (some (vi v)) M2) : Sp gg yX10_markets cX10_markets 2 (some .int) rmX10_markets [vr 0, vi x] ad N pT M Post := by
  refine Sp.intro (ls := [some (vr 0), some (vi x)]) (by decide +kernel) rfl (Nat.le_of_ble_eq_true rfl) fun κ hgg h hr ha => ?_
  have h : Ok κ RX10 cX10_markets 2 rmX10_markets := h
  subst hgg
  obtain ⟨hs, hdr, hs82, hdr82, hsd, hs96, hd96⟩ := hR.isS hN
  have hm9 := hR.m9
  have hm10 := hR.m10
  have hwL := hR.ws.1
  have hwT := hR.ws.2.1
  have r9 := hR.so.1.1
  have r10 := hR.so.1.2.1
  have r11 := hR.so.1.2.2.1
  have w4 := hR.ws.2.2.2.1
  have w5 := hR.ws.2.2.2.2.1
  refine e_iload_n h dX10_markets_0 (pc := 0) rfl ?_
  refine e_iconst h dX10_markets_1 (pc := 1)  ?_
  refine e_bipush h dX10_markets_2 (pc := 2) (by decide +kernel) ?_
  refine e_callS3 lk_X10_121 ms_X10_isWithin dX10_markets_4 (pc := 4) (Nat.le_of_ble_eq_true rfl) (rmY := rmX10_isWithin) (by decide) h ?_
  refine c_isWithin hxx (by decide) (by decide) (fun hzx => ?_) (fun hzx => ?_)
  · obtain ⟨n1, rfl⟩ : ∃ kk : Nat, x = (kk : Int) := ⟨x.toNat, by omega⟩
    refine e_if_ne h (tgt := 12) dX10_markets_7 (pc := 7) (by decide) (by decide) (fun _ => ?_) (fun hz => absurd hz (by decide))
    refine e_aload_n h dX10_markets_12 (pc := 12) rfl ?_
    refine e_callV0 lk_X10_135 mv_X10_followed dX10_markets_13 (pc := 13) rfl (by decide) (Nat.lt_of_lt_of_le (by decide) hN) (Nat.le_of_ble_eq_true rfl) (rmY := rmX10_followed) (by decide) h ?_
    refine c_followed hN hR (fun M2 hR2 hfl hfr => ?_)
    have hm92 := hR2.m9
    have hm102 := hR2.m10
    refine e_iload_n h dX10_markets_16 (pc := 16) rfl ?_
    refine e_callV1 lk_X10_166 mv_X2_allMarkets dX10_markets_17 (pc := 17) rfl (by decide) (Nat.lt_of_lt_of_le (by decide) hN) (Nat.le_of_ble_eq_true rfl) (rmY := rmX2_allMarkets) (by decide) h ?_
    refine c_allMarkets (T := sT S) (B := fun i => cs S O i) rfl (isF_a hN) hfl.1 hwT.2 (fun j hj => TR.of (hfl.2 j hj) hwL.2 (w5 j hj).1 (w5 j hj).2.1 (hR.wo.2.2 j hj)) (by omega) ?_
    refine e_iret h hr ha dX10_markets_20 (pc := 20) ?_
    exact kt n1 M2 _ rfl (by omega) rfl hR2 (fun p hp => hfr p (by omega) (by omega))
  · skip
    refine e_if_ne h (tgt := 12) dX10_markets_7 (pc := 7) (by decide) (by decide) (fun hz => absurd hz (by decide)) (fun _ => ?_)
    refine e_iconst h dX10_markets_10 (pc := 10)  ?_
    refine e_iret h hr ha dX10_markets_11 (pc := 11) ?_
    exact kb (by omega)
set_option maxRecDepth 100000 in
set_option maxHeartbeats 4000000 in
theorem c_count {gg : GT} {ad : Nat → Nat} {N : Nat} {M : Mem} {Post : Option AV → Mem → Prop} {so dr n : Nat} {b : TB} {S O : SD} {h0 : Nat} {f g : Nat → Int} {z : Nat} {K : Nat → SD} {x : Int}   (hN : 110 ≤ N) (hR : RepC so dr n b S O h0 f g z K M) (hxx : (-2147483648 ≤ x ∧ x ≤ 2147483647)) (kt : ∀ v : Int, v = cntV S O h0 z n x → Post (some (vi v)) M) : Sp gg yX10_count cX10_count 2 (some .int) rmX10_count [vr 0, vi x] ad N pT M Post := by
  refine Sp.intro (ls := [some (vr 0), some (vi x)]) (by decide +kernel) rfl (Nat.le_of_ble_eq_true rfl) fun κ hgg h hr ha => ?_
  have h : Ok κ RX10 cX10_count 2 rmX10_count := h
  subst hgg
  obtain ⟨hs, hdr, hs82, hdr82, hsd, hs96, hd96⟩ := hR.isS hN
  have hm9 := hR.m9
  have hm10 := hR.m10
  have hwL := hR.ws.1
  have hwT := hR.ws.2.1
  have r9 := hR.so.1.1
  have r10 := hR.so.1.2.1
  have r11 := hR.so.1.2.2.1
  have w4 := hR.ws.2.2.2.1
  have w5 := hR.ws.2.2.2.2.1
  refine e_iload_n h dX10_count_0 (pc := 0) rfl ?_
  rcases (show x = 0 ∨ x = 1 ∨ x = 2 ∨ x = 3 ∨ x = 4 ∨ x = 5 ∨ x = 6 ∨ ¬ (0 ≤ x ∧ x ≤ 6) by omega) with hq | hq | hq | hq | hq | hq | hq | hq
  · refine e_tabV h dX10_count_1 (pc := 1) (v := 0) (by omega) (by decide) (by decide) (off := 43) (by decide +kernel) (tgt := 44) (by decide) ?_
    refine e_aload_n h dX10_count_44 (pc := 44) rfl ?_
    refine e_getR h fl_X10_71 dX10_count_45 (pc := 45) rfl (Nat.lt_of_lt_of_le (by decide) hN) rfl rfl (r := so) (by first | exact hm92 | exact hm9 | (simp (disch := omega) only [up_ne]; exact hm9)) ?_
    refine e_getI h fl_X10_192 dX10_count_48 (pc := 48) hs.c0 hs.p0 (by decide) ?_
    refine e_iret h hr ha dX10_count_51 (pc := 51) ?_
    refine kt _ ?_
    unfold cntV
    first | (subst hq; simp only [ite_true, ite_false]; first | exact r9 | exact r10 | exact r11 | exact hR.so.2.1 | exact hR.hr.1 | exact hR.m70 | exact hR.tx.1) | omega
  · refine e_tabV h dX10_count_1 (pc := 1) (v := 1) (by omega) (by decide) (by decide) (off := 51) (by decide +kernel) (tgt := 52) (by decide) ?_
    refine e_aload_n h dX10_count_52 (pc := 52) rfl ?_
    refine e_getR h fl_X10_71 dX10_count_53 (pc := 53) rfl (Nat.lt_of_lt_of_le (by decide) hN) rfl rfl (r := so) (by first | exact hm92 | exact hm9 | (simp (disch := omega) only [up_ne]; exact hm9)) ?_
    refine e_getI h fl_X10_114 dX10_count_56 (pc := 56) hs.c0 hs.p0 (by decide) ?_
    refine e_iret h hr ha dX10_count_59 (pc := 59) ?_
    refine kt _ ?_
    unfold cntV
    first | (subst hq; simp only [ite_true, ite_false]; first | exact r9 | exact r10 | exact r11 | exact hR.so.2.1 | exact hR.hr.1 | exact hR.m70 | exact hR.tx.1) | omega
  · refine e_tabV h dX10_count_1 (pc := 1) (v := 2) (by omega) (by decide) (by decide) (off := 59) (by decide +kernel) (tgt := 60) (by decide) ?_
    refine e_aload_n h dX10_count_60 (pc := 60) rfl ?_
    refine e_getR h fl_X10_71 dX10_count_61 (pc := 61) rfl (Nat.lt_of_lt_of_le (by decide) hN) rfl rfl (r := so) (by first | exact hm92 | exact hm9 | (simp (disch := omega) only [up_ne]; exact hm9)) ?_
    refine e_getC h fl_X10_222 dX10_count_64 (pc := 64) hs.c0 hs.p0 rfl rfl (r := (so + 9)) (pcr_d (by rw [hs.c0]; decide) 8) ?_
    refine e_getI h fl_X10_236 dX10_count_67 (pc := 67) hs.c9 hs.p9 (by decide) ?_
    refine e_iret h hr ha dX10_count_70 (pc := 70) ?_
    refine kt _ ?_
    unfold cntV
    first | (subst hq; simp only [ite_true, ite_false]; first | exact r9 | exact r10 | exact r11 | exact hR.so.2.1 | exact hR.hr.1 | exact hR.m70 | exact hR.tx.1) | omega
  · refine e_tabV h dX10_count_1 (pc := 1) (v := 3) (by omega) (by decide) (by decide) (off := 70) (by decide +kernel) (tgt := 71) (by decide) ?_
    refine e_aload_n h dX10_count_71 (pc := 71) rfl ?_
    refine e_getR h fl_X10_71 dX10_count_72 (pc := 72) rfl (Nat.lt_of_lt_of_le (by decide) hN) rfl rfl (r := so) (by first | exact hm92 | exact hm9 | (simp (disch := omega) only [up_ne]; exact hm9)) ?_
    refine e_getI h fl_X10_261 dX10_count_75 (pc := 75) hs.c0 hs.p0 (by decide) ?_
    refine e_iret h hr ha dX10_count_78 (pc := 78) ?_
    refine kt _ ?_
    unfold cntV
    first | (subst hq; simp only [ite_true, ite_false]; first | exact r9 | exact r10 | exact r11 | exact hR.so.2.1 | exact hR.hr.1 | exact hR.m70 | exact hR.tx.1) | omega
  · refine e_tabV h dX10_count_1 (pc := 1) (v := 4) (by omega) (by decide) (by decide) (off := 78) (by decide +kernel) (tgt := 79) (by decide) ?_
    refine e_aload_n h dX10_count_79 (pc := 79) rfl ?_
    refine e_getC h fl_X10_57 dX10_count_80 (pc := 80) rfl (Nat.lt_of_lt_of_le (by decide) hN) rfl rfl (r := 67) rfl ?_
    refine e_getI h fl_X10_244 dX10_count_83 (pc := 83) rfl (Nat.lt_of_lt_of_le (by decide) hN) (by decide) ?_
    refine e_iret h hr ha dX10_count_86 (pc := 86) ?_
    refine kt _ ?_
    unfold cntV
    first | (subst hq; simp only [ite_true, ite_false]; first | exact r9 | exact r10 | exact r11 | exact hR.so.2.1 | exact hR.hr.1 | exact hR.m70 | exact hR.tx.1) | omega
  · refine e_tabV h dX10_count_1 (pc := 1) (v := 5) (by omega) (by decide) (by decide) (off := 86) (by decide +kernel) (tgt := 87) (by decide) ?_
    refine e_aload_n h dX10_count_87 (pc := 87) rfl ?_
    refine e_getC h fl_X10_64 dX10_count_88 (pc := 88) rfl (Nat.lt_of_lt_of_le (by decide) hN) rfl rfl (r := 70) rfl ?_
    refine e_getI h fl_X10_257 dX10_count_91 (pc := 91) rfl (Nat.lt_of_lt_of_le (by decide) hN) (by decide) ?_
    refine e_iret h hr ha dX10_count_94 (pc := 94) ?_
    refine kt _ ?_
    unfold cntV
    first | (subst hq; simp only [ite_true, ite_false]; first | exact r9 | exact r10 | exact r11 | exact hR.so.2.1 | exact hR.hr.1 | exact hR.m70 | exact hR.tx.1) | omega
  · refine e_tabV h dX10_count_1 (pc := 1) (v := 6) (by omega) (by decide) (by decide) (off := 94) (by decide +kernel) (tgt := 95) (by decide) ?_
    refine e_aload_n h dX10_count_95 (pc := 95) rfl ?_
    refine e_getC h fl_X10_10 dX10_count_96 (pc := 96) rfl (Nat.lt_of_lt_of_le (by decide) hN) rfl rfl (r := 1) rfl ?_
    refine e_getI h fl_X10_105 dX10_count_99 (pc := 99) rfl (Nat.lt_of_lt_of_le (by decide) hN) (by decide) ?_
    refine e_iret h hr ha dX10_count_102 (pc := 102) ?_
    refine kt _ ?_
    unfold cntV
    first | (subst hq; simp only [ite_true, ite_false]; first | exact r9 | exact r10 | exact r11 | exact hR.so.2.1 | exact hR.hr.1 | exact hR.m70 | exact hR.tx.1) | omega
  · refine e_tabOut h dX10_count_1 (pc := 1) (by omega) (by omega) (tgt := 103) (by decide) ?_
    refine e_iconst h dX10_count_103 (pc := 103)  ?_
    refine e_iret h hr ha dX10_count_104 (pc := 104) ?_
    refine kt _ ?_
    unfold cntV
    first | (subst hq; simp only [ite_true, ite_false]; first | exact r9 | exact r10 | exact r11 | exact hR.so.2.1 | exact hR.hr.1 | exact hR.m70 | exact hR.tx.1) | omega
