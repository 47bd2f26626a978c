set_option maxRecDepth 100000 in
set_option maxHeartbeats 4000000 in
theorem c_isLevel {gg : GT} {ad : Nat → Nat} {N : Nat} {M : Mem} {Post : Option AV → Mem → Prop} {so dr n : Nat} {b : TB} {S O : SD} {h0 : Nat} {f g : Nat → Int} {z : Nat} {K : Nat → SD} {x : Int}   (hN : 110 ≤ N) (hR : RepC so dr n b S O h0 f g z K M) (hx : (-2147483648 ≤ x ∧ x ≤ 2147483647)) (kt : ∀ l : Nat, x = (l : Int) → l < sL S → Post (some (vi 1)) M) (kf : ¬ (0 ≤ x ∧ x < sL S) → Post (some (vi 0)) M) : Sp gg yX10_isLevel cX10_isLevel 2 (some .boolean) rmX10_isLevel [vr 0, vi x] ad N pT M Post := by
  refine Sp.intro (ls := [some (vr 0), some (vi x)]) (by decide +kernel) rfl (Nat.le_of_ble_eq_true rfl) fun κ hgg h hr ha => ?_
  have h : Ok κ RX10 cX10_isLevel 2 rmX10_isLevel := h
  subst hgg
  obtain ⟨hs, hdr, hs82, hdr82, hsd, hs96, hd96⟩ := hR.isS hN
  have hm9 := hR.m9
  have hm10 := hR.m10
  have hw := hR.ws
  have hwL := hw.1
  have hwT := hw.2.1
  have r9 := hR.so.1.1
  have r10 := hR.so.1.2.1
  refine e_iload_n h dX10_isLevel_0 (pc := 0) rfl ?_
  refine e_iconst h dX10_isLevel_1 (pc := 1)  ?_
  refine e_aload_n h dX10_isLevel_2 (pc := 2) rfl ?_
  refine e_getR h fl_X10_71 dX10_isLevel_3 (pc := 3) rfl (Nat.lt_of_lt_of_le (by decide) hN) rfl rfl (r := so) (by first | exact hm9 | (simp (disch := omega) only [up_ne]; exact hm9)) ?_
  refine e_getI h fl_X10_192 dX10_isLevel_6 (pc := 6) hs.c0 hs.p0 (by decide) ?_
  refine e_iconst h dX10_isLevel_9 (pc := 9)  ?_
  refine e_isub h dX10_isLevel_10 (pc := 10)  ?_
  refine e_callS3 lk_X10_121 ms_X10_isWithin dX10_isLevel_11 (pc := 11) (Nat.le_of_ble_eq_true rfl) (rmY := rmX10_isWithin) (by decide) h ?_
  refine c_isWithin hx (by decide) (by omega) (fun hz => ?_) (fun hz => ?_)
  · skip
    refine e_zret h hr ha dX10_isLevel_14 (pc := 14) (by decide) ?_
    exact kt x.toNat (by omega) (by omega)
  · skip
    refine e_zret h hr ha dX10_isLevel_14 (pc := 14) (by decide) ?_
    exact kf (by omega)
set_option maxRecDepth 100000 in
set_option maxHeartbeats 4000000 in
theorem c_isTown {gg : GT} {ad : Nat → Nat} {N : Nat} {M : Mem} {Post : Option AV → Mem → Prop} {so dr n : Nat} {b : TB} {S O : SD} {h0 : Nat} {f g : Nat → Int} {z : Nat} {K : Nat → SD} {x : Int}   (hN : 110 ≤ N) (hR : RepC so dr n b S O h0 f g z K M) (hx : (-2147483648 ≤ x ∧ x ≤ 2147483647)) (kt : ∀ l : Nat, x = (l : Int) → l < sT S → Post (some (vi 1)) M) (kf : ¬ (0 ≤ x ∧ x < sT S) → Post (some (vi 0)) M) : Sp gg yX10_isTown cX10_isTown 2 (some .boolean) rmX10_isTown [vr 0, vi x] ad N pT M Post := by
  refine Sp.intro (ls := [some (vr 0), some (vi x)]) (by decide +kernel) rfl (Nat.le_of_ble_eq_true rfl) fun κ hgg h hr ha => ?_
  have h : Ok κ RX10 cX10_isTown 2 rmX10_isTown := h
  subst hgg
  obtain ⟨hs, hdr, hs82, hdr82, hsd, hs96, hd96⟩ := hR.isS hN
  have hm9 := hR.m9
  have hm10 := hR.m10
  have hw := hR.ws
  have hwL := hw.1
  have hwT := hw.2.1
  have r9 := hR.so.1.1
  have r10 := hR.so.1.2.1
  refine e_iload_n h dX10_isTown_0 (pc := 0) rfl ?_
  refine e_iconst h dX10_isTown_1 (pc := 1)  ?_
  refine e_aload_n h dX10_isTown_2 (pc := 2) rfl ?_
  refine e_getR h fl_X10_71 dX10_isTown_3 (pc := 3) rfl (Nat.lt_of_lt_of_le (by decide) hN) rfl rfl (r := so) (by first | exact hm9 | (simp (disch := omega) only [up_ne]; exact hm9)) ?_
  refine e_getI h fl_X10_114 dX10_isTown_6 (pc := 6) hs.c0 hs.p0 (by decide) ?_
  refine e_iconst h dX10_isTown_9 (pc := 9)  ?_
  refine e_isub h dX10_isTown_10 (pc := 10)  ?_
  refine e_callS3 lk_X10_121 ms_X10_isWithin dX10_isTown_11 (pc := 11) (Nat.le_of_ble_eq_true rfl) (rmY := rmX10_isWithin) (by decide) h ?_
  refine c_isWithin hx (by decide) (by omega) (fun hz => ?_) (fun hz => ?_)
  · skip
    refine e_zret h hr ha dX10_isTown_14 (pc := 14) (by decide) ?_
    exact kt x.toNat (by omega) (by omega)
  · skip
    refine e_zret h hr ha dX10_isTown_14 (pc := 14) (by decide) ?_
    exact kf (by omega)
set_option maxRecDepth 100000 in
set_option maxHeartbeats 4000000 in
theorem c_areTwo {gg : GT} {ad : Nat → Nat} {N : Nat} {M : Mem} {Post : Option AV → Mem → Prop} {so dr n : Nat} {b : TB} {S O : SD} {h0 : Nat} {f g : Nat → Int} {z : Nat} {K : Nat → SD} {x y : Int}   (hN : 110 ≤ N) (hR : RepC so dr n b S O h0 f g z K M) (hx : (-2147483648 ≤ x ∧ x ≤ 2147483647)) (hy : (-2147483648 ≤ y ∧ y ≤ 2147483647)) (kt : ∀ i j : Nat, x = (i : Int) → y = (j : Int) → i < sT S → j < sT S → i ≠ j → Post (some (vi 1)) M) (kf : ¬ (0 ≤ x ∧ x < sT S ∧ 0 ≤ y ∧ y < sT S ∧ x ≠ y) → Post (some (vi 0)) M) : Sp gg yX10_areTwoTowns cX10_areTwoTowns 3 (some .boolean) rmX10_areTwoTowns [vr 0, vi x, vi y] ad N pT M Post := by
  refine Sp.intro (ls := [some (vr 0), some (vi x), some (vi y)]) (by decide +kernel) rfl (Nat.le_of_ble_eq_true rfl) fun κ hgg h hr ha => ?_
  have h : Ok κ RX10 cX10_areTwoTowns 3 rmX10_areTwoTowns := h
  subst hgg
  obtain ⟨hs, hdr, hs82, hdr82, hsd, hs96, hd96⟩ := hR.isS hN
  have hm9 := hR.m9
  have hm10 := hR.m10
  have hw := hR.ws
  have hwL := hw.1
  have hwT := hw.2.1
  have r9 := hR.so.1.1
  have r10 := hR.so.1.2.1
  refine e_aload_n h dX10_areTwoTowns_0 (pc := 0) rfl ?_
  refine e_iload_n h dX10_areTwoTowns_1 (pc := 1) rfl ?_
  refine e_callV1 lk_X10_132 mv_X10_isTown dX10_areTwoTowns_2 (pc := 2) rfl (by decide) (Nat.lt_of_lt_of_le (by decide) hN) (Nat.le_of_ble_eq_true rfl) (rmY := rmX10_isTown) (by decide) h ?_
  refine c_isTown hN hR hx (fun i hi1 hi2 => ?_) (fun hz => ?_)
  · skip
    refine e_if_eq h (tgt := 25) dX10_areTwoTowns_5 (pc := 5) (by decide) (by decide) (fun hz => absurd hz (by decide)) (fun _ => ?_)
    refine e_aload_n h dX10_areTwoTowns_8 (pc := 8) rfl ?_
    refine e_iload_n h dX10_areTwoTowns_9 (pc := 9) rfl ?_
    refine e_callV1 lk_X10_132 mv_X10_isTown dX10_areTwoTowns_10 (pc := 10) rfl (by decide) (Nat.lt_of_lt_of_le (by decide) hN) (Nat.le_of_ble_eq_true rfl) (rmY := rmX10_isTown) (by decide) h ?_
    refine c_isTown hN hR hy (fun j hj1 hj2 => ?_) (fun hz => ?_)
    · skip
      refine e_if_eq h (tgt := 25) dX10_areTwoTowns_13 (pc := 13) (by decide) (by decide) (fun hz => absurd hz (by decide)) (fun _ => ?_)
      refine e_iload_n h dX10_areTwoTowns_16 (pc := 16) rfl ?_
      refine e_iload_n h dX10_areTwoTowns_17 (pc := 17) rfl ?_
      refine e_icmp_eq h (tgt := 25) dX10_areTwoTowns_18 (pc := 18) (by decide) (by omega) (by omega) (fun hb18 => ?_) (fun hb18 => ?_)
      · refine e_iconst h dX10_areTwoTowns_25 (pc := 25)  ?_
        refine e_zret h hr ha dX10_areTwoTowns_26 (pc := 26) (by decide) ?_
        exact kf (by omega)
      · refine e_iconst h dX10_areTwoTowns_21 (pc := 21)  ?_
        refine e_goto h dX10_areTwoTowns_22 (pc := 22) (tgt := 26) (by decide) ?_
        refine e_zret h hr ha dX10_areTwoTowns_26 (pc := 26) (by decide) ?_
        exact kt i j hi1 hj1 hi2 hj2 (by omega)
    · skip
      refine e_if_eq h (tgt := 25) dX10_areTwoTowns_13 (pc := 13) (by decide) (by decide) (fun _ => ?_) (fun hz => absurd hz (by decide))
      refine e_iconst h dX10_areTwoTowns_25 (pc := 25)  ?_
      refine e_zret h hr ha dX10_areTwoTowns_26 (pc := 26) (by decide) ?_
      exact kf (by omega)
  · skip
    refine e_if_eq h (tgt := 25) dX10_areTwoTowns_5 (pc := 5) (by decide) (by decide) (fun _ => ?_) (fun hz => absurd hz (by decide))
    refine e_iconst h dX10_areTwoTowns_25 (pc := 25)  ?_
    refine e_zret h hr ha dX10_areTwoTowns_26 (pc := 26) (by decide) ?_
    exact kf (by omega)
set_option maxRecDepth 100000 in
set_option maxHeartbeats 4000000 in
theorem c_followed {gg : GT} {ad : Nat → Nat} {N : Nat} {M : Mem} {Post : Option AV → Mem → Prop} {so dr n : Nat} {b : TB} {S O : SD} {h0 : Nat} {f g : Nat → Int} {z : Nat} {K : Nat → SD}   (hN : 110 ≤ N) (hR : RepC so dr n b S O h0 f g z K M) (Kf : ∀ M2 : Mem, RepC so dr n b S O h0 f g z K M2 → FLT S O M2 → (∀ p, p ≠ 0 → (p < 5 ∨ 31 ≤ p) → M2 p = M p) → Post (some (vr 5)) M2) : Sp gg yX10_followed cX10_followed 1 (some (.object "HungInStorm$Fleet")) rmX10_followed [vr 0] ad N pT M Post := by
  refine Sp.intro (ls := [some (vr 0)]) (by decide +kernel) rfl (Nat.le_of_ble_eq_true rfl) fun κ hgg h hr ha => ?_
  have h : Ok κ RX10 cX10_followed 1 rmX10_followed := h
  subst hgg
  obtain ⟨hs, hdr, hs82, hdr82, hsd, hs96, hd96⟩ := hR.isS hN
  have hm9 := hR.m9
  have hm10 := hR.m10
  have hw := hR.ws
  have hwL := hw.1
  have hwT := hw.2.1
  have r9 := hR.so.1.1
  have r10 := hR.so.1.2.1
  have hfcr : M 0 11 = 1 ∨ M 0 11 = 0 := by rcases hR.fc with h1 | h1; exact Or.inl h1; exact Or.inr h1.1
  refine e_aload_n h dX10_followed_0 (pc := 0) rfl ?_
  refine e_getI h fl_X10_78 dX10_followed_1 (pc := 1) rfl (Nat.lt_of_lt_of_le (by decide) hN) (by decide) ?_
  refine e_if_eq h (tgt := 23) dX10_followed_4 (pc := 4) (by decide) (by omega) (fun hb4 => ?_) (fun hb4 => ?_)
  · have hfc : FLT S O M := by
      rcases hR.fc with h1 | h1
      · omega
      · exact h1.2
    refine e_aload_n h dX10_followed_23 (pc := 23) rfl ?_
    refine e_getC h fl_X10_26 dX10_followed_24 (pc := 24) rfl (Nat.lt_of_lt_of_le (by decide) hN) rfl rfl (r := 5) rfl ?_
    refine e_aret h hr ha dX10_followed_27 (pc := 27) ?_
    exact Kf M hR hfc (fun _ _ _ => rfl)
  · refine e_aload_n h dX10_followed_7 (pc := 7) rfl ?_
    refine e_getC h fl_X10_26 dX10_followed_8 (pc := 8) rfl (Nat.lt_of_lt_of_le (by decide) hN) rfl rfl (r := 5) rfl ?_
    refine e_aload_n h dX10_followed_11 (pc := 11) rfl ?_
    refine e_getR h fl_X10_71 dX10_followed_12 (pc := 12) rfl (Nat.lt_of_lt_of_le (by decide) hN) rfl rfl (r := so) (by first | exact hm9 | (simp (disch := omega) only [up_ne]; exact hm9)) ?_
    refine e_callV1 lk_X10_264 mv_X2_followAsTold dX10_followed_15 (pc := 15) rfl (by decide) (Nat.lt_of_lt_of_le (by decide) hN) (Nat.le_of_ble_eq_true rfl) (rmY := rmX2_followAsTold) (by decide) h ?_
    refine c_followAsTold (isF_a hN) hs hR.so (by omega) hR.ws hR.wo (fun M2 hf1 hf2 hfr => ?_)
    have hm9 : M2 0 9 = so := by rw [hfr 0 9 (by omega)]; exact hR.m9
    have hm10 : M2 0 10 = dr := by rw [hfr 0 10 (by omega)]; exact hR.m10
    refine e_aload_n h dX10_followed_18 (pc := 18) rfl ?_
    refine e_iconst h dX10_followed_19 (pc := 19)  ?_
    refine e_putZ h fl_X10_78 dX10_followed_20 (pc := 20) rfl (Nat.lt_of_lt_of_le (by decide) hN) rfl (by decide) ?_
    refine e_aload_n h dX10_followed_23 (pc := 23) rfl ?_
    refine e_getC h fl_X10_26 dX10_followed_24 (pc := 24) rfl (Nat.lt_of_lt_of_le (by decide) hN) rfl rfl (r := 5) rfl ?_
    refine e_aret h hr ha dX10_followed_27 (pc := 27) ?_
    have hfl : FLT S O (up M2 0 11 0) := ⟨by simp (disch := omega) only [up_eq, up_ne]; exact hf1, fun i hi => (hf2 i hi).to (fun p a b => up_row (by omega))⟩
    exact Kf _ ⟨hR.ds, (by simp (disch := omega) only [up_eq, up_ne]; rw [hfr 0 9 (by omega)]; exact hR.m9), (by simp (disch := omega) only [up_eq, up_ne]; rw [hfr 0 10 (by omega)]; exact hR.m10), (hR.tx.to (by rw [up_row (by omega)]; funext j; exact hfr 1 j (by omega)) (by rw [up_row (by omega)]; funext j; exact hfr 2 j (by omega))), (hR.so.to (fun p a b => (by rw [up_row (by omega)]; funext j; exact hfr p j (by omega)))), hR.ws, hR.wo, (hR.bs.to (by rw [up_row (by omega)]; funext j; exact hfr (so + 12) j (by omega))), (hR.bd.to (by rw [up_row (by omega)]; funext j; exact hfr (dr + 12) j (by omega))), (hR.hr.to (by rw [up_row (by omega)]; funext j; exact hfr 67 j (by omega)) (by rw [up_row (by omega)]; funext j; exact hfr 68 j (by omega)) (by rw [up_row (by omega)]; funext j; exact hfr 69 j (by omega))), hR.h8, hR.hw, ((congrFun (by rw [up_row (by omega)]; funext j; exact hfr 70 j (by omega)) 1).trans hR.m70), hR.z2, (hR.kp.to hR.z2 (fun p a b => (by rw [up_row (by omega)]; funext j; exact hfr p j (by omega)))), (Or.inr ⟨up_eq _ _ _ _, hfl⟩), (hR.od.to (by rw [up_row (by omega)]; funext j; exact hfr 64 j (by omega))), (hR.ch.to (by rw [up_row (by omega)]; funext j; exact hfr 61 j (by omega))), (hR.ja.to (by rw [up_row (by omega)]; funext j; exact hfr 62 j (by omega))), (hR.jb.to (by rw [up_row (by omega)]; funext j; exact hfr 63 j (by omega)))⟩ hfl (fun p hp hp2 => by rw [up_row (by omega)]; funext j; exact hfr p j (by omega))
