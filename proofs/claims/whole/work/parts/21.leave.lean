theorem SK_iff {S : SD} {i d l x a c g : Nat} (ha : a < 2 ^ 61) : (∃ k l2, a.testBit k = true ∧ SK l k l2 ∧ TO S i d l2 x k c g) ↔ (∃ k, (a &&& (2 ^ 64 - 2)).testBit k = true ∧ TO S i d l x k c g) ∨ (0 < l ∧ ∃ k, (a &&& 1).testBit k = true ∧ TO S i d (l - 1) x k c g) := by
  constructor
  · rintro ⟨k, l2, h1, h2, h3⟩
    rcases h2 with ⟨z1, rfl⟩ | ⟨rfl, z⟩
    · exact Or.inl ⟨k, (tb_m2 a k (by omega)).2 ⟨h1, by omega⟩, h3⟩
    · exact Or.inr ⟨by omega, 0, (tb_1 a 0).2 ⟨h1, rfl⟩, by rw [show l - 1 = l2 by omega]; exact h3⟩
  · rintro (⟨k, h1, h2⟩ | ⟨h0, k, h1, h2⟩)
    · have z := (tb_m2 a k (by omega)).1 h1
      exact ⟨k, l, z.1, Or.inl ⟨by omega, rfl⟩, h2⟩
    · have z := (tb_1 a k).1 h1
      exact ⟨k, l - 1, by rw [z.2]; exact z.1, Or.inr ⟨z.2, by omega⟩, h2⟩
def LV (S : SD) (i d l x k c g : Nat) : Prop := ∃ l1 k1 l2, MVE S i l k l1 k1 ∧ SK l1 k1 l2 ∧ TO S i d l2 x k1 c g
theorem LV_iff {S : SD} {i d l x a c g : Nat} : (((∃ k l2, a.testBit k = true ∧ SK l k l2 ∧ TO S i d l2 x k c g) ∨ (0 < l ∧ ∃ k l2, a.testBit k = true ∧ SK (l - 1) k l2 ∧ TO S i d l2 x k c g)) ∨ (l + 1 < sL S ∧ ∃ k l2, (a >>> sX S i).testBit k = true ∧ SK (l + 1) k l2 ∧ TO S i d l2 x k c g)) ↔ (∃ k, a.testBit k = true ∧ LV S i d l x k c g) := by
  constructor
  · rintro ((⟨k, l2, h1, h2, h3⟩ | ⟨h0, k, l2, h1, h2, h3⟩) | ⟨h0, k, l2, h1, h2, h3⟩)
    · exact ⟨k, h1, l, k, l2, Or.inl ⟨rfl, rfl⟩, h2, h3⟩
    · exact ⟨k, h1, l - 1, k, l2, Or.inr (Or.inl ⟨by omega, rfl⟩), h2, h3⟩
    · rw [tb_shr] at h1
      exact ⟨_, h1, l + 1, k, l2, Or.inr (Or.inr ⟨rfl, h0, by omega⟩), h2, h3⟩
  · rintro ⟨k, h1, l1, k1, l2, h2, h3, h4⟩
    rcases h2 with ⟨rfl, rfl⟩ | ⟨h2, rfl⟩ | ⟨rfl, h0, h2⟩
    · exact Or.inl (Or.inl ⟨_, l2, h1, h3, h4⟩)
    · exact Or.inl (Or.inr ⟨by omega, _, l2, h1, by rw [show l - 1 = l1 by omega]; exact h3, h4⟩)
    · exact Or.inr ⟨h0, k1, l2, by rw [tb_shr, show sX S i + k1 = k by omega]; exact h1, h3, h4⟩
set_option maxRecDepth 100000 in
set_option maxHeartbeats 4000000 in
theorem c_sink2 {gg : GT} {ad : Nat → Nat} {N : Nat} {M : Mem} {Post : Option AV → Mem → Prop} {S : SD} {so i l x d th a : Nat}  {xi : Int} (hxi : xi = (i : Int)) {xl : Int} (hxl : xl = (l : Int)) {xx : Int} (hxx : xx = (x : Int)) {xa : Int} (hxa : xa = ((a : Nat) : Int))  (hC : CH S so i d th N M) (hl : l < sL S) (hx : x < 24) (ha61 : a < 2 ^ 61) (K : ∀ M2 : Mem, ADD M M2 th (fun c g => ∃ k l2, a.testBit k = true ∧ SK l k l2 ∧ TO S i d l2 x k c g) → Post none M2) : Sp gg yX0_sink cX0_sink 7 none rmX0_sink [vr 61, vr so, vi xi, vi xl, vi xx, vj xa] ad N pT M Post := by
  refine Sp.intro (ls := [some (vr 61), some (vr so), some (vi xi), some (vi xl), some (vi xx), some (vj xa), none]) (by decide +kernel) rfl (Nat.le_of_ble_eq_true rfl) fun κ hgg h hr ha => ?_
  have h : Ok κ RX0 cX0_sink 7 rmX0_sink := h
  subst hgg
  subst hxi
  subst hxl
  subst hxx
  subst hxa
  have hs := hC.hs
  have hth := hC.hth
  have e1 := hC.e1
  have hN := hC.hN
  have t62 := hC.t62
  have t63 := hC.t63
  have s82 := hC.s82
  obtain ⟨hL, hT, hB, hW4, hW5, hW6⟩ := hC.ws
  have hi := hC.hi
  have hd := hC.d60
  refine e_aload_n h dX0_sink_0 (pc := 0) rfl ?_
  refine e_aload_n h dX0_sink_1 (pc := 1) rfl ?_
  refine e_iload_n h dX0_sink_2 (pc := 2) rfl ?_
  refine e_iload_n h dX0_sink_3 (pc := 3) rfl ?_
  refine e_iload h dX0_sink_4 (pc := 4) rfl ?_
  refine e_lload h dX0_sink_6 (pc := 6) rfl ?_
  refine e_ldc2 h dX0_sink_8 (pc := 8) (x := (-2)) kl_X0_83 rfl ?_
  refine e_land h dX0_sink_11 (pc := 11) (L_m2 a) ?_
  refine e_callV5 lk_X0_85 mv_X0_arrive dX0_sink_12 (pc := 12) rfl (by decide) (Nat.lt_of_lt_of_le (by decide) hN) (Nat.le_of_ble_eq_true rfl) (rmY := rmX0_arrive) (by decide) h ?_
  refine c_arrive (a := a &&& (2 ^ 64 - 2)) rfl rfl rfl rfl hC hl hx (Nat.lt_of_le_of_lt Nat.and_le_left ha61) (fun M2 hz1 => ?_)
  have hC2 := hC.add hz1
  refine e_iload_n h dX0_sink_15 (pc := 15) rfl ?_
  refine e_if_le h (tgt := 34) dX0_sink_16 (pc := 16) (by decide) (by omega) (fun hb16 => ?_) (fun hb16 => ?_)
  · have hy2 : ADD M2 M2 th (fun c g => 0 < l ∧ ∃ k, (a &&& 1).testBit k = true ∧ TO S i d (l - 1) x k c g) := ADD.none hC2.jb (fun c g z => absurd z.1 (by omega))
    refine e_vret h hr ha dX0_sink_34 (pc := 34) ?_
    exact K _ ((hz1.trans hy2).iff (fun c g => (SK_iff ha61).symm))
  · refine e_aload_n h dX0_sink_19 (pc := 19) rfl ?_
    refine e_aload_n h dX0_sink_20 (pc := 20) rfl ?_
    refine e_iload_n h dX0_sink_21 (pc := 21) rfl ?_
    refine e_iload_n h dX0_sink_22 (pc := 22) rfl ?_
    refine e_iconst h dX0_sink_23 (pc := 23)  ?_
    refine e_isub h dX0_sink_24 (pc := 24)  ?_
    refine e_iload h dX0_sink_25 (pc := 25) rfl ?_
    refine e_lload h dX0_sink_27 (pc := 27) rfl ?_
    refine e_lconst h dX0_sink_29 (pc := 29) (x := 1) rfl ?_
    refine e_land h dX0_sink_30 (pc := 30) (L_and a 1) ?_
    refine e_callV5 lk_X0_85 mv_X0_arrive dX0_sink_31 (pc := 31) rfl (by decide) (Nat.lt_of_lt_of_le (by decide) hN) (Nat.le_of_ble_eq_true rfl) (rmY := rmX0_arrive) (by decide) h ?_
    refine c_arrive (l := l - 1) (a := a &&& 1) rfl (by omega) rfl rfl hC2 (by omega) hx (Nat.lt_of_le_of_lt Nat.and_le_left ha61) (fun M3 hz2 => ?_)
    have hy2 : ADD M2 M3 th (fun c g => 0 < l ∧ ∃ k, (a &&& 1).testBit k = true ∧ TO S i d (l - 1) x k c g) := hz2.iff (fun c g => ⟨fun z => ⟨by omega, z⟩, fun z => z.2⟩)
    refine e_vret h hr ha dX0_sink_34 (pc := 34) ?_
    exact K _ ((hz1.trans hy2).iff (fun c g => (SK_iff ha61).symm))
set_option maxRecDepth 100000 in
set_option maxHeartbeats 4000000 in
theorem c_leave {gg : GT} {ad : Nat → Nat} {N : Nat} {M : Mem} {Post : Option AV → Mem → Prop} {S : SD} {so i l x d th a : Nat}  {xi : Int} (hxi : xi = (i : Int)) {xl : Int} (hxl : xl = (l : Int)) {xx : Int} (hxx : xx = (x : Int)) {xa : Int} (hxa : xa = ((a : Nat) : Int))  (hC : CH S so i d th N M) (hl : l < sL S) (hx : x < 24) (ha61 : a < 2 ^ 61) (K : ∀ M2 : Mem, ADD M M2 th (fun c g => ∃ k, a.testBit k = true ∧ LV S i d l x k c g) → Post none M2) : Sp gg yX0_leave cX0_leave 7 none rmX0_leave [vr 61, vr so, vi xi, vi xl, vi xx, vj xa] ad N pT M Post := by
  refine Sp.intro (ls := [some (vr 61), some (vr so), some (vi xi), some (vi xl), some (vi xx), some (vj xa), none]) (by decide +kernel) rfl (Nat.le_of_ble_eq_true rfl) fun κ hgg h hr ha => ?_
  have h : Ok κ RX0 cX0_leave 7 rmX0_leave := h
  subst hgg
  subst hxi
  subst hxl
  subst hxx
  subst hxa
  have hs := hC.hs
  have hth := hC.hth
  have e1 := hC.e1
  have hN := hC.hN
  have t62 := hC.t62
  have t63 := hC.t63
  have s82 := hC.s82
  obtain ⟨hL, hT, hB, hW4, hW5, hW6⟩ := hC.ws
  have hi := hC.hi
  have hd := hC.d60
  refine e_aload_n h dX0_leave_0 (pc := 0) rfl ?_
  refine e_aload_n h dX0_leave_1 (pc := 1) rfl ?_
  refine e_iload_n h dX0_leave_2 (pc := 2) rfl ?_
  refine e_iload_n h dX0_leave_3 (pc := 3) rfl ?_
  refine e_iload h dX0_leave_4 (pc := 4) rfl ?_
  refine e_lload h dX0_leave_6 (pc := 6) rfl ?_
  refine e_callV5 lk_X0_77 mv_X0_sink dX0_leave_8 (pc := 8) rfl (by decide) (Nat.lt_of_lt_of_le (by decide) hN) (Nat.le_of_ble_eq_true rfl) (rmY := rmX0_sink) (by decide) h ?_
  refine c_sink2 rfl rfl rfl rfl hC hl hx ha61 (fun M2 hz1 => ?_)
  have hC2 := hC.add hz1
  have r9 := hC2.sr.2.1
  have r9 := hC2.sr.1
  have r5 := (hC2.sr.2.2.2.2.1 i hC2.hi).2.2.1
  refine e_iload_n h dX0_leave_11 (pc := 11) rfl ?_
  refine e_if_le h (tgt := 28) dX0_leave_12 (pc := 12) (by decide) (by omega) (fun hb12 => ?_) (fun hb12 => ?_)
  · have hy2 : ADD M2 M2 th (fun c g => 0 < l ∧ ∃ k l2, a.testBit k = true ∧ SK (l - 1) k l2 ∧ TO S i d l2 x k c g) := ADD.none hC2.jb (fun c g z => absurd z.1 (by omega))
    refine e_iload_n h dX0_leave_28 (pc := 28) rfl ?_
    refine e_iconst h dX0_leave_29 (pc := 29)  ?_
    refine e_iadd h dX0_leave_30 (pc := 30)  ?_
    refine e_aload_n h dX0_leave_31 (pc := 31) rfl ?_
    refine e_getI h fl_X0_70 dX0_leave_32 (pc := 32) hs.c0 hs.p0 (by decide) ?_
    refine e_icmp_ge h (tgt := 58) dX0_leave_35 (pc := 35) (by decide) (by omega) (by omega) (fun hb35 => ?_) (fun hb35 => ?_)
    · have hy3 : ADD M2 M2 th (fun c g => l + 1 < sL S ∧ ∃ k l2, (a >>> sX S i).testBit k = true ∧ SK (l + 1) k l2 ∧ TO S i d l2 x k c g) := ADD.none hC2.jb (fun c g z => absurd z.1 (by omega))
      refine e_vret h hr ha dX0_leave_58 (pc := 58) ?_
      exact K _ (((hz1.trans hy2).trans hy3).iff (fun c g => LV_iff))
    · refine e_aload_n h dX0_leave_38 (pc := 38) rfl ?_
      refine e_aload_n h dX0_leave_39 (pc := 39) rfl ?_
      refine e_iload_n h dX0_leave_40 (pc := 40) rfl ?_
      refine e_iload_n h dX0_leave_41 (pc := 41) rfl ?_
      refine e_iconst h dX0_leave_42 (pc := 42)  ?_
      refine e_iadd h dX0_leave_43 (pc := 43)  ?_
      refine e_iload h dX0_leave_44 (pc := 44) rfl ?_
      refine e_lload h dX0_leave_46 (pc := 46) rfl ?_
      refine e_aload_n h dX0_leave_48 (pc := 48) rfl ?_
      refine e_getC h fl_X0_80 dX0_leave_49 (pc := 49) hs.c0 hs.p0 rfl rfl (r := (so + 5)) (pcr_d (by rw [hs.c0]; decide) 4) ?_
      refine e_iload_n h dX0_leave_52 (pc := 52) rfl ?_
      refine e_iald h dX0_leave_53 (pc := 53) hs.c5 hs.p5 rfl (by rw [hs.l5]; omega) ?_
      rw [r5]
      refine e_lushr h dX0_leave_54 (pc := 54) (L_ushr (a := a) (by omega) (k := sX S i) (by have := hW5 i hi; omega)) ?_
      refine e_callV5 lk_X0_77 mv_X0_sink dX0_leave_55 (pc := 55) rfl (by decide) (Nat.lt_of_lt_of_le (by decide) hN) (Nat.le_of_ble_eq_true rfl) (rmY := rmX0_sink) (by decide) h ?_
      refine c_sink2 (l := l + 1) (a := a >>> sX S i) rfl (by omega) rfl rfl (by first | exact hC3 | exact hC2) (by omega) hx (lt_pow_of (fun k hk => by rw [tb_shr] at hk; have := tb_lt ha61 hk; omega)) (fun M4 hz3 => ?_)
      have hy3 : ADD _ M4 th (fun c g => l + 1 < sL S ∧ ∃ k l2, (a >>> sX S i).testBit k = true ∧ SK (l + 1) k l2 ∧ TO S i d l2 x k c g) := hz3.iff (fun c g => ⟨fun z => ⟨by omega, z⟩, fun z => z.2⟩)
      refine e_vret h hr ha dX0_leave_58 (pc := 58) ?_
      exact K _ (((hz1.trans hy2).trans hy3).iff (fun c g => LV_iff))
  · refine e_aload_n h dX0_leave_15 (pc := 15) rfl ?_
    refine e_aload_n h dX0_leave_16 (pc := 16) rfl ?_
    refine e_iload_n h dX0_leave_17 (pc := 17) rfl ?_
    refine e_iload_n h dX0_leave_18 (pc := 18) rfl ?_
    refine e_iconst h dX0_leave_19 (pc := 19)  ?_
    refine e_isub h dX0_leave_20 (pc := 20)  ?_
    refine e_iload h dX0_leave_21 (pc := 21) rfl ?_
    refine e_lload h dX0_leave_23 (pc := 23) rfl ?_
    refine e_callV5 lk_X0_77 mv_X0_sink dX0_leave_25 (pc := 25) rfl (by decide) (Nat.lt_of_lt_of_le (by decide) hN) (Nat.le_of_ble_eq_true rfl) (rmY := rmX0_sink) (by decide) h ?_
    refine c_sink2 (l := l - 1) rfl (by omega) rfl rfl hC2 (by omega) hx ha61 (fun M3 hz2 => ?_)
    have hy2 : ADD M2 M3 th (fun c g => 0 < l ∧ ∃ k l2, a.testBit k = true ∧ SK (l - 1) k l2 ∧ TO S i d l2 x k c g) := hz2.iff (fun c g => ⟨fun z => ⟨by omega, z⟩, fun z => z.2⟩)
    have hC3 := hC2.add hz2
    have r9 := hC3.sr.2.1
    have r9 := hC3.sr.1
    have r5 := (hC3.sr.2.2.2.2.1 i hC3.hi).2.2.1
    refine e_iload_n h dX0_leave_28 (pc := 28) rfl ?_
    refine e_iconst h dX0_leave_29 (pc := 29)  ?_
    refine e_iadd h dX0_leave_30 (pc := 30)  ?_
    refine e_aload_n h dX0_leave_31 (pc := 31) rfl ?_
    refine e_getI h fl_X0_70 dX0_leave_32 (pc := 32) hs.c0 hs.p0 (by decide) ?_
    refine e_icmp_ge h (tgt := 58) dX0_leave_35 (pc := 35) (by decide) (by omega) (by omega) (fun hb35 => ?_) (fun hb35 => ?_)
    · have hy3 : ADD M3 M3 th (fun c g => l + 1 < sL S ∧ ∃ k l2, (a >>> sX S i).testBit k = true ∧ SK (l + 1) k l2 ∧ TO S i d l2 x k c g) := ADD.none hC3.jb (fun c g z => absurd z.1 (by omega))
      refine e_vret h hr ha dX0_leave_58 (pc := 58) ?_
      exact K _ (((hz1.trans hy2).trans hy3).iff (fun c g => LV_iff))
    · refine e_aload_n h dX0_leave_38 (pc := 38) rfl ?_
      refine e_aload_n h dX0_leave_39 (pc := 39) rfl ?_
      refine e_iload_n h dX0_leave_40 (pc := 40) rfl ?_
      refine e_iload_n h dX0_leave_41 (pc := 41) rfl ?_
      refine e_iconst h dX0_leave_42 (pc := 42)  ?_
      refine e_iadd h dX0_leave_43 (pc := 43)  ?_
      refine e_iload h dX0_leave_44 (pc := 44) rfl ?_
      refine e_lload h dX0_leave_46 (pc := 46) rfl ?_
      refine e_aload_n h dX0_leave_48 (pc := 48) rfl ?_
      refine e_getC h fl_X0_80 dX0_leave_49 (pc := 49) hs.c0 hs.p0 rfl rfl (r := (so + 5)) (pcr_d (by rw [hs.c0]; decide) 4) ?_
      refine e_iload_n h dX0_leave_52 (pc := 52) rfl ?_
      refine e_iald h dX0_leave_53 (pc := 53) hs.c5 hs.p5 rfl (by rw [hs.l5]; omega) ?_
      rw [r5]
      refine e_lushr h dX0_leave_54 (pc := 54) (L_ushr (a := a) (by omega) (k := sX S i) (by have := hW5 i hi; omega)) ?_
      refine e_callV5 lk_X0_77 mv_X0_sink dX0_leave_55 (pc := 55) rfl (by decide) (Nat.lt_of_lt_of_le (by decide) hN) (Nat.le_of_ble_eq_true rfl) (rmY := rmX0_sink) (by decide) h ?_
      refine c_sink2 (l := l + 1) (a := a >>> sX S i) rfl (by omega) rfl rfl (by first | exact hC3 | exact hC2) (by omega) hx (lt_pow_of (fun k hk => by rw [tb_shr] at hk; have := tb_lt ha61 hk; omega)) (fun M4 hz3 => ?_)
      have hy3 : ADD _ M4 th (fun c g => l + 1 < sL S ∧ ∃ k l2, (a >>> sX S i).testBit k = true ∧ SK (l + 1) k l2 ∧ TO S i d l2 x k c g) := hz3.iff (fun c g => ⟨fun z => ⟨by omega, z⟩, fun z => z.2⟩)
      refine e_vret h hr ha dX0_leave_58 (pc := 58) ?_
      exact K _ (((hz1.trans hy2).trans hy3).iff (fun c g => LV_iff))
