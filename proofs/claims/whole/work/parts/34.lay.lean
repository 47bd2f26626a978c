theorem rd_rng0 {b : TB} {n : Nat} : ∀ (f p : Nat) (c : SD × SD), -4 ≤ (rd b n f p c).1 ∧ (rd b n f p c).1 ≤ n
  | 0, p, c => by show (-4 : Int) ≤ -4 ∧ (-4 : Int) ≤ n; omega
  | f + 1, p, c => by
    by_cases hp : p < n
    · cases hi : item b n p c with
      | none => rw [rd_bad hp hi]; dsimp only; omega
      | some x => rw [rd_go (c2 := x.1) (e := x.2) hp hi]; exact rd_rng0 f x.2 x.1
    · rw [rd_end hp]; dsimp only; omega
theorem rd_rng {b : TB} {n : Nat} {r : Int} {c : SD × SD} (hn : n ≤ 300) (h : rd b n 301 0 (e0, e0) = (r, c)) : -4 ≤ r ∧ r ≤ 400 := by
  have := rd_rng0 (b := b) (n := n) 301 0 (e0, e0)
  rw [h] at this
  dsimp only at this
  omega
set_option maxRecDepth 100000 in
set_option maxHeartbeats 4000000 in
theorem c_lay {gg : GT} {ad : Nat → Nat} {N : Nat} {M : Mem} {Post : Option AV → Mem → Prop} {so dr n : Nat} {b : TB} {S O : SD} {h0 : Nat} {f g : Nat → Int} {z : Nat} {K : Nat → SD}   (hN : 110 ≤ N) (hR : RepC so dr n b S O h0 f g z K M) (kb : ¬ ((rd b n 301 0 (e0, e0)).1 = -4 ∧ whole (rd b n 301 0 (e0, e0)).2.1) → ∀ M2 : Mem, RepC so dr n b S O h0 f g z K M2 → (∀ p, 110 ≤ p → M2 p = M p) → Post (some (vi (-2))) M2) (kt : ∀ (res : Int) (c2 : SD × SD), rd b n 301 0 (e0, e0) = (res, c2) → res = -4 → whole c2.1 → ∀ (M2 : Mem) (v : Int), v = (sT c2.1 : Int) → RepC dr so n b c2.1 c2.2 0 f g 0 K M2 → (∀ p, 110 ≤ p → M2 p = M p) → Post (some (vi v)) M2) : Sp gg yX10_lay cX10_lay 2 (some .int) rmX10_lay [vr 0] ad N pT M Post := by
  refine Sp.intro (ls := [some (vr 0), none]) (by decide +kernel) rfl (Nat.le_of_ble_eq_true rfl) fun κ hgg h hr ha => ?_
  have h : Ok κ RX10 cX10_lay 2 rmX10_lay := h
  subst hgg
  obtain ⟨hs, hdr, hs82, hdr82, hsd, hs96, hd96⟩ := hR.isS hN
  have hm9 := hR.m9
  have hm10 := hR.m10
  have hwL := hR.ws.1
  have hwT := hR.ws.2.1
  have r9 := hR.so.1.1
  have r10 := hR.so.1.2.1
  have r11 := hR.so.1.2.2.1
  have w4 := hR.ws.2.2.2.1
  have w5 := hR.ws.2.2.2.2.1
  refine e_aload_n h dX10_lay_0 (pc := 0) rfl ?_
  refine e_getC h fl_X10_19 dX10_lay_1 (pc := 1) rfl (Nat.lt_of_lt_of_le (by decide) hN) rfl rfl (r := 3) rfl ?_
  refine e_aload_n h dX10_lay_4 (pc := 4) rfl ?_
  refine e_getC h fl_X10_10 dX10_lay_5 (pc := 5) rfl (Nat.lt_of_lt_of_le (by decide) hN) rfl rfl (r := 1) rfl ?_
  refine e_aload_n h dX10_lay_8 (pc := 8) rfl ?_
  refine e_getR h fl_X10_75 dX10_lay_9 (pc := 9) rfl (Nat.lt_of_lt_of_le (by decide) hN) rfl rfl (r := dr) (by first | exact hm10 | exact hm102 | (simp (disch := omega) only [up_eq, up_ne]; exact hm102) | (simp (disch := omega) only [up_eq, up_ne])) ?_
  refine e_callV2 lk_X10_98 mv_X6_read dX10_lay_12 (pc := 12) rfl (by decide) (Nat.lt_of_lt_of_le (by decide) hN) (Nat.le_of_ble_eq_true rfl) (rmY := rmX6_read) (by decide) h ?_
  refine c_read hN hdr (by omega) hR.tx hR.bd (fun M2 res c2 hrd hso hbo hfr => ?_)
  have hm92 : M2 0 9 = so := by rw [hfr 0 (by omega) (by omega) (by omega)]; exact hm9
  have hm102 : M2 0 10 = dr := by rw [hfr 0 (by omega) (by omega) (by omega)]; exact hm10
  have hrr := rd_rng (b := b) (n := n) (r := res) (c := c2) hR.tx.2.1 hrd
  refine e_bipush h dX10_lay_15 (pc := 15) (by decide +kernel) ?_
  refine e_icmp_ne h (tgt := 30) dX10_lay_17 (pc := 17) (by decide) (by omega) (by decide) (fun hb17 => ?_) (fun hb17 => ?_)
  · refine e_bipush h dX10_lay_30 (pc := 30) (by decide +kernel) ?_
    refine e_iret h hr ha dX10_lay_32 (pc := 32) ?_
    exact kb (by rw [hrd]; intro q; exact absurd q.1 (by show ¬ res = -4; omega)) M2 ⟨hR.ds, ((congrFun (hfr 0 (by omega) (by omega) (by omega)) 9).trans hR.m9), ((congrFun (hfr 0 (by omega) (by omega) (by omega)) 10).trans hR.m10), (hR.tx.to (hfr 1 (by omega) (by omega) (by omega)) (hfr 2 (by omega) (by omega) (by omega))), (hR.so.to (fun p a b => (hfr p (by omega) (by omega) (by omega)))), hR.ws, hR.wo, (hR.bs.to (hfr (so + 12) (by omega) (by omega) (by omega))), hbo, (hR.hr.to (hfr 67 (by omega) (by omega) (by omega)) (hfr 68 (by omega) (by omega) (by omega)) (hfr 69 (by omega) (by omega) (by omega))), hR.h8, hR.hw, ((congrFun (hfr 70 (by omega) (by omega) (by omega)) 1).trans hR.m70), hR.z2, (hR.kp.to hR.z2 (fun p a b => (hfr p (by omega) (by omega) (by omega)))), (hR.fc.to hR.ws.2.1.2 (congrFun (hfr 0 (by omega) (by omega) (by omega)) 11) (fun p a b => (hfr p (by omega) (by omega) (by omega)))), (hR.od.to (hfr 64 (by omega) (by omega) (by omega))), (hR.ch.to (hfr 61 (by omega) (by omega) (by omega))), (hR.ja.to (hfr 62 (by omega) (by omega) (by omega))), (hR.jb.to (hfr 63 (by omega) (by omega) (by omega)))⟩ (fun p hp => hfr p (by omega) (by omega) (by omega))
  · refine e_aload_n h dX10_lay_20 (pc := 20) rfl ?_
    refine e_getR h fl_X10_75 dX10_lay_21 (pc := 21) rfl (Nat.lt_of_lt_of_le (by decide) hN) rfl rfl (r := dr) (by first | exact hm10 | exact hm102 | (simp (disch := omega) only [up_eq, up_ne]; exact hm102) | (simp (disch := omega) only [up_eq, up_ne])) ?_
    refine e_callV0 lk_X10_108 mv_X8_isWhole dX10_lay_24 (pc := 24) (by rw [hdr.c0]; rfl) (by rw [hdr.c0]; decide) hdr.p0 (Nat.le_of_ble_eq_true rfl) (rmY := rmX8_isWhole) (by decide) h ?_
    have hPW := (hso (by omega)).2
    refine c_isWhole (S := c2.1) hdr (hso (by omega)).1.1 ⟨hPW.1, hPW.2.1, hPW.2.2.1, fun i hi => (hPW.2.2.2.2.2.1 i hi).1, fun k hk => (hPW.2.2.2.2.2.2.1 k hk).1⟩ (fun hwh => ?_) (fun hwh => ?_)
    · have hWW := whole_ws hPW hwh
      have hT2 := (hso (by omega)).1.1.2.1
      refine e_if_ne h (tgt := 33) dX10_lay_27 (pc := 27) (by decide) (by decide) (fun _ => ?_) (fun hz => absurd hz (by decide))
      refine e_aload_n h dX10_lay_33 (pc := 33) rfl ?_
      refine e_getR h fl_X10_71 dX10_lay_34 (pc := 34) rfl (Nat.lt_of_lt_of_le (by decide) hN) rfl rfl (r := so) (by first | exact hm9 | exact hm92 | (simp (disch := omega) only [up_eq, up_ne]; exact hm92) | (simp (disch := omega) only [up_eq, up_ne])) ?_
      refine e_astore1 h dX10_lay_37 (pc := 37) (by decide) rfl ?_
      refine e_aload_n h dX10_lay_38 (pc := 38) rfl ?_
      refine e_aload_n h dX10_lay_39 (pc := 39) rfl ?_
      refine e_getR h fl_X10_75 dX10_lay_40 (pc := 40) rfl (Nat.lt_of_lt_of_le (by decide) hN) rfl rfl (r := dr) (by first | exact hm10 | exact hm102 | (simp (disch := omega) only [up_eq, up_ne]; exact hm102) | (simp (disch := omega) only [up_eq, up_ne])) ?_
      refine e_putR h fl_X10_71 dX10_lay_43 (pc := 43) rfl (Nat.lt_of_lt_of_le (by decide) hN) rfl rfl ?_
      refine e_aload_n h dX10_lay_46 (pc := 46) rfl ?_
      refine e_aload_n h dX10_lay_47 (pc := 47) rfl ?_
      refine e_putR h fl_X10_75 dX10_lay_48 (pc := 48) rfl (Nat.lt_of_lt_of_le (by decide) hN) rfl rfl ?_
      refine e_aload_n h dX10_lay_51 (pc := 51) rfl ?_
      refine e_getC h fl_X10_57 dX10_lay_52 (pc := 52) rfl (Nat.lt_of_lt_of_le (by decide) hN) rfl rfl (r := 67) rfl ?_
      refine e_callV0 lk_X10_112 mv_X3_clear dX10_lay_55 (pc := 55) rfl (by decide) (Nat.lt_of_lt_of_le (by decide) hN) (Nat.le_of_ble_eq_true rfl) (rmY := rmX3_clear) (by decide) h ?_
      refine c_hclear hN ?_
      refine e_aload_n h dX10_lay_58 (pc := 58) rfl ?_
      refine e_getC h fl_X10_64 dX10_lay_59 (pc := 59) rfl (Nat.lt_of_lt_of_le (by decide) hN) rfl rfl (r := 70) rfl ?_
      refine e_callV0 lk_X10_113 mv_X7_clear dX10_lay_62 (pc := 62) rfl (by decide) (Nat.lt_of_lt_of_le (by decide) hN) (Nat.le_of_ble_eq_true rfl) (rmY := rmX7_clear) (by decide) h ?_
      refine c_shclear hN ?_
      refine e_aload_n h dX10_lay_65 (pc := 65) rfl ?_
      refine e_iconst h dX10_lay_66 (pc := 66)  ?_
      refine e_putZ h fl_X10_78 dX10_lay_67 (pc := 67) rfl (Nat.lt_of_lt_of_le (by decide) hN) rfl (by decide) ?_
      refine e_aload_n h dX10_lay_70 (pc := 70) rfl ?_
      refine e_getR h fl_X10_71 dX10_lay_71 (pc := 71) rfl (Nat.lt_of_lt_of_le (by decide) hN) rfl rfl (r := dr) (by first | exact hm9 | exact hm92 | (simp (disch := omega) only [up_eq, up_ne]; exact hm92) | (simp (disch := omega) only [up_eq, up_ne])) ?_
      refine e_getI h fl_X10_114 dX10_lay_74 (pc := 74) hdr.c0 hdr.p0 (by decide) ?_
      try simp (disch := omega) only [up_eq, up_ne]
      refine e_iret h hr ha dX10_lay_77 (pc := 77) ?_
      exact kt res c2 hrd (by omega) hwh _ _ (by first | exact hT2 | (simp (disch := omega) only [up_eq, up_ne]; exact hT2)) ⟨(by omega), (by simp (disch := omega) only [up_eq, up_ne]), (by simp (disch := omega) only [up_eq, up_ne]), (hR.tx.to (by rw [up_row (by omega), up_row (by omega), up_row (by omega), up_row (by omega), up_row (by omega)]; exact hfr 1 (by omega) (by omega) (by omega)) (by rw [up_row (by omega), up_row (by omega), up_row (by omega), up_row (by omega), up_row (by omega)]; exact hfr 2 (by omega) (by omega) (by omega))), ((hso (by omega)).1.to (fun p a b => by rw [up_row (by omega), up_row (by omega), up_row (by omega), up_row (by omega), up_row (by omega)])), hWW.1, hWW.2, (hbo.to (by rw [up_row (by omega), up_row (by omega), up_row (by omega), up_row (by omega), up_row (by omega)])), (hR.bs.to (by rw [up_row (by omega), up_row (by omega), up_row (by omega), up_row (by omega), up_row (by omega)]; exact hfr _ (by omega) (by omega) (by omega))), ⟨by simp (disch := omega) only [up_eq, up_ne]; rfl, fun k hk => absurd hk (by omega)⟩, (by omega), HW_0, (by simp (disch := omega) only [up_eq, up_ne]; rfl), (by omega), (fun k hk => absurd hk (by omega)), (Or.inl (up_eq _ _ _ _)), (hR.od.to (by rw [up_row (by omega), up_row (by omega), up_row (by omega), up_row (by omega), up_row (by omega)]; exact hfr 64 (by omega) (by omega) (by omega))), (hR.ch.to (by rw [up_row (by omega), up_row (by omega), up_row (by omega), up_row (by omega), up_row (by omega)]; exact hfr 61 (by omega) (by omega) (by omega))), (hR.ja.to (by rw [up_row (by omega), up_row (by omega), up_row (by omega), up_row (by omega), up_row (by omega)]; exact hfr 62 (by omega) (by omega) (by omega))), (hR.jb.to (by rw [up_row (by omega), up_row (by omega), up_row (by omega), up_row (by omega), up_row (by omega)]; exact hfr 63 (by omega) (by omega) (by omega)))⟩ (fun p hp => by rw [up_row (by omega), up_row (by omega), up_row (by omega), up_row (by omega), up_row (by omega)]; exact hfr p (by omega) (by omega) (by omega))
    · skip
      refine e_if_ne h (tgt := 33) dX10_lay_27 (pc := 27) (by decide) (by decide) (fun hz => absurd hz (by decide)) (fun _ => ?_)
      refine e_bipush h dX10_lay_30 (pc := 30) (by decide +kernel) ?_
      refine e_iret h hr ha dX10_lay_32 (pc := 32) ?_
      exact kb (by rw [hrd]; intro q; exact hwh q.2) M2 ⟨hR.ds, ((congrFun (hfr 0 (by omega) (by omega) (by omega)) 9).trans hR.m9), ((congrFun (hfr 0 (by omega) (by omega) (by omega)) 10).trans hR.m10), (hR.tx.to (hfr 1 (by omega) (by omega) (by omega)) (hfr 2 (by omega) (by omega) (by omega))), (hR.so.to (fun p a b => (hfr p (by omega) (by omega) (by omega)))), hR.ws, hR.wo, (hR.bs.to (hfr (so + 12) (by omega) (by omega) (by omega))), hbo, (hR.hr.to (hfr 67 (by omega) (by omega) (by omega)) (hfr 68 (by omega) (by omega) (by omega)) (hfr 69 (by omega) (by omega) (by omega))), hR.h8, hR.hw, ((congrFun (hfr 70 (by omega) (by omega) (by omega)) 1).trans hR.m70), hR.z2, (hR.kp.to hR.z2 (fun p a b => (hfr p (by omega) (by omega) (by omega)))), (hR.fc.to hR.ws.2.1.2 (congrFun (hfr 0 (by omega) (by omega) (by omega)) 11) (fun p a b => (hfr p (by omega) (by omega) (by omega)))), (hR.od.to (hfr 64 (by omega) (by omega) (by omega))), (hR.ch.to (hfr 61 (by omega) (by omega) (by omega))), (hR.ja.to (hfr 62 (by omega) (by omega) (by omega))), (hR.jb.to (hfr 63 (by omega) (by omega) (by omega)))⟩ (fun p hp => hfr p (by omega) (by omega) (by omega))
