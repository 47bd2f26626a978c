theorem BO_up {M : Mem} {q e : Nat} {x : Int} (h : BO M q) (hx : x = 0 ∨ x = 1) : BO (up M q e x) q := fun k hk => by
  by_cases z : k = e
  · subst z; rw [up_eq]; exact hx
  · rw [up_ne (Or.inr z)]; exact h k hk
theorem HR.pop {h0 : Nat} {f g : Nat → Int} {M : Mem} (h : HR h0 f g M) (hh : 0 < h0) {M2 : Mem} (e1 : M2 67 2 = ((h0 - 1 : Nat) : Int)) (e2 : M2 68 = M 68) (e3 : M2 69 = M 69) : HR (h0 - 1) f g M2 :=
  ⟨e1, fun k hk => by rw [e2, e3]; exact h.2 k (by omega)⟩
set_option maxRecDepth 100000 in
set_option maxHeartbeats 4000000 in
theorem c_errand {gg : GT} {ad : Nat → Nat} {N : Nat} {M : Mem} {Post : Option AV → Mem → Prop} {so dr n : Nat} {b : TB} {S O : SD} {h0 : Nat} {f g : Nat → Int} {z : Nat} {K : Nat → SD} {x y : Int} {u1 : Nat} {xu : Int}   (hxu : xu = (u1 : Int)) (hN : 110 ≤ N) (hR : RepC so dr n b S O h0 f g z K M) (hxx : (-2147483648 ≤ x ∧ x ≤ 2147483647)) (hxy : (-2147483648 ≤ y ∧ y ≤ 2147483647)) (hu1 : u1 ≤ 1) (kb : ¬ (0 ≤ x ∧ x < sT S ∧ 1 ≤ y ∧ y ≤ 60) → Post (some (vi (-1))) M) (kf : ∀ (i d1 : Nat), x = (i : Int) → y = (d1 : Int) → i < sT S → (1 ≤ d1 ∧ d1 ≤ 60) → oE O = 8 → Post (some (vi (-3))) M) (kt : ∀ (i d1 : Nat) (M2 : Mem) (v : Int), x = (i : Int) → y = (d1 : Int) → i < sT S → (1 ≤ d1 ∧ d1 ≤ 60) → oE O < 8 → v = ((oE O + 1 : Nat) : Int) → RepC so dr n b S (tellO O i d1 u1) (if h0 < 8 then h0 + 1 else 8) (pushH h0 f (i : Int)) (pushH h0 g (-1)) z K M2 → (∀ p, 110 ≤ p → M2 p = M p) → Post (some (vi v)) M2) : Sp gg yX10_errand cX10_errand 4 (some .int) rmX10_errand [vr 0, vi x, vi y, vi xu] ad N pT M Post := by
  refine Sp.intro (ls := [some (vr 0), some (vi x), some (vi y), some (vi xu)]) (by decide +kernel) rfl (Nat.le_of_ble_eq_true rfl) fun κ hgg h hr ha => ?_
  have h : Ok κ RX10 cX10_errand 4 rmX10_errand := h
  subst hgg
  subst hxu
  obtain ⟨hs, hdr, hs82, hdr82, hsd, hs96, hd96⟩ := hR.isS hN
  have hm9 := hR.m9
  have hm10 := hR.m10
  have hwL := hR.ws.1
  have hwT := hR.ws.2.1
  have r9 := hR.so.1.1
  have r10 := hR.so.1.2.1
  have r11 := hR.so.1.2.2.1
  have w4 := hR.ws.2.2.2.1
  have w5 := hR.ws.2.2.2.2.1
  refine e_aload_n h dX10_errand_0 (pc := 0) rfl ?_
  refine e_iload_n h dX10_errand_1 (pc := 1) rfl ?_
  refine e_callV1 lk_X10_132 mv_X10_isTown dX10_errand_2 (pc := 2) rfl (by decide) (Nat.lt_of_lt_of_le (by decide) hN) (Nat.le_of_ble_eq_true rfl) (rmY := rmX10_isTown) (by decide) h ?_
  refine c_isTown hN hR hxx (fun i ex hii => ?_) (fun hzx => ?_)
  · subst ex
    refine e_if_eq h (tgt := 18) dX10_errand_5 (pc := 5) (by decide) (by decide) (fun hz => absurd hz (by decide)) (fun _ => ?_)
    refine e_iload_n h dX10_errand_8 (pc := 8) rfl ?_
    refine e_iconst h dX10_errand_9 (pc := 9)  ?_
    refine e_bipush h dX10_errand_10 (pc := 10) (by decide +kernel) ?_
    refine e_callS3 lk_X10_121 ms_X10_isWithin dX10_errand_12 (pc := 12) (Nat.le_of_ble_eq_true rfl) (rmY := rmX10_isWithin) (by decide) h ?_
    refine c_isWithin hxy (by decide) (by decide) (fun hzy => ?_) (fun hzy => ?_)
    · obtain ⟨d1, rfl⟩ : ∃ kk : Nat, y = (kk : Int) := ⟨y.toNat, by omega⟩
      refine e_if_ne h (tgt := 20) dX10_errand_15 (pc := 15) (by decide) (by decide) (fun _ => ?_) (fun hz => absurd hz (by decide))
      refine e_aload_n h dX10_errand_20 (pc := 20) rfl ?_
      refine e_getR h fl_X10_71 dX10_errand_21 (pc := 21) rfl (Nat.lt_of_lt_of_le (by decide) hN) rfl rfl (r := so) (by first | exact hm92 | exact hm9 | (simp (disch := omega) only [up_ne]; exact hm9)) ?_
      refine e_getC h fl_X10_222 dX10_errand_24 (pc := 24) hs.c0 hs.p0 rfl rfl (r := (so + 9)) (pcr_d (by rw [hs.c0]; decide) 8) ?_
      refine e_iload_n h dX10_errand_27 (pc := 27) rfl ?_
      refine e_iload_n h dX10_errand_28 (pc := 28) rfl ?_
      refine e_iload_n h dX10_errand_29 (pc := 29) rfl ?_
      refine e_callV3 lk_X10_226 mv_X5_tell dX10_errand_30 (pc := 30) (by rw [hs.c9]; rfl) (by rw [hs.c9]; decide) hs.p9 (Nat.le_of_ble_eq_true rfl) (rmY := rmX5_tell) (by decide) h ?_
      have hwo := hR.wo
      have ho2 := hR.so.2
      refine c_tell (q1 := so + 10) (q2 := so + 11) (q3 := so + 12) (e := oE O) (t := i) (d := d1) (u := u1) rfl rfl rfl rfl rfl rfl hs.o ho2.1 hwo.1 (by omega) (fun hlt => ?_) (fun he8 => ?_)
      · have hdd : 1 ≤ d1 ∧ d1 ≤ 60 := by omega
        have hm9 : (up (up (up (up M (so + 10) (oE O) (i : Int)) (so + 11) (oE O) (d1 : Int)) (so + 12) (oE O) (u1 : Int)) (so + 9) 4 (M (so + 9) 4 + 1)) 0 9 = so := by simp (disch := omega) only [up_eq, up_ne]; exact hR.m9
        refine e_if_ne h (tgt := 39) dX10_errand_33 (pc := 33) (by decide) (by decide) (fun _ => ?_) (fun hz => absurd hz (by decide))
        refine e_aload_n h dX10_errand_39 (pc := 39) rfl ?_
        refine e_getC h fl_X10_57 dX10_errand_40 (pc := 40) rfl (Nat.lt_of_lt_of_le (by decide) hN) rfl rfl (r := 67) rfl ?_
        refine e_iload_n h dX10_errand_43 (pc := 43) rfl ?_
        refine e_iconst h dX10_errand_44 (pc := 44)  ?_
        refine e_callV2 lk_X10_232 mv_X3_note dX10_errand_45 (pc := 45) rfl (by decide) (Nat.lt_of_lt_of_le (by decide) hN) (Nat.le_of_ble_eq_true rfl) (rmY := rmX3_note) (by decide) h ?_
        refine c_hnote (h0 := h0) (f := f) (g := g) hN (hR.hr.to (by rw [up_row (by omega), up_row (by omega), up_row (by omega), up_row (by omega)]) (by rw [up_row (by omega), up_row (by omega), up_row (by omega), up_row (by omega)]) (by rw [up_row (by omega), up_row (by omega), up_row (by omega), up_row (by omega)])) hR.h8 (fun M2 hh2 hf2 => ?_)
        have hm92 : M2 0 9 = so := by rw [hf2 0 (by omega)]; exact hm9
        have hE : M2 (so + 9) 4 = ((oE O + 1 : Nat) : Int) := by rw [hf2 _ (by omega), up_eq, ho2.1]; omega
        refine e_aload_n h dX10_errand_48 (pc := 48) rfl ?_
        refine e_iconst h dX10_errand_49 (pc := 49)  ?_
        refine e_putZ h fl_X10_78 dX10_errand_50 (pc := 50) rfl (Nat.lt_of_lt_of_le (by decide) hN) rfl (by decide) ?_
        refine e_aload_n h dX10_errand_53 (pc := 53) rfl ?_
        refine e_getR h fl_X10_71 dX10_errand_54 (pc := 54) rfl (Nat.lt_of_lt_of_le (by decide) hN) rfl rfl (r := so) (by first | exact hm92 | exact hm9 | (simp (disch := omega) only [up_ne]; exact hm9)) ?_
        refine e_getC h fl_X10_222 dX10_errand_57 (pc := 57) hs.c0 hs.p0 rfl rfl (r := (so + 9)) (pcr_d (by rw [hs.c0]; decide) 8) ?_
        refine e_getI h fl_X10_236 dX10_errand_60 (pc := 60) hs.c9 hs.p9 (by decide) ?_
        try simp (disch := omega) only [up_eq, up_ne]
        refine e_iret h hr ha dX10_errand_63 (pc := 63) ?_
        have hbs : BO (up M2 0 11 1) (so + 12) := (fun k hk => by
          rw [up_row (by omega), hf2 (so + 12) (by omega), up_row (by omega), up_if]
          by_cases e : k = oE O
          · rw [if_pos e]; omega
          · rw [if_neg e, up_row (by omega), up_row (by omega)]; exact hR.bs k hk)
        exact kt i d1 _ _ rfl rfl hii hdd hlt hE ⟨hR.ds, (by simp (disch := omega) only [up_eq, up_ne]; rw [hf2 0 (by omega)]; rw [up_row (by omega), up_row (by omega), up_row (by omega), up_row (by omega)]; exact hR.m9), (by simp (disch := omega) only [up_eq, up_ne]; rw [hf2 0 (by omega)]; rw [up_row (by omega), up_row (by omega), up_row (by omega), up_row (by omega)]; exact hR.m10), (hR.tx.to (by rw [up_row (by omega), hf2 1 (by omega)]; rw [up_row (by omega), up_row (by omega), up_row (by omega), up_row (by omega)]) (by rw [up_row (by omega), hf2 2 (by omega)]; rw [up_row (by omega), up_row (by omega), up_row (by omega), up_row (by omega)])), ⟨hR.so.1.to (fun p a b => by rw [up_row (by omega), hf2 p (by omega)]; rw [up_row (by omega), up_row (by omega), up_row (by omega), up_row (by omega)]), (OR_tell hR.so.2 (by omega) (by omega) (by omega) (by omega)).to (by rw [up_row (by omega), hf2 _ (by omega)]) (by rw [up_row (by omega), hf2 _ (by omega)]) (by rw [up_row (by omega), hf2 _ (by omega)]) (by rw [up_row (by omega), hf2 _ (by omega)]) (by rw [up_row (by omega), hf2 _ (by omega)])⟩, hR.ws, (WO_tell hR.wo hlt hii hdd hu1), hbs, (hR.bd.to (by rw [up_row (by omega), hf2 (dr + 12) (by omega)]; rw [up_row (by omega), up_row (by omega), up_row (by omega), up_row (by omega)])), (hh2.to (up_row (by omega)) (up_row (by omega)) (up_row (by omega))), (by split <;> omega), (HW_errand hR.hw hR.h8 tellO_E), ((congrFun (by rw [up_row (by omega), hf2 70 (by omega)]; rw [up_row (by omega), up_row (by omega), up_row (by omega), up_row (by omega)]) 1).trans hR.m70), hR.z2, (hR.kp.to hR.z2 (fun p a b => (by rw [up_row (by omega), hf2 p (by omega)]; rw [up_row (by omega), up_row (by omega), up_row (by omega), up_row (by omega)]))), (Or.inl (up_eq _ _ _ _)), (hR.od.to (by rw [up_row (by omega), hf2 64 (by omega)]; rw [up_row (by omega), up_row (by omega), up_row (by omega), up_row (by omega)])), (hR.ch.to (by rw [up_row (by omega), hf2 61 (by omega)]; rw [up_row (by omega), up_row (by omega), up_row (by omega), up_row (by omega)])), (hR.ja.to (by rw [up_row (by omega), hf2 62 (by omega)]; rw [up_row (by omega), up_row (by omega), up_row (by omega), up_row (by omega)])), (hR.jb.to (by rw [up_row (by omega), hf2 63 (by omega)]; rw [up_row (by omega), up_row (by omega), up_row (by omega), up_row (by omega)]))⟩ (fun p hp => by rw [up_row (by omega), hf2 p (by omega)]; rw [up_row (by omega), up_row (by omega), up_row (by omega), up_row (by omega)])
      · skip
        refine e_if_ne h (tgt := 39) dX10_errand_33 (pc := 33) (by decide) (by decide) (fun hz => absurd hz (by decide)) (fun _ => ?_)
        refine e_bipush h dX10_errand_36 (pc := 36) (by decide +kernel) ?_
        refine e_iret h hr ha dX10_errand_38 (pc := 38) ?_
        exact kf i d1 rfl rfl hii (by omega) he8
    · skip
      refine e_if_ne h (tgt := 20) dX10_errand_15 (pc := 15) (by decide) (by decide) (fun hz => absurd hz (by decide)) (fun _ => ?_)
      refine e_iconst h dX10_errand_18 (pc := 18)  ?_
      refine e_iret h hr ha dX10_errand_19 (pc := 19) ?_
      exact kb (by omega)
  · skip
    refine e_if_eq h (tgt := 18) dX10_errand_5 (pc := 5) (by decide) (by decide) (fun _ => ?_) (fun hz => absurd hz (by decide))
    refine e_iconst h dX10_errand_18 (pc := 18)  ?_
    refine e_iret h hr ha dX10_errand_19 (pc := 19) ?_
    exact kb (by omega)
set_option maxRecDepth 100000 in
set_option maxHeartbeats 4000000 in
theorem c_fill {gg : GT} {ad : Nat → Nat} {N : Nat} {M : Mem} {Post : Option AV → Mem → Prop} {so dr n : Nat} {b : TB} {S O : SD} {h0 : Nat} {f g : Nat → Int} {z : Nat} {K : Nat → SD} {x y : Int}   (hN : 110 ≤ N) (hR : RepC so dr n b S O h0 f g z K M) (hxx : (-2147483648 ≤ x ∧ x ≤ 2147483647)) (hxy : (-2147483648 ≤ y ∧ y ≤ 2147483647)) (kb : ¬ (0 ≤ x ∧ x < sT S ∧ 0 ≤ y ∧ y ≤ 60) → Post (some (vi (-1))) M) (kt : ∀ (i g1 : Nat) (M2 : Mem) (v : Int), x = (i : Int) → y = (g1 : Int) → i < sT S → g1 ≤ 60 → v = (oG O i : Int) → RepC so dr n b S (upS O 4 i g1) (if h0 < 8 then h0 + 1 else 8) (pushH h0 f (i : Int)) (pushH h0 g (oG O i : Int)) z K M2 → (∀ p, 110 ≤ p → M2 p = M p) → Post (some (vi v)) M2) : Sp gg yX10_fill cX10_fill 4 (some .int) rmX10_fill [vr 0, vi x, vi y] ad N pT M Post := by
  refine Sp.intro (ls := [some (vr 0), some (vi x), some (vi y), none]) (by decide +kernel) rfl (Nat.le_of_ble_eq_true rfl) fun κ hgg h hr ha => ?_
  have h : Ok κ RX10 cX10_fill 4 rmX10_fill := h
  subst hgg
  obtain ⟨hs, hdr, hs82, hdr82, hsd, hs96, hd96⟩ := hR.isS hN
  have hm9 := hR.m9
  have hm10 := hR.m10
  have hwL := hR.ws.1
  have hwT := hR.ws.2.1
  have r9 := hR.so.1.1
  have r10 := hR.so.1.2.1
  have r11 := hR.so.1.2.2.1
  have w4 := hR.ws.2.2.2.1
  have w5 := hR.ws.2.2.2.2.1
  refine e_aload_n h dX10_fill_0 (pc := 0) rfl ?_
  refine e_iload_n h dX10_fill_1 (pc := 1) rfl ?_
  refine e_callV1 lk_X10_132 mv_X10_isTown dX10_fill_2 (pc := 2) rfl (by decide) (Nat.lt_of_lt_of_le (by decide) hN) (Nat.le_of_ble_eq_true rfl) (rmY := rmX10_isTown) (by decide) h ?_
  refine c_isTown hN hR hxx (fun i ex hii => ?_) (fun hzx => ?_)
  · subst ex
    refine e_if_eq h (tgt := 18) dX10_fill_5 (pc := 5) (by decide) (by decide) (fun hz => absurd hz (by decide)) (fun _ => ?_)
    refine e_iload_n h dX10_fill_8 (pc := 8) rfl ?_
    refine e_iconst h dX10_fill_9 (pc := 9)  ?_
    refine e_bipush h dX10_fill_10 (pc := 10) (by decide +kernel) ?_
    refine e_callS3 lk_X10_121 ms_X10_isWithin dX10_fill_12 (pc := 12) (Nat.le_of_ble_eq_true rfl) (rmY := rmX10_isWithin) (by decide) h ?_
    refine c_isWithin hxy (by decide) (by decide) (fun hzy => ?_) (fun hzy => ?_)
    · obtain ⟨g1, rfl⟩ : ∃ kk : Nat, y = (kk : Int) := ⟨y.toNat, by omega⟩
      refine e_if_ne h (tgt := 20) dX10_fill_15 (pc := 15) (by decide) (by decide) (fun _ => ?_) (fun hz => absurd hz (by decide))
      refine e_aload_n h dX10_fill_20 (pc := 20) rfl ?_
      refine e_getR h fl_X10_71 dX10_fill_21 (pc := 21) rfl (Nat.lt_of_lt_of_le (by decide) hN) rfl rfl (r := so) (by first | exact hm92 | exact hm9 | (simp (disch := omega) only [up_ne]; exact hm9)) ?_
      refine e_getC h fl_X10_222 dX10_fill_24 (pc := 24) hs.c0 hs.p0 rfl rfl (r := (so + 9)) (pcr_d (by rw [hs.c0]; decide) 8) ?_
      refine e_getC h fl_X10_239 dX10_fill_27 (pc := 27) hs.c9 hs.p9 rfl rfl (r := (so + 13)) (pcr_d (by rw [hs.c9]; decide) 3) ?_
      refine e_iload_n h dX10_fill_30 (pc := 30) rfl ?_
      refine e_iald h dX10_fill_31 (pc := 31) hs.c13 hs.p13 rfl (by rw [hs.l13]; omega) ?_
      have hg60 : g1 ≤ 60 := by omega
      have hg1 := hR.so.2.2.2 i hii
      have hgo := hR.wo.2.2 i hii
      rw [hg1]
      refine e_istore3 h dX10_fill_32 (pc := 32) (by decide) rfl ?_
      refine e_aload_n h dX10_fill_33 (pc := 33) rfl ?_
      refine e_getR h fl_X10_71 dX10_fill_34 (pc := 34) rfl (Nat.lt_of_lt_of_le (by decide) hN) rfl rfl (r := so) (by first | exact hm92 | exact hm9 | (simp (disch := omega) only [up_ne]; exact hm9)) ?_
      refine e_getC h fl_X10_222 dX10_fill_37 (pc := 37) hs.c0 hs.p0 rfl rfl (r := (so + 9)) (pcr_d (by rw [hs.c0]; decide) 8) ?_
      refine e_getC h fl_X10_239 dX10_fill_40 (pc := 40) hs.c9 hs.p9 rfl rfl (r := (so + 13)) (pcr_d (by rw [hs.c9]; decide) 3) ?_
      refine e_iload_n h dX10_fill_43 (pc := 43) rfl ?_
      refine e_iload_n h dX10_fill_44 (pc := 44) rfl ?_
      refine e_iast h dX10_fill_45 (pc := 45) hs.c13 hs.p13 rfl (by rw [hs.l13]; omega) ?_
      refine e_aload_n h dX10_fill_46 (pc := 46) rfl ?_
      refine e_getC h fl_X10_57 dX10_fill_47 (pc := 47) rfl (Nat.lt_of_lt_of_le (by decide) hN) rfl rfl (r := 67) rfl ?_
      refine e_iload_n h dX10_fill_50 (pc := 50) rfl ?_
      refine e_iload_n h dX10_fill_51 (pc := 51) rfl ?_
      refine e_callV2 lk_X10_232 mv_X3_note dX10_fill_52 (pc := 52) rfl (by decide) (Nat.lt_of_lt_of_le (by decide) hN) (Nat.le_of_ble_eq_true rfl) (rmY := rmX3_note) (by decide) h ?_
      refine c_hnote (h0 := h0) (f := f) (g := g) hN (hR.hr.to (up_row (by omega)) (up_row (by omega)) (up_row (by omega))) hR.h8 (fun M2 hh2 hf2 => ?_)
      refine e_aload_n h dX10_fill_55 (pc := 55) rfl ?_
      refine e_iconst h dX10_fill_56 (pc := 56)  ?_
      refine e_putZ h fl_X10_78 dX10_fill_57 (pc := 57) rfl (Nat.lt_of_lt_of_le (by decide) hN) rfl (by decide) ?_
      refine e_iload_n h dX10_fill_60 (pc := 60) rfl ?_
      refine e_iret h hr ha dX10_fill_61 (pc := 61) ?_
      exact kt i g1 _ _ rfl rfl hii hg60 rfl ⟨hR.ds, (by simp (disch := omega) only [up_eq, up_ne]; rw [hf2 0 (by omega), up_row (by omega)]; exact hR.m9), (by simp (disch := omega) only [up_eq, up_ne]; rw [hf2 0 (by omega), up_row (by omega)]; exact hR.m10), (hR.tx.to (by rw [up_row (by omega), hf2 1 (by omega), up_row (by omega)]) (by rw [up_row (by omega), hf2 2 (by omega), up_row (by omega)])), ⟨hR.so.1.to (fun p a b => by rw [up_row (by omega), hf2 p (by omega), up_row (by omega)]), (OR_gas hR.so.2 (by omega) (by omega) (by omega) (by omega)).to (by rw [up_row (by omega), hf2 _ (by omega)]) (by rw [up_row (by omega), hf2 _ (by omega)]) (by rw [up_row (by omega), hf2 _ (by omega)]) (by rw [up_row (by omega), hf2 _ (by omega)]) (by rw [up_row (by omega), hf2 _ (by omega)])⟩, hR.ws, (WO_gas hR.wo hg60), (hR.bs.to (by rw [up_row (by omega), hf2 (so + 12) (by omega), up_row (by omega)])), (hR.bd.to (by rw [up_row (by omega), hf2 (dr + 12) (by omega), up_row (by omega)])), (hh2.to (up_row (by omega)) (up_row (by omega)) (up_row (by omega))), (by split <;> omega), (HW_fill hR.hw hR.h8 rfl hii rfl (by omega)), ((congrFun (by rw [up_row (by omega), hf2 70 (by omega), up_row (by omega)]) 1).trans hR.m70), hR.z2, (hR.kp.to hR.z2 (fun p a b => (by rw [up_row (by omega), hf2 p (by omega), up_row (by omega)]))), (Or.inl (up_eq _ _ _ _)), (hR.od.to (by rw [up_row (by omega), hf2 64 (by omega), up_row (by omega)])), (hR.ch.to (by rw [up_row (by omega), hf2 61 (by omega), up_row (by omega)])), (hR.ja.to (by rw [up_row (by omega), hf2 62 (by omega), up_row (by omega)])), (hR.jb.to (by rw [up_row (by omega), hf2 63 (by omega), up_row (by omega)]))⟩ (fun p hp => by rw [up_row (by omega), hf2 p (by omega), up_row (by omega)])
    · skip
      refine e_if_ne h (tgt := 20) dX10_fill_15 (pc := 15) (by decide) (by decide) (fun hz => absurd hz (by decide)) (fun _ => ?_)
      refine e_iconst h dX10_fill_18 (pc := 18)  ?_
      refine e_iret h hr ha dX10_fill_19 (pc := 19) ?_
      exact kb (by omega)
  · skip
    refine e_if_eq h (tgt := 18) dX10_fill_5 (pc := 5) (by decide) (by decide) (fun _ => ?_) (fun hz => absurd hz (by decide))
    refine e_iconst h dX10_fill_18 (pc := 18)  ?_
    refine e_iret h hr ha dX10_fill_19 (pc := 19) ?_
    exact kb (by omega)
