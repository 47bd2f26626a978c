theorem MO_tell {O : SD} {T c t d u : Nat} {v : Int} {M : Mem} (h : MO O T M c) (hv : v = M 124 c + 1) : MO (tellO O t d u) T (up (up (up (up M 125 (8 * c + oE O) t) 126 (8 * c + oE O) d) 127 (8 * c + oE O) u) 124 c v) c := by
  obtain ⟨a, b, e0⟩ := h
  refine ⟨by rw [up_eq, hv, a, tellO_E]; omega, fun k hk => ?_, fun i hi => by simp (disch := omega) only [up_ne]; exact e0 i hi⟩
  rw [tellO_E] at hk
  by_cases e : k = oE O
  · subst e
    refine ⟨?_, ?_, ?_⟩
    · simp (disch := omega) only [up_eq, up_ne]; simp [tellO, upS, oW]
    · simp (disch := omega) only [up_eq, up_ne]; simp [tellO, upS, oD]
    · simp (disch := omega) only [up_eq, up_ne]; simp [tellO, upS, oU]
  · have z := b k (by omega)
    refine ⟨?_, ?_, ?_⟩
    · simp (disch := omega) only [up_eq, up_ne]; rw [z.1]; simp [tellO, upS, oW, e]
    · simp (disch := omega) only [up_eq, up_ne]; rw [z.2.1]; simp [tellO, upS, oD, e]
    · simp (disch := omega) only [up_eq, up_ne]; rw [z.2.2]; simp [tellO, upS, oU, e]
theorem MO_gas {O : SD} {T i x : Nat} {M : Mem} (h : MO O T M 0) : MO (upS O 4 i x) T (up M 123 i (x : Int)) 0 := by
  obtain ⟨a, b, c⟩ := h
  refine ⟨by rw [up_ne (by omega), a]; rfl, fun k hk => ?_, fun j hj => ?_⟩
  · have z := b k hk
    simp (disch := omega) only [up_ne]
    exact z
  · by_cases e : j = i
    · subst e; rw [show 6 * 0 + j = j by omega, up_eq]; simp [upS, oG]
    · rw [up_ne (by omega), c j hj]; simp [upS, oG, e]
theorem MO_drop {O : SD} {T : Nat} {M : Mem} {v : Int} (h : MO O T M 0) (he : 0 < oE O) (hv : v = M 124 0 - 1) : MO (upS O 0 0 (oE O - 1)) T (up M 124 0 v) 0 := by
  obtain ⟨a, b, c⟩ := h
  have e : oE (upS O 0 0 (oE O - 1)) = oE O - 1 := rfl
  refine ⟨by rw [up_eq, hv, a, e]; omega, fun k hk => ?_, fun j hj => by rw [up_ne (by omega)]; exact c j hj⟩
  rw [e] at hk
  have z := b k (by omega)
  simp (disch := omega) only [up_ne]
  exact z
set_option maxRecDepth 100000 in
set_option maxHeartbeats 4000000 in
theorem m_addErrand {gg : GT} {ad : Nat → Nat} {N : Nat} {M : Mem} {Post : Option AV → Mem → Prop} {O : SD} {T c t d u : Nat}  {xc : Int} (hxc : xc = (c : Int)) {xt : Int} (hxt : xt = (t : Int)) {xd : Int} (hxd : xd = (d : Int)) {xu : Int} (hxu : xu = (u : Int))  (hN : 139 ≤ N) (hc : c ≤ 1) (hm : MO O T M c) (he8 : oE O < 8) (K : ∀ M2 : Mem, MO (tellO O t d u) T M2 c → (∀ O2 T2 d2, d2 ≠ c → oE O2 ≤ 8 → T2 ≤ 6 → MO O2 T2 M d2 → MO O2 T2 M2 d2) → (∀ q, q ≠ 124 → q ≠ 125 → q ≠ 126 → q ≠ 127 → M2 q = M q) → Post none M2) : Sp gg yX11_addErrand cX11_addErrand 5 none rmX11_addErrand [vr 110, vi xc, vi xt, vi xd, vi xu] ad N pT M Post := by
  refine Sp.intro (ls := [some (vr 110), some (vi xc), some (vi xt), some (vi xd), some (vi xu)]) (by decide +kernel) rfl (Nat.le_of_ble_eq_true rfl) fun κ hgg h hr ha => ?_
  have h : Ok κ RX11 cX11_addErrand 5 rmX11_addErrand := h
  subst hgg
  subst hxc
  subst hxt
  subst hxd
  subst hxu
  have hE := hm.1
  refine e_aload_n h dX11_addErrand_0 (pc := 0) rfl ?_
  refine e_getC h fl_X11_52 dX11_addErrand_1 (pc := 1) rfl (Nat.lt_of_lt_of_le (by decide) hN) rfl rfl (r := 125) rfl ?_
  refine e_bipush h dX11_addErrand_4 (pc := 4) (by decide +kernel) ?_
  refine e_iload_n h dX11_addErrand_6 (pc := 6) rfl ?_
  refine e_imul h dX11_addErrand_7 (pc := 7)  ?_
  refine e_aload_n h dX11_addErrand_8 (pc := 8) rfl ?_
  refine e_getC h fl_X11_49 dX11_addErrand_9 (pc := 9) rfl (Nat.lt_of_lt_of_le (by decide) hN) rfl rfl (r := 124) rfl ?_
  refine e_iload_n h dX11_addErrand_12 (pc := 12) rfl ?_
  refine e_iald h dX11_addErrand_13 (pc := 13) rfl (Nat.lt_of_lt_of_le (by decide) hN) rfl (by show _ < 4; omega) ?_
  refine e_iadd h dX11_addErrand_14 (pc := 14)  ?_
  refine e_iload_n h dX11_addErrand_15 (pc := 15) rfl ?_
  refine e_iast h dX11_addErrand_16 (pc := 16) rfl (Nat.lt_of_lt_of_le (by decide) hN) (j := (8 * c + oE O)) (by omega) (by show _ < 32; omega) ?_
  refine e_aload_n h dX11_addErrand_17 (pc := 17) rfl ?_
  refine e_getC h fl_X11_55 dX11_addErrand_18 (pc := 18) rfl (Nat.lt_of_lt_of_le (by decide) hN) rfl rfl (r := 126) rfl ?_
  refine e_bipush h dX11_addErrand_21 (pc := 21) (by decide +kernel) ?_
  refine e_iload_n h dX11_addErrand_23 (pc := 23) rfl ?_
  refine e_imul h dX11_addErrand_24 (pc := 24)  ?_
  refine e_aload_n h dX11_addErrand_25 (pc := 25) rfl ?_
  refine e_getC h fl_X11_49 dX11_addErrand_26 (pc := 26) rfl (Nat.lt_of_lt_of_le (by decide) hN) rfl rfl (r := 124) rfl ?_
  refine e_iload_n h dX11_addErrand_29 (pc := 29) rfl ?_
  refine e_iald h dX11_addErrand_30 (pc := 30) rfl (Nat.lt_of_lt_of_le (by decide) hN) rfl (by show _ < 4; omega) ?_
  try simp (disch := omega) only [up_eq, up_ne]
  refine e_iadd h dX11_addErrand_31 (pc := 31)  ?_
  refine e_iload_n h dX11_addErrand_32 (pc := 32) rfl ?_
  refine e_iast h dX11_addErrand_33 (pc := 33) rfl (Nat.lt_of_lt_of_le (by decide) hN) (j := (8 * c + oE O)) (by omega) (by show _ < 32; omega) ?_
  refine e_aload_n h dX11_addErrand_34 (pc := 34) rfl ?_
  refine e_getC h fl_X11_58 dX11_addErrand_35 (pc := 35) rfl (Nat.lt_of_lt_of_le (by decide) hN) rfl rfl (r := 127) rfl ?_
  refine e_bipush h dX11_addErrand_38 (pc := 38) (by decide +kernel) ?_
  refine e_iload_n h dX11_addErrand_40 (pc := 40) rfl ?_
  refine e_imul h dX11_addErrand_41 (pc := 41)  ?_
  refine e_aload_n h dX11_addErrand_42 (pc := 42) rfl ?_
  refine e_getC h fl_X11_49 dX11_addErrand_43 (pc := 43) rfl (Nat.lt_of_lt_of_le (by decide) hN) rfl rfl (r := 124) rfl ?_
  refine e_iload_n h dX11_addErrand_46 (pc := 46) rfl ?_
  refine e_iald h dX11_addErrand_47 (pc := 47) rfl (Nat.lt_of_lt_of_le (by decide) hN) rfl (by show _ < 4; omega) ?_
  try simp (disch := omega) only [up_eq, up_ne]
  refine e_iadd h dX11_addErrand_48 (pc := 48)  ?_
  refine e_iload h dX11_addErrand_49 (pc := 49) rfl ?_
  refine e_iast h dX11_addErrand_51 (pc := 51) rfl (Nat.lt_of_lt_of_le (by decide) hN) (j := (8 * c + oE O)) (by omega) (by show _ < 32; omega) ?_
  refine e_aload_n h dX11_addErrand_52 (pc := 52) rfl ?_
  refine e_getC h fl_X11_49 dX11_addErrand_53 (pc := 53) rfl (Nat.lt_of_lt_of_le (by decide) hN) rfl rfl (r := 124) rfl ?_
  refine e_iload_n h dX11_addErrand_56 (pc := 56) rfl ?_
  refine e_dup2 h dX11_addErrand_57 (pc := 57) rfl rfl ?_
  refine e_iald h dX11_addErrand_58 (pc := 58) rfl (Nat.lt_of_lt_of_le (by decide) hN) rfl (by show _ < 4; omega) ?_
  try simp (disch := omega) only [up_eq, up_ne]
  refine e_iconst h dX11_addErrand_59 (pc := 59)  ?_
  refine e_iadd h dX11_addErrand_60 (pc := 60)  ?_
  refine e_iast h dX11_addErrand_61 (pc := 61) rfl (Nat.lt_of_lt_of_le (by decide) hN) rfl (by show _ < 4; omega) ?_
  refine e_vret h hr ha dX11_addErrand_62 (pc := 62) ?_
  refine K _ (MO_tell hm (by first | rfl | simp (disch := omega) only [up_eq, up_ne])) (fun O2 T2 d2 hd2 h8 h6 hm2 => ⟨by simp (disch := omega) only [up_eq, up_ne]; exact hm2.1, fun j hj => by simp (disch := omega) only [up_eq, up_ne]; exact hm2.2.1 j hj, fun j hj => by simp (disch := omega) only [up_eq, up_ne]; exact hm2.2.2 j hj⟩) (fun q h1 h2 h3 h4 => by rw [up_row (by omega), up_row (by omega), up_row (by omega), up_row (by omega)])
set_option maxRecDepth 100000 in
set_option maxHeartbeats 4000000 in
theorem m_errand {gg : GT} {ad : Nat → Nat} {N : Nat} {M : Mem} {Post : Option AV → Mem → Prop} {n : Nat} {b : TB} {S O : SD} {h0 : Nat} {f g : Nat → Int} {z : Nat} {K : Nat → SD} {x y : Int} {u1 : Nat} {xu : Int}   (hxu : xu = (u1 : Int)) (hN : 139 ≤ N) (hR : RepM n b S O h0 f g z K M) (hxx : (-2147483648 ≤ x ∧ x ≤ 2147483647)) (hxy : (-2147483648 ≤ y ∧ y ≤ 2147483647)) (hu1 : u1 ≤ 1) (kb : ¬ (0 ≤ x ∧ x < sT S ∧ 1 ≤ y ∧ y ≤ 60) → Post (some (vi (-1))) M) (kf : ∀ (i d1 : Nat), x = (i : Int) → y = (d1 : Int) → i < sT S → (1 ≤ d1 ∧ d1 ≤ 60) → oE O = 8 → Post (some (vi (-3))) M) (kt : ∀ (i d1 : Nat) (M2 : Mem) (v : Int), x = (i : Int) → y = (d1 : Int) → i < sT S → (1 ≤ d1 ∧ d1 ≤ 60) → oE O < 8 → v = ((oE O + 1 : Nat) : Int) → RepM n b S (tellO O i d1 u1) (if h0 < 8 then h0 + 1 else 8) (pushH h0 f (i : Int)) (pushH h0 g (-1)) z K M2 → (∀ p, p < 110 → M2 p = M p) → Post (some (vi v)) M2) : Sp gg yX11_errand cX11_errand 4 (some .int) rmX11_errand [vr 110, vi x, vi y, vi xu] ad N pT M Post := by
  refine Sp.intro (ls := [some (vr 110), some (vi x), some (vi y), some (vi xu)]) (by decide +kernel) rfl (Nat.le_of_ble_eq_true rfl) fun κ hgg h hr ha => ?_
  have h : Ok κ RX11 cX11_errand 4 rmX11_errand := h
  subst hgg
  subst hxu
  have hwL := hR.ws.1
  have hwT := hR.ws.2.1
  have hwB := hR.ws.2.2.1
  have w4 := hR.ws.2.2.2.1
  have w5 := hR.ws.2.2.2.2.1
  have r9 := hR.ms.1
  have r10 := hR.ms.2.1
  have r11 := hR.ms.2.2.1
  have hmo1 := hR.mo.1
  have hwo8 := hR.wo.1
  refine e_aload_n h dX11_errand_0 (pc := 0) rfl ?_
  refine e_iload_n h dX11_errand_1 (pc := 1) rfl ?_
  refine e_callV1 lk_X11_180 mv_X11_isTown dX11_errand_2 (pc := 2) rfl (by decide) (Nat.lt_of_lt_of_le (by decide) hN) (Nat.le_of_ble_eq_true rfl) (rmY := rmX11_isTown) (by decide) h ?_
  refine m_isTown hN hR hxx (fun i ex hii => ?_) (fun hzx => ?_)
  · subst ex
    refine e_if_eq h (tgt := 20) dX11_errand_5 (pc := 5) (by decide) (by decide) (fun hz => absurd hz (by decide)) (fun _ => ?_)
    refine e_iload_n h dX11_errand_8 (pc := 8) rfl ?_
    refine e_i2l h dX11_errand_9 (pc := 9) (by omega) ?_
    refine e_lconst h dX11_errand_10 (pc := 10) (x := 1) rfl ?_
    refine e_ldc2 h dX11_errand_11 (pc := 11) (x := 60) kl_X11_130 rfl ?_
    refine e_callS3 lk_X11_97 ms_X11_in dX11_errand_14 (pc := 14) (Nat.le_of_ble_eq_true rfl) (rmY := rmX11_in) (by decide) h ?_
    refine c_in (by omega) (by omega) (by omega) (fun hzy => ?_) (fun hzy => ?_)
    · obtain ⟨d1, rfl⟩ : ∃ kk : Nat, y = (kk : Int) := ⟨y.toNat, by omega⟩
      refine e_if_ne h (tgt := 22) dX11_errand_17 (pc := 17) (by decide) (by decide) (fun _ => ?_) (fun hz => absurd hz (by decide))
      refine e_aload_n h dX11_errand_22 (pc := 22) rfl ?_
      refine e_getC h fl_X11_49 dX11_errand_23 (pc := 23) rfl (Nat.lt_of_lt_of_le (by decide) hN) rfl rfl (r := 124) rfl ?_
      refine e_iconst h dX11_errand_26 (pc := 26)  ?_
      refine e_iald h dX11_errand_27 (pc := 27) rfl (Nat.lt_of_lt_of_le (by decide) hN) (j := 0) rfl (by decide) ?_
      refine e_bipush h dX11_errand_28 (pc := 28) (by decide +kernel) ?_
      refine e_icmp_ne h (tgt := 36) dX11_errand_30 (pc := 30) (by decide) (by omega) (by decide) (fun hb30 => ?_) (fun hb30 => ?_)
      · skip
        refine e_aload_n h dX11_errand_36 (pc := 36) rfl ?_
        refine e_bipush h dX11_errand_37 (pc := 37) (by decide +kernel) ?_
        refine e_iconst h dX11_errand_39 (pc := 39)  ?_
        refine e_callV2 lk_X11_226 mv_X11_note dX11_errand_40 (pc := 40) rfl (by decide) (Nat.lt_of_lt_of_le (by decide) hN) (Nat.le_of_ble_eq_true rfl) (rmY := rmX11_note) (by decide) h ?_
        refine m_note (h0 := h0) (f := f) (g := g) (fx := (i : Int)) (gy := -1) hN hR.un hR.h8 ⟨fun _ => rfl, fun q => absurd rfl q⟩ (fun M2 hu2 hf2 => ?_)
        have hwo := hR.wo
        have hlt : oE O < 8 := by have := hwo.1; omega
        have hdd : 1 ≤ d1 ∧ d1 ≤ 60 := by omega
        have hmo2 : MO O (sT S) M2 0 := (MO_0.2 hR.mo).to (by funext j; exact hf2 123 j (by omega)) (by funext j; exact hf2 124 j (by omega)) (by funext j; exact hf2 125 j (by omega)) (by funext j; exact hf2 126 j (by omega)) (by funext j; exact hf2 127 j (by omega))
        refine e_aload_n h dX11_errand_43 (pc := 43) rfl ?_
        refine e_iconst h dX11_errand_44 (pc := 44)  ?_
        refine e_iload_n h dX11_errand_45 (pc := 45) rfl ?_
        refine e_iload_n h dX11_errand_46 (pc := 46) rfl ?_
        refine e_iload_n h dX11_errand_47 (pc := 47) rfl ?_
        refine e_if_eq h (tgt := 55) dX11_errand_48 (pc := 48) (by decide) (by omega) (fun hb48 => ?_) (fun hb48 => ?_)
        · refine e_iconst h dX11_errand_55 (pc := 55)  ?_
          refine e_callV4 lk_X11_132 mv_X11_addErrand dX11_errand_56 (pc := 56) rfl (by decide) (Nat.lt_of_lt_of_le (by decide) hN) (Nat.le_of_ble_eq_true rfl) (rmY := rmX11_addErrand) (by decide) h ?_
          refine m_addErrand (c := 0) (t := i) (d := d1) (u := u1) (O := O) (T := sT S) rfl rfl rfl (by omega) hN (by omega) hmo2 hlt (fun M3 hmo hkp hf3 => ?_)
          refine e_aload_n h dX11_errand_59 (pc := 59) rfl ?_
          refine e_getC h fl_X11_49 dX11_errand_60 (pc := 60) rfl (Nat.lt_of_lt_of_le (by decide) hN) rfl rfl (r := 124) rfl ?_
          refine e_iconst h dX11_errand_63 (pc := 63)  ?_
          refine e_iald h dX11_errand_64 (pc := 64) rfl (Nat.lt_of_lt_of_le (by decide) hN) (j := 0) rfl (by decide) ?_
          refine e_iret h hr ha dX11_errand_65 (pc := 65) ?_
          exact kt i d1 M3 _ rfl rfl hii hdd hlt hmo.1 ⟨(hR.tx.to (by rw [hf3 110 (by omega) (by omega) (by omega) (by omega)]; exact hf2 110 0 (by omega)) (by rw [hf3 111 (by omega) (by omega) (by omega) (by omega)]; funext j; exact hf2 111 j (by omega))), (hR.ms.to (by rw [hf3 112 (by omega) (by omega) (by omega) (by omega)]; funext j; exact hf2 112 j (by omega)) (by rw [hf3 113 (by omega) (by omega) (by omega) (by omega)]; funext j; exact hf2 113 j (by omega)) (by rw [hf3 114 (by omega) (by omega) (by omega) (by omega)]; funext j; exact hf2 114 j (by omega)) (by rw [hf3 115 (by omega) (by omega) (by omega) (by omega)]; funext j; exact hf2 115 j (by omega)) (by rw [hf3 116 (by omega) (by omega) (by omega) (by omega)]; funext j; exact hf2 116 j (by omega)) (by rw [hf3 117 (by omega) (by omega) (by omega) (by omega)]; funext j; exact hf2 117 j (by omega)) (by rw [hf3 118 (by omega) (by omega) (by omega) (by omega)]; funext j; exact hf2 118 j (by omega)) (by rw [hf3 119 (by omega) (by omega) (by omega) (by omega)]; funext j; exact hf2 119 j (by omega)) (by rw [hf3 120 (by omega) (by omega) (by omega) (by omega)]; funext j; exact hf2 120 j (by omega)) (by rw [hf3 121 (by omega) (by omega) (by omega) (by omega)]; funext j; exact hf2 121 j (by omega)) (by rw [hf3 122 (by omega) (by omega) (by omega) (by omega)]; funext j; exact hf2 122 j (by omega))), (MO_0.1 hmo), hR.ws, (WO_tell hR.wo hlt hii hdd hu1), (hu2.to (by rw [hf3 110 (by omega) (by omega) (by omega) (by omega)]) (hf3 128 (by omega) (by omega) (by omega) (by omega))), (by split <;> omega), (HW_errand hR.hw hR.h8 tellO_E), (Eq.trans (by rw [hf3 110 (by omega) (by omega) (by omega) (by omega)]; exact hf2 110 18 (by omega)) hR.m18), hR.z2, (fun k hk => ⟨hkp _ _ _ (by omega) (hR.kp k hk).2.1 hwT.2 ((hR.kp k hk).1.to (by funext j; exact hf2 123 j (by omega)) (by funext j; exact hf2 124 j (by omega)) (by funext j; exact hf2 125 j (by omega)) (by funext j; exact hf2 126 j (by omega)) (by funext j; exact hf2 127 j (by omega))), (hR.kp k hk).2⟩)⟩ (fun p hp => by rw [hf3 p (by omega) (by omega) (by omega) (by omega)]; funext j; exact hf2 p j (by omega))
        · refine e_iconst h dX11_errand_51 (pc := 51)  ?_
          refine e_goto h dX11_errand_52 (pc := 52) (tgt := 56) (by decide) ?_
          refine e_callV4 lk_X11_132 mv_X11_addErrand dX11_errand_56 (pc := 56) rfl (by decide) (Nat.lt_of_lt_of_le (by decide) hN) (Nat.le_of_ble_eq_true rfl) (rmY := rmX11_addErrand) (by decide) h ?_
          refine m_addErrand (c := 0) (t := i) (d := d1) (u := u1) (O := O) (T := sT S) rfl rfl rfl (by omega) hN (by omega) hmo2 hlt (fun M3 hmo hkp hf3 => ?_)
          refine e_aload_n h dX11_errand_59 (pc := 59) rfl ?_
          refine e_getC h fl_X11_49 dX11_errand_60 (pc := 60) rfl (Nat.lt_of_lt_of_le (by decide) hN) rfl rfl (r := 124) rfl ?_
          refine e_iconst h dX11_errand_63 (pc := 63)  ?_
          refine e_iald h dX11_errand_64 (pc := 64) rfl (Nat.lt_of_lt_of_le (by decide) hN) (j := 0) rfl (by decide) ?_
          refine e_iret h hr ha dX11_errand_65 (pc := 65) ?_
          exact kt i d1 M3 _ rfl rfl hii hdd hlt hmo.1 ⟨(hR.tx.to (by rw [hf3 110 (by omega) (by omega) (by omega) (by omega)]; exact hf2 110 0 (by omega)) (by rw [hf3 111 (by omega) (by omega) (by omega) (by omega)]; funext j; exact hf2 111 j (by omega))), (hR.ms.to (by rw [hf3 112 (by omega) (by omega) (by omega) (by omega)]; funext j; exact hf2 112 j (by omega)) (by rw [hf3 113 (by omega) (by omega) (by omega) (by omega)]; funext j; exact hf2 113 j (by omega)) (by rw [hf3 114 (by omega) (by omega) (by omega) (by omega)]; funext j; exact hf2 114 j (by omega)) (by rw [hf3 115 (by omega) (by omega) (by omega) (by omega)]; funext j; exact hf2 115 j (by omega)) (by rw [hf3 116 (by omega) (by omega) (by omega) (by omega)]; funext j; exact hf2 116 j (by omega)) (by rw [hf3 117 (by omega) (by omega) (by omega) (by omega)]; funext j; exact hf2 117 j (by omega)) (by rw [hf3 118 (by omega) (by omega) (by omega) (by omega)]; funext j; exact hf2 118 j (by omega)) (by rw [hf3 119 (by omega) (by omega) (by omega) (by omega)]; funext j; exact hf2 119 j (by omega)) (by rw [hf3 120 (by omega) (by omega) (by omega) (by omega)]; funext j; exact hf2 120 j (by omega)) (by rw [hf3 121 (by omega) (by omega) (by omega) (by omega)]; funext j; exact hf2 121 j (by omega)) (by rw [hf3 122 (by omega) (by omega) (by omega) (by omega)]; funext j; exact hf2 122 j (by omega))), (MO_0.1 hmo), hR.ws, (WO_tell hR.wo hlt hii hdd hu1), (hu2.to (by rw [hf3 110 (by omega) (by omega) (by omega) (by omega)]) (hf3 128 (by omega) (by omega) (by omega) (by omega))), (by split <;> omega), (HW_errand hR.hw hR.h8 tellO_E), (Eq.trans (by rw [hf3 110 (by omega) (by omega) (by omega) (by omega)]; exact hf2 110 18 (by omega)) hR.m18), hR.z2, (fun k hk => ⟨hkp _ _ _ (by omega) (hR.kp k hk).2.1 hwT.2 ((hR.kp k hk).1.to (by funext j; exact hf2 123 j (by omega)) (by funext j; exact hf2 124 j (by omega)) (by funext j; exact hf2 125 j (by omega)) (by funext j; exact hf2 126 j (by omega)) (by funext j; exact hf2 127 j (by omega))), (hR.kp k hk).2⟩)⟩ (fun p hp => by rw [hf3 p (by omega) (by omega) (by omega) (by omega)]; funext j; exact hf2 p j (by omega))
      · skip
        refine e_bipush h dX11_errand_33 (pc := 33) (by decide +kernel) ?_
        refine e_iret h hr ha dX11_errand_35 (pc := 35) ?_
        exact kf i d1 rfl rfl hii (by omega) (by have := hR.mo.1; omega)
    · skip
      refine e_if_ne h (tgt := 22) dX11_errand_17 (pc := 17) (by decide) (by decide) (fun hz => absurd hz (by decide)) (fun _ => ?_)
      refine e_iconst h dX11_errand_20 (pc := 20)  ?_
      refine e_iret h hr ha dX11_errand_21 (pc := 21) ?_
      exact kb (by omega)
  · skip
    refine e_if_eq h (tgt := 20) dX11_errand_5 (pc := 5) (by decide) (by decide) (fun _ => ?_) (fun hz => absurd hz (by decide))
    refine e_iconst h dX11_errand_20 (pc := 20)  ?_
    refine e_iret h hr ha dX11_errand_21 (pc := 21) ?_
    exact kb (by omega)
set_option maxRecDepth 100000 in
set_option maxHeartbeats 4000000 in
theorem m_fill {gg : GT} {ad : Nat → Nat} {N : Nat} {M : Mem} {Post : Option AV → Mem → Prop} {n : Nat} {b : TB} {S O : SD} {h0 : Nat} {f g : Nat → Int} {z : Nat} {K : Nat → SD} {x y : Int}   (hN : 139 ≤ N) (hR : RepM n b S O h0 f g z K M) (hxx : (-2147483648 ≤ x ∧ x ≤ 2147483647)) (hxy : (-2147483648 ≤ y ∧ y ≤ 2147483647)) (kb : ¬ (0 ≤ x ∧ x < sT S ∧ 0 ≤ y ∧ y ≤ 60) → Post (some (vi (-1))) M) (kt : ∀ (i g1 : Nat) (M2 : Mem) (v : Int), x = (i : Int) → y = (g1 : Int) → i < sT S → g1 ≤ 60 → v = (oG O i : Int) → RepM n b S (upS O 4 i g1) (if h0 < 8 then h0 + 1 else 8) (pushH h0 f (i : Int)) (pushH h0 g (oG O i : Int)) z K M2 → (∀ p, p < 110 → M2 p = M p) → Post (some (vi v)) M2) : Sp gg yX11_fill cX11_fill 4 (some .int) rmX11_fill [vr 110, vi x, vi y] ad N pT M Post := by
  refine Sp.intro (ls := [some (vr 110), some (vi x), some (vi y), none]) (by decide +kernel) rfl (Nat.le_of_ble_eq_true rfl) fun κ hgg h hr ha => ?_
  have h : Ok κ RX11 cX11_fill 4 rmX11_fill := h
  subst hgg
  have hwL := hR.ws.1
  have hwT := hR.ws.2.1
  have hwB := hR.ws.2.2.1
  have w4 := hR.ws.2.2.2.1
  have w5 := hR.ws.2.2.2.2.1
  have r9 := hR.ms.1
  have r10 := hR.ms.2.1
  have r11 := hR.ms.2.2.1
  refine e_aload_n h dX11_fill_0 (pc := 0) rfl ?_
  refine e_iload_n h dX11_fill_1 (pc := 1) rfl ?_
  refine e_callV1 lk_X11_180 mv_X11_isTown dX11_fill_2 (pc := 2) rfl (by decide) (Nat.lt_of_lt_of_le (by decide) hN) (Nat.le_of_ble_eq_true rfl) (rmY := rmX11_isTown) (by decide) h ?_
  refine m_isTown hN hR hxx (fun i ex hii => ?_) (fun hzx => ?_)
  · subst ex
    refine e_if_eq h (tgt := 20) dX11_fill_5 (pc := 5) (by decide) (by decide) (fun hz => absurd hz (by decide)) (fun _ => ?_)
    refine e_iload_n h dX11_fill_8 (pc := 8) rfl ?_
    refine e_i2l h dX11_fill_9 (pc := 9) (by omega) ?_
    refine e_lconst h dX11_fill_10 (pc := 10) (x := 0) rfl ?_
    refine e_ldc2 h dX11_fill_11 (pc := 11) (x := 60) kl_X11_130 rfl ?_
    refine e_callS3 lk_X11_97 ms_X11_in dX11_fill_14 (pc := 14) (Nat.le_of_ble_eq_true rfl) (rmY := rmX11_in) (by decide) h ?_
    refine c_in (by omega) (by omega) (by omega) (fun hzy => ?_) (fun hzy => ?_)
    · obtain ⟨g1, rfl⟩ : ∃ kk : Nat, y = (kk : Int) := ⟨y.toNat, by omega⟩
      refine e_if_ne h (tgt := 22) dX11_fill_17 (pc := 17) (by decide) (by decide) (fun _ => ?_) (fun hz => absurd hz (by decide))
      refine e_aload_n h dX11_fill_22 (pc := 22) rfl ?_
      refine e_getC h fl_X11_46 dX11_fill_23 (pc := 23) rfl (Nat.lt_of_lt_of_le (by decide) hN) rfl rfl (r := 123) rfl ?_
      refine e_iload_n h dX11_fill_26 (pc := 26) rfl ?_
      refine e_iald h dX11_fill_27 (pc := 27) rfl (Nat.lt_of_lt_of_le (by decide) hN) rfl (by show _ < 24; omega) ?_
      have hg60 : g1 ≤ 60 := by omega
      have hg1 := hR.mo.2.2 i hii
      have hgo := hR.wo.2.2 i hii
      rw [hg1]
      refine e_istore3 h dX11_fill_28 (pc := 28) (by decide) rfl ?_
      refine e_aload_n h dX11_fill_29 (pc := 29) rfl ?_
      refine e_iload_n h dX11_fill_30 (pc := 30) rfl ?_
      refine e_iload_n h dX11_fill_31 (pc := 31) rfl ?_
      refine e_callV2 lk_X11_226 mv_X11_note dX11_fill_32 (pc := 32) rfl (by decide) (Nat.lt_of_lt_of_le (by decide) hN) (Nat.le_of_ble_eq_true rfl) (rmY := rmX11_note) (by decide) h ?_
      refine m_note (h0 := h0) (f := f) (g := g) (fx := (i : Int)) (gy := (oG O i : Int)) hN hR.un hR.h8 ⟨fun q => absurd q (by omega), fun q => ⟨rfl, rfl⟩⟩ (fun M2 hu2 hf2 => ?_)
      refine e_aload_n h dX11_fill_35 (pc := 35) rfl ?_
      refine e_getC h fl_X11_46 dX11_fill_36 (pc := 36) rfl (Nat.lt_of_lt_of_le (by decide) hN) rfl rfl (r := 123) rfl ?_
      refine e_iload_n h dX11_fill_39 (pc := 39) rfl ?_
      refine e_iload_n h dX11_fill_40 (pc := 40) rfl ?_
      refine e_iast h dX11_fill_41 (pc := 41) rfl (Nat.lt_of_lt_of_le (by decide) hN) rfl (by show _ < 24; omega) ?_
      refine e_iload_n h dX11_fill_42 (pc := 42) rfl ?_
      refine e_iret h hr ha dX11_fill_43 (pc := 43) ?_
      exact kt i g1 _ _ rfl rfl hii hg60 rfl ⟨(hR.tx.to (by rw [up_row (by omega)]; exact hf2 110 0 (by omega)) (by rw [up_row (by omega)]; funext j; exact hf2 111 j (by omega))), (hR.ms.to (by rw [up_row (by omega)]; funext j; exact hf2 112 j (by omega)) (by rw [up_row (by omega)]; funext j; exact hf2 113 j (by omega)) (by rw [up_row (by omega)]; funext j; exact hf2 114 j (by omega)) (by rw [up_row (by omega)]; funext j; exact hf2 115 j (by omega)) (by rw [up_row (by omega)]; funext j; exact hf2 116 j (by omega)) (by rw [up_row (by omega)]; funext j; exact hf2 117 j (by omega)) (by rw [up_row (by omega)]; funext j; exact hf2 118 j (by omega)) (by rw [up_row (by omega)]; funext j; exact hf2 119 j (by omega)) (by rw [up_row (by omega)]; funext j; exact hf2 120 j (by omega)) (by rw [up_row (by omega)]; funext j; exact hf2 121 j (by omega)) (by rw [up_row (by omega)]; funext j; exact hf2 122 j (by omega))), (MO_0.1 (MO_gas ((MO_0.2 hR.mo).to (by funext j; exact hf2 123 j (by omega)) (by funext j; exact hf2 124 j (by omega)) (by funext j; exact hf2 125 j (by omega)) (by funext j; exact hf2 126 j (by omega)) (by funext j; exact hf2 127 j (by omega))))), hR.ws, (WO_gas hR.wo hg60), (hu2.to (by rw [up_row (by omega)]) (up_row (by omega))), (by split <;> omega), (HW_fill hR.hw hR.h8 rfl hii rfl (by omega)), (Eq.trans (by rw [up_row (by omega)]; exact hf2 110 18 (by omega)) hR.m18), hR.z2, (fun k hk => by
        have q := (hR.kp k hk).1.to (M2 := M2) (by funext j; exact hf2 123 j (by omega)) (by funext j; exact hf2 124 j (by omega)) (by funext j; exact hf2 125 j (by omega)) (by funext j; exact hf2 126 j (by omega)) (by funext j; exact hf2 127 j (by omega))
        exact ⟨⟨by simp (disch := omega) only [up_eq, up_ne]; exact q.1, fun j hj => by simp (disch := omega) only [up_eq, up_ne]; exact q.2.1 j hj, fun j hj => by simp (disch := omega) only [up_eq, up_ne]; exact q.2.2 j hj⟩, (hR.kp k hk).2⟩)⟩ (fun p hp => by rw [up_row (by omega)]; funext j; exact hf2 p j (by omega))
    · skip
      refine e_if_ne h (tgt := 22) dX11_fill_17 (pc := 17) (by decide) (by decide) (fun hz => absurd hz (by decide)) (fun _ => ?_)
      refine e_iconst h dX11_fill_20 (pc := 20)  ?_
      refine e_iret h hr ha dX11_fill_21 (pc := 21) ?_
      exact kb (by omega)
  · skip
    refine e_if_eq h (tgt := 20) dX11_fill_5 (pc := 5) (by decide) (by decide) (fun _ => ?_) (fun hz => absurd hz (by decide))
    refine e_iconst h dX11_fill_20 (pc := 20)  ?_
    refine e_iret h hr ha dX11_fill_21 (pc := 21) ?_
    exact kb (by omega)
