set_option maxRecDepth 100000 in
set_option maxHeartbeats 4000000 in
theorem m_undo {gg : GT} {ad : Nat → Nat} {N : Nat} {M : Mem} {Post : Option AV → Mem → Prop} {n : Nat} {b : TB} {S O : SD} {h0 : Nat} {f g : Nat → Int} {z : Nat} {K : Nat → SD}   (hN : 139 ≤ N) (hR : RepM n b S O h0 f g z K M) (kb : h0 = 0 → Post (some (vi (-2))) M) (kt : ∀ hp : Nat, h0 = hp + 1 → ∀ (M2 : Mem) (v : Int), v = (hp : Int) → RepM n b S (undoP O hp f g) hp f g z K M2 → (∀ p, p < 110 → M2 p = M p) → Post (some (vi v)) M2) : Sp gg yX11_undo cX11_undo 2 (some .int) rmX11_undo [vr 110] ad N pT M Post := by
  refine Sp.intro (ls := [some (vr 110), none]) (by decide +kernel) rfl (Nat.le_of_ble_eq_true rfl) fun κ hgg h hr ha => ?_
  have h : Ok κ RX11 cX11_undo 2 rmX11_undo := h
  subst hgg
  have hwL := hR.ws.1
  have hwT := hR.ws.2.1
  have hwB := hR.ws.2.2.1
  have w4 := hR.ws.2.2.2.1
  have w5 := hR.ws.2.2.2.2.1
  have r9 := hR.ms.1
  have r10 := hR.ms.2.1
  have r11 := hR.ms.2.2.1
  have h190 := hR.un.1
  by_cases hz : h0 = 0
  · subst hz
    refine e_aload_n h dX11_undo_0 (pc := 0) rfl ?_
    refine e_getI h fl_X11_153 dX11_undo_1 (pc := 1) rfl (Nat.lt_of_lt_of_le (by decide) hN) (by decide) ?_
    refine e_if_ne h (tgt := 10) dX11_undo_4 (pc := 4) (by decide) (by omega) (fun hb4 => absurd hb4 (by omega)) (fun hb4 => ?_)
    refine e_bipush h dX11_undo_7 (pc := 7) (by decide +kernel) ?_
    refine e_iret h hr ha dX11_undo_9 (pc := 9) ?_
    exact kb rfl
  · obtain ⟨hp, rfl⟩ : ∃ hp, h0 = hp + 1 := ⟨h0 - 1, by omega⟩
    have h8 := hR.h8
    have hwk := hR.hw.2 hp (by omega)
    have hwc : cE g hp + (if g hp = -1 then 1 else 0) ≤ oE O := hR.hw.1
    have hun := hR.un.2 hp (by omega)
    by_cases hgm : g hp = -1
    · rw [if_pos hgm] at hwc
      have hE0 : 0 < oE O := by omega
      have hm4 := hun.1 hgm
      clear hwk
      refine e_aload_n h dX11_undo_0 (pc := 0) rfl ?_
      refine e_getI h fl_X11_153 dX11_undo_1 (pc := 1) rfl (Nat.lt_of_lt_of_le (by decide) hN) (by decide) ?_
      refine e_if_ne h (tgt := 10) dX11_undo_4 (pc := 4) (by decide) (by omega) (fun hb4 => ?_) (fun hb4 => absurd hb4 (by omega))
      refine e_aload_n h dX11_undo_10 (pc := 10) rfl ?_
      refine e_dup h dX11_undo_11 (pc := 11) rfl ?_
      refine e_getI h fl_X11_153 dX11_undo_12 (pc := 12) rfl (Nat.lt_of_lt_of_le (by decide) hN) (by decide) ?_
      refine e_iconst h dX11_undo_15 (pc := 15)  ?_
      refine e_isub h dX11_undo_16 (pc := 16)  ?_
      refine e_putI h fl_X11_153 dX11_undo_17 (pc := 17) rfl (Nat.lt_of_lt_of_le (by decide) hN) rfl ?_
      refine e_aload_n h dX11_undo_20 (pc := 20) rfl ?_
      refine e_getC h fl_X11_61 dX11_undo_21 (pc := 21) rfl (Nat.lt_of_lt_of_le (by decide) hN) rfl rfl (r := 128) rfl ?_
      refine e_iconst h dX11_undo_24 (pc := 24)  ?_
      refine e_aload_n h dX11_undo_25 (pc := 25) rfl ?_
      refine e_getI h fl_X11_153 dX11_undo_26 (pc := 26) rfl (Nat.lt_of_lt_of_le (by decide) hN) (by decide) ?_
      try simp (disch := omega) only [up_eq, up_ne]
      refine e_imul h dX11_undo_29 (pc := 29)  ?_
      refine e_iald h dX11_undo_30 (pc := 30) rfl (Nat.lt_of_lt_of_le (by decide) hN) (j := (2 * hp)) (by omega) (by show _ < 16; omega) ?_
      try simp (disch := omega) only [up_eq, up_ne]
      refine e_istore1 h dX11_undo_31 (pc := 31) (by decide) rfl ?_
      refine e_iload_n h dX11_undo_32 (pc := 32) rfl ?_
      refine e_if_ge h (tgt := 49) dX11_undo_33 (pc := 33) (by decide) (by omega) (fun hb33 => absurd hb33 (by omega)) (fun hb33 => ?_)
      refine e_aload_n h dX11_undo_36 (pc := 36) rfl ?_
      refine e_getC h fl_X11_49 dX11_undo_37 (pc := 37) rfl (Nat.lt_of_lt_of_le (by decide) hN) rfl rfl (r := 124) rfl ?_
      refine e_iconst h dX11_undo_40 (pc := 40)  ?_
      refine e_dup2 h dX11_undo_41 (pc := 41) rfl rfl ?_
      refine e_iald h dX11_undo_42 (pc := 42) rfl (Nat.lt_of_lt_of_le (by decide) hN) (j := 0) rfl (by decide) ?_
      try simp (disch := omega) only [up_eq, up_ne]
      refine e_iconst h dX11_undo_43 (pc := 43)  ?_
      refine e_isub h dX11_undo_44 (pc := 44)  ?_
      refine e_iast h dX11_undo_45 (pc := 45) rfl (Nat.lt_of_lt_of_le (by decide) hN) (j := 0) rfl (by decide) ?_
      refine e_goto h dX11_undo_46 (pc := 46) (tgt := 68) (by decide) ?_
      refine e_aload_n h dX11_undo_68 (pc := 68) rfl ?_
      refine e_getI h fl_X11_153 dX11_undo_69 (pc := 69) rfl (Nat.lt_of_lt_of_le (by decide) hN) (by decide) ?_
      try simp (disch := omega) only [up_eq, up_ne]
      refine e_iret h hr ha dX11_undo_72 (pc := 72) ?_
      refine kt hp rfl _ _ ?_ ?_ (fun p hp => by rw [up_row (by omega), up_row (by omega)])
      · omega
      · have e : undoP O hp f g = upS O 0 0 (oE O - 1) := if_pos hgm
        rw [e]
        exact ⟨(hR.tx.to (by rw [up_ne (by omega), up_ne (by omega)]) (by rw [up_row (by omega), up_row (by omega)])), (hR.ms.to (by rw [up_row (by omega), up_row (by omega)]) (by rw [up_row (by omega), up_row (by omega)]) (by rw [up_row (by omega), up_row (by omega)]) (by rw [up_row (by omega), up_row (by omega)]) (by rw [up_row (by omega), up_row (by omega)]) (by rw [up_row (by omega), up_row (by omega)]) (by rw [up_row (by omega), up_row (by omega)]) (by rw [up_row (by omega), up_row (by omega)]) (by rw [up_row (by omega), up_row (by omega)]) (by rw [up_row (by omega), up_row (by omega)]) (by rw [up_row (by omega), up_row (by omega)])), (MO_0.1 (MO_drop ((MO_0.2 hR.mo).to (M2 := up M 110 19 (M 110 19 - 1)) (up_row (by omega)) (up_row (by omega)) (up_row (by omega)) (up_row (by omega)) (up_row (by omega))) hE0 (by rw [up_row (by omega)]))), hR.ws, (WO_drop hR.wo), ⟨by simp (disch := omega) only [up_eq, up_ne]; omega, fun k hk => by simp (disch := omega) only [up_eq, up_ne]; exact hR.un.2 k (by omega)⟩, (by omega), (HW_back hR.hw (by rw [if_pos hgm]; show oE O ≤ oE O - 1 + 1; omega)), (Eq.trans (by rw [up_ne (by omega), up_ne (by omega)]) hR.m18), hR.z2, (fun k hk => by
          have q := (hR.kp k hk).1
          exact ⟨⟨by simp (disch := omega) only [up_eq, up_ne]; exact q.1, fun j hj => by simp (disch := omega) only [up_eq, up_ne]; exact q.2.1 j hj, fun j hj => by simp (disch := omega) only [up_eq, up_ne]; exact q.2.2 j hj⟩, (hR.kp k hk).2⟩)⟩
    · have hG0 : (f hp = ((f hp).toNat : Int) ∧ (f hp).toNat < 6) ∧ 0 ≤ g hp ∧ g hp ≤ 60 ∧ (f hp).toNat < sT S := by
        rcases hwk with z | ⟨z1, z2, i, z3, z4⟩
        · exact absurd z hgm
        · omega
      have hm4 := hun.2 hgm
      clear hwk
      have hgp : ((g hp).toNat : Int) = g hp := by omega
      refine e_aload_n h dX11_undo_0 (pc := 0) rfl ?_
      refine e_getI h fl_X11_153 dX11_undo_1 (pc := 1) rfl (Nat.lt_of_lt_of_le (by decide) hN) (by decide) ?_
      refine e_if_ne h (tgt := 10) dX11_undo_4 (pc := 4) (by decide) (by omega) (fun hb4 => ?_) (fun hb4 => absurd hb4 (by omega))
      refine e_aload_n h dX11_undo_10 (pc := 10) rfl ?_
      refine e_dup h dX11_undo_11 (pc := 11) rfl ?_
      refine e_getI h fl_X11_153 dX11_undo_12 (pc := 12) rfl (Nat.lt_of_lt_of_le (by decide) hN) (by decide) ?_
      refine e_iconst h dX11_undo_15 (pc := 15)  ?_
      refine e_isub h dX11_undo_16 (pc := 16)  ?_
      refine e_putI h fl_X11_153 dX11_undo_17 (pc := 17) rfl (Nat.lt_of_lt_of_le (by decide) hN) rfl ?_
      refine e_aload_n h dX11_undo_20 (pc := 20) rfl ?_
      refine e_getC h fl_X11_61 dX11_undo_21 (pc := 21) rfl (Nat.lt_of_lt_of_le (by decide) hN) rfl rfl (r := 128) rfl ?_
      refine e_iconst h dX11_undo_24 (pc := 24)  ?_
      refine e_aload_n h dX11_undo_25 (pc := 25) rfl ?_
      refine e_getI h fl_X11_153 dX11_undo_26 (pc := 26) rfl (Nat.lt_of_lt_of_le (by decide) hN) (by decide) ?_
      try simp (disch := omega) only [up_eq, up_ne]
      refine e_imul h dX11_undo_29 (pc := 29)  ?_
      refine e_iald h dX11_undo_30 (pc := 30) rfl (Nat.lt_of_lt_of_le (by decide) hN) (j := (2 * hp)) (by omega) (by show _ < 16; omega) ?_
      try simp (disch := omega) only [up_eq, up_ne]
      refine e_istore1 h dX11_undo_31 (pc := 31) (by decide) rfl ?_
      refine e_iload_n h dX11_undo_32 (pc := 32) rfl ?_
      refine e_if_ge h (tgt := 49) dX11_undo_33 (pc := 33) (by decide) (by omega) (fun hb33 => ?_) (fun hb33 => absurd hb33 (by omega))
      refine e_aload_n h dX11_undo_49 (pc := 49) rfl ?_
      refine e_getC h fl_X11_46 dX11_undo_50 (pc := 50) rfl (Nat.lt_of_lt_of_le (by decide) hN) rfl rfl (r := 123) rfl ?_
      refine e_iload_n h dX11_undo_53 (pc := 53) rfl ?_
      refine e_aload_n h dX11_undo_54 (pc := 54) rfl ?_
      refine e_getC h fl_X11_61 dX11_undo_55 (pc := 55) rfl (Nat.lt_of_lt_of_le (by decide) hN) rfl rfl (r := 128) rfl ?_
      refine e_iconst h dX11_undo_58 (pc := 58)  ?_
      refine e_aload_n h dX11_undo_59 (pc := 59) rfl ?_
      refine e_getI h fl_X11_153 dX11_undo_60 (pc := 60) rfl (Nat.lt_of_lt_of_le (by decide) hN) (by decide) ?_
      try simp (disch := omega) only [up_eq, up_ne]
      refine e_imul h dX11_undo_63 (pc := 63)  ?_
      refine e_iconst h dX11_undo_64 (pc := 64)  ?_
      refine e_iadd h dX11_undo_65 (pc := 65)  ?_
      refine e_iald h dX11_undo_66 (pc := 66) rfl (Nat.lt_of_lt_of_le (by decide) hN) (j := (2 * hp + 1)) (by omega) (by show _ < 16; omega) ?_
      try simp (disch := omega) only [up_eq, up_ne]
      rw [hm4.2, ← hgp]
      refine e_iast h dX11_undo_67 (pc := 67) rfl (Nat.lt_of_lt_of_le (by decide) hN) (j := (f hp).toNat) (by omega) (by show _ < 24; omega) ?_
      refine e_aload_n h dX11_undo_68 (pc := 68) rfl ?_
      refine e_getI h fl_X11_153 dX11_undo_69 (pc := 69) rfl (Nat.lt_of_lt_of_le (by decide) hN) (by decide) ?_
      try simp (disch := omega) only [up_eq, up_ne]
      refine e_iret h hr ha dX11_undo_72 (pc := 72) ?_
      refine kt hp rfl _ _ ?_ ?_ (fun p hp => by rw [up_row (by omega), up_row (by omega)])
      · omega
      · have e : undoP O hp f g = upS O 4 (f hp).toNat (g hp).toNat := if_neg hgm
        rw [e]
        exact ⟨(hR.tx.to (by rw [up_ne (by omega), up_ne (by omega)]) (by rw [up_row (by omega), up_row (by omega)])), (hR.ms.to (by rw [up_row (by omega), up_row (by omega)]) (by rw [up_row (by omega), up_row (by omega)]) (by rw [up_row (by omega), up_row (by omega)]) (by rw [up_row (by omega), up_row (by omega)]) (by rw [up_row (by omega), up_row (by omega)]) (by rw [up_row (by omega), up_row (by omega)]) (by rw [up_row (by omega), up_row (by omega)]) (by rw [up_row (by omega), up_row (by omega)]) (by rw [up_row (by omega), up_row (by omega)]) (by rw [up_row (by omega), up_row (by omega)]) (by rw [up_row (by omega), up_row (by omega)])), (MO_0.1 (MO_gas ((MO_0.2 hR.mo).to (M2 := up M 110 19 (M 110 19 - 1)) (up_row (by omega)) (up_row (by omega)) (up_row (by omega)) (up_row (by omega)) (up_row (by omega))))), hR.ws, (WO_gas hR.wo (by omega)), ⟨by simp (disch := omega) only [up_eq, up_ne]; omega, fun k hk => by simp (disch := omega) only [up_eq, up_ne]; exact hR.un.2 k (by omega)⟩, (by omega), (HW_back hR.hw (by rw [if_neg hgm]; exact Nat.le_refl _)), (Eq.trans (by rw [up_ne (by omega), up_ne (by omega)]) hR.m18), hR.z2, (fun k hk => by
          have q := (hR.kp k hk).1
          exact ⟨⟨by simp (disch := omega) only [up_eq, up_ne]; exact q.1, fun j hj => by simp (disch := omega) only [up_eq, up_ne]; exact q.2.1 j hj, fun j hj => by simp (disch := omega) only [up_eq, up_ne]; exact q.2.2 j hj⟩, (hR.kp k hk).2⟩)⟩
set_option maxRecDepth 100000 in
set_option maxHeartbeats 4000000 in
theorem m_keep {gg : GT} {ad : Nat → Nat} {N : Nat} {M : Mem} {Post : Option AV → Mem → Prop} {n : Nat} {b : TB} {S O : SD} {h0 : Nat} {f g : Nat → Int} {z : Nat} {K : Nat → SD}   (hN : 139 ≤ N) (hR : RepM n b S O h0 f g z K M) (kb : z = 2 → Post (some (vi (-3))) M) (kt : z < 2 → ∀ (M2 : Mem) (v : Int), v = ((z + 1 : Nat) : Int) → RepM n b S O h0 f g (z + 1) (putK K z O) M2 → (∀ p, p < 110 → M2 p = M p) → Post (some (vi v)) M2) : Sp gg yX11_keep cX11_keep 1 (some .int) rmX11_keep [vr 110] ad N pT M Post := by
  refine Sp.intro (ls := [some (vr 110)]) (by decide +kernel) rfl (Nat.le_of_ble_eq_true rfl) fun κ hgg h hr ha => ?_
  have h : Ok κ RX11 cX11_keep 1 rmX11_keep := h
  subst hgg
  have hwL := hR.ws.1
  have hwT := hR.ws.2.1
  have hwB := hR.ws.2.2.1
  have w4 := hR.ws.2.2.2.1
  have w5 := hR.ws.2.2.2.2.1
  have r9 := hR.ms.1
  have r10 := hR.ms.2.1
  have r11 := hR.ms.2.2.1
  have h18 := hR.m18
  have hz2 := hR.z2
  have hwo8 := hR.wo.1
  refine e_aload_n h dX11_keep_0 (pc := 0) rfl ?_
  refine e_getI h fl_X11_150 dX11_keep_1 (pc := 1) rfl (Nat.lt_of_lt_of_le (by decide) hN) (by decide) ?_
  refine e_iconst h dX11_keep_4 (pc := 4)  ?_
  refine e_icmp_ne h (tgt := 11) dX11_keep_5 (pc := 5) (by decide) (by omega) (by decide) (fun hb5 => ?_) (fun hb5 => ?_)
  · refine e_aload_n h dX11_keep_11 (pc := 11) rfl ?_
    refine e_dup h dX11_keep_12 (pc := 12) rfl ?_
    refine e_getI h fl_X11_150 dX11_keep_13 (pc := 13) rfl (Nat.lt_of_lt_of_le (by decide) hN) (by decide) ?_
    refine e_iconst h dX11_keep_16 (pc := 16)  ?_
    refine e_iadd h dX11_keep_17 (pc := 17)  ?_
    refine e_putI h fl_X11_150 dX11_keep_18 (pc := 18) rfl (Nat.lt_of_lt_of_le (by decide) hN) rfl ?_
    refine e_aload_n h dX11_keep_21 (pc := 21) rfl ?_
    refine e_iconst h dX11_keep_22 (pc := 22)  ?_
    refine e_iconst h dX11_keep_23 (pc := 23)  ?_
    refine e_aload_n h dX11_keep_24 (pc := 24) rfl ?_
    refine e_getI h fl_X11_150 dX11_keep_25 (pc := 25) rfl (Nat.lt_of_lt_of_le (by decide) hN) (by decide) ?_
    try simp (disch := omega) only [up_eq, up_ne]
    refine e_iadd h dX11_keep_28 (pc := 28)  ?_
    refine e_callV2 lk_X11_146 mv_X11_copy dX11_keep_29 (pc := 29) rfl (by decide) (Nat.lt_of_lt_of_le (by decide) hN) (Nat.le_of_ble_eq_true rfl) (rmY := rmX11_copy) (by decide) h ?_
    refine m_copy (a := 0) (c := 2 + z) rfl (by omega) hN (by omega) (by omega) (by omega) (fun M2 c1 c2 c3 => ?_)
    refine e_aload_n h dX11_keep_32 (pc := 32) rfl ?_
    refine e_getI h fl_X11_150 dX11_keep_33 (pc := 33) rfl (Nat.lt_of_lt_of_le (by decide) hN) (by decide) ?_
    try simp (disch := omega) only [up_eq, up_ne]
    refine e_iret h hr ha dX11_keep_36 (pc := 36) ?_
    exact kt (by omega) M2 _ (by rw [c3 110 (by omega) (by omega) (by omega) (by omega) (by omega), up_eq]; omega) ⟨(hR.tx.to (by rw [c3 110 (by omega) (by omega) (by omega) (by omega) (by omega), up_ne (by omega)]) (by rw [c3 111 (by omega) (by omega) (by omega) (by omega) (by omega), up_row (by omega)])), (hR.ms.to (by rw [c3 112 (by omega) (by omega) (by omega) (by omega) (by omega), up_row (by omega)]) (by rw [c3 113 (by omega) (by omega) (by omega) (by omega) (by omega), up_row (by omega)]) (by rw [c3 114 (by omega) (by omega) (by omega) (by omega) (by omega), up_row (by omega)]) (by rw [c3 115 (by omega) (by omega) (by omega) (by omega) (by omega), up_row (by omega)]) (by rw [c3 116 (by omega) (by omega) (by omega) (by omega) (by omega), up_row (by omega)]) (by rw [c3 117 (by omega) (by omega) (by omega) (by omega) (by omega), up_row (by omega)]) (by rw [c3 118 (by omega) (by omega) (by omega) (by omega) (by omega), up_row (by omega)]) (by rw [c3 119 (by omega) (by omega) (by omega) (by omega) (by omega), up_row (by omega)]) (by rw [c3 120 (by omega) (by omega) (by omega) (by omega) (by omega), up_row (by omega)]) (by rw [c3 121 (by omega) (by omega) (by omega) (by omega) (by omega), up_row (by omega)]) (by rw [c3 122 (by omega) (by omega) (by omega) (by omega) (by omega), up_row (by omega)])), (MO_0.1 (c2 O (sT S) 0 (by omega) hwo8 hwT.2 ((MO_0.2 hR.mo).to (M2 := up M 110 18 (M 110 18 + 1)) (up_row (by omega)) (up_row (by omega)) (up_row (by omega)) (up_row (by omega)) (up_row (by omega))))), hR.ws, hR.wo, (hR.un.to (by rw [c3 110 (by omega) (by omega) (by omega) (by omega) (by omega), up_ne (by omega)]) (by rw [c3 128 (by omega) (by omega) (by omega) (by omega) (by omega), up_row (by omega)])), hR.h8, hR.hw, (by rw [c3 110 (by omega) (by omega) (by omega) (by omega) (by omega), up_eq]; omega), (by omega), (fun k hk => by
      by_cases e : k = z
      · subst e
        have hx : putK K k O k = O := if_pos rfl
        rw [hx]
        exact ⟨c1 O (sT S) hwo8 hwT.2 ((MO_0.2 hR.mo).to (M2 := up M 110 18 (M 110 18 + 1)) (up_row (by omega)) (up_row (by omega)) (up_row (by omega)) (up_row (by omega)) (up_row (by omega))), hR.wo⟩
      · have hx : putK K z O k = K k := if_neg e
        rw [hx]
        have q := hR.kp k (by omega)
        exact ⟨c2 (K k) (sT S) (2 + k) (by omega) q.2.1 hwT.2 (q.1.to (up_row (by omega)) (up_row (by omega)) (up_row (by omega)) (up_row (by omega)) (up_row (by omega))), q.2⟩)⟩ (fun p hp => by rw [c3 p (by omega) (by omega) (by omega) (by omega) (by omega), up_row (by omega)])
  · refine e_bipush h dX11_keep_8 (pc := 8) (by decide +kernel) ?_
    refine e_iret h hr ha dX11_keep_10 (pc := 10) ?_
    exact kb (by omega)
set_option maxRecDepth 100000 in
set_option maxHeartbeats 4000000 in
theorem m_back {gg : GT} {ad : Nat → Nat} {N : Nat} {M : Mem} {Post : Option AV → Mem → Prop} {n : Nat} {b : TB} {S O : SD} {h0 : Nat} {f g : Nat → Int} {z : Nat} {K : Nat → SD}   (hN : 139 ≤ N) (hR : RepM n b S O h0 f g z K M) (kb : z = 0 → Post (some (vi (-2))) M) (kt : 0 < z → ∀ (M2 : Mem) (v : Int), v = ((z - 1 : Nat) : Int) → RepM n b S (K (z - 1)) 0 f g (z - 1) K M2 → (∀ p, p < 110 → M2 p = M p) → Post (some (vi v)) M2) : Sp gg yX11_back cX11_back 1 (some .int) rmX11_back [vr 110] ad N pT M Post := by
  refine Sp.intro (ls := [some (vr 110)]) (by decide +kernel) rfl (Nat.le_of_ble_eq_true rfl) fun κ hgg h hr ha => ?_
  have h : Ok κ RX11 cX11_back 1 rmX11_back := h
  subst hgg
  have hwL := hR.ws.1
  have hwT := hR.ws.2.1
  have hwB := hR.ws.2.2.1
  have w4 := hR.ws.2.2.2.1
  have w5 := hR.ws.2.2.2.2.1
  have r9 := hR.ms.1
  have r10 := hR.ms.2.1
  have r11 := hR.ms.2.2.1
  have h18 := hR.m18
  have hz2 := hR.z2
  refine e_aload_n h dX11_back_0 (pc := 0) rfl ?_
  refine e_getI h fl_X11_150 dX11_back_1 (pc := 1) rfl (Nat.lt_of_lt_of_le (by decide) hN) (by decide) ?_
  refine e_if_ne h (tgt := 10) dX11_back_4 (pc := 4) (by decide) (by omega) (fun hb4 => ?_) (fun hb4 => ?_)
  · have hkz := hR.kp (z - 1) (by omega)
    refine e_aload_n h dX11_back_10 (pc := 10) rfl ?_
    refine e_iconst h dX11_back_11 (pc := 11)  ?_
    refine e_aload_n h dX11_back_12 (pc := 12) rfl ?_
    refine e_getI h fl_X11_150 dX11_back_13 (pc := 13) rfl (Nat.lt_of_lt_of_le (by decide) hN) (by decide) ?_
    refine e_iadd h dX11_back_16 (pc := 16)  ?_
    refine e_iconst h dX11_back_17 (pc := 17)  ?_
    refine e_callV2 lk_X11_146 mv_X11_copy dX11_back_18 (pc := 18) rfl (by decide) (Nat.lt_of_lt_of_le (by decide) hN) (Nat.le_of_ble_eq_true rfl) (rmY := rmX11_copy) (by decide) h ?_
    refine m_copy (a := 1 + z) (c := 0) (by omega) rfl hN (by omega) (by omega) (by omega) (fun M2 c1 c2 c3 => ?_)
    have h182 : M2 110 18 = z := by rw [c3 110 (by omega) (by omega) (by omega) (by omega) (by omega)]; exact h18
    refine e_aload_n h dX11_back_21 (pc := 21) rfl ?_
    refine e_dup h dX11_back_22 (pc := 22) rfl ?_
    refine e_getI h fl_X11_150 dX11_back_23 (pc := 23) rfl (Nat.lt_of_lt_of_le (by decide) hN) (by decide) ?_
    refine e_iconst h dX11_back_26 (pc := 26)  ?_
    refine e_isub h dX11_back_27 (pc := 27)  ?_
    refine e_putI h fl_X11_150 dX11_back_28 (pc := 28) rfl (Nat.lt_of_lt_of_le (by decide) hN) rfl ?_
    refine e_aload_n h dX11_back_31 (pc := 31) rfl ?_
    refine e_iconst h dX11_back_32 (pc := 32)  ?_
    refine e_putI h fl_X11_153 dX11_back_33 (pc := 33) rfl (Nat.lt_of_lt_of_le (by decide) hN) rfl ?_
    refine e_aload_n h dX11_back_36 (pc := 36) rfl ?_
    refine e_getI h fl_X11_150 dX11_back_37 (pc := 37) rfl (Nat.lt_of_lt_of_le (by decide) hN) (by decide) ?_
    try simp (disch := omega) only [up_eq, up_ne]
    refine e_iret h hr ha dX11_back_40 (pc := 40) ?_
    exact kt (by omega) _ _ (by omega) ⟨(hR.tx.to (by rw [up_ne (by omega), up_ne (by omega), c3 110 (by omega) (by omega) (by omega) (by omega) (by omega)]) (by rw [up_row (by omega), up_row (by omega)]; exact c3 111 (by omega) (by omega) (by omega) (by omega) (by omega))), (hR.ms.to (by rw [up_row (by omega), up_row (by omega)]; exact c3 112 (by omega) (by omega) (by omega) (by omega) (by omega)) (by rw [up_row (by omega), up_row (by omega)]; exact c3 113 (by omega) (by omega) (by omega) (by omega) (by omega)) (by rw [up_row (by omega), up_row (by omega)]; exact c3 114 (by omega) (by omega) (by omega) (by omega) (by omega)) (by rw [up_row (by omega), up_row (by omega)]; exact c3 115 (by omega) (by omega) (by omega) (by omega) (by omega)) (by rw [up_row (by omega), up_row (by omega)]; exact c3 116 (by omega) (by omega) (by omega) (by omega) (by omega)) (by rw [up_row (by omega), up_row (by omega)]; exact c3 117 (by omega) (by omega) (by omega) (by omega) (by omega)) (by rw [up_row (by omega), up_row (by omega)]; exact c3 118 (by omega) (by omega) (by omega) (by omega) (by omega)) (by rw [up_row (by omega), up_row (by omega)]; exact c3 119 (by omega) (by omega) (by omega) (by omega) (by omega)) (by rw [up_row (by omega), up_row (by omega)]; exact c3 120 (by omega) (by omega) (by omega) (by omega) (by omega)) (by rw [up_row (by omega), up_row (by omega)]; exact c3 121 (by omega) (by omega) (by omega) (by omega) (by omega)) (by rw [up_row (by omega), up_row (by omega)]; exact c3 122 (by omega) (by omega) (by omega) (by omega) (by omega))), ((MO_0.1 (c1 (K (z - 1)) (sT S) hkz.2.1 hwT.2 (cast (by rw [show 2 + (z - 1) = 1 + z by omega]) hkz.1))).to (by rw [up_row (by omega), up_row (by omega)]) (by rw [up_row (by omega), up_row (by omega)]) (by rw [up_row (by omega), up_row (by omega)]) (by rw [up_row (by omega), up_row (by omega)]) (by rw [up_row (by omega), up_row (by omega)])), hR.ws, hkz.2, ⟨by simp (disch := omega) only [up_eq, up_ne]; rfl, fun k hk => absurd hk (by omega)⟩, (by omega), HW_0, (by simp (disch := omega) only [up_eq, up_ne]; rw [c3 110 (by omega) (by omega) (by omega) (by omega) (by omega)]; omega), (by omega), (fun k hk => by
      have q := hR.kp k (by omega)
      exact ⟨(c2 (K k) (sT S) (2 + k) (by omega) q.2.1 hwT.2 q.1).to (by rw [up_row (by omega), up_row (by omega)]) (by rw [up_row (by omega), up_row (by omega)]) (by rw [up_row (by omega), up_row (by omega)]) (by rw [up_row (by omega), up_row (by omega)]) (by rw [up_row (by omega), up_row (by omega)]), q.2⟩)⟩ (fun p hp => by rw [up_row (by omega), up_row (by omega)]; exact c3 p (by omega) (by omega) (by omega) (by omega) (by omega))
  · refine e_bipush h dX11_back_7 (pc := 7) (by decide +kernel) ?_
    refine e_iret h hr ha dX11_back_9 (pc := 9) ?_
    exact kb (by omega)
