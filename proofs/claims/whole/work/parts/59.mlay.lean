theorem item_go {b : TB} {n q e : Nat} {c c2 : SD × SD} (h : item b n q c = some (c2, e)) (hp : PW c.1 c.2) : q < e ∧ e ≤ n ∧ PW c2.1 c2.2 := by
  unfold item at h
  cases hl : rns b n 5 (q + 1) with
  | none => rw [hl] at h; cases h
  | some x =>
    obtain ⟨l, e1⟩ := x
    rw [hl] at h
    dsimp only at h
    cases ht : tellS (atB b n q) l c with
    | none => rw [ht] at h; cases h
    | some c3 =>
      rw [ht] at h
      cases h
      have := rns_le _ _ _ _ hl
      exact ⟨by omega, by omega, PW_tell ht hp⟩
theorem MO.fd {O : SD} {T c : Nat} {M M2 : Mem} (h : MO O T M c) (hFD : FD M M2) (hc : c ≠ 1) (he : oE O ≤ 8) (hT : T ≤ 6) : MO O T M2 c := by
  obtain ⟨a, b, d⟩ := h
  refine ⟨by rw [hFD 124 c (by unfold dft; omega)]; exact a, fun k hk => ?_, fun i hi => by rw [hFD 123 (6 * c + i) (by unfold dft; omega)]; exact d i hi⟩
  rw [hFD 125 (8 * c + k) (by unfold dft; omega), hFD 126 (8 * c + k) (by unfold dft; omega), hFD 127 (8 * c + k) (by unfold dft; omega)]
  exact b k hk
theorem MT.fd {b : TB} {n : Nat} {M M2 : Mem} (h : MT b n M) (hFD : FD M M2) : MT b n M2 := h.to (hFD 110 0 (by unfold dft; omega)) (funext fun j => hFD 111 j (by unfold dft; omega))
theorem RepM.fd {n : Nat} {b : TB} {S O : SD} {h0 : Nat} {f g : Nat → Int} {z : Nat} {K : Nat → SD} {M M2 : Mem} (hR : RepM n b S O h0 f g z K M) (hFD : FD M M2) : RepM n b S O h0 f g z K M2 := by
  have hwL := hR.ws.1
  have hwT := hR.ws.2.1
  have hwB := hR.ws.2.2.1
  obtain ⟨s1, s2, s3, s4, s5, s6⟩ := hR.ms
  refine ⟨(hR.tx.to (hFD 110 0 (by unfold dft; omega)) (funext fun j => hFD 111 j (by unfold dft; omega))), ?_, (MO_0.1 ((MO_0.2 hR.mo).fd hFD (by omega) hR.wo.1 hwT.2)), hR.ws, hR.wo, (hR.un.to (hFD 110 19 (by unfold dft; omega)) (funext fun j => hFD 128 j (by unfold dft; omega))), hR.h8, hR.hw, (Eq.trans (hFD 110 18 (by unfold dft; omega)) hR.m18), hR.z2, (fun k hk => ⟨(hR.kp k hk).1.fd hFD (by omega) (hR.kp k hk).2.1 hwT.2, (hR.kp k hk).2⟩)⟩
  · refine ⟨by rw [hFD 112 0 (by unfold dft; omega)]; exact s1, by rw [hFD 115 0 (by unfold dft; omega)]; exact s2, by rw [hFD 120 0 (by unfold dft; omega)]; exact s3, fun l hl => ?_, fun i hi => ?_, fun k hk => ?_⟩
    · rw [hFD 113 l (by unfold dft; omega), hFD 114 l (by unfold dft; omega)]; exact s4 l hl
    · rw [hFD 116 i (by unfold dft; omega), hFD 117 i (by unfold dft; omega), hFD 118 i (by unfold dft; omega), hFD 119 i (by unfold dft; omega)]; exact s5 i hi
    · rw [hFD 121 k (by unfold dft; omega), hFD 122 k (by unfold dft; omega)]; exact s6 k hk
set_option maxRecDepth 100000 in
set_option maxHeartbeats 4000000 in
theorem m_readAll {gg : GT} {ad : Nat → Nat} {N : Nat} {M : Mem} {Post : Option AV → Mem → Prop} {b : TB} {n : Nat}   (hN : 139 ≤ N) (hX : MT b n M) (K : ∀ (M2 : Mem) (res : Int) (c2 : SD × SD), rd b n 301 0 (e0, e0) = (res, c2) → (res = -4 → M1S c2.1 M2 ∧ MO c2.2 (sT c2.1) M2 1 ∧ PW c2.1 c2.2) → FD M M2 → Post (some (vi res)) M2) : Sp gg yX11_readAll cX11_readAll 2 (some .int) rmX11_readAll [vr 110] ad N pT M Post := by
  refine Sp.intro (ls := [some (vr 110), none]) (by decide +kernel) rfl (Nat.le_of_ble_eq_true rfl) fun κ hgg h hr ha => ?_
  have h : Ok κ RX11 cX11_readAll 2 rmX11_readAll := h
  subst hgg
  have hX2 := hX.2.1
  have loop : ∀ (n1 k q : Nat) (c : SD × SD) (M1 : Mem), k ≤ 300 → 300 < k + n1 → k ≤ q → q ≤ n → M1 110 21 = q → M1S c.1 M1 → MO c.2 (sT c.1) M1 1 → PW c.1 c.2 → FD M M1 → rd b n 301 0 (e0, e0) = rd b n (301 - k) q c → E κ ad N pT M1 33 [some (vr 110), none] [] (0, 0) (QR κ ad N pT Post) := by
    intro n1
    induction n1 with
    | zero => intro k q c M1 h1 h2; exact absurd h2 (by omega)
    | succ n1 ih =>
      intro k q c M1 hk hn1 hkq hqn h21 hS hO hP hFD hEq
      have hX1 := (hX.fd hFD).1
      refine e_aload_n h dX11_readAll_33 (pc := 33) rfl ?_
      refine e_getI h fl_X11_107 dX11_readAll_34 (pc := 34) rfl (Nat.lt_of_lt_of_le (by decide) hN) (by decide) ?_
      refine e_aload_n h dX11_readAll_37 (pc := 37) rfl ?_
      refine e_getI h fl_X11_101 dX11_readAll_38 (pc := 38) rfl (Nat.lt_of_lt_of_le (by decide) hN) (by decide) ?_
      refine e_icmp_ge h (tgt := 61) dX11_readAll_41 (pc := 41) (by decide) (by omega) (by omega) (fun hb41 => ?_) (fun hb41 => ?_)
      · refine e_bipush h dX11_readAll_61 (pc := 61) (by decide +kernel) ?_
        refine e_iret h hr ha dX11_readAll_63 (pc := 63) ?_
        exact K M1 (-4) c (by rw [hEq, rd_end (by omega)]) (fun _ => ⟨hS, hO, hP⟩) hFD
      · have hf : 301 - k = (300 - k) + 1 := by omega
        refine e_aload_n h dX11_readAll_44 (pc := 44) rfl ?_
        refine e_getI h fl_X11_107 dX11_readAll_45 (pc := 45) rfl (Nat.lt_of_lt_of_le (by decide) hN) (by decide) ?_
        refine e_istore1 h dX11_readAll_48 (pc := 48) (by decide) rfl ?_
        refine e_aload_n h dX11_readAll_49 (pc := 49) rfl ?_
        refine e_callV0 lk_X11_136 mv_X11_item dX11_readAll_50 (pc := 50) rfl (by decide) (Nat.lt_of_lt_of_le (by decide) hN) (Nat.le_of_ble_eq_true rfl) (rmY := rmX11_item) (by decide) h ?_
        refine m_item (b := b) (n := n) (q := q) (c := c) hN (hX.fd hFD) h21 (by omega) hS hO hP (fun M2 c2 e hi h21b hS2 hO2 hF2 => ?_) (fun M2 hi hF2 => ?_)
        · have hgo := item_go hi hP
          refine e_if_ne h (tgt := 58) dX11_readAll_53 (pc := 53) (by decide) (by decide) (fun _ => ?_) (fun hz => absurd hz (by decide))
          refine e_goto h dX11_readAll_58 (pc := 58) (tgt := 33) (by decide) ?_
          refine e_fgt (ls2 := [some (vr 110), none]) ⟨Or.inr rfl, Or.inl rfl, trivial⟩ ?_
          exact ih (k + 1) e c2 M2 (by omega) (by omega) (by omega) (by omega) h21b hS2 hO2 hgo.2.2 (hFD.tr hF2) (by rw [hEq, hf, rd_go (by omega) hi, show 301 - (k + 1) = 300 - k by omega])
        · skip
          refine e_if_ne h (tgt := 58) dX11_readAll_53 (pc := 53) (by decide) (by decide) (fun hz => absurd hz (by decide)) (fun _ => ?_)
          refine e_iload_n h dX11_readAll_56 (pc := 56) rfl ?_
          refine e_iret h hr ha dX11_readAll_57 (pc := 57) ?_
          rw [h21]
          exact K M2 q c (by rw [hEq, hf, rd_bad (by omega) hi]) (fun z => absurd z (by omega)) (hFD.tr hF2)
  refine e_aload_n h dX11_readAll_0 (pc := 0) rfl ?_
  refine e_getC h fl_X11_13 dX11_readAll_1 (pc := 1) rfl (Nat.lt_of_lt_of_le (by decide) hN) rfl rfl (r := 112) rfl ?_
  refine e_iconst h dX11_readAll_4 (pc := 4)  ?_
  refine e_iconst h dX11_readAll_5 (pc := 5)  ?_
  refine e_iast h dX11_readAll_6 (pc := 6) rfl (Nat.lt_of_lt_of_le (by decide) hN) (j := 1) rfl (by decide) ?_
  refine e_aload_n h dX11_readAll_7 (pc := 7) rfl ?_
  refine e_getC h fl_X11_22 dX11_readAll_8 (pc := 8) rfl (Nat.lt_of_lt_of_le (by decide) hN) rfl rfl (r := 115) rfl ?_
  refine e_iconst h dX11_readAll_11 (pc := 11)  ?_
  refine e_iconst h dX11_readAll_12 (pc := 12)  ?_
  refine e_iast h dX11_readAll_13 (pc := 13) rfl (Nat.lt_of_lt_of_le (by decide) hN) (j := 1) rfl (by decide) ?_
  refine e_aload_n h dX11_readAll_14 (pc := 14) rfl ?_
  refine e_getC h fl_X11_49 dX11_readAll_15 (pc := 15) rfl (Nat.lt_of_lt_of_le (by decide) hN) rfl rfl (r := 124) rfl ?_
  refine e_iconst h dX11_readAll_18 (pc := 18)  ?_
  refine e_iconst h dX11_readAll_19 (pc := 19)  ?_
  refine e_iast h dX11_readAll_20 (pc := 20) rfl (Nat.lt_of_lt_of_le (by decide) hN) (j := 1) rfl (by decide) ?_
  refine e_aload_n h dX11_readAll_21 (pc := 21) rfl ?_
  refine e_getC h fl_X11_37 dX11_readAll_22 (pc := 22) rfl (Nat.lt_of_lt_of_le (by decide) hN) rfl rfl (r := 120) rfl ?_
  refine e_iconst h dX11_readAll_25 (pc := 25)  ?_
  refine e_iconst h dX11_readAll_26 (pc := 26)  ?_
  refine e_iast h dX11_readAll_27 (pc := 27) rfl (Nat.lt_of_lt_of_le (by decide) hN) (j := 1) rfl (by decide) ?_
  refine e_aload_n h dX11_readAll_28 (pc := 28) rfl ?_
  refine e_iconst h dX11_readAll_29 (pc := 29)  ?_
  refine e_putI h fl_X11_107 dX11_readAll_30 (pc := 30) rfl (Nat.lt_of_lt_of_le (by decide) hN) rfl ?_
  refine loop 301 0 0 (e0, e0) _ (by omega) (by omega) (by omega) (by omega) (by rw [up_eq]; rfl) ⟨?_, ?_, ?_, fun l hl => absurd hl (by show ¬ l < 0; omega), fun l hl => absurd hl (by show ¬ l < 0; omega), fun l hl => absurd hl (by show ¬ l < 0; omega)⟩ ⟨?_, fun l hl => absurd hl (by show ¬ l < 0; omega), fun l hl => absurd hl (by show ¬ l < 0; omega)⟩ PW_0 (FD.up (FD.up (FD.up (FD.up (FD.up FD.rf (by unfold dft; omega)) (by unfold dft; omega)) (by unfold dft; omega)) (by unfold dft; omega)) (by unfold dft; omega)) rfl
  · simp (disch := omega) only [up_eq, up_ne]; rfl
  · simp (disch := omega) only [up_eq, up_ne]; rfl
  · simp (disch := omega) only [up_eq, up_ne]; rfl
  · simp (disch := omega) only [up_eq, up_ne]; rfl
set_option maxRecDepth 100000 in
set_option maxHeartbeats 4000000 in
theorem m_fault {gg : GT} {ad : Nat → Nat} {N : Nat} {M : Mem} {Post : Option AV → Mem → Prop} {n : Nat} {b : TB} {S O : SD} {h0 : Nat} {f g : Nat → Int} {z : Nat} {K : Nat → SD}   (hN : 139 ≤ N) (hR : RepM n b S O h0 f g z K M) (kt : ∀ (M2 : Mem) (v : Int), v = (rd b n 301 0 (e0, e0)).1 → RepM n b S O h0 f g z K M2 → (∀ p, p < 110 → M2 p = M p) → Post (some (vi v)) M2) : Sp gg yX11_fault cX11_fault 1 (some .int) rmX11_fault [vr 110] ad N pT M Post := by
  refine Sp.intro (ls := [some (vr 110)]) (by decide +kernel) rfl (Nat.le_of_ble_eq_true rfl) fun κ hgg h hr ha => ?_
  have h : Ok κ RX11 cX11_fault 1 rmX11_fault := h
  subst hgg
  have hwL := hR.ws.1
  have hwT := hR.ws.2.1
  have hwB := hR.ws.2.2.1
  have w4 := hR.ws.2.2.2.1
  have w5 := hR.ws.2.2.2.2.1
  have r9 := hR.ms.1
  have r10 := hR.ms.2.1
  have r11 := hR.ms.2.2.1
  refine e_aload_n h dX11_fault_0 (pc := 0) rfl ?_
  refine e_callV0 lk_X11_139 mv_X11_readAll dX11_fault_1 (pc := 1) rfl (by decide) (Nat.lt_of_lt_of_le (by decide) hN) (Nat.le_of_ble_eq_true rfl) (rmY := rmX11_readAll) (by decide) h ?_
  refine m_readAll hN hR.tx (fun M2 res c2 hrd hd hFD => ?_)
  refine e_iret h hr ha dX11_fault_4 (pc := 4) ?_
  exact kt M2 res (by rw [hrd]) (hR.fd hFD) (fun p hp => funext fun j => hFD p j (by unfold dft; omega))
set_option maxRecDepth 100000 in
set_option maxHeartbeats 4000000 in
theorem m_lay {gg : GT} {ad : Nat → Nat} {N : Nat} {M : Mem} {Post : Option AV → Mem → Prop} {n : Nat} {b : TB} {S O : SD} {h0 : Nat} {f g : Nat → Int} {z : Nat} {K : Nat → SD}   (hN : 139 ≤ N) (hR : RepM n b S O h0 f g z K M) (kb : ¬ ((rd b n 301 0 (e0, e0)).1 = -4 ∧ whole (rd b n 301 0 (e0, e0)).2.1) → ∀ M2 : Mem, RepM n b S O h0 f g z K M2 → (∀ p, p < 110 → M2 p = M p) → Post (some (vi (-2))) M2) (kt : ∀ (res : Int) (c2 : SD × SD), rd b n 301 0 (e0, e0) = (res, c2) → res = -4 → whole c2.1 → ∀ (M2 : Mem) (v : Int), v = (sT c2.1 : Int) → RepM n b c2.1 c2.2 0 f g 0 K M2 → (∀ p, p < 110 → M2 p = M p) → Post (some (vi v)) M2) : Sp gg yX11_lay cX11_lay 2 (some .int) rmX11_lay [vr 110] ad N pT M Post := by
  refine Sp.intro (ls := [some (vr 110), none]) (by decide +kernel) rfl (Nat.le_of_ble_eq_true rfl) fun κ hgg h hr ha => ?_
  have h : Ok κ RX11 cX11_lay 2 rmX11_lay := h
  subst hgg
  have hwL := hR.ws.1
  have hwT := hR.ws.2.1
  have hwB := hR.ws.2.2.1
  have w4 := hR.ws.2.2.2.1
  have w5 := hR.ws.2.2.2.2.1
  have r9 := hR.ms.1
  have r10 := hR.ms.2.1
  have r11 := hR.ms.2.2.1
  refine e_aload_n h dX11_lay_0 (pc := 0) rfl ?_
  refine e_callV0 lk_X11_139 mv_X11_readAll dX11_lay_1 (pc := 1) rfl (by decide) (Nat.lt_of_lt_of_le (by decide) hN) (Nat.le_of_ble_eq_true rfl) (rmY := rmX11_readAll) (by decide) h ?_
  refine m_readAll hN hR.tx (fun M2 res c2 hrd hd hFD => ?_)
  have hrr := rd_rng (b := b) (n := n) (r := res) (c := c2) hR.tx.2.1 hrd
  refine e_bipush h dX11_lay_4 (pc := 4) (by decide +kernel) ?_
  refine e_icmp_ne h (tgt := 16) dX11_lay_6 (pc := 6) (by decide) (by omega) (by decide) (fun hb6 => ?_) (fun hb6 => ?_)
  · refine e_bipush h dX11_lay_16 (pc := 16) (by decide +kernel) ?_
    refine e_iret h hr ha dX11_lay_18 (pc := 18) ?_
    exact kb (by rw [hrd]; intro q; exact absurd q.1 (by show ¬ res = -4; omega)) M2 (hR.fd hFD) (fun p hp => funext fun j => hFD p j (by unfold dft; omega))
  · refine e_aload_n h dX11_lay_9 (pc := 9) rfl ?_
    refine e_callV0 lk_X11_143 mv_X11_areThere dX11_lay_10 (pc := 10) rfl (by decide) (Nat.lt_of_lt_of_le (by decide) hN) (Nat.le_of_ble_eq_true rfl) (rmY := rmX11_areThere) (by decide) h ?_
    have hPW0 := (hd (by omega)).2.2
    refine m_areThere (S := c2.1) hN (hd (by omega)).1 ⟨hPW0.1, hPW0.2.1, hPW0.2.2.1, fun i hi => (hPW0.2.2.2.2.2.1 i hi).1, fun k hk => (hPW0.2.2.2.2.2.2.1 k hk).1⟩ (fun hwh => ?_) (fun hwh => ?_)
    · have hWW := whole_ws hPW0 hwh
      refine e_if_ne h (tgt := 19) dX11_lay_13 (pc := 13) (by decide) (by decide) (fun _ => ?_) (fun hz => absurd hz (by decide))
      refine e_aload_n h dX11_lay_19 (pc := 19) rfl ?_
      refine e_getC h fl_X11_13 dX11_lay_20 (pc := 20) rfl (Nat.lt_of_lt_of_le (by decide) hN) rfl rfl (r := 112) rfl ?_
      refine e_iconst h dX11_lay_23 (pc := 23)  ?_
      refine e_aload_n h dX11_lay_24 (pc := 24) rfl ?_
      refine e_getC h fl_X11_13 dX11_lay_25 (pc := 25) rfl (Nat.lt_of_lt_of_le (by decide) hN) rfl rfl (r := 112) rfl ?_
      refine e_iconst h dX11_lay_28 (pc := 28)  ?_
      refine e_iald h dX11_lay_29 (pc := 29) rfl (Nat.lt_of_lt_of_le (by decide) hN) (j := 1) rfl (by decide) ?_
      refine e_iast h dX11_lay_30 (pc := 30) rfl (Nat.lt_of_lt_of_le (by decide) hN) (j := 0) rfl (by decide) ?_
      refine e_aload_n h dX11_lay_31 (pc := 31) rfl ?_
      refine e_getC h fl_X11_22 dX11_lay_32 (pc := 32) rfl (Nat.lt_of_lt_of_le (by decide) hN) rfl rfl (r := 115) rfl ?_
      refine e_iconst h dX11_lay_35 (pc := 35)  ?_
      refine e_aload_n h dX11_lay_36 (pc := 36) rfl ?_
      refine e_getC h fl_X11_22 dX11_lay_37 (pc := 37) rfl (Nat.lt_of_lt_of_le (by decide) hN) rfl rfl (r := 115) rfl ?_
      refine e_iconst h dX11_lay_40 (pc := 40)  ?_
      refine e_iald h dX11_lay_41 (pc := 41) rfl (Nat.lt_of_lt_of_le (by decide) hN) (j := 1) rfl (by decide) ?_
      try simp (disch := omega) only [up_eq, up_ne]
      refine e_iast h dX11_lay_42 (pc := 42) rfl (Nat.lt_of_lt_of_le (by decide) hN) (j := 0) rfl (by decide) ?_
      refine e_aload_n h dX11_lay_43 (pc := 43) rfl ?_
      refine e_getC h fl_X11_37 dX11_lay_44 (pc := 44) rfl (Nat.lt_of_lt_of_le (by decide) hN) rfl rfl (r := 120) rfl ?_
      refine e_iconst h dX11_lay_47 (pc := 47)  ?_
      refine e_aload_n h dX11_lay_48 (pc := 48) rfl ?_
      refine e_getC h fl_X11_37 dX11_lay_49 (pc := 49) rfl (Nat.lt_of_lt_of_le (by decide) hN) rfl rfl (r := 120) rfl ?_
      refine e_iconst h dX11_lay_52 (pc := 52)  ?_
      refine e_iald h dX11_lay_53 (pc := 53) rfl (Nat.lt_of_lt_of_le (by decide) hN) (j := 1) rfl (by decide) ?_
      try simp (disch := omega) only [up_eq, up_ne]
      refine e_iast h dX11_lay_54 (pc := 54) rfl (Nat.lt_of_lt_of_le (by decide) hN) (j := 0) rfl (by decide) ?_
      refine e_iconst h dX11_lay_55 (pc := 55)  ?_
      refine e_istore1 h dX11_lay_56 (pc := 56) (by decide) rfl ?_
      have hPW := (hd (by omega)).2.2
      have hO := (hd (by omega)).2.1
      have hS := (hd (by omega)).1
      have p1 := hPW.1
      have p2 := hPW.2.1
      have p3 := hPW.2.2.1
      have fin1 : ∀ M4 : Mem, (∀ q j, (q = 113 ∨ q = 114 ∨ q = 116 ∨ q = 117 ∨ q = 118 ∨ q = 119) → j < 6 → M4 q j = (up (up (up M2 112 0 (M2 112 1)) 115 0 (M2 115 1)) 120 0 (M2 120 1)) q (6 + j)) → (∀ q, ¬ (q = 113 ∨ q = 114 ∨ q = 116 ∨ q = 117 ∨ q = 118 ∨ q = 119) → M4 q = (up (up (up M2 112 0 (M2 112 1)) 115 0 (M2 115 1)) 120 0 (M2 120 1)) q) → E κ ad N pT M4 159 [some (vr 110), none] [] (0, 0) (QR κ ad N pT Post) := by
        intro M4 hS4 hfr4
        have fin2 : ∀ M5 : Mem, (∀ q j, (q = 121 ∨ q = 122) → j < 5 → M5 q j = M4 q (5 + j)) → (∀ q, ¬ (q = 121 ∨ q = 122) → M5 q = M4 q) → E κ ad N pT M5 200 [some (vr 110), none] [] (0, 0) (QR κ ad N pT Post) := by
          intro M5 hS5 hfr5
          have hrow : ∀ q, q ≠ 112 → q ≠ 115 → q ≠ 120 → ¬ (q = 113 ∨ q = 114 ∨ q = 116 ∨ q = 117 ∨ q = 118 ∨ q = 119) → ¬ (q = 121 ∨ q = 122) → M5 q = M2 q := fun q h1 h2 h3 h4 h5 => by rw [hfr5 q h5, hfr4 q h4, up_row h3, up_row h2, up_row h1]
          have hO5 : MO c2.2 (sT c2.1) M5 1 := hO.to (hrow 123 (by omega) (by omega) (by omega) (by omega) (by omega)) (hrow 124 (by omega) (by omega) (by omega) (by omega) (by omega)) (hrow 125 (by omega) (by omega) (by omega) (by omega) (by omega)) (hrow 126 (by omega) (by omega) (by omega) (by omega) (by omega)) (hrow 127 (by omega) (by omega) (by omega) (by omega) (by omega))
          have hM112 : M5 112 0 = M2 112 1 := by rw [hfr5 112 (by omega), hfr4 112 (by omega)]; simp (disch := omega) only [up_eq, up_ne]
          have hM115 : M5 115 0 = M2 115 1 := by rw [hfr5 115 (by omega), hfr4 115 (by omega)]; simp (disch := omega) only [up_eq, up_ne]
          have hM120 : M5 120 0 = M2 120 1 := by rw [hfr5 120 (by omega), hfr4 120 (by omega)]; simp (disch := omega) only [up_eq, up_ne]
          have hAr : ∀ q j, (q = 113 ∨ q = 114 ∨ q = 116 ∨ q = 117 ∨ q = 118 ∨ q = 119) → j < 6 → M5 q j = M2 q (6 + j) := fun q j hq hj => by rw [hfr5 q (by omega), hS4 q j hq hj, up_row (by omega), up_row (by omega), up_row (by omega)]
          have hBr : ∀ q j, (q = 121 ∨ q = 122) → j < 5 → M5 q j = M2 q (5 + j) := fun q j hq hj => by rw [hS5 q j hq hj, hfr4 q (by omega), up_row (by omega), up_row (by omega), up_row (by omega)]
          refine e_aload_n h dX11_lay_200 (pc := 200) rfl ?_
          refine e_iconst h dX11_lay_201 (pc := 201)  ?_
          refine e_iconst h dX11_lay_202 (pc := 202)  ?_
          refine e_callV2 lk_X11_146 mv_X11_copy dX11_lay_203 (pc := 203) rfl (by decide) (Nat.lt_of_lt_of_le (by decide) hN) (Nat.le_of_ble_eq_true rfl) (rmY := rmX11_copy) (by decide) h ?_
          refine m_copy (a := 1) (c := 0) rfl rfl hN (by omega) (by omega) (by omega) (fun M6 hcp hck hcr => ?_)
          have hc0 := hcp _ _ hWW.2.1 hPW.2.1 hO5
          refine e_aload_n h dX11_lay_206 (pc := 206) rfl ?_
          refine e_iconst h dX11_lay_207 (pc := 207)  ?_
          refine e_putI h fl_X11_150 dX11_lay_208 (pc := 208) rfl (Nat.lt_of_lt_of_le (by decide) hN) rfl ?_
          refine e_aload_n h dX11_lay_211 (pc := 211) rfl ?_
          refine e_iconst h dX11_lay_212 (pc := 212)  ?_
          refine e_putI h fl_X11_153 dX11_lay_213 (pc := 213) rfl (Nat.lt_of_lt_of_le (by decide) hN) rfl ?_
          refine e_aload_n h dX11_lay_216 (pc := 216) rfl ?_
          refine e_getC h fl_X11_22 dX11_lay_217 (pc := 217) rfl (Nat.lt_of_lt_of_le (by decide) hN) rfl rfl (r := 115) rfl ?_
          refine e_iconst h dX11_lay_220 (pc := 220)  ?_
          refine e_iald h dX11_lay_221 (pc := 221) rfl (Nat.lt_of_lt_of_le (by decide) hN) (j := 0) rfl (by decide) ?_
          refine e_iret h hr ha dX11_lay_222 (pc := 222) ?_
          exact kt res c2 hrd (by omega) hwh _ _ (by rw [up_row (by omega), up_row (by omega), hcr 115 (by omega) (by omega) (by omega) (by omega) (by omega), hM115]; exact hS.2.1) ⟨((hR.tx.fd hFD).to (by simp (disch := omega) only [up_eq, up_ne]; rw [hcr 110 (by omega) (by omega) (by omega) (by omega) (by omega)]; exact congrFun (hrow 110 (by omega) (by omega) (by omega) (by omega) (by omega)) 0) (by rw [up_row (by omega), up_row (by omega), hcr 111 (by omega) (by omega) (by omega) (by omega) (by omega)]; exact hrow 111 (by omega) (by omega) (by omega) (by omega) (by omega))), ⟨by rw [up_row (by omega), up_row (by omega), hcr 112 (by omega) (by omega) (by omega) (by omega) (by omega), hM112]; exact hS.1, by rw [up_row (by omega), up_row (by omega), hcr 115 (by omega) (by omega) (by omega) (by omega) (by omega), hM115]; exact hS.2.1, by rw [up_row (by omega), up_row (by omega), hcr 120 (by omega) (by omega) (by omega) (by omega) (by omega), hM120]; exact hS.2.2.1, fun l hl => by
              rw [up_row (by omega), up_row (by omega), hcr 113 (by omega) (by omega) (by omega) (by omega) (by omega), up_row (by omega), up_row (by omega), hcr 114 (by omega) (by omega) (by omega) (by omega) (by omega), hAr 113 l (by omega) (by omega), hAr 114 l (by omega) (by omega)]; exact hS.2.2.2.1 l hl, fun i hi => by
              rw [up_row (by omega), up_row (by omega), hcr 116 (by omega) (by omega) (by omega) (by omega) (by omega), up_row (by omega), up_row (by omega), hcr 117 (by omega) (by omega) (by omega) (by omega) (by omega), up_row (by omega), up_row (by omega), hcr 118 (by omega) (by omega) (by omega) (by omega) (by omega), up_row (by omega), up_row (by omega), hcr 119 (by omega) (by omega) (by omega) (by omega) (by omega), hAr 116 i (by omega) (by omega), hAr 117 i (by omega) (by omega), hAr 118 i (by omega) (by omega), hAr 119 i (by omega) (by omega)]; exact hS.2.2.2.2.1 i hi, fun k hk => by
              rw [up_row (by omega), up_row (by omega), hcr 121 (by omega) (by omega) (by omega) (by omega) (by omega), up_row (by omega), up_row (by omega), hcr 122 (by omega) (by omega) (by omega) (by omega) (by omega), hBr 121 k (by omega) (by omega), hBr 122 k (by omega) (by omega)]; exact hS.2.2.2.2.2 k hk⟩, (MO_0.1 (hc0.to (by rw [up_row (by omega), up_row (by omega)]) (by rw [up_row (by omega), up_row (by omega)]) (by rw [up_row (by omega), up_row (by omega)]) (by rw [up_row (by omega), up_row (by omega)]) (by rw [up_row (by omega), up_row (by omega)]))), hWW.1, hWW.2, ⟨by simp (disch := omega) only [up_eq, up_ne]; rfl, fun k hk => absurd hk (by omega)⟩, (by omega), HW_0, (by simp (disch := omega) only [up_eq, up_ne]; rfl), (by omega), (fun k hk => absurd hk (by omega))⟩ (fun p hp => by rw [up_row (by omega), up_row (by omega), hcr p (by omega) (by omega) (by omega) (by omega) (by omega), hrow p (by omega) (by omega) (by omega) (by omega) (by omega)]; funext j; exact hFD p j (by unfold dft; omega))
        have loop2 : ∀ (n1 k : Nat) (M9 : Mem), k ≤ 5 → 5 < k + n1 → (∀ q j, (q = 121 ∨ q = 122) → j < k → M9 q j = M4 q (5 + j)) → (∀ q j, (q = 121 ∨ q = 122) → k ≤ j → M9 q j = M4 q j) → (∀ q, ¬ (q = 121 ∨ q = 122) → M9 q = M4 q) → E κ ad N pT M9 161 [some (vr 110), some (vi (k : Int))] [] (0, 0) (QR κ ad N pT Post) := by
          intro n1
          induction n1 with
          | zero => intro k M9 h1 h2; exact absurd h2 (by omega)
          | succ n1 ih =>
            intro k M9 hk hn1 hS hT hfr2
            refine e_iload_n h dX11_lay_161 (pc := 161) rfl ?_
            refine e_iconst h dX11_lay_162 (pc := 162)  ?_
            refine e_icmp_ge h (tgt := 200) dX11_lay_163 (pc := 163) (by decide) (by omega) (by decide) (fun hb163 => ?_) (fun hb163 => ?_)
            · refine e_fgt (ls2 := [some (vr 110), none]) ⟨Or.inr rfl, Or.inl rfl, trivial⟩ ?_
              exact fin2 _ (fun q j hq hj => hS q j hq (by omega)) hfr2
            · refine e_aload_n h dX11_lay_166 (pc := 166) rfl ?_
              refine e_getC h fl_X11_40 dX11_lay_167 (pc := 167) rfl (Nat.lt_of_lt_of_le (by decide) hN) rfl rfl (r := 121) rfl ?_
              refine e_iload_n h dX11_lay_170 (pc := 170) rfl ?_
              refine e_aload_n h dX11_lay_171 (pc := 171) rfl ?_
              refine e_getC h fl_X11_40 dX11_lay_172 (pc := 172) rfl (Nat.lt_of_lt_of_le (by decide) hN) rfl rfl (r := 121) rfl ?_
              refine e_iconst h dX11_lay_175 (pc := 175)  ?_
              refine e_iload_n h dX11_lay_176 (pc := 176) rfl ?_
              refine e_iadd h dX11_lay_177 (pc := 177)  ?_
              refine e_iald h dX11_lay_178 (pc := 178) rfl (Nat.lt_of_lt_of_le (by decide) hN) (j := (5 + k)) (by omega) (by show _ < 10; omega) ?_
              refine e_iast h dX11_lay_179 (pc := 179) rfl (Nat.lt_of_lt_of_le (by decide) hN) rfl (by show _ < 10; omega) ?_
              refine e_aload_n h dX11_lay_180 (pc := 180) rfl ?_
              refine e_getC h fl_X11_43 dX11_lay_181 (pc := 181) rfl (Nat.lt_of_lt_of_le (by decide) hN) rfl rfl (r := 122) rfl ?_
              refine e_iload_n h dX11_lay_184 (pc := 184) rfl ?_
              refine e_aload_n h dX11_lay_185 (pc := 185) rfl ?_
              refine e_getC h fl_X11_43 dX11_lay_186 (pc := 186) rfl (Nat.lt_of_lt_of_le (by decide) hN) rfl rfl (r := 122) rfl ?_
              refine e_iconst h dX11_lay_189 (pc := 189)  ?_
              refine e_iload_n h dX11_lay_190 (pc := 190) rfl ?_
              refine e_iadd h dX11_lay_191 (pc := 191)  ?_
              refine e_iald h dX11_lay_192 (pc := 192) rfl (Nat.lt_of_lt_of_le (by decide) hN) (j := (5 + k)) (by omega) (by show _ < 10; omega) ?_
              try simp (disch := omega) only [up_eq, up_ne]
              refine e_iast h dX11_lay_193 (pc := 193) rfl (Nat.lt_of_lt_of_le (by decide) hN) rfl (by show _ < 10; omega) ?_
              refine e_iinc1 h dX11_lay_194 (pc := 194) (by decide) rfl ?_
              refine e_goto h dX11_lay_197 (pc := 197) (tgt := 161) (by decide) ?_
              rw [show (k : Int) + 1 = ((k + 1 : Nat) : Int) by omega]
              refine ih (k + 1) _ (by omega) (by omega) (fun q j hq hj => ?_) (fun q j hq hj => ?_) (fun q hq => by rw [up_row (by omega), up_row (by omega)]; exact hfr2 q hq)
              · by_cases e : j = k
                · subst e
                  rcases hq with rfl | rfl <;> (simp (disch := omega) only [up_eq, up_ne]; exact hT _ _ (by omega) (by omega))
                · refine Eq.trans ?_ (hS q j hq (by omega))
                  simp (disch := omega) only [up_eq, up_ne]
              · refine Eq.trans ?_ (hT q j hq (by omega))
                simp (disch := omega) only [up_eq, up_ne]
        refine e_iconst h dX11_lay_159 (pc := 159)  ?_
        refine e_istore1 h dX11_lay_160 (pc := 160) (by decide) rfl ?_
        exact loop2 6 0 M4 (by omega) (by omega) (fun q j hq hj => absurd hj (by omega)) (fun _ _ _ _ => rfl) (fun _ _ => rfl)
      have loop1 : ∀ (n1 k : Nat) (M9 : Mem), k ≤ 6 → 6 < k + n1 → (∀ q j, (q = 113 ∨ q = 114 ∨ q = 116 ∨ q = 117 ∨ q = 118 ∨ q = 119) → j < k → M9 q j = (up (up (up M2 112 0 (M2 112 1)) 115 0 (M2 115 1)) 120 0 (M2 120 1)) q (6 + j)) → (∀ q j, (q = 113 ∨ q = 114 ∨ q = 116 ∨ q = 117 ∨ q = 118 ∨ q = 119) → k ≤ j → M9 q j = (up (up (up M2 112 0 (M2 112 1)) 115 0 (M2 115 1)) 120 0 (M2 120 1)) q j) → (∀ q, ¬ (q = 113 ∨ q = 114 ∨ q = 116 ∨ q = 117 ∨ q = 118 ∨ q = 119) → M9 q = (up (up (up M2 112 0 (M2 112 1)) 115 0 (M2 115 1)) 120 0 (M2 120 1)) q) → E κ ad N pT M9 57 [some (vr 110), some (vi (k : Int))] [] (0, 0) (QR κ ad N pT Post) := by
        intro n1
        induction n1 with
        | zero => intro k M9 h1 h2; exact absurd h2 (by omega)
        | succ n1 ih =>
          intro k M9 hk hn1 hS hT hfr2
          refine e_iload_n h dX11_lay_57 (pc := 57) rfl ?_
          refine e_bipush h dX11_lay_58 (pc := 58) (by decide +kernel) ?_
          refine e_icmp_ge h (tgt := 159) dX11_lay_60 (pc := 60) (by decide) (by omega) (by decide) (fun hb60 => ?_) (fun hb60 => ?_)
          · refine e_fgt (ls2 := [some (vr 110), none]) ⟨Or.inr rfl, Or.inl rfl, trivial⟩ ?_
            exact fin1 _ (fun q j hq hj => hS q j hq (by omega)) hfr2
          · refine e_aload_n h dX11_lay_63 (pc := 63) rfl ?_
            refine e_getC h fl_X11_16 dX11_lay_64 (pc := 64) rfl (Nat.lt_of_lt_of_le (by decide) hN) rfl rfl (r := 113) rfl ?_
            refine e_iload_n h dX11_lay_67 (pc := 67) rfl ?_
            refine e_aload_n h dX11_lay_68 (pc := 68) rfl ?_
            refine e_getC h fl_X11_16 dX11_lay_69 (pc := 69) rfl (Nat.lt_of_lt_of_le (by decide) hN) rfl rfl (r := 113) rfl ?_
            refine e_bipush h dX11_lay_72 (pc := 72) (by decide +kernel) ?_
            refine e_iload_n h dX11_lay_74 (pc := 74) rfl ?_
            refine e_iadd h dX11_lay_75 (pc := 75)  ?_
            refine e_iald h dX11_lay_76 (pc := 76) rfl (Nat.lt_of_lt_of_le (by decide) hN) (j := (6 + k)) (by omega) (by show _ < 12; omega) ?_
            refine e_iast h dX11_lay_77 (pc := 77) rfl (Nat.lt_of_lt_of_le (by decide) hN) rfl (by show _ < 12; omega) ?_
            refine e_aload_n h dX11_lay_78 (pc := 78) rfl ?_
            refine e_getC h fl_X11_19 dX11_lay_79 (pc := 79) rfl (Nat.lt_of_lt_of_le (by decide) hN) rfl rfl (r := 114) rfl ?_
            refine e_iload_n h dX11_lay_82 (pc := 82) rfl ?_
            refine e_aload_n h dX11_lay_83 (pc := 83) rfl ?_
            refine e_getC h fl_X11_19 dX11_lay_84 (pc := 84) rfl (Nat.lt_of_lt_of_le (by decide) hN) rfl rfl (r := 114) rfl ?_
            refine e_bipush h dX11_lay_87 (pc := 87) (by decide +kernel) ?_
            refine e_iload_n h dX11_lay_89 (pc := 89) rfl ?_
            refine e_iadd h dX11_lay_90 (pc := 90)  ?_
            refine e_iald h dX11_lay_91 (pc := 91) rfl (Nat.lt_of_lt_of_le (by decide) hN) (j := (6 + k)) (by omega) (by show _ < 12; omega) ?_
            try simp (disch := omega) only [up_eq, up_ne]
            refine e_iast h dX11_lay_92 (pc := 92) rfl (Nat.lt_of_lt_of_le (by decide) hN) rfl (by show _ < 12; omega) ?_
            refine e_aload_n h dX11_lay_93 (pc := 93) rfl ?_
            refine e_getC h fl_X11_25 dX11_lay_94 (pc := 94) rfl (Nat.lt_of_lt_of_le (by decide) hN) rfl rfl (r := 116) rfl ?_
            refine e_iload_n h dX11_lay_97 (pc := 97) rfl ?_
            refine e_aload_n h dX11_lay_98 (pc := 98) rfl ?_
            refine e_getC h fl_X11_25 dX11_lay_99 (pc := 99) rfl (Nat.lt_of_lt_of_le (by decide) hN) rfl rfl (r := 116) rfl ?_
            refine e_bipush h dX11_lay_102 (pc := 102) (by decide +kernel) ?_
            refine e_iload_n h dX11_lay_104 (pc := 104) rfl ?_
            refine e_iadd h dX11_lay_105 (pc := 105)  ?_
            refine e_iald h dX11_lay_106 (pc := 106) rfl (Nat.lt_of_lt_of_le (by decide) hN) (j := (6 + k)) (by omega) (by show _ < 12; omega) ?_
            try simp (disch := omega) only [up_eq, up_ne]
            refine e_iast h dX11_lay_107 (pc := 107) rfl (Nat.lt_of_lt_of_le (by decide) hN) rfl (by show _ < 12; omega) ?_
            refine e_aload_n h dX11_lay_108 (pc := 108) rfl ?_
            refine e_getC h fl_X11_28 dX11_lay_109 (pc := 109) rfl (Nat.lt_of_lt_of_le (by decide) hN) rfl rfl (r := 117) rfl ?_
            refine e_iload_n h dX11_lay_112 (pc := 112) rfl ?_
            refine e_aload_n h dX11_lay_113 (pc := 113) rfl ?_
            refine e_getC h fl_X11_28 dX11_lay_114 (pc := 114) rfl (Nat.lt_of_lt_of_le (by decide) hN) rfl rfl (r := 117) rfl ?_
            refine e_bipush h dX11_lay_117 (pc := 117) (by decide +kernel) ?_
            refine e_iload_n h dX11_lay_119 (pc := 119) rfl ?_
            refine e_iadd h dX11_lay_120 (pc := 120)  ?_
            refine e_iald h dX11_lay_121 (pc := 121) rfl (Nat.lt_of_lt_of_le (by decide) hN) (j := (6 + k)) (by omega) (by show _ < 12; omega) ?_
            try simp (disch := omega) only [up_eq, up_ne]
            refine e_iast h dX11_lay_122 (pc := 122) rfl (Nat.lt_of_lt_of_le (by decide) hN) rfl (by show _ < 12; omega) ?_
            refine e_aload_n h dX11_lay_123 (pc := 123) rfl ?_
            refine e_getC h fl_X11_31 dX11_lay_124 (pc := 124) rfl (Nat.lt_of_lt_of_le (by decide) hN) rfl rfl (r := 118) rfl ?_
            refine e_iload_n h dX11_lay_127 (pc := 127) rfl ?_
            refine e_aload_n h dX11_lay_128 (pc := 128) rfl ?_
            refine e_getC h fl_X11_31 dX11_lay_129 (pc := 129) rfl (Nat.lt_of_lt_of_le (by decide) hN) rfl rfl (r := 118) rfl ?_
            refine e_bipush h dX11_lay_132 (pc := 132) (by decide +kernel) ?_
            refine e_iload_n h dX11_lay_134 (pc := 134) rfl ?_
            refine e_iadd h dX11_lay_135 (pc := 135)  ?_
            refine e_iald h dX11_lay_136 (pc := 136) rfl (Nat.lt_of_lt_of_le (by decide) hN) (j := (6 + k)) (by omega) (by show _ < 12; omega) ?_
            try simp (disch := omega) only [up_eq, up_ne]
            refine e_iast h dX11_lay_137 (pc := 137) rfl (Nat.lt_of_lt_of_le (by decide) hN) rfl (by show _ < 12; omega) ?_
            refine e_aload_n h dX11_lay_138 (pc := 138) rfl ?_
            refine e_getC h fl_X11_34 dX11_lay_139 (pc := 139) rfl (Nat.lt_of_lt_of_le (by decide) hN) rfl rfl (r := 119) rfl ?_
            refine e_iload_n h dX11_lay_142 (pc := 142) rfl ?_
            refine e_aload_n h dX11_lay_143 (pc := 143) rfl ?_
            refine e_getC h fl_X11_34 dX11_lay_144 (pc := 144) rfl (Nat.lt_of_lt_of_le (by decide) hN) rfl rfl (r := 119) rfl ?_
            refine e_bipush h dX11_lay_147 (pc := 147) (by decide +kernel) ?_
            refine e_iload_n h dX11_lay_149 (pc := 149) rfl ?_
            refine e_iadd h dX11_lay_150 (pc := 150)  ?_
            refine e_iald h dX11_lay_151 (pc := 151) rfl (Nat.lt_of_lt_of_le (by decide) hN) (j := (6 + k)) (by omega) (by show _ < 12; omega) ?_
            try simp (disch := omega) only [up_eq, up_ne]
            refine e_iast h dX11_lay_152 (pc := 152) rfl (Nat.lt_of_lt_of_le (by decide) hN) rfl (by show _ < 12; omega) ?_
            refine e_iinc1 h dX11_lay_153 (pc := 153) (by decide) rfl ?_
            refine e_goto h dX11_lay_156 (pc := 156) (tgt := 57) (by decide) ?_
            rw [show (k : Int) + 1 = ((k + 1 : Nat) : Int) by omega]
            refine ih (k + 1) _ (by omega) (by omega) (fun q j hq hj => ?_) (fun q j hq hj => ?_) (fun q hq => by rw [up_row (by omega), up_row (by omega), up_row (by omega), up_row (by omega), up_row (by omega), up_row (by omega)]; exact hfr2 q hq)
            · by_cases e : j = k
              · subst e
                rcases hq with rfl | rfl | rfl | rfl | rfl | rfl <;> (simp (disch := omega) only [up_eq, up_ne]; exact hT _ _ (by omega) (by omega))
              · refine Eq.trans ?_ (hS q j hq (by omega))
                simp (disch := omega) only [up_eq, up_ne]
            · refine Eq.trans ?_ (hT q j hq (by omega))
              simp (disch := omega) only [up_eq, up_ne]
      exact loop1 7 0 _ (by omega) (by omega) (fun q j hq hj => absurd hj (by omega)) (fun _ _ _ _ => rfl) (fun _ _ => rfl)
    · skip
      refine e_if_ne h (tgt := 19) dX11_lay_13 (pc := 13) (by decide) (by decide) (fun hz => absurd hz (by decide)) (fun _ => ?_)
      refine e_bipush h dX11_lay_16 (pc := 16) (by decide +kernel) ?_
      refine e_iret h hr ha dX11_lay_18 (pc := 18) ?_
      exact kb (by rw [hrd]; intro q; exact hwh q.2) M2 (hR.fd hFD) (fun p hp => funext fun j => hFD p j (by unfold dft; omega))
