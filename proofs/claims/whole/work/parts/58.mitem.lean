theorem FD.fig {M M1 M2 : Mem} (h : FD M M1) (hf : ∀ p j, (p ≠ 110 ∨ j ≠ 21) → p ≠ 129 → M2 p j = M1 p j) : FD M M2 := fun p j hq => by
  have hq2 := hq
  unfold dft at hq2
  rw [hf p j (by omega) (by omega)]
  exact h p j hq
theorem item_no {b : TB} {n q : Nat} {c : SD × SD} (h : ∀ l e, rns b n 5 (q + 1) = some (l, e) → tellS (atB b n q) l c = none) : item b n q c = none := by
  unfold item
  cases hl : rns b n 5 (q + 1) with
  | none => rfl
  | some x =>
    obtain ⟨l, e⟩ := x
    dsimp only
    rw [h l e hl]
    rfl
theorem item_yes {b : TB} {n q e : Nat} {l : List Nat} {c c2 : SD × SD} (hl : rns b n 5 (q + 1) = some (l, e)) (ht : tellS (atB b n q) l c = some c2) : item b n q c = some (c2, e) := by
  unfold item
  rw [hl]
  dsimp only
  rw [ht]
  rfl
theorem item_bad {b : TB} {n q e : Nat} {l : List Nat} {c : SD × SD} (hl : rns b n 5 (q + 1) = some (l, e)) (ht : tellS (atB b n q) l c = none) : item b n q c = none := by
  unfold item
  rw [hl]
  dsimp only
  rw [ht]
  rfl
theorem M1S.to {S : SD} {M M2 : Mem} (h : M1S S M) (hr : ∀ p, 112 ≤ p → p ≤ 122 → M2 p = M p) : M1S S M2 := by
  unfold M1S
  rw [hr 112 (by omega) (by omega), hr 113 (by omega) (by omega), hr 114 (by omega) (by omega), hr 115 (by omega) (by omega), hr 116 (by omega) (by omega), hr 117 (by omega) (by omega), hr 118 (by omega) (by omega), hr 119 (by omega) (by omega), hr 120 (by omega) (by omega), hr 121 (by omega) (by omega), hr 122 (by omega) (by omega)]
  exact h
theorem M1S_V {S : SD} {M : Mem} {a w : Nat} {v0 v1 v2 : Int} (h : M1S S M) (h0 : v0 = (a : Int)) (h1 : v1 = (w : Int)) (h2 : v2 = ((sL S + 1 : Nat) : Int)) : M1S (upS (upS (upS S 1 (sL S) a) 2 (sL S) w) 0 0 (sL S + 1)) (up (up (up M 113 (6 + sL S) v0) 114 (6 + sL S) v1) 112 1 v2) := by
  obtain ⟨r1, r2, r3, r4, r5, r6⟩ := h
  refine ⟨by rw [up_eq, h2]; rfl, by simp (disch := omega) only [up_eq, up_ne]; exact r2, by simp (disch := omega) only [up_eq, up_ne]; exact r3, fun l hl => ?_, fun i hi => by simp (disch := omega) only [up_eq, up_ne]; exact r5 i hi, fun k hk => by simp (disch := omega) only [up_eq, up_ne]; exact r6 k hk⟩
  have hl2 : l < sL S + 1 := hl
  by_cases e : l = sL S
  · subst e
    simp (disch := omega) only [up_eq, up_ne]
    simp [sP, sW, upS, h0, h1]
  · have := r4 l (by omega)
    simp (disch := omega) only [up_eq, up_ne]
    rw [this.1, this.2]
    simp [sP, sW, upS, e]
theorem M1S_Z {S : SD} {M : Mem} {a w : Nat} {v0 v1 v2 : Int} (h : M1S S M) (h0 : v0 = (a : Int)) (h1 : v1 = (w : Int)) (h2 : v2 = ((sB S + 1 : Nat) : Int)) : M1S (upS (upS (upS S 9 (sB S) a) 10 (sB S) w) 8 0 (sB S + 1)) (up (up (up M 121 (5 + sB S) v0) 122 (5 + sB S) v1) 120 1 v2) := by
  obtain ⟨r1, r2, r3, r4, r5, r6⟩ := h
  refine ⟨by simp (disch := omega) only [up_eq, up_ne]; exact r1, by simp (disch := omega) only [up_eq, up_ne]; exact r2, by rw [up_eq, h2]; rfl, fun l hl => by simp (disch := omega) only [up_eq, up_ne]; exact r4 l hl, fun i hi => by simp (disch := omega) only [up_eq, up_ne]; exact r5 i hi, fun k hk => ?_⟩
  have hk2 : k < sB S + 1 := hk
  by_cases e : k = sB S
  · subst e
    simp (disch := omega) only [up_eq, up_ne]
    simp [sC, sD, upS, h0, h1]
  · have := r6 k (by omega)
    simp (disch := omega) only [up_eq, up_ne]
    rw [this.1, this.2]
    simp [sC, sD, upS, e]
theorem M1S_T {S : SD} {M : Mem} {l x m k : Nat} {v0 v1 v2 v3 v4 v5 : Int} (h : M1S S M) (h0 : v0 = (l : Int)) (h1 : v1 = (x : Int)) (h3 : v3 = (m : Int)) (h4 : v4 = (k : Int)) (h5 : v5 = ((sT S + 1 : Nat) : Int)) : M1S (upS (upS (upS (upS (upS S 4 (sT S) l) 5 (sT S) x) 6 (sT S) m) 7 (sT S) k) 3 0 (sT S + 1)) (up (up (up (up (up (up M 116 (6 + sT S) v0) 117 (6 + sT S) v1) 123 (6 + sT S) v2) 118 (6 + sT S) v3) 119 (6 + sT S) v4) 115 1 v5) := by
  obtain ⟨r1, r2, r3, r4, r5, r6⟩ := h
  refine ⟨by simp (disch := omega) only [up_eq, up_ne]; exact r1, by rw [up_eq, h5]; rfl, by simp (disch := omega) only [up_eq, up_ne]; exact r3, fun l hl => by simp (disch := omega) only [up_eq, up_ne]; exact r4 l hl, fun i hi => ?_, fun k hk => by simp (disch := omega) only [up_eq, up_ne]; exact r6 k hk⟩
  have hi2 : i < sT S + 1 := hi
  by_cases e : i = sT S
  · subst e
    simp (disch := omega) only [up_eq, up_ne]
    simp [sH, sF, sX, sK, upS, h0, h1, h3, h4]
  · have := r5 i (by omega)
    simp (disch := omega) only [up_eq, up_ne]
    rw [this.1, this.2.1, this.2.2.1, this.2.2.2]
    simp [sH, sF, sX, sK, upS, e]
theorem MO_T {O : SD} {M : Mem} {T g : Nat} {v0 v1 v2 v3 v4 v5 : Int} (h : MO O T M 1) (h2 : v2 = (g : Int)) : MO (upS O 4 T g) (T + 1) (up (up (up (up (up (up M 116 (6 + T) v0) 117 (6 + T) v1) 123 (6 + T) v2) 118 (6 + T) v3) 119 (6 + T) v4) 115 1 v5) 1 := by
  obtain ⟨a, b, c⟩ := h
  refine ⟨by simp (disch := omega) only [up_eq, up_ne]; exact a, fun k hk => by simp (disch := omega) only [up_eq, up_ne]; exact b k hk, fun i hi => ?_⟩
  by_cases e : i = T
  · subst e
    rw [show 6 * 1 + i = 6 + i by omega]
    simp (disch := omega) only [up_eq, up_ne]
    simp [oG, upS, h2]
  · have := c i (by omega)
    simp (disch := omega) only [up_eq, up_ne]
    rw [this]
    simp [oG, upS, e]
set_option maxRecDepth 100000 in
set_option maxHeartbeats 4000000 in
theorem m_addErrand2 {gg : GT} {ad : Nat → Nat} {N : Nat} {M : Mem} {Post : Option AV → Mem → Prop} {O : SD} {T c t d u : Nat}  {xc : Int} (hxc : xc = (c : Int)) {xt : Int} (hxt : xt = (t : Int)) {xd : Int} (hxd : xd = (d : Int)) {xu : Int} (hxu : xu = (u : Int))  (hN : 139 ≤ N) (hc : c ≤ 1) (hm : MO O T M c) (he8 : oE O < 8) (K : ∀ v : Int, v = M 124 c + 1 → Post none (up (up (up (up M 125 (8 * c + oE O) t) 126 (8 * c + oE O) d) 127 (8 * c + oE O) u) 124 c v)) : Sp gg yX11_addErrand cX11_addErrand 5 none rmX11_addErrand [vr 110, vi xc, vi xt, vi xd, vi xu] ad N pT M Post := by
  refine Sp.intro (ls := [some (vr 110), some (vi xc), some (vi xt), some (vi xd), some (vi xu)]) (by decide +kernel) rfl (Nat.le_of_ble_eq_true rfl) fun κ hgg h hr ha => ?_
  have h : Ok κ RX11 cX11_addErrand 5 rmX11_addErrand := h
  subst hgg
  subst hxc
  subst hxt
  subst hxd
  subst hxu
  have hE := hm.1
  refine e_aload_n h dX11_addErrand_0 (pc := 0) rfl ?_
  refine e_getC h fl_X11_52 dX11_addErrand_1 (pc := 1) rfl (Nat.lt_of_lt_of_le (by decide) hN) rfl rfl (r := 125) rfl ?_
  refine e_bipush h dX11_addErrand_4 (pc := 4) (by decide +kernel) ?_
  refine e_iload_n h dX11_addErrand_6 (pc := 6) rfl ?_
  refine e_imul h dX11_addErrand_7 (pc := 7)  ?_
  refine e_aload_n h dX11_addErrand_8 (pc := 8) rfl ?_
  refine e_getC h fl_X11_49 dX11_addErrand_9 (pc := 9) rfl (Nat.lt_of_lt_of_le (by decide) hN) rfl rfl (r := 124) rfl ?_
  refine e_iload_n h dX11_addErrand_12 (pc := 12) rfl ?_
  refine e_iald h dX11_addErrand_13 (pc := 13) rfl (Nat.lt_of_lt_of_le (by decide) hN) rfl (by show _ < 4; omega) ?_
  refine e_iadd h dX11_addErrand_14 (pc := 14)  ?_
  refine e_iload_n h dX11_addErrand_15 (pc := 15) rfl ?_
  refine e_iast h dX11_addErrand_16 (pc := 16) rfl (Nat.lt_of_lt_of_le (by decide) hN) (j := (8 * c + oE O)) (by omega) (by show _ < 32; omega) ?_
  refine e_aload_n h dX11_addErrand_17 (pc := 17) rfl ?_
  refine e_getC h fl_X11_55 dX11_addErrand_18 (pc := 18) rfl (Nat.lt_of_lt_of_le (by decide) hN) rfl rfl (r := 126) rfl ?_
  refine e_bipush h dX11_addErrand_21 (pc := 21) (by decide +kernel) ?_
  refine e_iload_n h dX11_addErrand_23 (pc := 23) rfl ?_
  refine e_imul h dX11_addErrand_24 (pc := 24)  ?_
  refine e_aload_n h dX11_addErrand_25 (pc := 25) rfl ?_
  refine e_getC h fl_X11_49 dX11_addErrand_26 (pc := 26) rfl (Nat.lt_of_lt_of_le (by decide) hN) rfl rfl (r := 124) rfl ?_
  refine e_iload_n h dX11_addErrand_29 (pc := 29) rfl ?_
  refine e_iald h dX11_addErrand_30 (pc := 30) rfl (Nat.lt_of_lt_of_le (by decide) hN) rfl (by show _ < 4; omega) ?_
  try simp (disch := omega) only [up_eq, up_ne]
  refine e_iadd h dX11_addErrand_31 (pc := 31)  ?_
  refine e_iload_n h dX11_addErrand_32 (pc := 32) rfl ?_
  refine e_iast h dX11_addErrand_33 (pc := 33) rfl (Nat.lt_of_lt_of_le (by decide) hN) (j := (8 * c + oE O)) (by omega) (by show _ < 32; omega) ?_
  refine e_aload_n h dX11_addErrand_34 (pc := 34) rfl ?_
  refine e_getC h fl_X11_58 dX11_addErrand_35 (pc := 35) rfl (Nat.lt_of_lt_of_le (by decide) hN) rfl rfl (r := 127) rfl ?_
  refine e_bipush h dX11_addErrand_38 (pc := 38) (by decide +kernel) ?_
  refine e_iload_n h dX11_addErrand_40 (pc := 40) rfl ?_
  refine e_imul h dX11_addErrand_41 (pc := 41)  ?_
  refine e_aload_n h dX11_addErrand_42 (pc := 42) rfl ?_
  refine e_getC h fl_X11_49 dX11_addErrand_43 (pc := 43) rfl (Nat.lt_of_lt_of_le (by decide) hN) rfl rfl (r := 124) rfl ?_
  refine e_iload_n h dX11_addErrand_46 (pc := 46) rfl ?_
  refine e_iald h dX11_addErrand_47 (pc := 47) rfl (Nat.lt_of_lt_of_le (by decide) hN) rfl (by show _ < 4; omega) ?_
  try simp (disch := omega) only [up_eq, up_ne]
  refine e_iadd h dX11_addErrand_48 (pc := 48)  ?_
  refine e_iload h dX11_addErrand_49 (pc := 49) rfl ?_
  refine e_iast h dX11_addErrand_51 (pc := 51) rfl (Nat.lt_of_lt_of_le (by decide) hN) (j := (8 * c + oE O)) (by omega) (by show _ < 32; omega) ?_
  refine e_aload_n h dX11_addErrand_52 (pc := 52) rfl ?_
  refine e_getC h fl_X11_49 dX11_addErrand_53 (pc := 53) rfl (Nat.lt_of_lt_of_le (by decide) hN) rfl rfl (r := 124) rfl ?_
  refine e_iload_n h dX11_addErrand_56 (pc := 56) rfl ?_
  refine e_dup2 h dX11_addErrand_57 (pc := 57) rfl rfl ?_
  refine e_iald h dX11_addErrand_58 (pc := 58) rfl (Nat.lt_of_lt_of_le (by decide) hN) rfl (by show _ < 4; omega) ?_
  try simp (disch := omega) only [up_eq, up_ne]
  refine e_iconst h dX11_addErrand_59 (pc := 59)  ?_
  refine e_iadd h dX11_addErrand_60 (pc := 60)  ?_
  refine e_iast h dX11_addErrand_61 (pc := 61) rfl (Nat.lt_of_lt_of_le (by decide) hN) rfl (by show _ < 4; omega) ?_
  refine e_vret h hr ha dX11_addErrand_62 (pc := 62) ?_
  exact K _ (by first | rfl | simp (disch := omega) only [up_eq, up_ne])
set_option maxRecDepth 100000 in
set_option maxHeartbeats 4000000 in
theorem m_item {gg : GT} {ad : Nat → Nat} {N : Nat} {M : Mem} {Post : Option AV → Mem → Prop} {b : TB} {n q : Nat} {c : SD × SD}   (hN : 139 ≤ N) (hX : MT b n M) (hq : M 110 21 = q) (hqn : q < n) (hS : M1S c.1 M) (hO : MO c.2 (sT c.1) M 1) (hP : PW c.1 c.2) (kt : ∀ (M2 : Mem) (c2 : SD × SD) (e : Nat), item b n q c = some (c2, e) → M2 110 21 = e → M1S c2.1 M2 → MO c2.2 (sT c2.1) M2 1 → FD M M2 → Post (some (vi 1)) M2) (kf : ∀ M2 : Mem, item b n q c = none → FD M M2 → Post (some (vi 0)) M2) : Sp gg yX11_item cX11_item 2 (some .boolean) rmX11_item [vr 110] ad N pT M Post := by
  refine Sp.intro (ls := [some (vr 110), none]) (by decide +kernel) rfl (Nat.le_of_ble_eq_true rfl) fun κ hgg h hr ha => ?_
  have h : Ok κ RX11 cX11_item 2 rmX11_item := h
  subst hgg
  have hX2 := hX.2.1
  obtain ⟨w1, w2, w3, w4, -⟩ := hP
  refine e_aload_n h dX11_item_0 (pc := 0) rfl ?_
  refine e_aload_n h dX11_item_1 (pc := 1) rfl ?_
  refine e_getI h fl_X11_107 dX11_item_2 (pc := 2) rfl (Nat.lt_of_lt_of_le (by decide) hN) (by decide) ?_
  refine e_callV1 lk_X11_110 mv_X11_byteAt dX11_item_5 (pc := 5) rfl (by decide) (Nat.lt_of_lt_of_le (by decide) hN) (Nat.le_of_ble_eq_true rfl) (rmY := rmX11_byteAt) (by decide) h ?_
  have hbl := bM_le (k := q) hX
  have hba := bM_at (b := b) (n := n) (k := q)
  have hat := atB_in (b := b) hqn
  refine m_byteAt (b := b) (n := n) (k := q) (by omega) hN hX (by omega) ?_
  refine e_istore1 h dX11_item_8 (pc := 8) (by decide) rfl ?_
  refine e_aload_n h dX11_item_9 (pc := 9) rfl ?_
  refine e_dup h dX11_item_10 (pc := 10) rfl ?_
  refine e_getI h fl_X11_107 dX11_item_11 (pc := 11) rfl (Nat.lt_of_lt_of_le (by decide) hN) (by decide) ?_
  refine e_iconst h dX11_item_14 (pc := 14)  ?_
  refine e_iadd h dX11_item_15 (pc := 15)  ?_
  refine e_putI h fl_X11_107 dX11_item_16 (pc := 16) rfl (Nat.lt_of_lt_of_le (by decide) hN) rfl ?_
  refine e_iload_n h dX11_item_19 (pc := 19) rfl ?_
  rcases (show ((bM b n q : Nat) : Int) = 118 ∨ ((bM b n q : Nat) : Int) = 116 ∨ ((bM b n q : Nat) : Int) = 109 ∨ ((bM b n q : Nat) : Int) = 122 ∨ (((bM b n q : Nat) : Int) ≠ 118 ∧ ((bM b n q : Nat) : Int) ≠ 116 ∧ ((bM b n q : Nat) : Int) ≠ 109 ∧ ((bM b n q : Nat) : Int) ≠ 122) by omega) with hlq | hlq | hlq | hlq | hlq
  · refine e_lookV h dX11_item_20 (pc := 20) (v := 118) (by omega) (by decide) (by decide) (off := 44) (by decide +kernel) (tgt := 64) (by decide) ?_
    refine e_aload_n h dX11_item_64 (pc := 64) rfl ?_
    refine e_iconst h dX11_item_65 (pc := 65)  ?_
    refine e_callV1 lk_X11_122 mv_X11_figures dX11_item_66 (pc := 66) rfl (by decide) (Nat.lt_of_lt_of_le (by decide) hN) (Nat.le_of_ble_eq_true rfl) (rmY := rmX11_figures) (by decide) h ?_
    refine m_figures (b := b) (n := n) (m := 2) (q0 := q + 1) rfl hN (hX.to (up_ne (by omega)) (up_row (by omega))) (by rw [up_eq]; omega) (by omega) (by omega) (by omega) (fun M2 l e hl hlen h21 hnum hf => ?_) (fun M2 hno hf => ?_)
    · have hFD : FD M M2 := FD.fig (FD.rf.up (by unfold dft; omega)) hf
      have hrow : ∀ p, p ≠ 110 → p ≠ 129 → M2 p = M p := fun p h1 h2 => (funext fun j => hf p j (Or.inl h1) h2).trans (up_row h1)
      have hS2 := hS.to (M2 := M2) (fun p a b => hrow p (by omega) (by omega))
      have hO2 := hO.to (M2 := M2) (hrow 123 (by omega) (by omega)) (hrow 124 (by omega) (by omega)) (hrow 125 (by omega) (by omega)) (hrow 126 (by omega) (by omega)) (hrow 127 (by omega) (by omega))
      have r1 := hS2.1
      have r2 := hS2.2.1
      have r3 := hS2.2.2.1
      have o1 := hO2.1
      have h99 := (rns_le _ _ _ _ hl).1
      have n0 := hnum 0 (by omega)
      have m0 := h99 0
      have n1 := hnum 1 (by omega)
      have m1 := h99 1
      refine e_if_eq h (tgt := 104) dX11_item_69 (pc := 69) (by decide) (by decide) (fun hz => absurd hz (by decide)) (fun _ => ?_)
      refine e_aload_n h dX11_item_72 (pc := 72) rfl ?_
      refine e_getC h fl_X11_13 dX11_item_73 (pc := 73) rfl (Nat.lt_of_lt_of_le (by decide) hN) rfl rfl (r := 112) rfl ?_
      refine e_iconst h dX11_item_76 (pc := 76)  ?_
      refine e_iald h dX11_item_77 (pc := 77) rfl (Nat.lt_of_lt_of_le (by decide) hN) (j := 1) rfl (by decide) ?_
      try simp (disch := omega) only [up_eq, up_ne]
      refine e_bipush h dX11_item_78 (pc := 78) (by decide +kernel) ?_
      refine e_icmp_eq h (tgt := 104) dX11_item_80 (pc := 80) (by decide) (by omega) (by decide) (fun hb80 => ?_) (fun hb80 => ?_)
      · refine e_iconst h dX11_item_104 (pc := 104)  ?_
        refine e_zret h hr ha dX11_item_105 (pc := 105) (by decide) ?_
        exact kf M2 (item_bad hl (by unfold tellS; rw [if_pos (by omega), if_pos (by omega)]; unfold addV; rw [if_neg (by omega)])) hFD
      · refine e_aload_n h dX11_item_83 (pc := 83) rfl ?_
        refine e_getC h fl_X11_64 dX11_item_84 (pc := 84) rfl (Nat.lt_of_lt_of_le (by decide) hN) rfl rfl (r := 129) rfl ?_
        refine e_iconst h dX11_item_87 (pc := 87)  ?_
        refine e_iald h dX11_item_88 (pc := 88) rfl (Nat.lt_of_lt_of_le (by decide) hN) (j := 0) rfl (by decide) ?_
        try simp (disch := omega) only [up_eq, up_ne]
        refine e_bipush h dX11_item_89 (pc := 89) (by decide +kernel) ?_
        refine e_icmp_gt h (tgt := 104) dX11_item_91 (pc := 91) (by decide) (by omega) (by decide) (fun hb91 => ?_) (fun hb91 => ?_)
        · refine e_iconst h dX11_item_104 (pc := 104)  ?_
          refine e_zret h hr ha dX11_item_105 (pc := 105) (by decide) ?_
          exact kf M2 (item_bad hl (by unfold tellS; rw [if_pos (by omega), if_pos (by omega)]; unfold addV; rw [if_neg (by omega)])) hFD
        · refine e_aload_n h dX11_item_94 (pc := 94) rfl ?_
          refine e_getC h fl_X11_64 dX11_item_95 (pc := 95) rfl (Nat.lt_of_lt_of_le (by decide) hN) rfl rfl (r := 129) rfl ?_
          refine e_iconst h dX11_item_98 (pc := 98)  ?_
          refine e_iald h dX11_item_99 (pc := 99) rfl (Nat.lt_of_lt_of_le (by decide) hN) (j := 1) rfl (by decide) ?_
          try simp (disch := omega) only [up_eq, up_ne]
          refine e_iconst h dX11_item_100 (pc := 100)  ?_
          refine e_icmp_le h (tgt := 106) dX11_item_101 (pc := 101) (by decide) (by omega) (by decide) (fun hb101 => ?_) (fun hb101 => ?_)
          · refine e_aload_n h dX11_item_106 (pc := 106) rfl ?_
            refine e_getC h fl_X11_16 dX11_item_107 (pc := 107) rfl (Nat.lt_of_lt_of_le (by decide) hN) rfl rfl (r := 113) rfl ?_
            refine e_bipush h dX11_item_110 (pc := 110) (by decide +kernel) ?_
            refine e_aload_n h dX11_item_112 (pc := 112) rfl ?_
            refine e_getC h fl_X11_13 dX11_item_113 (pc := 113) rfl (Nat.lt_of_lt_of_le (by decide) hN) rfl rfl (r := 112) rfl ?_
            refine e_iconst h dX11_item_116 (pc := 116)  ?_
            refine e_iald h dX11_item_117 (pc := 117) rfl (Nat.lt_of_lt_of_le (by decide) hN) (j := 1) rfl (by decide) ?_
            try simp (disch := omega) only [up_eq, up_ne]
            refine e_iadd h dX11_item_118 (pc := 118)  ?_
            refine e_aload_n h dX11_item_119 (pc := 119) rfl ?_
            refine e_getC h fl_X11_64 dX11_item_120 (pc := 120) rfl (Nat.lt_of_lt_of_le (by decide) hN) rfl rfl (r := 129) rfl ?_
            refine e_iconst h dX11_item_123 (pc := 123)  ?_
            refine e_iald h dX11_item_124 (pc := 124) rfl (Nat.lt_of_lt_of_le (by decide) hN) (j := 0) rfl (by decide) ?_
            try simp (disch := omega) only [up_eq, up_ne]
            refine e_iast h dX11_item_125 (pc := 125) rfl (Nat.lt_of_lt_of_le (by decide) hN) (j := (6 + sL c.1)) (by omega) (by show _ < 12; omega) ?_
            refine e_aload_n h dX11_item_126 (pc := 126) rfl ?_
            refine e_getC h fl_X11_19 dX11_item_127 (pc := 127) rfl (Nat.lt_of_lt_of_le (by decide) hN) rfl rfl (r := 114) rfl ?_
            refine e_bipush h dX11_item_130 (pc := 130) (by decide +kernel) ?_
            refine e_aload_n h dX11_item_132 (pc := 132) rfl ?_
            refine e_getC h fl_X11_13 dX11_item_133 (pc := 133) rfl (Nat.lt_of_lt_of_le (by decide) hN) rfl rfl (r := 112) rfl ?_
            refine e_iconst h dX11_item_136 (pc := 136)  ?_
            refine e_iald h dX11_item_137 (pc := 137) rfl (Nat.lt_of_lt_of_le (by decide) hN) (j := 1) rfl (by decide) ?_
            try simp (disch := omega) only [up_eq, up_ne]
            refine e_iadd h dX11_item_138 (pc := 138)  ?_
            refine e_aload_n h dX11_item_139 (pc := 139) rfl ?_
            refine e_getC h fl_X11_64 dX11_item_140 (pc := 140) rfl (Nat.lt_of_lt_of_le (by decide) hN) rfl rfl (r := 129) rfl ?_
            refine e_iconst h dX11_item_143 (pc := 143)  ?_
            refine e_iald h dX11_item_144 (pc := 144) rfl (Nat.lt_of_lt_of_le (by decide) hN) (j := 1) rfl (by decide) ?_
            try simp (disch := omega) only [up_eq, up_ne]
            refine e_iast h dX11_item_145 (pc := 145) rfl (Nat.lt_of_lt_of_le (by decide) hN) (j := (6 + sL c.1)) (by omega) (by show _ < 12; omega) ?_
            refine e_aload_n h dX11_item_146 (pc := 146) rfl ?_
            refine e_getC h fl_X11_13 dX11_item_147 (pc := 147) rfl (Nat.lt_of_lt_of_le (by decide) hN) rfl rfl (r := 112) rfl ?_
            refine e_iconst h dX11_item_150 (pc := 150)  ?_
            refine e_dup2 h dX11_item_151 (pc := 151) rfl rfl ?_
            refine e_iald h dX11_item_152 (pc := 152) rfl (Nat.lt_of_lt_of_le (by decide) hN) (j := 1) rfl (by decide) ?_
            try simp (disch := omega) only [up_eq, up_ne]
            refine e_iconst h dX11_item_153 (pc := 153)  ?_
            refine e_iadd h dX11_item_154 (pc := 154)  ?_
            refine e_iast h dX11_item_155 (pc := 155) rfl (Nat.lt_of_lt_of_le (by decide) hN) (j := 1) rfl (by decide) ?_
            refine e_iconst h dX11_item_156 (pc := 156)  ?_
            refine e_zret h hr ha dX11_item_157 (pc := 157) (by decide) ?_
            exact kt _ (upS (upS (upS c.1 1 (sL c.1) (l.getD 0 0)) 2 (sL c.1) (l.getD 1 0)) 0 0 (sL c.1 + 1), c.2) e (item_yes hl (by unfold tellS; rw [if_pos (by omega), if_pos (by omega)]; unfold addV; rw [if_pos (by omega)])) (by simp (disch := omega) only [up_eq, up_ne]; exact h21) (M1S_V hS2 (by first | exact n0 | (simp (disch := omega) only [up_eq, up_ne]; exact n0)) (by first | exact n1 | (simp (disch := omega) only [up_eq, up_ne]; exact n1)) (by first | omega | (simp (disch := omega) only [up_eq, up_ne]; omega))) (hO2.to (by simp (disch := omega) only [up_row]) (by simp (disch := omega) only [up_row]) (by simp (disch := omega) only [up_row]) (by simp (disch := omega) only [up_row]) (by simp (disch := omega) only [up_row])) (FD.up (FD.up (FD.up hFD (by unfold dft; omega)) (by unfold dft; omega)) (by unfold dft; omega))
          · refine e_iconst h dX11_item_104 (pc := 104)  ?_
            refine e_zret h hr ha dX11_item_105 (pc := 105) (by decide) ?_
            exact kf M2 (item_bad hl (by unfold tellS; rw [if_pos (by omega), if_pos (by omega)]; unfold addV; rw [if_neg (by omega)])) hFD
    · have hFD : FD M M2 := FD.fig (FD.rf.up (by unfold dft; omega)) hf
      refine e_if_eq h (tgt := 104) dX11_item_69 (pc := 69) (by decide) (by decide) (fun _ => ?_) (fun hz => absurd hz (by decide))
      refine e_iconst h dX11_item_104 (pc := 104)  ?_
      refine e_zret h hr ha dX11_item_105 (pc := 105) (by decide) ?_
      exact kf M2 (item_no fun l0 e1 hl0 => by unfold tellS; rw [if_pos (by omega), if_neg (hno l0 e1 hl0)]) hFD
  · refine e_lookV h dX11_item_20 (pc := 20) (v := 116) (by omega) (by decide) (by decide) (off := 138) (by decide +kernel) (tgt := 158) (by decide) ?_
    refine e_aload_n h dX11_item_158 (pc := 158) rfl ?_
    refine e_iconst h dX11_item_159 (pc := 159)  ?_
    refine e_callV1 lk_X11_122 mv_X11_figures dX11_item_160 (pc := 160) rfl (by decide) (Nat.lt_of_lt_of_le (by decide) hN) (Nat.le_of_ble_eq_true rfl) (rmY := rmX11_figures) (by decide) h ?_
    refine m_figures (b := b) (n := n) (m := 5) (q0 := q + 1) rfl hN (hX.to (up_ne (by omega)) (up_row (by omega))) (by rw [up_eq]; omega) (by omega) (by omega) (by omega) (fun M2 l e hl hlen h21 hnum hf => ?_) (fun M2 hno hf => ?_)
    · have hFD : FD M M2 := FD.fig (FD.rf.up (by unfold dft; omega)) hf
      have hrow : ∀ p, p ≠ 110 → p ≠ 129 → M2 p = M p := fun p h1 h2 => (funext fun j => hf p j (Or.inl h1) h2).trans (up_row h1)
      have hS2 := hS.to (M2 := M2) (fun p a b => hrow p (by omega) (by omega))
      have hO2 := hO.to (M2 := M2) (hrow 123 (by omega) (by omega)) (hrow 124 (by omega) (by omega)) (hrow 125 (by omega) (by omega)) (hrow 126 (by omega) (by omega)) (hrow 127 (by omega) (by omega))
      have r1 := hS2.1
      have r2 := hS2.2.1
      have r3 := hS2.2.2.1
      have o1 := hO2.1
      have h99 := (rns_le _ _ _ _ hl).1
      have n0 := hnum 0 (by omega)
      have m0 := h99 0
      have n1 := hnum 1 (by omega)
      have m1 := h99 1
      have n2 := hnum 2 (by omega)
      have m2 := h99 2
      have n3 := hnum 3 (by omega)
      have m3 := h99 3
      have n4 := hnum 4 (by omega)
      have m4 := h99 4
      refine e_if_eq h (tgt := 173) dX11_item_163 (pc := 163) (by decide) (by decide) (fun hz => absurd hz (by decide)) (fun _ => ?_)
      refine e_aload_n h dX11_item_166 (pc := 166) rfl ?_
      refine e_callV0 lk_X11_126 mv_X11_isTownItem dX11_item_167 (pc := 167) rfl (by decide) (Nat.lt_of_lt_of_le (by decide) hN) (Nat.le_of_ble_eq_true rfl) (rmY := rmX11_isTownItem) (by decide) h ?_
      refine m_isTownItem (T := sT c.1) (l := l) hN r2 (by omega) hnum h99 (fun hti => ?_) (fun hti => ?_)
      · skip
        refine e_if_ne h (tgt := 175) dX11_item_170 (pc := 170) (by decide) (by decide) (fun _ => ?_) (fun hz => absurd hz (by decide))
        refine e_aload_n h dX11_item_175 (pc := 175) rfl ?_
        refine e_getC h fl_X11_25 dX11_item_176 (pc := 176) rfl (Nat.lt_of_lt_of_le (by decide) hN) rfl rfl (r := 116) rfl ?_
        refine e_bipush h dX11_item_179 (pc := 179) (by decide +kernel) ?_
        refine e_aload_n h dX11_item_181 (pc := 181) rfl ?_
        refine e_getC h fl_X11_22 dX11_item_182 (pc := 182) rfl (Nat.lt_of_lt_of_le (by decide) hN) rfl rfl (r := 115) rfl ?_
        refine e_iconst h dX11_item_185 (pc := 185)  ?_
        refine e_iald h dX11_item_186 (pc := 186) rfl (Nat.lt_of_lt_of_le (by decide) hN) (j := 1) rfl (by decide) ?_
        try simp (disch := omega) only [up_eq, up_ne]
        refine e_iadd h dX11_item_187 (pc := 187)  ?_
        refine e_aload_n h dX11_item_188 (pc := 188) rfl ?_
        refine e_getC h fl_X11_64 dX11_item_189 (pc := 189) rfl (Nat.lt_of_lt_of_le (by decide) hN) rfl rfl (r := 129) rfl ?_
        refine e_iconst h dX11_item_192 (pc := 192)  ?_
        refine e_iald h dX11_item_193 (pc := 193) rfl (Nat.lt_of_lt_of_le (by decide) hN) (j := 0) rfl (by decide) ?_
        try simp (disch := omega) only [up_eq, up_ne]
        refine e_iast h dX11_item_194 (pc := 194) rfl (Nat.lt_of_lt_of_le (by decide) hN) (j := (6 + sT c.1)) (by omega) (by show _ < 12; omega) ?_
        refine e_aload_n h dX11_item_195 (pc := 195) rfl ?_
        refine e_getC h fl_X11_28 dX11_item_196 (pc := 196) rfl (Nat.lt_of_lt_of_le (by decide) hN) rfl rfl (r := 117) rfl ?_
        refine e_bipush h dX11_item_199 (pc := 199) (by decide +kernel) ?_
        refine e_aload_n h dX11_item_201 (pc := 201) rfl ?_
        refine e_getC h fl_X11_22 dX11_item_202 (pc := 202) rfl (Nat.lt_of_lt_of_le (by decide) hN) rfl rfl (r := 115) rfl ?_
        refine e_iconst h dX11_item_205 (pc := 205)  ?_
        refine e_iald h dX11_item_206 (pc := 206) rfl (Nat.lt_of_lt_of_le (by decide) hN) (j := 1) rfl (by decide) ?_
        try simp (disch := omega) only [up_eq, up_ne]
        refine e_iadd h dX11_item_207 (pc := 207)  ?_
        refine e_aload_n h dX11_item_208 (pc := 208) rfl ?_
        refine e_getC h fl_X11_64 dX11_item_209 (pc := 209) rfl (Nat.lt_of_lt_of_le (by decide) hN) rfl rfl (r := 129) rfl ?_
        refine e_iconst h dX11_item_212 (pc := 212)  ?_
        refine e_iald h dX11_item_213 (pc := 213) rfl (Nat.lt_of_lt_of_le (by decide) hN) (j := 1) rfl (by decide) ?_
        try simp (disch := omega) only [up_eq, up_ne]
        refine e_iast h dX11_item_214 (pc := 214) rfl (Nat.lt_of_lt_of_le (by decide) hN) (j := (6 + sT c.1)) (by omega) (by show _ < 12; omega) ?_
        refine e_aload_n h dX11_item_215 (pc := 215) rfl ?_
        refine e_getC h fl_X11_46 dX11_item_216 (pc := 216) rfl (Nat.lt_of_lt_of_le (by decide) hN) rfl rfl (r := 123) rfl ?_
        refine e_bipush h dX11_item_219 (pc := 219) (by decide +kernel) ?_
        refine e_aload_n h dX11_item_221 (pc := 221) rfl ?_
        refine e_getC h fl_X11_22 dX11_item_222 (pc := 222) rfl (Nat.lt_of_lt_of_le (by decide) hN) rfl rfl (r := 115) rfl ?_
        refine e_iconst h dX11_item_225 (pc := 225)  ?_
        refine e_iald h dX11_item_226 (pc := 226) rfl (Nat.lt_of_lt_of_le (by decide) hN) (j := 1) rfl (by decide) ?_
        try simp (disch := omega) only [up_eq, up_ne]
        refine e_iadd h dX11_item_227 (pc := 227)  ?_
        refine e_aload_n h dX11_item_228 (pc := 228) rfl ?_
        refine e_getC h fl_X11_64 dX11_item_229 (pc := 229) rfl (Nat.lt_of_lt_of_le (by decide) hN) rfl rfl (r := 129) rfl ?_
        refine e_iconst h dX11_item_232 (pc := 232)  ?_
        refine e_iald h dX11_item_233 (pc := 233) rfl (Nat.lt_of_lt_of_le (by decide) hN) (j := 2) rfl (by decide) ?_
        try simp (disch := omega) only [up_eq, up_ne]
        refine e_iast h dX11_item_234 (pc := 234) rfl (Nat.lt_of_lt_of_le (by decide) hN) (j := (6 + sT c.1)) (by omega) (by show _ < 24; omega) ?_
        refine e_aload_n h dX11_item_235 (pc := 235) rfl ?_
        refine e_getC h fl_X11_31 dX11_item_236 (pc := 236) rfl (Nat.lt_of_lt_of_le (by decide) hN) rfl rfl (r := 118) rfl ?_
        refine e_bipush h dX11_item_239 (pc := 239) (by decide +kernel) ?_
        refine e_aload_n h dX11_item_241 (pc := 241) rfl ?_
        refine e_getC h fl_X11_22 dX11_item_242 (pc := 242) rfl (Nat.lt_of_lt_of_le (by decide) hN) rfl rfl (r := 115) rfl ?_
        refine e_iconst h dX11_item_245 (pc := 245)  ?_
        refine e_iald h dX11_item_246 (pc := 246) rfl (Nat.lt_of_lt_of_le (by decide) hN) (j := 1) rfl (by decide) ?_
        try simp (disch := omega) only [up_eq, up_ne]
        refine e_iadd h dX11_item_247 (pc := 247)  ?_
        refine e_aload_n h dX11_item_248 (pc := 248) rfl ?_
        refine e_getC h fl_X11_64 dX11_item_249 (pc := 249) rfl (Nat.lt_of_lt_of_le (by decide) hN) rfl rfl (r := 129) rfl ?_
        refine e_iconst h dX11_item_252 (pc := 252)  ?_
        refine e_iald h dX11_item_253 (pc := 253) rfl (Nat.lt_of_lt_of_le (by decide) hN) (j := 3) rfl (by decide) ?_
        try simp (disch := omega) only [up_eq, up_ne]
        refine e_iast h dX11_item_254 (pc := 254) rfl (Nat.lt_of_lt_of_le (by decide) hN) (j := (6 + sT c.1)) (by omega) (by show _ < 12; omega) ?_
        refine e_aload_n h dX11_item_255 (pc := 255) rfl ?_
        refine e_getC h fl_X11_34 dX11_item_256 (pc := 256) rfl (Nat.lt_of_lt_of_le (by decide) hN) rfl rfl (r := 119) rfl ?_
        refine e_bipush h dX11_item_259 (pc := 259) (by decide +kernel) ?_
        refine e_aload_n h dX11_item_261 (pc := 261) rfl ?_
        refine e_getC h fl_X11_22 dX11_item_262 (pc := 262) rfl (Nat.lt_of_lt_of_le (by decide) hN) rfl rfl (r := 115) rfl ?_
        refine e_iconst h dX11_item_265 (pc := 265)  ?_
        refine e_iald h dX11_item_266 (pc := 266) rfl (Nat.lt_of_lt_of_le (by decide) hN) (j := 1) rfl (by decide) ?_
        try simp (disch := omega) only [up_eq, up_ne]
        refine e_iadd h dX11_item_267 (pc := 267)  ?_
        refine e_aload_n h dX11_item_268 (pc := 268) rfl ?_
        refine e_getC h fl_X11_64 dX11_item_269 (pc := 269) rfl (Nat.lt_of_lt_of_le (by decide) hN) rfl rfl (r := 129) rfl ?_
        refine e_iconst h dX11_item_272 (pc := 272)  ?_
        refine e_iald h dX11_item_273 (pc := 273) rfl (Nat.lt_of_lt_of_le (by decide) hN) (j := 4) rfl (by decide) ?_
        try simp (disch := omega) only [up_eq, up_ne]
        refine e_iast h dX11_item_274 (pc := 274) rfl (Nat.lt_of_lt_of_le (by decide) hN) (j := (6 + sT c.1)) (by omega) (by show _ < 12; omega) ?_
        refine e_aload_n h dX11_item_275 (pc := 275) rfl ?_
        refine e_getC h fl_X11_22 dX11_item_276 (pc := 276) rfl (Nat.lt_of_lt_of_le (by decide) hN) rfl rfl (r := 115) rfl ?_
        refine e_iconst h dX11_item_279 (pc := 279)  ?_
        refine e_dup2 h dX11_item_280 (pc := 280) rfl rfl ?_
        refine e_iald h dX11_item_281 (pc := 281) rfl (Nat.lt_of_lt_of_le (by decide) hN) (j := 1) rfl (by decide) ?_
        try simp (disch := omega) only [up_eq, up_ne]
        refine e_iconst h dX11_item_282 (pc := 282)  ?_
        refine e_iadd h dX11_item_283 (pc := 283)  ?_
        refine e_iast h dX11_item_284 (pc := 284) rfl (Nat.lt_of_lt_of_le (by decide) hN) (j := 1) rfl (by decide) ?_
        refine e_iconst h dX11_item_285 (pc := 285)  ?_
        refine e_zret h hr ha dX11_item_286 (pc := 286) (by decide) ?_
        exact kt _ (upS (upS (upS (upS (upS c.1 4 (sT c.1) (l.getD 0 0)) 5 (sT c.1) (l.getD 1 0)) 6 (sT c.1) (l.getD 3 0)) 7 (sT c.1) (l.getD 4 0)) 3 0 (sT c.1 + 1), upS c.2 4 (sT c.1) (l.getD 2 0)) e (item_yes hl (by unfold tellS; rw [if_neg (by omega), if_pos (by omega), if_pos (by omega)]; unfold addT; rw [if_pos (by omega)])) (by simp (disch := omega) only [up_eq, up_ne]; exact h21) (M1S_T hS2 (by first | exact n0 | (simp (disch := omega) only [up_eq, up_ne]; exact n0)) (by first | exact n1 | (simp (disch := omega) only [up_eq, up_ne]; exact n1)) (by first | exact n3 | (simp (disch := omega) only [up_eq, up_ne]; exact n3)) (by first | exact n4 | (simp (disch := omega) only [up_eq, up_ne]; exact n4)) (by first | omega | (simp (disch := omega) only [up_eq, up_ne]; omega))) (MO_T hO2 (by first | exact n2 | (simp (disch := omega) only [up_eq, up_ne]; exact n2))) (FD.up (FD.up (FD.up (FD.up (FD.up (FD.up hFD (by unfold dft; omega)) (by unfold dft; omega)) (by unfold dft; omega)) (by unfold dft; omega)) (by unfold dft; omega)) (by unfold dft; omega))
      · skip
        refine e_if_ne h (tgt := 175) dX11_item_170 (pc := 170) (by decide) (by decide) (fun hz => absurd hz (by decide)) (fun _ => ?_)
        refine e_iconst h dX11_item_173 (pc := 173)  ?_
        refine e_zret h hr ha dX11_item_174 (pc := 174) (by decide) ?_
        exact kf M2 (item_bad hl (by unfold tellS; rw [if_neg (by omega), if_pos (by omega), if_pos (by omega)]; unfold addT; rw [if_neg (fun z => hti (by omega))])) hFD
    · have hFD : FD M M2 := FD.fig (FD.rf.up (by unfold dft; omega)) hf
      refine e_if_eq h (tgt := 173) dX11_item_163 (pc := 163) (by decide) (by decide) (fun _ => ?_) (fun hz => absurd hz (by decide))
      refine e_iconst h dX11_item_173 (pc := 173)  ?_
      refine e_zret h hr ha dX11_item_174 (pc := 174) (by decide) ?_
      exact kf M2 (item_no fun l0 e1 hl0 => by unfold tellS; rw [if_neg (by omega), if_pos (by omega), if_neg (hno l0 e1 hl0)]) hFD
  · refine e_lookV h dX11_item_20 (pc := 20) (v := 109) (by omega) (by decide) (by decide) (off := 267) (by decide +kernel) (tgt := 287) (by decide) ?_
    refine e_aload_n h dX11_item_287 (pc := 287) rfl ?_
    refine e_iconst h dX11_item_288 (pc := 288)  ?_
    refine e_callV1 lk_X11_122 mv_X11_figures dX11_item_289 (pc := 289) rfl (by decide) (Nat.lt_of_lt_of_le (by decide) hN) (Nat.le_of_ble_eq_true rfl) (rmY := rmX11_figures) (by decide) h ?_
    refine m_figures (b := b) (n := n) (m := 3) (q0 := q + 1) rfl hN (hX.to (up_ne (by omega)) (up_row (by omega))) (by rw [up_eq]; omega) (by omega) (by omega) (by omega) (fun M2 l e hl hlen h21 hnum hf => ?_) (fun M2 hno hf => ?_)
    · have hFD : FD M M2 := FD.fig (FD.rf.up (by unfold dft; omega)) hf
      have hrow : ∀ p, p ≠ 110 → p ≠ 129 → M2 p = M p := fun p h1 h2 => (funext fun j => hf p j (Or.inl h1) h2).trans (up_row h1)
      have hS2 := hS.to (M2 := M2) (fun p a b => hrow p (by omega) (by omega))
      have hO2 := hO.to (M2 := M2) (hrow 123 (by omega) (by omega)) (hrow 124 (by omega) (by omega)) (hrow 125 (by omega) (by omega)) (hrow 126 (by omega) (by omega)) (hrow 127 (by omega) (by omega))
      have r1 := hS2.1
      have r2 := hS2.2.1
      have r3 := hS2.2.2.1
      have o1 := hO2.1
      have h99 := (rns_le _ _ _ _ hl).1
      have n0 := hnum 0 (by omega)
      have m0 := h99 0
      have n1 := hnum 1 (by omega)
      have m1 := h99 1
      have n2 := hnum 2 (by omega)
      have m2 := h99 2
      refine e_if_eq h (tgt := 348) dX11_item_292 (pc := 292) (by decide) (by decide) (fun hz => absurd hz (by decide)) (fun _ => ?_)
      refine e_aload_n h dX11_item_295 (pc := 295) rfl ?_
      refine e_getC h fl_X11_49 dX11_item_296 (pc := 296) rfl (Nat.lt_of_lt_of_le (by decide) hN) rfl rfl (r := 124) rfl ?_
      refine e_iconst h dX11_item_299 (pc := 299)  ?_
      refine e_iald h dX11_item_300 (pc := 300) rfl (Nat.lt_of_lt_of_le (by decide) hN) (j := 1) rfl (by decide) ?_
      try simp (disch := omega) only [up_eq, up_ne]
      refine e_bipush h dX11_item_301 (pc := 301) (by decide +kernel) ?_
      refine e_icmp_eq h (tgt := 348) dX11_item_303 (pc := 303) (by decide) (by omega) (by decide) (fun hb303 => ?_) (fun hb303 => ?_)
      · refine e_iconst h dX11_item_348 (pc := 348)  ?_
        refine e_zret h hr ha dX11_item_349 (pc := 349) (by decide) ?_
        exact kf M2 (item_bad hl (by unfold tellS; rw [if_neg (by omega), if_neg (by omega), if_pos (by omega), if_pos (by omega)]; unfold addM; rw [if_neg (by omega)])) hFD
      · refine e_aload_n h dX11_item_306 (pc := 306) rfl ?_
        refine e_getC h fl_X11_64 dX11_item_307 (pc := 307) rfl (Nat.lt_of_lt_of_le (by decide) hN) rfl rfl (r := 129) rfl ?_
        refine e_iconst h dX11_item_310 (pc := 310)  ?_
        refine e_iald h dX11_item_311 (pc := 311) rfl (Nat.lt_of_lt_of_le (by decide) hN) (j := 0) rfl (by decide) ?_
        try simp (disch := omega) only [up_eq, up_ne]
        refine e_aload_n h dX11_item_312 (pc := 312) rfl ?_
        refine e_getC h fl_X11_22 dX11_item_313 (pc := 313) rfl (Nat.lt_of_lt_of_le (by decide) hN) rfl rfl (r := 115) rfl ?_
        refine e_iconst h dX11_item_316 (pc := 316)  ?_
        refine e_iald h dX11_item_317 (pc := 317) rfl (Nat.lt_of_lt_of_le (by decide) hN) (j := 1) rfl (by decide) ?_
        try simp (disch := omega) only [up_eq, up_ne]
        refine e_icmp_ge h (tgt := 348) dX11_item_318 (pc := 318) (by decide) (by omega) (by omega) (fun hb318 => ?_) (fun hb318 => ?_)
        · refine e_iconst h dX11_item_348 (pc := 348)  ?_
          refine e_zret h hr ha dX11_item_349 (pc := 349) (by decide) ?_
          exact kf M2 (item_bad hl (by unfold tellS; rw [if_neg (by omega), if_neg (by omega), if_pos (by omega), if_pos (by omega)]; unfold addM; rw [if_neg (by omega)])) hFD
        · refine e_aload_n h dX11_item_321 (pc := 321) rfl ?_
          refine e_getC h fl_X11_64 dX11_item_322 (pc := 322) rfl (Nat.lt_of_lt_of_le (by decide) hN) rfl rfl (r := 129) rfl ?_
          refine e_iconst h dX11_item_325 (pc := 325)  ?_
          refine e_iald h dX11_item_326 (pc := 326) rfl (Nat.lt_of_lt_of_le (by decide) hN) (j := 1) rfl (by decide) ?_
          try simp (disch := omega) only [up_eq, up_ne]
          refine e_i2l h dX11_item_327 (pc := 327) (by omega) ?_
          refine e_lconst h dX11_item_328 (pc := 328) (x := 1) rfl ?_
          refine e_ldc2 h dX11_item_329 (pc := 329) (x := 60) kl_X11_130 rfl ?_
          refine e_callS3 lk_X11_97 ms_X11_in dX11_item_332 (pc := 332) (Nat.le_of_ble_eq_true rfl) (rmY := rmX11_in) (by decide) h ?_
          refine c_in (by omega) (by omega) (by omega) (fun hq => ?_) (fun hq => ?_)
          · skip
            refine e_if_eq h (tgt := 348) dX11_item_335 (pc := 335) (by decide) (by decide) (fun hz => absurd hz (by decide)) (fun _ => ?_)
            refine e_aload_n h dX11_item_338 (pc := 338) rfl ?_
            refine e_getC h fl_X11_64 dX11_item_339 (pc := 339) rfl (Nat.lt_of_lt_of_le (by decide) hN) rfl rfl (r := 129) rfl ?_
            refine e_iconst h dX11_item_342 (pc := 342)  ?_
            refine e_iald h dX11_item_343 (pc := 343) rfl (Nat.lt_of_lt_of_le (by decide) hN) (j := 2) rfl (by decide) ?_
            try simp (disch := omega) only [up_eq, up_ne]
            refine e_iconst h dX11_item_344 (pc := 344)  ?_
            refine e_icmp_le h (tgt := 350) dX11_item_345 (pc := 345) (by decide) (by omega) (by decide) (fun hb345 => ?_) (fun hb345 => ?_)
            · refine e_aload_n h dX11_item_350 (pc := 350) rfl ?_
              refine e_iconst h dX11_item_351 (pc := 351)  ?_
              refine e_aload_n h dX11_item_352 (pc := 352) rfl ?_
              refine e_getC h fl_X11_64 dX11_item_353 (pc := 353) rfl (Nat.lt_of_lt_of_le (by decide) hN) rfl rfl (r := 129) rfl ?_
              refine e_iconst h dX11_item_356 (pc := 356)  ?_
              refine e_iald h dX11_item_357 (pc := 357) rfl (Nat.lt_of_lt_of_le (by decide) hN) (j := 0) rfl (by decide) ?_
              try simp (disch := omega) only [up_eq, up_ne]
              refine e_aload_n h dX11_item_358 (pc := 358) rfl ?_
              refine e_getC h fl_X11_64 dX11_item_359 (pc := 359) rfl (Nat.lt_of_lt_of_le (by decide) hN) rfl rfl (r := 129) rfl ?_
              refine e_iconst h dX11_item_362 (pc := 362)  ?_
              refine e_iald h dX11_item_363 (pc := 363) rfl (Nat.lt_of_lt_of_le (by decide) hN) (j := 1) rfl (by decide) ?_
              try simp (disch := omega) only [up_eq, up_ne]
              refine e_aload_n h dX11_item_364 (pc := 364) rfl ?_
              refine e_getC h fl_X11_64 dX11_item_365 (pc := 365) rfl (Nat.lt_of_lt_of_le (by decide) hN) rfl rfl (r := 129) rfl ?_
              refine e_iconst h dX11_item_368 (pc := 368)  ?_
              refine e_iald h dX11_item_369 (pc := 369) rfl (Nat.lt_of_lt_of_le (by decide) hN) (j := 2) rfl (by decide) ?_
              try simp (disch := omega) only [up_eq, up_ne]
              refine e_callV4 lk_X11_132 mv_X11_addErrand dX11_item_370 (pc := 370) rfl (by decide) (Nat.lt_of_lt_of_le (by decide) hN) (Nat.le_of_ble_eq_true rfl) (rmY := rmX11_addErrand) (by decide) h ?_
              refine m_addErrand2 (O := c.2) (T := sT c.1) (c := 1) (t := l.getD 0 0) (d := l.getD 1 0) (u := l.getD 2 0) rfl (by omega) (by omega) (by omega) hN (by omega) hO2 (by omega) (fun v hv => ?_)
              refine e_iconst h dX11_item_373 (pc := 373)  ?_
              refine e_zret h hr ha dX11_item_374 (pc := 374) (by decide) ?_
              exact kt _ (c.1, tellO c.2 (l.getD 0 0) (l.getD 1 0) (l.getD 2 0)) e (item_yes hl (by unfold tellS; rw [if_neg (by omega), if_neg (by omega), if_pos (by omega), if_pos (by omega)]; unfold addM; rw [if_pos (by omega)])) (by simp (disch := omega) only [up_eq, up_ne]; exact h21) (hS2.to (fun p a b => by simp (disch := omega) only [up_row])) (MO_tell hO2 (by first | exact hv | (simp (disch := omega) only [up_eq, up_ne]; exact hv))) (FD.up (FD.up (FD.up (FD.up hFD (by unfold dft; omega)) (by unfold dft; omega)) (by unfold dft; omega)) (by unfold dft; omega))
            · refine e_iconst h dX11_item_348 (pc := 348)  ?_
              refine e_zret h hr ha dX11_item_349 (pc := 349) (by decide) ?_
              exact kf M2 (item_bad hl (by unfold tellS; rw [if_neg (by omega), if_neg (by omega), if_pos (by omega), if_pos (by omega)]; unfold addM; rw [if_neg (by omega)])) hFD
          · skip
            refine e_if_eq h (tgt := 348) dX11_item_335 (pc := 335) (by decide) (by decide) (fun _ => ?_) (fun hz => absurd hz (by decide))
            refine e_iconst h dX11_item_348 (pc := 348)  ?_
            refine e_zret h hr ha dX11_item_349 (pc := 349) (by decide) ?_
            exact kf M2 (item_bad hl (by unfold tellS; rw [if_neg (by omega), if_neg (by omega), if_pos (by omega), if_pos (by omega)]; unfold addM; rw [if_neg (by omega)])) hFD
    · have hFD : FD M M2 := FD.fig (FD.rf.up (by unfold dft; omega)) hf
      refine e_if_eq h (tgt := 348) dX11_item_292 (pc := 292) (by decide) (by decide) (fun _ => ?_) (fun hz => absurd hz (by decide))
      refine e_iconst h dX11_item_348 (pc := 348)  ?_
      refine e_zret h hr ha dX11_item_349 (pc := 349) (by decide) ?_
      exact kf M2 (item_no fun l0 e1 hl0 => by unfold tellS; rw [if_neg (by omega), if_neg (by omega), if_pos (by omega), if_neg (hno l0 e1 hl0)]) hFD
  · refine e_lookV h dX11_item_20 (pc := 20) (v := 122) (by omega) (by decide) (by decide) (off := 355) (by decide +kernel) (tgt := 375) (by decide) ?_
    refine e_aload_n h dX11_item_375 (pc := 375) rfl ?_
    refine e_iconst h dX11_item_376 (pc := 376)  ?_
    refine e_callV1 lk_X11_122 mv_X11_figures dX11_item_377 (pc := 377) rfl (by decide) (Nat.lt_of_lt_of_le (by decide) hN) (Nat.le_of_ble_eq_true rfl) (rmY := rmX11_figures) (by decide) h ?_
    refine m_figures (b := b) (n := n) (m := 2) (q0 := q + 1) rfl hN (hX.to (up_ne (by omega)) (up_row (by omega))) (by rw [up_eq]; omega) (by omega) (by omega) (by omega) (fun M2 l e hl hlen h21 hnum hf => ?_) (fun M2 hno hf => ?_)
    · have hFD : FD M M2 := FD.fig (FD.rf.up (by unfold dft; omega)) hf
      have hrow : ∀ p, p ≠ 110 → p ≠ 129 → M2 p = M p := fun p h1 h2 => (funext fun j => hf p j (Or.inl h1) h2).trans (up_row h1)
      have hS2 := hS.to (M2 := M2) (fun p a b => hrow p (by omega) (by omega))
      have hO2 := hO.to (M2 := M2) (hrow 123 (by omega) (by omega)) (hrow 124 (by omega) (by omega)) (hrow 125 (by omega) (by omega)) (hrow 126 (by omega) (by omega)) (hrow 127 (by omega) (by omega))
      have r1 := hS2.1
      have r2 := hS2.2.1
      have r3 := hS2.2.2.1
      have o1 := hO2.1
      have h99 := (rns_le _ _ _ _ hl).1
      have n0 := hnum 0 (by omega)
      have m0 := h99 0
      have n1 := hnum 1 (by omega)
      have m1 := h99 1
      refine e_if_eq h (tgt := 420) dX11_item_380 (pc := 380) (by decide) (by decide) (fun hz => absurd hz (by decide)) (fun _ => ?_)
      refine e_aload_n h dX11_item_383 (pc := 383) rfl ?_
      refine e_getC h fl_X11_37 dX11_item_384 (pc := 384) rfl (Nat.lt_of_lt_of_le (by decide) hN) rfl rfl (r := 120) rfl ?_
      refine e_iconst h dX11_item_387 (pc := 387)  ?_
      refine e_iald h dX11_item_388 (pc := 388) rfl (Nat.lt_of_lt_of_le (by decide) hN) (j := 1) rfl (by decide) ?_
      try simp (disch := omega) only [up_eq, up_ne]
      refine e_iconst h dX11_item_389 (pc := 389)  ?_
      refine e_icmp_eq h (tgt := 420) dX11_item_390 (pc := 390) (by decide) (by omega) (by decide) (fun hb390 => ?_) (fun hb390 => ?_)
      · refine e_iconst h dX11_item_420 (pc := 420)  ?_
        refine e_zret h hr ha dX11_item_421 (pc := 421) (by decide) ?_
        exact kf M2 (item_bad hl (by unfold tellS; rw [if_neg (by omega), if_neg (by omega), if_neg (by omega), if_pos (by omega), if_pos (by omega)]; unfold addZ; rw [if_neg (by omega)])) hFD
      · refine e_aload_n h dX11_item_393 (pc := 393) rfl ?_
        refine e_getC h fl_X11_64 dX11_item_394 (pc := 394) rfl (Nat.lt_of_lt_of_le (by decide) hN) rfl rfl (r := 129) rfl ?_
        refine e_iconst h dX11_item_397 (pc := 397)  ?_
        refine e_iald h dX11_item_398 (pc := 398) rfl (Nat.lt_of_lt_of_le (by decide) hN) (j := 0) rfl (by decide) ?_
        try simp (disch := omega) only [up_eq, up_ne]
        refine e_iconst h dX11_item_399 (pc := 399)  ?_
        refine e_icmp_gt h (tgt := 420) dX11_item_400 (pc := 400) (by decide) (by omega) (by decide) (fun hb400 => ?_) (fun hb400 => ?_)
        · refine e_iconst h dX11_item_420 (pc := 420)  ?_
          refine e_zret h hr ha dX11_item_421 (pc := 421) (by decide) ?_
          exact kf M2 (item_bad hl (by unfold tellS; rw [if_neg (by omega), if_neg (by omega), if_neg (by omega), if_pos (by omega), if_pos (by omega)]; unfold addZ; rw [if_neg (by omega)])) hFD
        · refine e_aload_n h dX11_item_403 (pc := 403) rfl ?_
          refine e_getC h fl_X11_64 dX11_item_404 (pc := 404) rfl (Nat.lt_of_lt_of_le (by decide) hN) rfl rfl (r := 129) rfl ?_
          refine e_iconst h dX11_item_407 (pc := 407)  ?_
          refine e_iald h dX11_item_408 (pc := 408) rfl (Nat.lt_of_lt_of_le (by decide) hN) (j := 1) rfl (by decide) ?_
          try simp (disch := omega) only [up_eq, up_ne]
          refine e_i2l h dX11_item_409 (pc := 409) (by omega) ?_
          refine e_lconst h dX11_item_410 (pc := 410) (x := 1) rfl ?_
          refine e_ldc2 h dX11_item_411 (pc := 411) (x := 60) kl_X11_130 rfl ?_
          refine e_callS3 lk_X11_97 ms_X11_in dX11_item_414 (pc := 414) (Nat.le_of_ble_eq_true rfl) (rmY := rmX11_in) (by decide) h ?_
          refine c_in (by omega) (by omega) (by omega) (fun hq => ?_) (fun hq => ?_)
          · skip
            refine e_if_ne h (tgt := 422) dX11_item_417 (pc := 417) (by decide) (by decide) (fun _ => ?_) (fun hz => absurd hz (by decide))
            refine e_aload_n h dX11_item_422 (pc := 422) rfl ?_
            refine e_getC h fl_X11_40 dX11_item_423 (pc := 423) rfl (Nat.lt_of_lt_of_le (by decide) hN) rfl rfl (r := 121) rfl ?_
            refine e_iconst h dX11_item_426 (pc := 426)  ?_
            refine e_aload_n h dX11_item_427 (pc := 427) rfl ?_
            refine e_getC h fl_X11_37 dX11_item_428 (pc := 428) rfl (Nat.lt_of_lt_of_le (by decide) hN) rfl rfl (r := 120) rfl ?_
            refine e_iconst h dX11_item_431 (pc := 431)  ?_
            refine e_iald h dX11_item_432 (pc := 432) rfl (Nat.lt_of_lt_of_le (by decide) hN) (j := 1) rfl (by decide) ?_
            try simp (disch := omega) only [up_eq, up_ne]
            refine e_iadd h dX11_item_433 (pc := 433)  ?_
            refine e_aload_n h dX11_item_434 (pc := 434) rfl ?_
            refine e_getC h fl_X11_64 dX11_item_435 (pc := 435) rfl (Nat.lt_of_lt_of_le (by decide) hN) rfl rfl (r := 129) rfl ?_
            refine e_iconst h dX11_item_438 (pc := 438)  ?_
            refine e_iald h dX11_item_439 (pc := 439) rfl (Nat.lt_of_lt_of_le (by decide) hN) (j := 0) rfl (by decide) ?_
            try simp (disch := omega) only [up_eq, up_ne]
            refine e_iast h dX11_item_440 (pc := 440) rfl (Nat.lt_of_lt_of_le (by decide) hN) (j := (5 + sB c.1)) (by omega) (by show _ < 10; omega) ?_
            refine e_aload_n h dX11_item_441 (pc := 441) rfl ?_
            refine e_getC h fl_X11_43 dX11_item_442 (pc := 442) rfl (Nat.lt_of_lt_of_le (by decide) hN) rfl rfl (r := 122) rfl ?_
            refine e_iconst h dX11_item_445 (pc := 445)  ?_
            refine e_aload_n h dX11_item_446 (pc := 446) rfl ?_
            refine e_getC h fl_X11_37 dX11_item_447 (pc := 447) rfl (Nat.lt_of_lt_of_le (by decide) hN) rfl rfl (r := 120) rfl ?_
            refine e_iconst h dX11_item_450 (pc := 450)  ?_
            refine e_iald h dX11_item_451 (pc := 451) rfl (Nat.lt_of_lt_of_le (by decide) hN) (j := 1) rfl (by decide) ?_
            try simp (disch := omega) only [up_eq, up_ne]
            refine e_iadd h dX11_item_452 (pc := 452)  ?_
            refine e_aload_n h dX11_item_453 (pc := 453) rfl ?_
            refine e_getC h fl_X11_64 dX11_item_454 (pc := 454) rfl (Nat.lt_of_lt_of_le (by decide) hN) rfl rfl (r := 129) rfl ?_
            refine e_iconst h dX11_item_457 (pc := 457)  ?_
            refine e_iald h dX11_item_458 (pc := 458) rfl (Nat.lt_of_lt_of_le (by decide) hN) (j := 1) rfl (by decide) ?_
            try simp (disch := omega) only [up_eq, up_ne]
            refine e_iast h dX11_item_459 (pc := 459) rfl (Nat.lt_of_lt_of_le (by decide) hN) (j := (5 + sB c.1)) (by omega) (by show _ < 10; omega) ?_
            refine e_aload_n h dX11_item_460 (pc := 460) rfl ?_
            refine e_getC h fl_X11_37 dX11_item_461 (pc := 461) rfl (Nat.lt_of_lt_of_le (by decide) hN) rfl rfl (r := 120) rfl ?_
            refine e_iconst h dX11_item_464 (pc := 464)  ?_
            refine e_dup2 h dX11_item_465 (pc := 465) rfl rfl ?_
            refine e_iald h dX11_item_466 (pc := 466) rfl (Nat.lt_of_lt_of_le (by decide) hN) (j := 1) rfl (by decide) ?_
            try simp (disch := omega) only [up_eq, up_ne]
            refine e_iconst h dX11_item_467 (pc := 467)  ?_
            refine e_iadd h dX11_item_468 (pc := 468)  ?_
            refine e_iast h dX11_item_469 (pc := 469) rfl (Nat.lt_of_lt_of_le (by decide) hN) (j := 1) rfl (by decide) ?_
            refine e_iconst h dX11_item_470 (pc := 470)  ?_
            refine e_zret h hr ha dX11_item_471 (pc := 471) (by decide) ?_
            exact kt _ (upS (upS (upS c.1 9 (sB c.1) (l.getD 0 0)) 10 (sB c.1) (l.getD 1 0)) 8 0 (sB c.1 + 1), c.2) e (item_yes hl (by unfold tellS; rw [if_neg (by omega), if_neg (by omega), if_neg (by omega), if_pos (by omega), if_pos (by omega)]; unfold addZ; rw [if_pos (by omega)])) (by simp (disch := omega) only [up_eq, up_ne]; exact h21) (M1S_Z hS2 (by first | exact n0 | (simp (disch := omega) only [up_eq, up_ne]; exact n0)) (by first | exact n1 | (simp (disch := omega) only [up_eq, up_ne]; exact n1)) (by first | omega | (simp (disch := omega) only [up_eq, up_ne]; omega))) (hO2.to (by simp (disch := omega) only [up_row]) (by simp (disch := omega) only [up_row]) (by simp (disch := omega) only [up_row]) (by simp (disch := omega) only [up_row]) (by simp (disch := omega) only [up_row])) (FD.up (FD.up (FD.up hFD (by unfold dft; omega)) (by unfold dft; omega)) (by unfold dft; omega))
          · skip
            refine e_if_ne h (tgt := 422) dX11_item_417 (pc := 417) (by decide) (by decide) (fun hz => absurd hz (by decide)) (fun _ => ?_)
            refine e_iconst h dX11_item_420 (pc := 420)  ?_
            refine e_zret h hr ha dX11_item_421 (pc := 421) (by decide) ?_
            exact kf M2 (item_bad hl (by unfold tellS; rw [if_neg (by omega), if_neg (by omega), if_neg (by omega), if_pos (by omega), if_pos (by omega)]; unfold addZ; rw [if_neg (by omega)])) hFD
    · have hFD : FD M M2 := FD.fig (FD.rf.up (by unfold dft; omega)) hf
      refine e_if_eq h (tgt := 420) dX11_item_380 (pc := 380) (by decide) (by decide) (fun _ => ?_) (fun hz => absurd hz (by decide))
      refine e_iconst h dX11_item_420 (pc := 420)  ?_
      refine e_zret h hr ha dX11_item_421 (pc := 421) (by decide) ?_
      exact kf M2 (item_no fun l0 e1 hl0 => by unfold tellS; rw [if_neg (by omega), if_neg (by omega), if_neg (by omega), if_pos (by omega), if_neg (hno l0 e1 hl0)]) hFD
  · refine e_lookup h dX11_item_20 (pc := 20) (by omega) (by decide) (by show Op.lookupswitch.offset [(109, 267), (116, 138), (118, 44), (122, 355)] 452 _ = 452; rw [Op.lookupswitch.offset_cons, if_neg (by omega), Op.lookupswitch.offset_cons, if_neg (by omega), Op.lookupswitch.offset_cons, if_neg (by omega), Op.lookupswitch.offset_cons, if_neg (by omega)]; rfl) (tgt := 472) (by decide) ?_
    refine e_iconst h dX11_item_472 (pc := 472)  ?_
    refine e_zret h hr ha dX11_item_473 (pc := 473) (by decide) ?_
    exact kf _ (item_no fun l0 e1 hl0 => by unfold tellS; rw [if_neg (by omega), if_neg (by omega), if_neg (by omega), if_neg (by omega)]) (FD.rf.up (by unfold dft; omega))
