def MT (b : TB) (n : Nat) (M : Mem) : Prop := M 110 0 = n ∧ n ≤ 300 ∧ ∀ k, k < n → M 111 k = b k ∧ b k ≤ 255
def M0S (S : SD) (M : Mem) : Prop := M 112 0 = sL S ∧ M 115 0 = sT S ∧ M 120 0 = sB S ∧ (∀ l, l < sL S → M 113 l = sP S l ∧ M 114 l = sW S l) ∧ (∀ i, i < sT S → M 116 i = sH S i ∧ M 117 i = sF S i ∧ M 118 i = sX S i ∧ M 119 i = sK S i) ∧ ∀ k, k < sB S → M 121 k = sC S k ∧ M 122 k = sD S k
def M0O (O : SD) (T : Nat) (M : Mem) : Prop := M 124 0 = oE O ∧ (∀ k, k < oE O → M 125 k = oW O k ∧ M 126 k = oD O k ∧ M 127 k = oU O k) ∧ ∀ i, i < T → M 123 i = oG O i
def MO (O : SD) (T : Nat) (M : Mem) (c : Nat) : Prop := M 124 c = oE O ∧ (∀ k, k < oE O → M 125 (8 * c + k) = oW O k ∧ M 126 (8 * c + k) = oD O k ∧ M 127 (8 * c + k) = oU O k) ∧ ∀ i, i < T → M 123 (6 * c + i) = oG O i
def MU (h0 : Nat) (f g : Nat → Int) (M : Mem) : Prop := M 110 19 = h0 ∧ ∀ k, k < h0 → (g k = -1 → M 128 (2 * k) = -4) ∧ (g k ≠ -1 → M 128 (2 * k) = f k ∧ M 128 (2 * k + 1) = g k)
def MK (S : SD) (K : Nat → SD) (z : Nat) (M : Mem) : Prop := ∀ k, k < z → MO (K k) (sT S) M (2 + k) ∧ WO (K k) (sT S)
theorem MT.to {b : TB} {n : Nat} {M M2 : Mem} (h : MT b n M) (e0 : M2 110 0 = M 110 0) (e : M2 111 = M 111) : MT b n M2 := by unfold MT; rw [e0, e]; exact h
theorem M0S.to {S : SD} {M M2 : Mem} (h : M0S S M) (a : M2 112 = M 112) (b : M2 113 = M 113) (c : M2 114 = M 114) (d : M2 115 = M 115) (e : M2 116 = M 116) (f : M2 117 = M 117) (g : M2 118 = M 118) (i : M2 119 = M 119) (j : M2 120 = M 120) (k : M2 121 = M 121) (l : M2 122 = M 122) : M0S S M2 := by unfold M0S; rw [a, b, c, d, e, f, g, i, j, k, l]; exact h
theorem M0O.to {O : SD} {T : Nat} {M M2 : Mem} (h : M0O O T M) (a : M2 123 = M 123) (b : M2 124 = M 124) (c : M2 125 = M 125) (d : M2 126 = M 126) (e : M2 127 = M 127) : M0O O T M2 := by unfold M0O; rw [a, b, c, d, e]; exact h
theorem MO.to {O : SD} {T c : Nat} {M M2 : Mem} (h : MO O T M c) (a : M2 123 = M 123) (b : M2 124 = M 124) (c0 : M2 125 = M 125) (d : M2 126 = M 126) (e : M2 127 = M 127) : MO O T M2 c := by unfold MO; rw [a, b, c0, d, e]; exact h
theorem MO_0 {O : SD} {T : Nat} {M : Mem} : MO O T M 0 ↔ M0O O T M := by
  unfold MO M0O
  simp only [Nat.mul_zero, Nat.zero_add]
theorem MU.to {h0 : Nat} {f g : Nat → Int} {M M2 : Mem} (h : MU h0 f g M) (e0 : M2 110 19 = M 110 19) (e : M2 128 = M 128) : MU h0 f g M2 := by unfold MU; rw [e0, e]; exact h
theorem MK.to {S : SD} {K : Nat → SD} {z : Nat} {M M2 : Mem} (h : MK S K z M) (a : M2 123 = M 123) (b : M2 124 = M 124) (c0 : M2 125 = M 125) (d : M2 126 = M 126) (e : M2 127 = M 127) : MK S K z M2 := fun k hk => ⟨(h k hk).1.to a b c0 d e, (h k hk).2⟩
def RepM (n : Nat) (b : TB) (S O : SD) (h0 : Nat) (f g : Nat → Int) (z : Nat) (K : Nat → SD) (M : Mem) : Prop := MT b n M ∧ M0S S M ∧ M0O O (sT S) M ∧ WS S ∧ WO O (sT S) ∧ MU h0 f g M ∧ h0 ≤ 8 ∧ HW O (sT S) h0 f g ∧ M 110 18 = (z : Int) ∧ z ≤ 2 ∧ MK S K z M
theorem RepM.tx {n : Nat} {b : TB} {S O : SD} {h0 : Nat} {f g : Nat → Int} {z : Nat} {K : Nat → SD} {M : Mem} (h : RepM n b S O h0 f g z K M) : MT b n M := h.1
theorem RepM.ms {n : Nat} {b : TB} {S O : SD} {h0 : Nat} {f g : Nat → Int} {z : Nat} {K : Nat → SD} {M : Mem} (h : RepM n b S O h0 f g z K M) : M0S S M := h.2.1
theorem RepM.mo {n : Nat} {b : TB} {S O : SD} {h0 : Nat} {f g : Nat → Int} {z : Nat} {K : Nat → SD} {M : Mem} (h : RepM n b S O h0 f g z K M) : M0O O (sT S) M := h.2.2.1
theorem RepM.ws {n : Nat} {b : TB} {S O : SD} {h0 : Nat} {f g : Nat → Int} {z : Nat} {K : Nat → SD} {M : Mem} (h : RepM n b S O h0 f g z K M) : WS S := h.2.2.2.1
theorem RepM.wo {n : Nat} {b : TB} {S O : SD} {h0 : Nat} {f g : Nat → Int} {z : Nat} {K : Nat → SD} {M : Mem} (h : RepM n b S O h0 f g z K M) : WO O (sT S) := h.2.2.2.2.1
theorem RepM.un {n : Nat} {b : TB} {S O : SD} {h0 : Nat} {f g : Nat → Int} {z : Nat} {K : Nat → SD} {M : Mem} (h : RepM n b S O h0 f g z K M) : MU h0 f g M := h.2.2.2.2.2.1
theorem RepM.h8 {n : Nat} {b : TB} {S O : SD} {h0 : Nat} {f g : Nat → Int} {z : Nat} {K : Nat → SD} {M : Mem} (h : RepM n b S O h0 f g z K M) : h0 ≤ 8 := h.2.2.2.2.2.2.1
theorem RepM.hw {n : Nat} {b : TB} {S O : SD} {h0 : Nat} {f g : Nat → Int} {z : Nat} {K : Nat → SD} {M : Mem} (h : RepM n b S O h0 f g z K M) : HW O (sT S) h0 f g := h.2.2.2.2.2.2.2.1
theorem RepM.m18 {n : Nat} {b : TB} {S O : SD} {h0 : Nat} {f g : Nat → Int} {z : Nat} {K : Nat → SD} {M : Mem} (h : RepM n b S O h0 f g z K M) : M 110 18 = (z : Int) := h.2.2.2.2.2.2.2.2.1
theorem RepM.z2 {n : Nat} {b : TB} {S O : SD} {h0 : Nat} {f g : Nat → Int} {z : Nat} {K : Nat → SD} {M : Mem} (h : RepM n b S O h0 f g z K M) : z ≤ 2 := h.2.2.2.2.2.2.2.2.2.1
theorem RepM.kp {n : Nat} {b : TB} {S O : SD} {h0 : Nat} {f g : Nat → Int} {z : Nat} {K : Nat → SD} {M : Mem} (h : RepM n b S O h0 f g z K M) : MK S K z M := h.2.2.2.2.2.2.2.2.2.2

set_option maxRecDepth 100000 in
set_option maxHeartbeats 4000000 in
theorem c_in {gg : GT} {ad : Nat → Nat} {N : Nat} {M : Mem} {Post : Option AV → Mem → Prop} {x a b : Int}   (hx : -9223372036854775808 ≤ x ∧ x ≤ 9223372036854775807) (ha0 : -9223372036854775808 ≤ a ∧ a ≤ 9223372036854775807) (hb0 : -9223372036854775808 ≤ b ∧ b ≤ 9223372036854775807) (kt : a ≤ x ∧ x ≤ b → Post (some (vi 1)) M) (kf : ¬ (a ≤ x ∧ x ≤ b) → Post (some (vi 0)) M) : Sp gg yX11_in cX11_in 6 (some .boolean) rmX11_in [vj x, vj a, vj b] ad N pT M Post := by
  refine Sp.intro (ls := [some (vj x), none, some (vj a), none, some (vj b), none]) (by decide +kernel) rfl (Nat.le_of_ble_eq_true rfl) fun κ hgg h hr ha => ?_
  have h : Ok κ RX11 cX11_in 6 rmX11_in := h
  subst hgg
  refine e_lload_n h dX11_in_0 (pc := 0) rfl ?_
  refine e_lload_n h dX11_in_1 (pc := 1) rfl ?_
  refine e_lcmp h dX11_in_2 (pc := 2) (by omega) (by omega) ?_
  generalize hlc2 : lcmp _ _ = lc2
  have hlr2 := lcmp_spec hlc2
  refine e_if_lt h (tgt := 17) dX11_in_3 (pc := 3) (by decide) (by omega) (fun hb3 => ?_) (fun hb3 => ?_)
  · refine e_iconst h dX11_in_17 (pc := 17)  ?_
    refine e_zret h hr ha dX11_in_18 (pc := 18) (by decide) ?_
    first | exact kt (by omega) | exact kf (by omega)
  · refine e_lload_n h dX11_in_6 (pc := 6) rfl ?_
    refine e_lload h dX11_in_7 (pc := 7) rfl ?_
    refine e_lcmp h dX11_in_9 (pc := 9) (by omega) (by omega) ?_
    generalize hlc9 : lcmp _ _ = lc9
    have hlr9 := lcmp_spec hlc9
    refine e_if_gt h (tgt := 17) dX11_in_10 (pc := 10) (by decide) (by omega) (fun hb10 => ?_) (fun hb10 => ?_)
    · refine e_iconst h dX11_in_17 (pc := 17)  ?_
      refine e_zret h hr ha dX11_in_18 (pc := 18) (by decide) ?_
      first | exact kt (by omega) | exact kf (by omega)
    · refine e_iconst h dX11_in_13 (pc := 13)  ?_
      refine e_goto h dX11_in_14 (pc := 14) (tgt := 18) (by decide) ?_
      refine e_zret h hr ha dX11_in_18 (pc := 18) (by decide) ?_
      first | exact kt (by omega) | exact kf (by omega)
set_option maxRecDepth 100000 in
set_option maxHeartbeats 4000000 in
theorem m_isLevel {gg : GT} {ad : Nat → Nat} {N : Nat} {M : Mem} {Post : Option AV → Mem → Prop} {n : Nat} {b : TB} {S O : SD} {h0 : Nat} {f g : Nat → Int} {z : Nat} {K : Nat → SD} {x : Int}   (hN : 139 ≤ N) (hR : RepM n b S O h0 f g z K M) (hx : (-2147483648 ≤ x ∧ x ≤ 2147483647)) (kt : ∀ l : Nat, x = (l : Int) → l < sL S → Post (some (vi 1)) M) (kf : ¬ (0 ≤ x ∧ x < sL S) → Post (some (vi 0)) M) : Sp gg yX11_isLevel cX11_isLevel 2 (some .boolean) rmX11_isLevel [vr 110, vi x] ad N pT M Post := by
  refine Sp.intro (ls := [some (vr 110), some (vi x)]) (by decide +kernel) rfl (Nat.le_of_ble_eq_true rfl) fun κ hgg h hr ha => ?_
  have h : Ok κ RX11 cX11_isLevel 2 rmX11_isLevel := h
  subst hgg
  have hwL := hR.ws.1
  have hwT := hR.ws.2.1
  have hwB := hR.ws.2.2.1
  have w4 := hR.ws.2.2.2.1
  have w5 := hR.ws.2.2.2.2.1
  have r9 := hR.ms.1
  have r10 := hR.ms.2.1
  have r11 := hR.ms.2.2.1
  refine e_iload_n h dX11_isLevel_0 (pc := 0) rfl ?_
  refine e_i2l h dX11_isLevel_1 (pc := 1) (by omega) ?_
  refine e_lconst h dX11_isLevel_2 (pc := 2) (x := 0) rfl ?_
  refine e_aload_n h dX11_isLevel_3 (pc := 3) rfl ?_
  refine e_getC h fl_X11_13 dX11_isLevel_4 (pc := 4) rfl (Nat.lt_of_lt_of_le (by decide) hN) rfl rfl (r := 112) rfl ?_
  refine e_iconst h dX11_isLevel_7 (pc := 7)  ?_
  refine e_iald h dX11_isLevel_8 (pc := 8) rfl (Nat.lt_of_lt_of_le (by decide) hN) (j := 0) rfl (by decide) ?_
  refine e_iconst h dX11_isLevel_9 (pc := 9)  ?_
  refine e_isub h dX11_isLevel_10 (pc := 10)  ?_
  refine e_i2l h dX11_isLevel_11 (pc := 11) (by omega) ?_
  refine e_callS3 lk_X11_97 ms_X11_in dX11_isLevel_12 (pc := 12) (Nat.le_of_ble_eq_true rfl) (rmY := rmX11_in) (by decide) h ?_
  refine c_in (by omega) (by omega) (by omega) (fun hz => ?_) (fun hz => ?_)
  · skip
    refine e_zret h hr ha dX11_isLevel_15 (pc := 15) (by decide) ?_
    exact kt x.toNat (by omega) (by omega)
  · skip
    refine e_zret h hr ha dX11_isLevel_15 (pc := 15) (by decide) ?_
    exact kf (by omega)
set_option maxRecDepth 100000 in
set_option maxHeartbeats 4000000 in
theorem m_isTown {gg : GT} {ad : Nat → Nat} {N : Nat} {M : Mem} {Post : Option AV → Mem → Prop} {n : Nat} {b : TB} {S O : SD} {h0 : Nat} {f g : Nat → Int} {z : Nat} {K : Nat → SD} {x : Int}   (hN : 139 ≤ N) (hR : RepM n b S O h0 f g z K M) (hx : (-2147483648 ≤ x ∧ x ≤ 2147483647)) (kt : ∀ l : Nat, x = (l : Int) → l < sT S → Post (some (vi 1)) M) (kf : ¬ (0 ≤ x ∧ x < sT S) → Post (some (vi 0)) M) : Sp gg yX11_isTown cX11_isTown 2 (some .boolean) rmX11_isTown [vr 110, vi x] ad N pT M Post := by
  refine Sp.intro (ls := [some (vr 110), some (vi x)]) (by decide +kernel) rfl (Nat.le_of_ble_eq_true rfl) fun κ hgg h hr ha => ?_
  have h : Ok κ RX11 cX11_isTown 2 rmX11_isTown := h
  subst hgg
  have hwL := hR.ws.1
  have hwT := hR.ws.2.1
  have hwB := hR.ws.2.2.1
  have w4 := hR.ws.2.2.2.1
  have w5 := hR.ws.2.2.2.2.1
  have r9 := hR.ms.1
  have r10 := hR.ms.2.1
  have r11 := hR.ms.2.2.1
  refine e_iload_n h dX11_isTown_0 (pc := 0) rfl ?_
  refine e_i2l h dX11_isTown_1 (pc := 1) (by omega) ?_
  refine e_lconst h dX11_isTown_2 (pc := 2) (x := 0) rfl ?_
  refine e_aload_n h dX11_isTown_3 (pc := 3) rfl ?_
  refine e_getC h fl_X11_22 dX11_isTown_4 (pc := 4) rfl (Nat.lt_of_lt_of_le (by decide) hN) rfl rfl (r := 115) rfl ?_
  refine e_iconst h dX11_isTown_7 (pc := 7)  ?_
  refine e_iald h dX11_isTown_8 (pc := 8) rfl (Nat.lt_of_lt_of_le (by decide) hN) (j := 0) rfl (by decide) ?_
  refine e_iconst h dX11_isTown_9 (pc := 9)  ?_
  refine e_isub h dX11_isTown_10 (pc := 10)  ?_
  refine e_i2l h dX11_isTown_11 (pc := 11) (by omega) ?_
  refine e_callS3 lk_X11_97 ms_X11_in dX11_isTown_12 (pc := 12) (Nat.le_of_ble_eq_true rfl) (rmY := rmX11_in) (by decide) h ?_
  refine c_in (by omega) (by omega) (by omega) (fun hz => ?_) (fun hz => ?_)
  · skip
    refine e_zret h hr ha dX11_isTown_15 (pc := 15) (by decide) ?_
    exact kt x.toNat (by omega) (by omega)
  · skip
    refine e_zret h hr ha dX11_isTown_15 (pc := 15) (by decide) ?_
    exact kf (by omega)
set_option maxRecDepth 100000 in
set_option maxHeartbeats 4000000 in
theorem m_isPlace {gg : GT} {ad : Nat → Nat} {N : Nat} {M : Mem} {Post : Option AV → Mem → Prop} {x : Int}   (hx : (-2147483648 ≤ x ∧ x ≤ 2147483647)) (kt : 0 ≤ x ∧ x ≤ 23 → Post (some (vi 1)) M) (kf : ¬ (0 ≤ x ∧ x ≤ 23) → Post (some (vi 0)) M) : Sp gg yX11_isPlace cX11_isPlace 1 (some .boolean) rmX11_isPlace [vi x] ad N pT M Post := by
  refine Sp.intro (ls := [some (vi x)]) (by decide +kernel) rfl (Nat.le_of_ble_eq_true rfl) fun κ hgg h hr ha => ?_
  have h : Ok κ RX11 cX11_isPlace 1 rmX11_isPlace := h
  subst hgg
  refine e_iload_n h dX11_isPlace_0 (pc := 0) rfl ?_
  refine e_i2l h dX11_isPlace_1 (pc := 1) (by omega) ?_
  refine e_lconst h dX11_isPlace_2 (pc := 2) (x := 0) rfl ?_
  refine e_ldc2 h dX11_isPlace_3 (pc := 3) (x := 23) kl_X11_207 rfl ?_
  refine e_callS3 lk_X11_97 ms_X11_in dX11_isPlace_6 (pc := 6) (Nat.le_of_ble_eq_true rfl) (rmY := rmX11_in) (by decide) h ?_
  refine c_in (by omega) (by omega) (by omega) (fun hz => ?_) (fun hz => ?_)
  · skip
    refine e_zret h hr ha dX11_isPlace_9 (pc := 9) (by decide) ?_
    exact kt hz
  · skip
    refine e_zret h hr ha dX11_isPlace_9 (pc := 9) (by decide) ?_
    exact kf hz
set_option maxRecDepth 100000 in
set_option maxHeartbeats 4000000 in
theorem m_level {gg : GT} {ad : Nat → Nat} {N : Nat} {M : Mem} {Post : Option AV → Mem → Prop} {n : Nat} {b : TB} {S O : SD} {h0 : Nat} {f g : Nat → Int} {z : Nat} {K : Nat → SD} {x w : Int}   (hN : 139 ≤ N) (hR : RepM n b S O h0 f g z K M) (hxx : (-2147483648 ≤ x ∧ x ≤ 2147483647)) (hxw : (-2147483648 ≤ w ∧ w ≤ 2147483647)) (kb : ¬ (0 ≤ x ∧ x < sL S ∧ 0 ≤ w ∧ w ≤ 1) → Post (some (vi (-1))) M) (kt : ∀ (l : Nat) (v : Int), x = (l : Int) → l < sL S → 0 ≤ w ∧ w ≤ 1 → v = (if w = 0 then (sP S l : Int) else (sW S l : Int)) → Post (some (vi v)) M) : Sp gg yX11_level cX11_level 3 (some .int) rmX11_level [vr 110, vi x, vi w] ad N pT M Post := by
  refine Sp.intro (ls := [some (vr 110), some (vi x), some (vi w)]) (by decide +kernel) rfl (Nat.le_of_ble_eq_true rfl) fun κ hgg h hr ha => ?_
  have h : Ok κ RX11 cX11_level 3 rmX11_level := h
  subst hgg
  have hwL := hR.ws.1
  have hwT := hR.ws.2.1
  have hwB := hR.ws.2.2.1
  have w4 := hR.ws.2.2.2.1
  have w5 := hR.ws.2.2.2.2.1
  have r9 := hR.ms.1
  have r10 := hR.ms.2.1
  have r11 := hR.ms.2.2.1
  refine e_aload_n h dX11_level_0 (pc := 0) rfl ?_
  refine e_iload_n h dX11_level_1 (pc := 1) rfl ?_
  refine e_callV1 lk_X11_156 mv_X11_isLevel dX11_level_2 (pc := 2) rfl (by decide) (Nat.lt_of_lt_of_le (by decide) hN) (Nat.le_of_ble_eq_true rfl) (rmY := rmX11_isLevel) (by decide) h ?_
  refine m_isLevel hN hR hxx (fun l ex hil => ?_) (fun hzx => ?_)
  · subst ex
    refine e_if_eq h (tgt := 18) dX11_level_5 (pc := 5) (by decide) (by decide) (fun hz => absurd hz (by decide)) (fun _ => ?_)
    refine e_iload_n h dX11_level_8 (pc := 8) rfl ?_
    refine e_i2l h dX11_level_9 (pc := 9) (by omega) ?_
    refine e_lconst h dX11_level_10 (pc := 10) (x := 0) rfl ?_
    refine e_lconst h dX11_level_11 (pc := 11) (x := 1) rfl ?_
    refine e_callS3 lk_X11_97 ms_X11_in dX11_level_12 (pc := 12) (Nat.le_of_ble_eq_true rfl) (rmY := rmX11_in) (by decide) h ?_
    refine c_in (by omega) (by omega) (by omega) (fun hzw => ?_) (fun hzw => ?_)
    · skip
      refine e_if_ne h (tgt := 20) dX11_level_15 (pc := 15) (by decide) (by decide) (fun _ => ?_) (fun hz => absurd hz (by decide))
      refine e_iload_n h dX11_level_20 (pc := 20) rfl ?_
      refine e_if_ne h (tgt := 33) dX11_level_21 (pc := 21) (by decide) (by omega) (fun hb21 => ?_) (fun hb21 => ?_)
      · refine e_aload_n h dX11_level_33 (pc := 33) rfl ?_
        refine e_getC h fl_X11_19 dX11_level_34 (pc := 34) rfl (Nat.lt_of_lt_of_le (by decide) hN) rfl rfl (r := 114) rfl ?_
        refine e_iload_n h dX11_level_37 (pc := 37) rfl ?_
        refine e_iald h dX11_level_38 (pc := 38) rfl (Nat.lt_of_lt_of_le (by decide) hN) rfl (by show _ < 12; omega) ?_
        rw [(hR.ms.2.2.2.1 l hil).2]
        refine e_iret h hr ha dX11_level_39 (pc := 39) ?_
        exact kt l _ rfl hil hzw (by rw [if_neg (by omega)])
      · refine e_aload_n h dX11_level_24 (pc := 24) rfl ?_
        refine e_getC h fl_X11_16 dX11_level_25 (pc := 25) rfl (Nat.lt_of_lt_of_le (by decide) hN) rfl rfl (r := 113) rfl ?_
        refine e_iload_n h dX11_level_28 (pc := 28) rfl ?_
        refine e_iald h dX11_level_29 (pc := 29) rfl (Nat.lt_of_lt_of_le (by decide) hN) rfl (by show _ < 12; omega) ?_
        rw [(hR.ms.2.2.2.1 l hil).1]
        refine e_goto h dX11_level_30 (pc := 30) (tgt := 39) (by decide) ?_
        refine e_iret h hr ha dX11_level_39 (pc := 39) ?_
        exact kt l _ rfl hil hzw (by rw [if_pos (by omega)])
    · skip
      refine e_if_ne h (tgt := 20) dX11_level_15 (pc := 15) (by decide) (by decide) (fun hz => absurd hz (by decide)) (fun _ => ?_)
      refine e_iconst h dX11_level_18 (pc := 18)  ?_
      refine e_iret h hr ha dX11_level_19 (pc := 19) ?_
      exact kb (by omega)
  · skip
    refine e_if_eq h (tgt := 18) dX11_level_5 (pc := 5) (by decide) (by decide) (fun _ => ?_) (fun hz => absurd hz (by decide))
    refine e_iconst h dX11_level_18 (pc := 18)  ?_
    refine e_iret h hr ha dX11_level_19 (pc := 19) ?_
    exact kb (by omega)
set_option maxRecDepth 100000 in
set_option maxHeartbeats 4000000 in
theorem m_wipe {gg : GT} {ad : Nat → Nat} {N : Nat} {M : Mem} {Post : Option AV → Mem → Prop} {n : Nat} {b : TB} {S O : SD} {h0 : Nat} {f g : Nat → Int} {z : Nat} {K : Nat → SD}   (hN : 139 ≤ N) (hR : RepM n b S O h0 f g z K M) (kt : ∀ (M2 : Mem) (v : Int), v = (n : Int) → RepM 0 b S O h0 f g z K M2 → (∀ p, p < 110 → M2 p = M p) → Post (some (vi v)) M2) : Sp gg yX11_wipe cX11_wipe 2 (some .int) rmX11_wipe [vr 110] ad N pT M Post := by
  refine Sp.intro (ls := [some (vr 110), none]) (by decide +kernel) rfl (Nat.le_of_ble_eq_true rfl) fun κ hgg h hr ha => ?_
  have h : Ok κ RX11 cX11_wipe 2 rmX11_wipe := h
  subst hgg
  have hwL := hR.ws.1
  have hwT := hR.ws.2.1
  have hwB := hR.ws.2.2.1
  have w4 := hR.ws.2.2.2.1
  have w5 := hR.ws.2.2.2.2.1
  have r9 := hR.ms.1
  have r10 := hR.ms.2.1
  have r11 := hR.ms.2.2.1
  refine e_aload_n h dX11_wipe_0 (pc := 0) rfl ?_
  refine e_getI h fl_X11_101 dX11_wipe_1 (pc := 1) rfl (Nat.lt_of_lt_of_le (by decide) hN) (by decide) ?_
  refine e_istore1 h dX11_wipe_4 (pc := 4) (by decide) rfl ?_
  refine e_aload_n h dX11_wipe_5 (pc := 5) rfl ?_
  refine e_iconst h dX11_wipe_6 (pc := 6)  ?_
  refine e_putI h fl_X11_101 dX11_wipe_7 (pc := 7) rfl (Nat.lt_of_lt_of_le (by decide) hN) rfl ?_
  refine e_iload_n h dX11_wipe_10 (pc := 10) rfl ?_
  refine e_iret h hr ha dX11_wipe_11 (pc := 11) ?_
  exact kt _ _ hR.tx.1 ⟨⟨up_eq _ _ _ _, by omega, fun k hk => absurd hk (by omega)⟩, (hR.ms.to (up_row (by omega)) (up_row (by omega)) (up_row (by omega)) (up_row (by omega)) (up_row (by omega)) (up_row (by omega)) (up_row (by omega)) (up_row (by omega)) (up_row (by omega)) (up_row (by omega)) (up_row (by omega))), (hR.mo.to (up_row (by omega)) (up_row (by omega)) (up_row (by omega)) (up_row (by omega)) (up_row (by omega))), hR.ws, hR.wo, (hR.un.to (up_ne (by omega)) (up_row (by omega))), hR.h8, hR.hw, (Eq.trans (up_ne (by omega)) hR.m18), hR.z2, (hR.kp.to (up_row (by omega)) (up_row (by omega)) (up_row (by omega)) (up_row (by omega)) (up_row (by omega)))⟩ (fun p hp => up_row (by omega))
set_option maxRecDepth 100000 in
set_option maxHeartbeats 4000000 in
theorem m_count {gg : GT} {ad : Nat → Nat} {N : Nat} {M : Mem} {Post : Option AV → Mem → Prop} {n : Nat} {b : TB} {S O : SD} {h0 : Nat} {f g : Nat → Int} {z : Nat} {K : Nat → SD} {x : Int}   (hN : 139 ≤ N) (hR : RepM n b S O h0 f g z K M) (hxx : (-2147483648 ≤ x ∧ x ≤ 2147483647)) (kt : ∀ v : Int, v = cntV S O h0 z n x → Post (some (vi v)) M) : Sp gg yX11_count cX11_count 2 (some .int) rmX11_count [vr 110, vi x] ad N pT M Post := by
  refine Sp.intro (ls := [some (vr 110), some (vi x)]) (by decide +kernel) rfl (Nat.le_of_ble_eq_true rfl) fun κ hgg h hr ha => ?_
  have h : Ok κ RX11 cX11_count 2 rmX11_count := h
  subst hgg
  have hwL := hR.ws.1
  have hwT := hR.ws.2.1
  have hwB := hR.ws.2.2.1
  have w4 := hR.ws.2.2.2.1
  have w5 := hR.ws.2.2.2.2.1
  have r9 := hR.ms.1
  have r10 := hR.ms.2.1
  have r11 := hR.ms.2.2.1
  refine e_iload_n h dX11_count_0 (pc := 0) rfl ?_
  rcases (show x = 0 ∨ x = 1 ∨ x = 2 ∨ x = 3 ∨ x = 4 ∨ x = 5 ∨ x = 6 ∨ ¬ (0 ≤ x ∧ x ≤ 6) by omega) with hq | hq | hq | hq | hq | hq | hq | hq
  · refine e_tabV h dX11_count_1 (pc := 1) (v := 0) (by omega) (by decide) (by decide) (off := 43) (by decide +kernel) (tgt := 44) (by decide) ?_
    refine e_aload_n h dX11_count_44 (pc := 44) rfl ?_
    refine e_getC h fl_X11_13 dX11_count_45 (pc := 45) rfl (Nat.lt_of_lt_of_le (by decide) hN) rfl rfl (r := 112) rfl ?_
    refine e_iconst h dX11_count_48 (pc := 48)  ?_
    refine e_iald h dX11_count_49 (pc := 49) rfl (Nat.lt_of_lt_of_le (by decide) hN) (j := 0) rfl (by decide) ?_
    refine e_iret h hr ha dX11_count_50 (pc := 50) ?_
    refine kt _ ?_
    unfold cntV
    first | (subst hq; simp only [ite_true, ite_false]; first | exact r9 | exact r10 | exact r11 | exact hR.mo.1 | exact hR.un.1 | exact hR.m18 | exact hR.tx.1) | omega
  · refine e_tabV h dX11_count_1 (pc := 1) (v := 1) (by omega) (by decide) (by decide) (off := 50) (by decide +kernel) (tgt := 51) (by decide) ?_
    refine e_aload_n h dX11_count_51 (pc := 51) rfl ?_
    refine e_getC h fl_X11_22 dX11_count_52 (pc := 52) rfl (Nat.lt_of_lt_of_le (by decide) hN) rfl rfl (r := 115) rfl ?_
    refine e_iconst h dX11_count_55 (pc := 55)  ?_
    refine e_iald h dX11_count_56 (pc := 56) rfl (Nat.lt_of_lt_of_le (by decide) hN) (j := 0) rfl (by decide) ?_
    refine e_iret h hr ha dX11_count_57 (pc := 57) ?_
    refine kt _ ?_
    unfold cntV
    first | (subst hq; simp only [ite_true, ite_false]; first | exact r9 | exact r10 | exact r11 | exact hR.mo.1 | exact hR.un.1 | exact hR.m18 | exact hR.tx.1) | omega
  · refine e_tabV h dX11_count_1 (pc := 1) (v := 2) (by omega) (by decide) (by decide) (off := 57) (by decide +kernel) (tgt := 58) (by decide) ?_
    refine e_aload_n h dX11_count_58 (pc := 58) rfl ?_
    refine e_getC h fl_X11_49 dX11_count_59 (pc := 59) rfl (Nat.lt_of_lt_of_le (by decide) hN) rfl rfl (r := 124) rfl ?_
    refine e_iconst h dX11_count_62 (pc := 62)  ?_
    refine e_iald h dX11_count_63 (pc := 63) rfl (Nat.lt_of_lt_of_le (by decide) hN) (j := 0) rfl (by decide) ?_
    refine e_iret h hr ha dX11_count_64 (pc := 64) ?_
    refine kt _ ?_
    unfold cntV
    first | (subst hq; simp only [ite_true, ite_false]; first | exact r9 | exact r10 | exact r11 | exact hR.mo.1 | exact hR.un.1 | exact hR.m18 | exact hR.tx.1) | omega
  · refine e_tabV h dX11_count_1 (pc := 1) (v := 3) (by omega) (by decide) (by decide) (off := 64) (by decide +kernel) (tgt := 65) (by decide) ?_
    refine e_aload_n h dX11_count_65 (pc := 65) rfl ?_
    refine e_getC h fl_X11_37 dX11_count_66 (pc := 66) rfl (Nat.lt_of_lt_of_le (by decide) hN) rfl rfl (r := 120) rfl ?_
    refine e_iconst h dX11_count_69 (pc := 69)  ?_
    refine e_iald h dX11_count_70 (pc := 70) rfl (Nat.lt_of_lt_of_le (by decide) hN) (j := 0) rfl (by decide) ?_
    refine e_iret h hr ha dX11_count_71 (pc := 71) ?_
    refine kt _ ?_
    unfold cntV
    first | (subst hq; simp only [ite_true, ite_false]; first | exact r9 | exact r10 | exact r11 | exact hR.mo.1 | exact hR.un.1 | exact hR.m18 | exact hR.tx.1) | omega
  · refine e_tabV h dX11_count_1 (pc := 1) (v := 4) (by omega) (by decide) (by decide) (off := 71) (by decide +kernel) (tgt := 72) (by decide) ?_
    refine e_aload_n h dX11_count_72 (pc := 72) rfl ?_
    refine e_getI h fl_X11_153 dX11_count_73 (pc := 73) rfl (Nat.lt_of_lt_of_le (by decide) hN) (by decide) ?_
    refine e_iret h hr ha dX11_count_76 (pc := 76) ?_
    refine kt _ ?_
    unfold cntV
    first | (subst hq; simp only [ite_true, ite_false]; first | exact r9 | exact r10 | exact r11 | exact hR.mo.1 | exact hR.un.1 | exact hR.m18 | exact hR.tx.1) | omega
  · refine e_tabV h dX11_count_1 (pc := 1) (v := 5) (by omega) (by decide) (by decide) (off := 76) (by decide +kernel) (tgt := 77) (by decide) ?_
    refine e_aload_n h dX11_count_77 (pc := 77) rfl ?_
    refine e_getI h fl_X11_150 dX11_count_78 (pc := 78) rfl (Nat.lt_of_lt_of_le (by decide) hN) (by decide) ?_
    refine e_iret h hr ha dX11_count_81 (pc := 81) ?_
    refine kt _ ?_
    unfold cntV
    first | (subst hq; simp only [ite_true, ite_false]; first | exact r9 | exact r10 | exact r11 | exact hR.mo.1 | exact hR.un.1 | exact hR.m18 | exact hR.tx.1) | omega
  · refine e_tabV h dX11_count_1 (pc := 1) (v := 6) (by omega) (by decide) (by decide) (off := 81) (by decide +kernel) (tgt := 82) (by decide) ?_
    refine e_aload_n h dX11_count_82 (pc := 82) rfl ?_
    refine e_getI h fl_X11_101 dX11_count_83 (pc := 83) rfl (Nat.lt_of_lt_of_le (by decide) hN) (by decide) ?_
    refine e_iret h hr ha dX11_count_86 (pc := 86) ?_
    refine kt _ ?_
    unfold cntV
    first | (subst hq; simp only [ite_true, ite_false]; first | exact r9 | exact r10 | exact r11 | exact hR.mo.1 | exact hR.un.1 | exact hR.m18 | exact hR.tx.1) | omega
  · refine e_tabOut h dX11_count_1 (pc := 1) (by omega) (by omega) (tgt := 87) (by decide) ?_
    refine e_iconst h dX11_count_87 (pc := 87)  ?_
    refine e_iret h hr ha dX11_count_88 (pc := 88) ?_
    refine kt _ ?_
    unfold cntV
    first | (subst hq; simp only [ite_true, ite_false]; first | exact r9 | exact r10 | exact r11 | exact hR.mo.1 | exact hR.un.1 | exact hR.m18 | exact hR.tx.1) | omega
set_option maxRecDepth 100000 in
set_option maxHeartbeats 4000000 in
theorem m_levelsOf {gg : GT} {ad : Nat → Nat} {N : Nat} {M : Mem} {Post : Option AV → Mem → Prop} {n : Nat} {b : TB} {S O : SD} {h0 : Nat} {f g : Nat → Int} {z : Nat} {K : Nat → SD} {x1 y1 n1 : Nat}  {xx1 : Int} (hxx1 : xx1 = (x1 : Int)) {xy1 : Int} (hxy1 : xy1 = (y1 : Int)) {xn1 : Int} (hxn1 : xn1 = (n1 : Int))  (hN : 139 ≤ N) (hR : RepM n b S O h0 f g z K M) (hx1 : x1 ≤ 23) (hy1 : y1 ≤ 23) (hn1 : n1 ≤ 99) (Kf : Post (some (vi ((fit S x1 y1 n1 (sL S) : Nat) : Int))) M) : Sp gg yX11_levelsOf cX11_levelsOf 6 (some .int) rmX11_levelsOf [vr 110, vi xx1, vi xy1, vi xn1] ad N pT M Post := by
  refine Sp.intro (ls := [some (vr 110), some (vi xx1), some (vi xy1), some (vi xn1), none, none]) (by decide +kernel) rfl (Nat.le_of_ble_eq_true rfl) fun κ hgg h hr ha => ?_
  have h : Ok κ RX11 cX11_levelsOf 6 rmX11_levelsOf := h
  subst hgg
  subst hxx1
  subst hxy1
  subst hxn1
  have hwL := hR.ws.1
  have hwT := hR.ws.2.1
  have hwB := hR.ws.2.2.1
  have w4 := hR.ws.2.2.2.1
  have w5 := hR.ws.2.2.2.2.1
  have r9 := hR.ms.1
  have r10 := hR.ms.2.1
  have r11 := hR.ms.2.2.1
  have loop : ∀ (m k : Nat), k ≤ sL S → sL S < k + m → E κ ad N pT M 6 [some (vr 110), some (vi (x1 : Int)), some (vi (y1 : Int)), some (vi (n1 : Int)), some (vi ((fit S x1 y1 n1 k : Nat) : Int)), some (vi (k : Int))] [] (0, 0) (QR κ ad N pT Post) := by
    intro m
    induction m with
    | zero => intro k h1 h2; exact absurd h2 (by omega)
    | succ m ih =>
      intro k hk hm0
      refine e_iload h dX11_levelsOf_6 (pc := 6) rfl ?_
      refine e_aload_n h dX11_levelsOf_8 (pc := 8) rfl ?_
      refine e_getC h fl_X11_13 dX11_levelsOf_9 (pc := 9) rfl (Nat.lt_of_lt_of_le (by decide) hN) rfl rfl (r := 112) rfl ?_
      refine e_iconst h dX11_levelsOf_12 (pc := 12)  ?_
      refine e_iald h dX11_levelsOf_13 (pc := 13) rfl (Nat.lt_of_lt_of_le (by decide) hN) (j := 0) rfl (by decide) ?_
      refine e_icmp_ge h (tgt := 54) dX11_levelsOf_14 (pc := 14) (by decide) (by omega) (by omega) (fun hb14 => ?_) (fun hb14 => ?_)
      · refine e_iload h dX11_levelsOf_54 (pc := 54) rfl ?_
        refine e_iret h hr ha dX11_levelsOf_56 (pc := 56) ?_
        exact cast (by rw [show sL S = k by omega]) Kf
      · refine e_iload h dX11_levelsOf_17 (pc := 17) rfl ?_
        refine e_iload_n h dX11_levelsOf_19 (pc := 19) rfl ?_
        refine e_aload_n h dX11_levelsOf_20 (pc := 20) rfl ?_
        refine e_getC h fl_X11_16 dX11_levelsOf_21 (pc := 21) rfl (Nat.lt_of_lt_of_le (by decide) hN) rfl rfl (r := 113) rfl ?_
        refine e_iload h dX11_levelsOf_24 (pc := 24) rfl ?_
        refine e_iald h dX11_levelsOf_26 (pc := 26) rfl (Nat.lt_of_lt_of_le (by decide) hN) rfl (by show _ < 12; omega) ?_
        rw [(hR.ms.2.2.2.1 k (by omega)).1]
        refine e_iload_n h dX11_levelsOf_27 (pc := 27) rfl ?_
        refine e_imul h dX11_levelsOf_28 (pc := 28)  ?_
        have hpk := (w4 k (by omega)).1
        have hm := Nat.mul_le_mul hn1 hpk
        rw [show (sP S k : Int) * (n1 : Int) = ((n1 * sP S k : Nat) : Int) by rw [Int.mul_comm]; exact (Int.natCast_mul _ _).symm]
        refine e_iadd h dX11_levelsOf_29 (pc := 29)  ?_
        refine e_bipush h dX11_levelsOf_30 (pc := 30) (by decide +kernel) ?_
        refine e_irem h dX11_levelsOf_32 (pc := 32) (by omega) (by decide) ?_
        rw [show ((x1 : Int) + ((n1 * sP S k : Nat) : Int)).tmod 24 = (((x1 + n1 * sP S k) % 24 : Nat) : Int) by rw [Int.tmod_eq_emod_of_nonneg (by omega)]; omega]
        refine e_iload_n h dX11_levelsOf_33 (pc := 33) rfl ?_
        refine e_icmp_ne h (tgt := 44) dX11_levelsOf_34 (pc := 34) (by decide) (by omega) (by omega) (fun hb34 => ?_) (fun hb34 => ?_)
        · refine e_iconst h dX11_levelsOf_44 (pc := 44)  ?_
          refine e_ior h dX11_levelsOf_45 (pc := 45) (L32_or (fit S x1 y1 n1 k) (0)) ?_
          refine e_istore4 h dX11_levelsOf_46 (pc := 46) (by decide) rfl ?_
          refine e_iinc5 h dX11_levelsOf_48 (pc := 48) (by decide) rfl ?_
          refine e_goto h dX11_levelsOf_51 (pc := 51) (tgt := 6) (by decide) ?_
          rw [show (k : Int) + 1 = ((k + 1 : Nat) : Int) by omega]
          exact cast (by rw [show fit S x1 y1 n1 (k + 1) = fit S x1 y1 n1 k ||| 0 by rw [Nat.or_zero]; show (if _ then _ else _) = _; rw [if_neg (by omega)]]) (ih (k + 1) (by omega) (by omega))
        · refine e_iconst h dX11_levelsOf_37 (pc := 37)  ?_
          refine e_iload h dX11_levelsOf_38 (pc := 38) rfl ?_
          refine e_ishl h dX11_levelsOf_40 (pc := 40) (L32_shl1 k (by omega)) ?_
          refine e_goto h dX11_levelsOf_41 (pc := 41) (tgt := 45) (by decide) ?_
          refine e_ior h dX11_levelsOf_45 (pc := 45) (L32_or (fit S x1 y1 n1 k) (1 <<< k)) ?_
          refine e_istore4 h dX11_levelsOf_46 (pc := 46) (by decide) rfl ?_
          refine e_iinc5 h dX11_levelsOf_48 (pc := 48) (by decide) rfl ?_
          refine e_goto h dX11_levelsOf_51 (pc := 51) (tgt := 6) (by decide) ?_
          rw [show (k : Int) + 1 = ((k + 1 : Nat) : Int) by omega]
          exact cast (by rw [show fit S x1 y1 n1 (k + 1) = fit S x1 y1 n1 k ||| (1 <<< k) by show (if _ then _ else _) = _; rw [if_pos (by omega)]]) (ih (k + 1) (by omega) (by omega))
  refine e_iconst h dX11_levelsOf_0 (pc := 0)  ?_
  refine e_istore4 h dX11_levelsOf_1 (pc := 1) (by decide) rfl ?_
  refine e_iconst h dX11_levelsOf_3 (pc := 3)  ?_
  refine e_istore5 h dX11_levelsOf_4 (pc := 4) (by decide) rfl ?_
  exact loop (sL S + 1) 0 (by omega) (by omega)
