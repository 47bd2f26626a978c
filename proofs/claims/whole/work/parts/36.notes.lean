theorem MU.push {m : Nat} {f g : Nat → Int} {fx gy x y v : Int} {M : Mem} (h : MU m f g M) (hxy : (gy = -1 → x = -4) ∧ (gy ≠ -1 → x = fx ∧ y = gy)) (hv : v = ((m + 1 : Nat) : Int)) : MU (m + 1) (fun k => if k = m then fx else f k) (fun k => if k = m then gy else g k) (up (up (up M 128 (2 * m) x) 128 (2 * m + 1) y) 110 19 v) := by
  refine ⟨by rw [up_eq]; exact hv, fun k hk => ?_⟩
  dsimp only
  by_cases e : k = m
  · subst e
    rw [if_pos rfl, if_pos rfl]
    simp (disch := omega) only [up_eq, up_ne]
    exact ⟨fun q => hxy.1 q, fun q => hxy.2 q⟩
  · rw [if_neg e, if_neg e]
    simp (disch := omega) only [up_eq, up_ne]
    exact h.2 k (by omega)
theorem pushH_lt {h0 : Nat} {f : Nat → Int} {x : Int} (h : h0 < 8) : pushH h0 f x = fun k => if k = h0 then x else f k := by
  funext k
  unfold pushH
  rw [if_pos h]
theorem pushH_8 {f : Nat → Int} {x : Int} : pushH 8 f x = fun k => if k = 7 then x else (fun k => f (k + 1)) k := by
  funext k
  unfold pushH
  rw [if_neg (by omega)]
set_option maxRecDepth 100000 in
set_option maxHeartbeats 4000000 in
theorem m_note {gg : GT} {ad : Nat → Nat} {N : Nat} {M : Mem} {Post : Option AV → Mem → Prop} {h0 : Nat} {f g : Nat → Int} {x y fx gy : Int}   (hN : 139 ≤ N) (hU : MU h0 f g M) (hh8 : h0 ≤ 8) (hxy : (gy = -1 → x = -4) ∧ (gy ≠ -1 → x = fx ∧ y = gy)) (K : ∀ M2 : Mem, MU (if h0 < 8 then h0 + 1 else 8) (pushH h0 f fx) (pushH h0 g gy) M2 → (∀ q j, (q ≠ 128 ∧ (q ≠ 110 ∨ j ≠ 19)) → M2 q j = M q j) → Post none M2) : Sp gg yX11_note cX11_note 4 none rmX11_note [vr 110, vi x, vi y] ad N pT M Post := by
  refine Sp.intro (ls := [some (vr 110), some (vi x), some (vi y), none]) (by decide +kernel) rfl (Nat.le_of_ble_eq_true rfl) fun κ hgg h hr ha => ?_
  have h : Ok κ RX11 cX11_note 4 rmX11_note := h
  subst hgg
  have h190 : M 110 19 = h0 := hU.1
  have rest : ∀ (m : Nat) (f2 g2 : Nat → Int) (M1 : Mem), m < 8 → m + 1 = (if h0 < 8 then h0 + 1 else 8) → MU m f2 g2 M1 → (pushH h0 f fx = fun k => if k = m then fx else f2 k) → (pushH h0 g gy = fun k => if k = m then gy else g2 k) → (∀ q j, (q ≠ 128 ∧ (q ≠ 110 ∨ j ≠ 19)) → M1 q j = M q j) → E κ ad N pT M1 47 [some (vr 110), some (vi x), some (vi y), none] [] (0, 0) (QR κ ad N pT Post) := by
    intro m f2 g2 M1 hm8 hm hU hf hg hfr
    have hm1 : M1 110 19 = m := hU.1
    refine e_aload_n h dX11_note_47 (pc := 47) rfl ?_
    refine e_getC h fl_X11_61 dX11_note_48 (pc := 48) rfl (Nat.lt_of_lt_of_le (by decide) hN) rfl rfl (r := 128) rfl ?_
    refine e_iconst h dX11_note_51 (pc := 51)  ?_
    refine e_aload_n h dX11_note_52 (pc := 52) rfl ?_
    refine e_getI h fl_X11_153 dX11_note_53 (pc := 53) rfl (Nat.lt_of_lt_of_le (by decide) hN) (by decide) ?_
    refine e_imul h dX11_note_56 (pc := 56)  ?_
    refine e_iload_n h dX11_note_57 (pc := 57) rfl ?_
    refine e_iast h dX11_note_58 (pc := 58) rfl (Nat.lt_of_lt_of_le (by decide) hN) (j := (2 * m)) (by omega) (by show _ < 16; omega) ?_
    refine e_aload_n h dX11_note_59 (pc := 59) rfl ?_
    refine e_getC h fl_X11_61 dX11_note_60 (pc := 60) rfl (Nat.lt_of_lt_of_le (by decide) hN) rfl rfl (r := 128) rfl ?_
    refine e_iconst h dX11_note_63 (pc := 63)  ?_
    refine e_aload_n h dX11_note_64 (pc := 64) rfl ?_
    refine e_getI h fl_X11_153 dX11_note_65 (pc := 65) rfl (Nat.lt_of_lt_of_le (by decide) hN) (by decide) ?_
    try simp (disch := omega) only [up_eq, up_ne]
    refine e_imul h dX11_note_68 (pc := 68)  ?_
    refine e_iconst h dX11_note_69 (pc := 69)  ?_
    refine e_iadd h dX11_note_70 (pc := 70)  ?_
    refine e_iload_n h dX11_note_71 (pc := 71) rfl ?_
    refine e_iast h dX11_note_72 (pc := 72) rfl (Nat.lt_of_lt_of_le (by decide) hN) (j := (2 * m + 1)) (by omega) (by show _ < 16; omega) ?_
    refine e_aload_n h dX11_note_73 (pc := 73) rfl ?_
    refine e_dup h dX11_note_74 (pc := 74) rfl ?_
    refine e_getI h fl_X11_153 dX11_note_75 (pc := 75) rfl (Nat.lt_of_lt_of_le (by decide) hN) (by decide) ?_
    try simp (disch := omega) only [up_eq, up_ne]
    refine e_iconst h dX11_note_78 (pc := 78)  ?_
    refine e_iadd h dX11_note_79 (pc := 79)  ?_
    refine e_putI h fl_X11_153 dX11_note_80 (pc := 80) rfl (Nat.lt_of_lt_of_le (by decide) hN) rfl ?_
    refine e_vret h hr ha dX11_note_83 (pc := 83) ?_
    exact K _ (by rw [← hm, hf, hg]; exact hU.push hxy (by omega)) (fun q j hq => by simp (disch := omega) only [up_eq, up_ne]; exact hfr q j hq)
  have loop : h0 = 8 → ∀ (n k : Nat) (M1 : Mem), k ≤ 14 → 14 < k + n → (∀ j, j < k → M1 128 j = M 128 (j + 2)) → (∀ j, k ≤ j → M1 128 j = M 128 j) → (∀ q, q ≠ 128 → M1 q = M q) → E κ ad N pT M1 11 [some (vr 110), some (vi x), some (vi y), some (vi (k : Int))] [] (0, 0) (QR κ ad N pT Post) := by
    intro h8 n
    induction n with
    | zero => intro k M1 h1 h2; exact absurd h2 (by omega)
    | succ n ih =>
      intro k M1 hk hn hS hT hfr
      have h19 : M1 110 19 = 8 := by rw [hfr 110 (by omega), hU.1, h8]; rfl
      refine e_iload_n h dX11_note_11 (pc := 11) rfl ?_
      refine e_bipush h dX11_note_12 (pc := 12) (by decide +kernel) ?_
      refine e_icmp_ge h (tgt := 37) dX11_note_14 (pc := 14) (by decide) (by omega) (by decide) (fun hb14 => ?_) (fun hb14 => ?_)
      · refine e_aload_n h dX11_note_37 (pc := 37) rfl ?_
        refine e_dup h dX11_note_38 (pc := 38) rfl ?_
        refine e_getI h fl_X11_153 dX11_note_39 (pc := 39) rfl (Nat.lt_of_lt_of_le (by decide) hN) (by decide) ?_
        refine e_iconst h dX11_note_42 (pc := 42)  ?_
        refine e_isub h dX11_note_43 (pc := 43)  ?_
        refine e_putI h fl_X11_153 dX11_note_44 (pc := 44) rfl (Nat.lt_of_lt_of_le (by decide) hN) rfl ?_
        refine e_fgt (ls2 := [some (vr 110), some (vi x), some (vi y), none]) ⟨Or.inr rfl, Or.inr rfl, Or.inr rfl, Or.inl rfl, trivial⟩ ?_
        have h19 : M1 110 19 = 8 := by rw [hfr 110 (by omega), hU.1, h8]; rfl
        have hk14 : k = 14 := by omega
        subst hk14
        refine rest 7 (fun k => f (k + 1)) (fun k => g (k + 1)) _ (by omega) (by rw [if_neg (by omega)]) ⟨by rw [up_eq]; omega, fun j hj => ?_⟩ (by rw [h8]; exact pushH_8) (by rw [h8]; exact pushH_8) (fun q j hq => by rw [up_ne (by omega), hfr q (by omega)])
        have z := hU.2 (j + 1) (by omega)
        rw [up_ne (by omega), up_ne (by omega), hS (2 * j) (by omega), hS (2 * j + 1) (by omega)]
        exact z
      · refine e_aload_n h dX11_note_17 (pc := 17) rfl ?_
        refine e_getC h fl_X11_61 dX11_note_18 (pc := 18) rfl (Nat.lt_of_lt_of_le (by decide) hN) rfl rfl (r := 128) rfl ?_
        refine e_iload_n h dX11_note_21 (pc := 21) rfl ?_
        refine e_aload_n h dX11_note_22 (pc := 22) rfl ?_
        refine e_getC h fl_X11_61 dX11_note_23 (pc := 23) rfl (Nat.lt_of_lt_of_le (by decide) hN) rfl rfl (r := 128) rfl ?_
        refine e_iload_n h dX11_note_26 (pc := 26) rfl ?_
        refine e_iconst h dX11_note_27 (pc := 27)  ?_
        refine e_iadd h dX11_note_28 (pc := 28)  ?_
        refine e_iald h dX11_note_29 (pc := 29) rfl (Nat.lt_of_lt_of_le (by decide) hN) (j := (k + 2)) (by omega) (by show _ < 16; omega) ?_
        refine e_iast h dX11_note_30 (pc := 30) rfl (Nat.lt_of_lt_of_le (by decide) hN) rfl (by show _ < 16; omega) ?_
        refine e_iinc3 h dX11_note_31 (pc := 31) (by decide) rfl ?_
        refine e_goto h dX11_note_34 (pc := 34) (tgt := 11) (by decide) ?_
        rw [show (k : Int) + 1 = ((k + 1 : Nat) : Int) by omega]
        exact ih (k + 1) _ (by omega) (by omega) (fun j hj => by
          by_cases e : j = k
          · subst e; rw [up_eq]; exact hT (j + 2) (by omega)
          · rw [up_ne (by omega)]; exact hS j (by omega)) (fun j hj => by rw [up_ne (by omega)]; exact hT j (by omega)) (fun q hq => by rw [up_row hq]; exact hfr q hq)
  refine e_aload_n h dX11_note_0 (pc := 0) rfl ?_
  refine e_getI h fl_X11_153 dX11_note_1 (pc := 1) rfl (Nat.lt_of_lt_of_le (by decide) hN) (by decide) ?_
  refine e_bipush h dX11_note_4 (pc := 4) (by decide +kernel) ?_
  refine e_icmp_ne h (tgt := 47) dX11_note_6 (pc := 6) (by decide) (by omega) (by decide) (fun hb6 => ?_) (fun hb6 => ?_)
  · exact rest h0 f g M (by omega) (by rw [if_pos (by omega)]) hU (pushH_lt (by omega)) (pushH_lt (by omega)) (fun _ _ _ => rfl)
  · refine e_iconst h dX11_note_9 (pc := 9)  ?_
    refine e_istore3 h dX11_note_10 (pc := 10) (by decide) rfl ?_
    exact loop (by omega) 15 0 M (by omega) (by omega) (fun j hj => absurd hj (by omega)) (fun _ _ => rfl) (fun _ _ => rfl)
set_option maxRecDepth 100000 in
set_option maxHeartbeats 4000000 in
theorem m_copy {gg : GT} {ad : Nat → Nat} {N : Nat} {M : Mem} {Post : Option AV → Mem → Prop} {a c : Nat}  {xa : Int} (hxa : xa = (a : Int)) {xc : Int} (hxc : xc = (c : Int))  (hN : 139 ≤ N) (ha3 : a ≤ 3) (hc3 : c ≤ 3) (hac : a ≠ c) (K : ∀ M2 : Mem, (∀ O T, oE O ≤ 8 → T ≤ 6 → MO O T M a → MO O T M2 c) → (∀ O T d, d ≠ c → oE O ≤ 8 → T ≤ 6 → MO O T M d → MO O T M2 d) → (∀ q, q ≠ 123 → q ≠ 124 → q ≠ 125 → q ≠ 126 → q ≠ 127 → M2 q = M q) → Post none M2) : Sp gg yX11_copy cX11_copy 4 none rmX11_copy [vr 110, vi xa, vi xc] ad N pT M Post := by
  refine Sp.intro (ls := [some (vr 110), some (vi xa), some (vi xc), none]) (by decide +kernel) rfl (Nat.le_of_ble_eq_true rfl) fun κ hgg h hr ha => ?_
  have h : Ok κ RX11 cX11_copy 4 rmX11_copy := h
  subst hgg
  subst hxa
  subst hxc
  have mid : ∀ M1 : Mem, (∀ j, j < 6 → M1 123 (6 * c + j) = M 123 (6 * a + j)) → (∀ j, (j < 6 * c ∨ 6 * c + 6 ≤ j) → M1 123 j = M 123 j) → (∀ q, q ≠ 123 → M1 q = M q) → E κ ad N pT M1 36 [some (vr 110), some (vi (a : Int)), some (vi (c : Int)), none] [] (0, 0) (QR κ ad N pT Post) := by
    intro M1 hS hT hfr
    have loop2 : ∀ (n k : Nat) (M2 : Mem), k ≤ 8 → 8 < k + n → (∀ j, j < k → M2 125 (8 * c + j) = up M1 124 c (M1 124 a) 125 (8 * a + j) ∧ M2 126 (8 * c + j) = up M1 124 c (M1 124 a) 126 (8 * a + j) ∧ M2 127 (8 * c + j) = up M1 124 c (M1 124 a) 127 (8 * a + j)) → (∀ j, (j < 8 * c ∨ 8 * c + 8 ≤ j) → M2 125 j = up M1 124 c (M1 124 a) 125 j ∧ M2 126 j = up M1 124 c (M1 124 a) 126 j ∧ M2 127 j = up M1 124 c (M1 124 a) 127 j) → (∀ q, (q ≠ 125 ∧ q ≠ 126 ∧ q ≠ 127) → M2 q = up M1 124 c (M1 124 a) q) → E κ ad N pT M2 50 [some (vr 110), some (vi (a : Int)), some (vi (c : Int)), some (vi (k : Int))] [] (0, 0) (QR κ ad N pT Post) := by
      intro n
      induction n with
      | zero => intro k M2 h1 h2; exact absurd h2 (by omega)
      | succ n ih =>
        intro k M2 hk hn hS2 hT2 hfr2
        refine e_iload_n h dX11_copy_50 (pc := 50) rfl ?_
        refine e_bipush h dX11_copy_51 (pc := 51) (by decide +kernel) ?_
        refine e_icmp_ge h (tgt := 128) dX11_copy_53 (pc := 53) (by decide) (by omega) (by decide) (fun hb53 => ?_) (fun hb53 => ?_)
        · refine e_vret h hr ha dX11_copy_128 (pc := 128) ?_
          have hk8 : k = 8 := by omega
          subst hk8
          have r3 := hfr2 123 (by omega)
          have r4 := hfr2 124 (by omega)
          rw [up_row (by omega)] at r3
          refine K M2 (fun O T h8 h6 hm => ⟨by rw [r4, up_eq, hfr 124 (by omega)]; exact hm.1, fun j hj => ?_, fun j hj => by rw [r3, hS j (by omega)]; exact hm.2.2 j hj⟩) (fun O T d hd h8 h6 hm => ⟨by rw [r4, up_ne (by omega), hfr 124 (by omega)]; exact hm.1, fun j hj => ?_, fun j hj => by rw [r3, hT _ (by omega)]; exact hm.2.2 j hj⟩) (fun q h1 h2 h3 h4 h5 => by rw [hfr2 q (by omega), up_row (by omega)]; exact hfr q (by omega))
          · have z := hS2 j (by omega)
            rw [z.1, z.2.1, z.2.2, up_row (by omega), up_row (by omega), up_row (by omega), hfr 125 (by omega), hfr 126 (by omega), hfr 127 (by omega)]
            exact hm.2.1 j hj
          · have z := hT2 (8 * d + j) (by omega)
            rw [z.1, z.2.1, z.2.2, up_row (by omega), up_row (by omega), up_row (by omega), hfr 125 (by omega), hfr 126 (by omega), hfr 127 (by omega)]
            exact hm.2.1 j hj
        · refine e_aload_n h dX11_copy_56 (pc := 56) rfl ?_
          refine e_getC h fl_X11_52 dX11_copy_57 (pc := 57) rfl (Nat.lt_of_lt_of_le (by decide) hN) rfl rfl (r := 125) rfl ?_
          refine e_bipush h dX11_copy_60 (pc := 60) (by decide +kernel) ?_
          refine e_iload_n h dX11_copy_62 (pc := 62) rfl ?_
          refine e_imul h dX11_copy_63 (pc := 63)  ?_
          refine e_iload_n h dX11_copy_64 (pc := 64) rfl ?_
          refine e_iadd h dX11_copy_65 (pc := 65)  ?_
          refine e_aload_n h dX11_copy_66 (pc := 66) rfl ?_
          refine e_getC h fl_X11_52 dX11_copy_67 (pc := 67) rfl (Nat.lt_of_lt_of_le (by decide) hN) rfl rfl (r := 125) rfl ?_
          refine e_bipush h dX11_copy_70 (pc := 70) (by decide +kernel) ?_
          refine e_iload_n h dX11_copy_72 (pc := 72) rfl ?_
          refine e_imul h dX11_copy_73 (pc := 73)  ?_
          refine e_iload_n h dX11_copy_74 (pc := 74) rfl ?_
          refine e_iadd h dX11_copy_75 (pc := 75)  ?_
          refine e_iald h dX11_copy_76 (pc := 76) rfl (Nat.lt_of_lt_of_le (by decide) hN) (j := (8 * a + k)) (by omega) (by show _ < 32; omega) ?_
          refine e_iast h dX11_copy_77 (pc := 77) rfl (Nat.lt_of_lt_of_le (by decide) hN) (j := (8 * c + k)) (by omega) (by show _ < 32; omega) ?_
          refine e_aload_n h dX11_copy_78 (pc := 78) rfl ?_
          refine e_getC h fl_X11_55 dX11_copy_79 (pc := 79) rfl (Nat.lt_of_lt_of_le (by decide) hN) rfl rfl (r := 126) rfl ?_
          refine e_bipush h dX11_copy_82 (pc := 82) (by decide +kernel) ?_
          refine e_iload_n h dX11_copy_84 (pc := 84) rfl ?_
          refine e_imul h dX11_copy_85 (pc := 85)  ?_
          refine e_iload_n h dX11_copy_86 (pc := 86) rfl ?_
          refine e_iadd h dX11_copy_87 (pc := 87)  ?_
          refine e_aload_n h dX11_copy_88 (pc := 88) rfl ?_
          refine e_getC h fl_X11_55 dX11_copy_89 (pc := 89) rfl (Nat.lt_of_lt_of_le (by decide) hN) rfl rfl (r := 126) rfl ?_
          refine e_bipush h dX11_copy_92 (pc := 92) (by decide +kernel) ?_
          refine e_iload_n h dX11_copy_94 (pc := 94) rfl ?_
          refine e_imul h dX11_copy_95 (pc := 95)  ?_
          refine e_iload_n h dX11_copy_96 (pc := 96) rfl ?_
          refine e_iadd h dX11_copy_97 (pc := 97)  ?_
          refine e_iald h dX11_copy_98 (pc := 98) rfl (Nat.lt_of_lt_of_le (by decide) hN) (j := (8 * a + k)) (by omega) (by show _ < 32; omega) ?_
          try simp (disch := omega) only [up_eq, up_ne]
          refine e_iast h dX11_copy_99 (pc := 99) rfl (Nat.lt_of_lt_of_le (by decide) hN) (j := (8 * c + k)) (by omega) (by show _ < 32; omega) ?_
          refine e_aload_n h dX11_copy_100 (pc := 100) rfl ?_
          refine e_getC h fl_X11_58 dX11_copy_101 (pc := 101) rfl (Nat.lt_of_lt_of_le (by decide) hN) rfl rfl (r := 127) rfl ?_
          refine e_bipush h dX11_copy_104 (pc := 104) (by decide +kernel) ?_
          refine e_iload_n h dX11_copy_106 (pc := 106) rfl ?_
          refine e_imul h dX11_copy_107 (pc := 107)  ?_
          refine e_iload_n h dX11_copy_108 (pc := 108) rfl ?_
          refine e_iadd h dX11_copy_109 (pc := 109)  ?_
          refine e_aload_n h dX11_copy_110 (pc := 110) rfl ?_
          refine e_getC h fl_X11_58 dX11_copy_111 (pc := 111) rfl (Nat.lt_of_lt_of_le (by decide) hN) rfl rfl (r := 127) rfl ?_
          refine e_bipush h dX11_copy_114 (pc := 114) (by decide +kernel) ?_
          refine e_iload_n h dX11_copy_116 (pc := 116) rfl ?_
          refine e_imul h dX11_copy_117 (pc := 117)  ?_
          refine e_iload_n h dX11_copy_118 (pc := 118) rfl ?_
          refine e_iadd h dX11_copy_119 (pc := 119)  ?_
          refine e_iald h dX11_copy_120 (pc := 120) rfl (Nat.lt_of_lt_of_le (by decide) hN) (j := (8 * a + k)) (by omega) (by show _ < 32; omega) ?_
          try simp (disch := omega) only [up_eq, up_ne]
          refine e_iast h dX11_copy_121 (pc := 121) rfl (Nat.lt_of_lt_of_le (by decide) hN) (j := (8 * c + k)) (by omega) (by show _ < 32; omega) ?_
          refine e_iinc3 h dX11_copy_122 (pc := 122) (by decide) rfl ?_
          refine e_goto h dX11_copy_125 (pc := 125) (tgt := 50) (by decide) ?_
          rw [show (k : Int) + 1 = ((k + 1 : Nat) : Int) by omega]
          refine ih (k + 1) _ (by omega) (by omega) (fun j hj => ?_) (fun j hj => ?_) (fun q hq => by rw [up_row (by omega), up_row (by omega), up_row (by omega)]; exact hfr2 q hq)
          · by_cases e : j = k
            · subst e
              have z := hT2 (8 * a + j) (by omega)
              simp (disch := omega) only [up_eq, up_ne]
              exact z
            · simp (disch := omega) only [up_ne]
              exact hS2 j (by omega)
          · simp (disch := omega) only [up_ne]
            exact hT2 j hj
    refine e_aload_n h dX11_copy_36 (pc := 36) rfl ?_
    refine e_getC h fl_X11_49 dX11_copy_37 (pc := 37) rfl (Nat.lt_of_lt_of_le (by decide) hN) rfl rfl (r := 124) rfl ?_
    refine e_iload_n h dX11_copy_40 (pc := 40) rfl ?_
    refine e_aload_n h dX11_copy_41 (pc := 41) rfl ?_
    refine e_getC h fl_X11_49 dX11_copy_42 (pc := 42) rfl (Nat.lt_of_lt_of_le (by decide) hN) rfl rfl (r := 124) rfl ?_
    refine e_iload_n h dX11_copy_45 (pc := 45) rfl ?_
    refine e_iald h dX11_copy_46 (pc := 46) rfl (Nat.lt_of_lt_of_le (by decide) hN) rfl (by show _ < 4; omega) ?_
    refine e_iast h dX11_copy_47 (pc := 47) rfl (Nat.lt_of_lt_of_le (by decide) hN) rfl (by show _ < 4; omega) ?_
    refine e_iconst h dX11_copy_48 (pc := 48)  ?_
    refine e_istore3 h dX11_copy_49 (pc := 49) (by decide) rfl ?_
    exact loop2 9 0 _ (by omega) (by omega) (fun j hj => absurd hj (by omega)) (fun _ _ => ⟨rfl, rfl, rfl⟩) (fun _ _ => rfl)
  have loop : ∀ (n k : Nat) (M1 : Mem), k ≤ 6 → 6 < k + n → (∀ j, j < k → M1 123 (6 * c + j) = M 123 (6 * a + j)) → (∀ j, (j < 6 * c ∨ 6 * c + 6 ≤ j) → M1 123 j = M 123 j) → (∀ q, q ≠ 123 → M1 q = M q) → E κ ad N pT M1 2 [some (vr 110), some (vi (a : Int)), some (vi (c : Int)), some (vi (k : Int))] [] (0, 0) (QR κ ad N pT Post) := by
    intro n
    induction n with
    | zero => intro k M1 h1 h2; exact absurd h2 (by omega)
    | succ n ih =>
      intro k M1 hk hn hS hT hfr
      refine e_iload_n h dX11_copy_2 (pc := 2) rfl ?_
      refine e_bipush h dX11_copy_3 (pc := 3) (by decide +kernel) ?_
      refine e_icmp_ge h (tgt := 36) dX11_copy_5 (pc := 5) (by decide) (by omega) (by decide) (fun hb5 => ?_) (fun hb5 => ?_)
      · refine e_fgt (ls2 := [some (vr 110), some (vi (a : Int)), some (vi (c : Int)), none]) ⟨Or.inr rfl, Or.inr rfl, Or.inr rfl, Or.inl rfl, trivial⟩ ?_
        exact mid M1 (fun j hj => hS j (by omega)) hT hfr
      · refine e_aload_n h dX11_copy_8 (pc := 8) rfl ?_
        refine e_getC h fl_X11_46 dX11_copy_9 (pc := 9) rfl (Nat.lt_of_lt_of_le (by decide) hN) rfl rfl (r := 123) rfl ?_
        refine e_bipush h dX11_copy_12 (pc := 12) (by decide +kernel) ?_
        refine e_iload_n h dX11_copy_14 (pc := 14) rfl ?_
        refine e_imul h dX11_copy_15 (pc := 15)  ?_
        refine e_iload_n h dX11_copy_16 (pc := 16) rfl ?_
        refine e_iadd h dX11_copy_17 (pc := 17)  ?_
        refine e_aload_n h dX11_copy_18 (pc := 18) rfl ?_
        refine e_getC h fl_X11_46 dX11_copy_19 (pc := 19) rfl (Nat.lt_of_lt_of_le (by decide) hN) rfl rfl (r := 123) rfl ?_
        refine e_bipush h dX11_copy_22 (pc := 22) (by decide +kernel) ?_
        refine e_iload_n h dX11_copy_24 (pc := 24) rfl ?_
        refine e_imul h dX11_copy_25 (pc := 25)  ?_
        refine e_iload_n h dX11_copy_26 (pc := 26) rfl ?_
        refine e_iadd h dX11_copy_27 (pc := 27)  ?_
        refine e_iald h dX11_copy_28 (pc := 28) rfl (Nat.lt_of_lt_of_le (by decide) hN) (j := (6 * a + k)) (by omega) (by show _ < 24; omega) ?_
        refine e_iast h dX11_copy_29 (pc := 29) rfl (Nat.lt_of_lt_of_le (by decide) hN) (j := (6 * c + k)) (by omega) (by show _ < 24; omega) ?_
        refine e_iinc3 h dX11_copy_30 (pc := 30) (by decide) rfl ?_
        refine e_goto h dX11_copy_33 (pc := 33) (tgt := 2) (by decide) ?_
        rw [show (k : Int) + 1 = ((k + 1 : Nat) : Int) by omega]
        exact ih (k + 1) _ (by omega) (by omega) (fun j hj => by
          by_cases e : j = k
          · subst e; rw [up_eq]; exact hT (6 * a + j) (by omega)
          · rw [up_ne (by omega)]; exact hS j (by omega)) (fun j hj => by rw [up_ne (by omega)]; exact hT j hj) (fun q hq => by rw [up_row hq]; exact hfr q hq)
  refine e_iconst h dX11_copy_0 (pc := 0)  ?_
  refine e_istore3 h dX11_copy_1 (pc := 1) (by decide) rfl ?_
  exact loop 7 0 M (by omega) (by omega) (fun j hj => absurd hj (by omega)) (fun _ _ => rfl) (fun _ _ => rfl)
