set_option maxRecDepth 100000 in
set_option maxHeartbeats 4000000 in
theorem m_leftOf {gg : GT} {ad : Nat → Nat} {N : Nat} {M : Mem} {Post : Option AV → Mem → Prop} {n : Nat} {b : TB} {S O : SD} {h0 : Nat} {f g : Nat → Int} {z : Nat} {K : Nat → SD} {kd g1 l t i : Nat}  {xkd : Int} (hxkd : xkd = (kd : Int)) {xg1 : Int} (hxg1 : xg1 = (g1 : Int)) {xl : Int} (hxl : xl = (l : Int)) {xt : Int} (hxt : xt = (t : Int))  (hN : 139 ≤ N) (hR : RepM n b S O h0 f g z K M) (hk : sK S i = kd) (hk3 : kd ≤ 3) (hl : l < sL S) (hg60 : g1 ≤ 60) (ht60 : t ≤ 60) (K : Post (some (vi ((gasL S i l t g1 : Nat) : Int))) M) : Sp gg yX11_leftOf cX11_leftOf 8 (some .int) rmX11_leftOf [vr 110, vi xkd, vi xg1, vi xl, vi xt] ad N pT M Post := by
  refine Sp.intro (ls := [some (vr 110), some (vi xkd), some (vi xg1), some (vi xl), some (vi xt), none, none, none]) (by decide +kernel) rfl (Nat.le_of_ble_eq_true rfl) fun κ hgg h hr ha => ?_
  have h : Ok κ RX11 cX11_leftOf 8 rmX11_leftOf := h
  subst hgg
  subst hxkd
  subst hxg1
  subst hxl
  subst hxt
  have hwL := hR.ws.1
  have hwT := hR.ws.2.1
  have hwB := hR.ws.2.2.1
  have w4 := hR.ws.2.2.2.1
  have w5 := hR.ws.2.2.2.2.1
  have r9 := hR.ms.1
  have r10 := hR.ms.2.1
  have r11 := hR.ms.2.2.1
  have loop : ∀ (n k s : Nat), k ≤ sB S → sB S < k + n → ((s = 1 ∧ hitN S l t k = true) ∨ (s = 0 ∧ hitN S l t k = false)) → E κ ad N pT M 6 [some (vr 110), some (vi (kd : Int)), some (vi (g1 : Int)), some (vi (l : Int)), some (vi (t : Int)), some (vi (s : Int)), some (vi (k : Int)), none] [] (0, 0) (QR κ ad N pT Post) := by
    intro n
    induction n with
    | zero => intro k s h1 h2; exact absurd h2 (by omega)
    | succ n ih =>
      intro k s hk0 hn hs
      refine e_iload h dX11_leftOf_6 (pc := 6) rfl ?_
      refine e_aload_n h dX11_leftOf_8 (pc := 8) rfl ?_
      refine e_getC h fl_X11_37 dX11_leftOf_9 (pc := 9) rfl (Nat.lt_of_lt_of_le (by decide) hN) rfl rfl (r := 120) rfl ?_
      refine e_iconst h dX11_leftOf_12 (pc := 12)  ?_
      refine e_iald h dX11_leftOf_13 (pc := 13) rfl (Nat.lt_of_lt_of_le (by decide) hN) (j := 0) rfl (by decide) ?_
      refine e_icmp_ge h (tgt := 58) dX11_leftOf_14 (pc := 14) (by decide) (by omega) (by omega) (fun hb14 => ?_) (fun hb14 => ?_)
      · have hkB : k = sB S := by omega
        rw [hkB] at hs
        refine e_iload h dX11_leftOf_58 (pc := 58) rfl ?_
        refine e_if_eq h (tgt := 69) dX11_leftOf_60 (pc := 60) (by decide) (by omega) (fun hb60 => ?_) (fun hb60 => ?_)
        · have hh : ¬ hit S l t = true := by
            rcases hs with q | q
            · omega
            · intro z; rw [show hit S l t = hitN S l t (sB S) from rfl, q.2] at z; exact absurd z (by decide)
          refine e_iload_n h dX11_leftOf_69 (pc := 69) rfl ?_
          refine e_istore6 h dX11_leftOf_70 (pc := 70) (by decide) rfl ?_
          refine e_iload_n h dX11_leftOf_72 (pc := 72) rfl ?_
          rcases (show kd = 1 ∨ kd = 2 ∨ kd = 3 ∨ kd = 0 by omega) with hq | hq | hq | hq
          · refine e_tabV h dX11_leftOf_73 (pc := 73) (v := 1) (by omega) (by decide) (by decide) (off := 27) (by decide +kernel) (tgt := 100) (by decide) ?_
            refine e_iconst h dX11_leftOf_100 (pc := 100)  ?_
            refine e_istore7 h dX11_leftOf_101 (pc := 101) (by decide) rfl ?_
            refine e_goto h dX11_leftOf_103 (pc := 103) (tgt := 133) (by decide) ?_
            refine e_iload h dX11_leftOf_133 (pc := 133) rfl ?_
            refine e_iload h dX11_leftOf_135 (pc := 135) rfl ?_
            refine e_icmp_le h (tgt := 148) dX11_leftOf_137 (pc := 137) (by decide) (by omega) (by decide) (fun hb137 => ?_) (fun hb137 => ?_)
            · refine e_iconst h dX11_leftOf_148 (pc := 148)  ?_
              refine e_iret h hr ha dX11_leftOf_149 (pc := 149) ?_
              refine cast (congrArg (fun z : Int => Post (some (vi z)) M) ?_) K
              unfold gasL loss
              rw [hk, hq]
              first | rw [if_pos hh] | rw [if_neg hh]
              first | omega | (simp only []; omega)
            · refine e_iload h dX11_leftOf_140 (pc := 140) rfl ?_
              refine e_iload h dX11_leftOf_142 (pc := 142) rfl ?_
              refine e_isub h dX11_leftOf_144 (pc := 144)  ?_
              refine e_goto h dX11_leftOf_145 (pc := 145) (tgt := 149) (by decide) ?_
              refine e_iret h hr ha dX11_leftOf_149 (pc := 149) ?_
              refine cast (congrArg (fun z : Int => Post (some (vi z)) M) ?_) K
              unfold gasL loss
              rw [hk, hq]
              first | rw [if_pos hh] | rw [if_neg hh]
              first | omega | (simp only []; omega)
          · refine e_tabV h dX11_leftOf_73 (pc := 73) (v := 2) (by omega) (by decide) (by decide) (off := 33) (by decide +kernel) (tgt := 106) (by decide) ?_
            refine e_iconst h dX11_leftOf_106 (pc := 106)  ?_
            refine e_aload_n h dX11_leftOf_107 (pc := 107) rfl ?_
            refine e_getC h fl_X11_19 dX11_leftOf_108 (pc := 108) rfl (Nat.lt_of_lt_of_le (by decide) hN) rfl rfl (r := 114) rfl ?_
            refine e_iload_n h dX11_leftOf_111 (pc := 111) rfl ?_
            refine e_iald h dX11_leftOf_112 (pc := 112) rfl (Nat.lt_of_lt_of_le (by decide) hN) rfl (by show _ < 12; omega) ?_
            rw [(hR.ms.2.2.2.1 l hl).2]
            have hwl := (w4 l hl).2
            refine e_isub h dX11_leftOf_113 (pc := 113)  ?_
            refine e_istore7 h dX11_leftOf_114 (pc := 114) (by decide) rfl ?_
            refine e_goto h dX11_leftOf_116 (pc := 116) (tgt := 133) (by decide) ?_
            refine e_iload h dX11_leftOf_133 (pc := 133) rfl ?_
            refine e_iload h dX11_leftOf_135 (pc := 135) rfl ?_
            refine e_icmp_le h (tgt := 148) dX11_leftOf_137 (pc := 137) (by decide) (by omega) (by omega) (fun hb137 => ?_) (fun hb137 => ?_)
            · refine e_iconst h dX11_leftOf_148 (pc := 148)  ?_
              refine e_iret h hr ha dX11_leftOf_149 (pc := 149) ?_
              refine cast (congrArg (fun z : Int => Post (some (vi z)) M) ?_) K
              unfold gasL loss
              rw [hk, hq]
              first | rw [if_pos hh] | rw [if_neg hh]
              first | omega | (simp only []; omega)
            · refine e_iload h dX11_leftOf_140 (pc := 140) rfl ?_
              refine e_iload h dX11_leftOf_142 (pc := 142) rfl ?_
              refine e_isub h dX11_leftOf_144 (pc := 144)  ?_
              refine e_goto h dX11_leftOf_145 (pc := 145) (tgt := 149) (by decide) ?_
              refine e_iret h hr ha dX11_leftOf_149 (pc := 149) ?_
              refine cast (congrArg (fun z : Int => Post (some (vi z)) M) ?_) K
              unfold gasL loss
              rw [hk, hq]
              first | rw [if_pos hh] | rw [if_neg hh]
              first | omega | (simp only []; omega)
          · refine e_tabV h dX11_leftOf_73 (pc := 73) (v := 3) (by omega) (by decide) (by decide) (off := 46) (by decide +kernel) (tgt := 119) (by decide) ?_
            refine e_iconst h dX11_leftOf_119 (pc := 119)  ?_
            refine e_iload h dX11_leftOf_120 (pc := 120) rfl ?_
            refine e_iconst h dX11_leftOf_122 (pc := 122)  ?_
            refine e_irem h dX11_leftOf_123 (pc := 123) (by omega) (by decide) ?_
            generalize hqq : ((t : Int)).tmod 2 = q
            have hq2 := tmod_cases (t : Int) 2 (by decide)
            rw [hqq] at hq2
            refine e_isub h dX11_leftOf_124 (pc := 124)  ?_
            refine e_istore7 h dX11_leftOf_125 (pc := 125) (by decide) rfl ?_
            refine e_goto h dX11_leftOf_127 (pc := 127) (tgt := 133) (by decide) ?_
            refine e_iload h dX11_leftOf_133 (pc := 133) rfl ?_
            refine e_iload h dX11_leftOf_135 (pc := 135) rfl ?_
            refine e_icmp_le h (tgt := 148) dX11_leftOf_137 (pc := 137) (by decide) (by omega) (by omega) (fun hb137 => ?_) (fun hb137 => ?_)
            · refine e_iconst h dX11_leftOf_148 (pc := 148)  ?_
              refine e_iret h hr ha dX11_leftOf_149 (pc := 149) ?_
              refine cast (congrArg (fun z : Int => Post (some (vi z)) M) ?_) K
              unfold gasL loss
              rw [hk, hq]
              first | rw [if_pos hh] | rw [if_neg hh]
              first | omega | (simp only []; omega)
            · refine e_iload h dX11_leftOf_140 (pc := 140) rfl ?_
              refine e_iload h dX11_leftOf_142 (pc := 142) rfl ?_
              refine e_isub h dX11_leftOf_144 (pc := 144)  ?_
              refine e_goto h dX11_leftOf_145 (pc := 145) (tgt := 149) (by decide) ?_
              refine e_iret h hr ha dX11_leftOf_149 (pc := 149) ?_
              refine cast (congrArg (fun z : Int => Post (some (vi z)) M) ?_) K
              unfold gasL loss
              rw [hk, hq]
              first | rw [if_pos hh] | rw [if_neg hh]
              first | omega | (simp only []; omega)
          · refine e_tabOut h dX11_leftOf_73 (pc := 73) (by omega) (by omega) (tgt := 130) (by decide) ?_
            refine e_iconst h dX11_leftOf_130 (pc := 130)  ?_
            refine e_istore7 h dX11_leftOf_131 (pc := 131) (by decide) rfl ?_
            refine e_iload h dX11_leftOf_133 (pc := 133) rfl ?_
            refine e_iload h dX11_leftOf_135 (pc := 135) rfl ?_
            refine e_icmp_le h (tgt := 148) dX11_leftOf_137 (pc := 137) (by decide) (by omega) (by decide) (fun hb137 => ?_) (fun hb137 => ?_)
            · refine e_iconst h dX11_leftOf_148 (pc := 148)  ?_
              refine e_iret h hr ha dX11_leftOf_149 (pc := 149) ?_
              refine cast (congrArg (fun z : Int => Post (some (vi z)) M) ?_) K
              unfold gasL loss
              rw [hk, hq]
              first | rw [if_pos hh] | rw [if_neg hh]
              first | omega | (simp only []; omega)
            · refine e_iload h dX11_leftOf_140 (pc := 140) rfl ?_
              refine e_iload h dX11_leftOf_142 (pc := 142) rfl ?_
              refine e_isub h dX11_leftOf_144 (pc := 144)  ?_
              refine e_goto h dX11_leftOf_145 (pc := 145) (tgt := 149) (by decide) ?_
              refine e_iret h hr ha dX11_leftOf_149 (pc := 149) ?_
              refine cast (congrArg (fun z : Int => Post (some (vi z)) M) ?_) K
              unfold gasL loss
              rw [hk, hq]
              first | rw [if_pos hh] | rw [if_neg hh]
              first | omega | (simp only []; omega)
        · have hh : hit S l t = true := by
            rcases hs with q | q
            · exact q.2
            · omega
          refine e_iload_n h dX11_leftOf_63 (pc := 63) rfl ?_
          refine e_iconst h dX11_leftOf_64 (pc := 64)  ?_
          refine e_idiv h dX11_leftOf_65 (pc := 65) (by omega) (by decide) ?_
          rw [show ((g1 : Int)).tdiv 2 = ((g1 / 2 : Nat) : Int) by rw [Int.tdiv_eq_ediv_of_nonneg (by omega)]; omega]
          refine e_goto h dX11_leftOf_66 (pc := 66) (tgt := 70) (by decide) ?_
          refine e_istore6 h dX11_leftOf_70 (pc := 70) (by decide) rfl ?_
          refine e_iload_n h dX11_leftOf_72 (pc := 72) rfl ?_
          rcases (show kd = 1 ∨ kd = 2 ∨ kd = 3 ∨ kd = 0 by omega) with hq | hq | hq | hq
          · refine e_tabV h dX11_leftOf_73 (pc := 73) (v := 1) (by omega) (by decide) (by decide) (off := 27) (by decide +kernel) (tgt := 100) (by decide) ?_
            refine e_iconst h dX11_leftOf_100 (pc := 100)  ?_
            refine e_istore7 h dX11_leftOf_101 (pc := 101) (by decide) rfl ?_
            refine e_goto h dX11_leftOf_103 (pc := 103) (tgt := 133) (by decide) ?_
            refine e_iload h dX11_leftOf_133 (pc := 133) rfl ?_
            refine e_iload h dX11_leftOf_135 (pc := 135) rfl ?_
            refine e_icmp_le h (tgt := 148) dX11_leftOf_137 (pc := 137) (by decide) (by omega) (by decide) (fun hb137 => ?_) (fun hb137 => ?_)
            · refine e_iconst h dX11_leftOf_148 (pc := 148)  ?_
              refine e_iret h hr ha dX11_leftOf_149 (pc := 149) ?_
              refine cast (congrArg (fun z : Int => Post (some (vi z)) M) ?_) K
              unfold gasL loss
              rw [hk, hq]
              first | rw [if_pos hh] | rw [if_neg hh]
              first | omega | (simp only []; omega)
            · refine e_iload h dX11_leftOf_140 (pc := 140) rfl ?_
              refine e_iload h dX11_leftOf_142 (pc := 142) rfl ?_
              refine e_isub h dX11_leftOf_144 (pc := 144)  ?_
              refine e_goto h dX11_leftOf_145 (pc := 145) (tgt := 149) (by decide) ?_
              refine e_iret h hr ha dX11_leftOf_149 (pc := 149) ?_
              refine cast (congrArg (fun z : Int => Post (some (vi z)) M) ?_) K
              unfold gasL loss
              rw [hk, hq]
              first | rw [if_pos hh] | rw [if_neg hh]
              first | omega | (simp only []; omega)
          · refine e_tabV h dX11_leftOf_73 (pc := 73) (v := 2) (by omega) (by decide) (by decide) (off := 33) (by decide +kernel) (tgt := 106) (by decide) ?_
            refine e_iconst h dX11_leftOf_106 (pc := 106)  ?_
            refine e_aload_n h dX11_leftOf_107 (pc := 107) rfl ?_
            refine e_getC h fl_X11_19 dX11_leftOf_108 (pc := 108) rfl (Nat.lt_of_lt_of_le (by decide) hN) rfl rfl (r := 114) rfl ?_
            refine e_iload_n h dX11_leftOf_111 (pc := 111) rfl ?_
            refine e_iald h dX11_leftOf_112 (pc := 112) rfl (Nat.lt_of_lt_of_le (by decide) hN) rfl (by show _ < 12; omega) ?_
            rw [(hR.ms.2.2.2.1 l hl).2]
            have hwl := (w4 l hl).2
            refine e_isub h dX11_leftOf_113 (pc := 113)  ?_
            refine e_istore7 h dX11_leftOf_114 (pc := 114) (by decide) rfl ?_
            refine e_goto h dX11_leftOf_116 (pc := 116) (tgt := 133) (by decide) ?_
            refine e_iload h dX11_leftOf_133 (pc := 133) rfl ?_
            refine e_iload h dX11_leftOf_135 (pc := 135) rfl ?_
            refine e_icmp_le h (tgt := 148) dX11_leftOf_137 (pc := 137) (by decide) (by omega) (by omega) (fun hb137 => ?_) (fun hb137 => ?_)
            · refine e_iconst h dX11_leftOf_148 (pc := 148)  ?_
              refine e_iret h hr ha dX11_leftOf_149 (pc := 149) ?_
              refine cast (congrArg (fun z : Int => Post (some (vi z)) M) ?_) K
              unfold gasL loss
              rw [hk, hq]
              first | rw [if_pos hh] | rw [if_neg hh]
              first | omega | (simp only []; omega)
            · refine e_iload h dX11_leftOf_140 (pc := 140) rfl ?_
              refine e_iload h dX11_leftOf_142 (pc := 142) rfl ?_
              refine e_isub h dX11_leftOf_144 (pc := 144)  ?_
              refine e_goto h dX11_leftOf_145 (pc := 145) (tgt := 149) (by decide) ?_
              refine e_iret h hr ha dX11_leftOf_149 (pc := 149) ?_
              refine cast (congrArg (fun z : Int => Post (some (vi z)) M) ?_) K
              unfold gasL loss
              rw [hk, hq]
              first | rw [if_pos hh] | rw [if_neg hh]
              first | omega | (simp only []; omega)
          · refine e_tabV h dX11_leftOf_73 (pc := 73) (v := 3) (by omega) (by decide) (by decide) (off := 46) (by decide +kernel) (tgt := 119) (by decide) ?_
            refine e_iconst h dX11_leftOf_119 (pc := 119)  ?_
            refine e_iload h dX11_leftOf_120 (pc := 120) rfl ?_
            refine e_iconst h dX11_leftOf_122 (pc := 122)  ?_
            refine e_irem h dX11_leftOf_123 (pc := 123) (by omega) (by decide) ?_
            generalize hqq : ((t : Int)).tmod 2 = q
            have hq2 := tmod_cases (t : Int) 2 (by decide)
            rw [hqq] at hq2
            refine e_isub h dX11_leftOf_124 (pc := 124)  ?_
            refine e_istore7 h dX11_leftOf_125 (pc := 125) (by decide) rfl ?_
            refine e_goto h dX11_leftOf_127 (pc := 127) (tgt := 133) (by decide) ?_
            refine e_iload h dX11_leftOf_133 (pc := 133) rfl ?_
            refine e_iload h dX11_leftOf_135 (pc := 135) rfl ?_
            refine e_icmp_le h (tgt := 148) dX11_leftOf_137 (pc := 137) (by decide) (by omega) (by omega) (fun hb137 => ?_) (fun hb137 => ?_)
            · refine e_iconst h dX11_leftOf_148 (pc := 148)  ?_
              refine e_iret h hr ha dX11_leftOf_149 (pc := 149) ?_
              refine cast (congrArg (fun z : Int => Post (some (vi z)) M) ?_) K
              unfold gasL loss
              rw [hk, hq]
              first | rw [if_pos hh] | rw [if_neg hh]
              first | omega | (simp only []; omega)
            · refine e_iload h dX11_leftOf_140 (pc := 140) rfl ?_
              refine e_iload h dX11_leftOf_142 (pc := 142) rfl ?_
              refine e_isub h dX11_leftOf_144 (pc := 144)  ?_
              refine e_goto h dX11_leftOf_145 (pc := 145) (tgt := 149) (by decide) ?_
              refine e_iret h hr ha dX11_leftOf_149 (pc := 149) ?_
              refine cast (congrArg (fun z : Int => Post (some (vi z)) M) ?_) K
              unfold gasL loss
              rw [hk, hq]
              first | rw [if_pos hh] | rw [if_neg hh]
              first | omega | (simp only []; omega)
          · refine e_tabOut h dX11_leftOf_73 (pc := 73) (by omega) (by omega) (tgt := 130) (by decide) ?_
            refine e_iconst h dX11_leftOf_130 (pc := 130)  ?_
            refine e_istore7 h dX11_leftOf_131 (pc := 131) (by decide) rfl ?_
            refine e_iload h dX11_leftOf_133 (pc := 133) rfl ?_
            refine e_iload h dX11_leftOf_135 (pc := 135) rfl ?_
            refine e_icmp_le h (tgt := 148) dX11_leftOf_137 (pc := 137) (by decide) (by omega) (by decide) (fun hb137 => ?_) (fun hb137 => ?_)
            · refine e_iconst h dX11_leftOf_148 (pc := 148)  ?_
              refine e_iret h hr ha dX11_leftOf_149 (pc := 149) ?_
              refine cast (congrArg (fun z : Int => Post (some (vi z)) M) ?_) K
              unfold gasL loss
              rw [hk, hq]
              first | rw [if_pos hh] | rw [if_neg hh]
              first | omega | (simp only []; omega)
            · refine e_iload h dX11_leftOf_140 (pc := 140) rfl ?_
              refine e_iload h dX11_leftOf_142 (pc := 142) rfl ?_
              refine e_isub h dX11_leftOf_144 (pc := 144)  ?_
              refine e_goto h dX11_leftOf_145 (pc := 145) (tgt := 149) (by decide) ?_
              refine e_iret h hr ha dX11_leftOf_149 (pc := 149) ?_
              refine cast (congrArg (fun z : Int => Post (some (vi z)) M) ?_) K
              unfold gasL loss
              rw [hk, hq]
              first | rw [if_pos hh] | rw [if_neg hh]
              first | omega | (simp only []; omega)
      · have hbk := hR.ms.2.2.2.2.2 k (by omega)
        have hbw := hR.ws.2.2.2.2.2 k (by omega)
        refine e_iload h dX11_leftOf_17 (pc := 17) rfl ?_
        refine e_if_ne h (tgt := 45) dX11_leftOf_19 (pc := 19) (by decide) (by omega) (fun hb19 => ?_) (fun hb19 => ?_)
        · refine e_iconst h dX11_leftOf_45 (pc := 45)  ?_
          refine e_goto h dX11_leftOf_46 (pc := 46) (tgt := 50) (by decide) ?_
          refine e_istore5 h dX11_leftOf_50 (pc := 50) (by decide) rfl ?_
          refine e_iinc6 h dX11_leftOf_52 (pc := 52) (by decide) rfl ?_
          refine e_goto h dX11_leftOf_55 (pc := 55) (tgt := 6) (by decide) ?_
          rw [show (k : Int) + 1 = ((k + 1 : Nat) : Int) by omega]
          exact ih (k + 1) 1 (by omega) (by omega) (Or.inl ⟨rfl, hitN_mono 1 k (by rcases hs with q | q; exact q.2; omega)⟩)
        · refine e_aload_n h dX11_leftOf_22 (pc := 22) rfl ?_
          refine e_getC h fl_X11_40 dX11_leftOf_23 (pc := 23) rfl (Nat.lt_of_lt_of_le (by decide) hN) rfl rfl (r := 121) rfl ?_
          refine e_iload h dX11_leftOf_26 (pc := 26) rfl ?_
          refine e_iald h dX11_leftOf_28 (pc := 28) rfl (Nat.lt_of_lt_of_le (by decide) hN) rfl (by show _ < 10; omega) ?_
          refine e_iload_n h dX11_leftOf_29 (pc := 29) rfl ?_
          refine e_icmp_ne h (tgt := 49) dX11_leftOf_30 (pc := 30) (by decide) (by omega) (by omega) (fun hb30 => ?_) (fun hb30 => ?_)
          · refine e_iconst h dX11_leftOf_49 (pc := 49)  ?_
            refine e_istore5 h dX11_leftOf_50 (pc := 50) (by decide) rfl ?_
            refine e_iinc6 h dX11_leftOf_52 (pc := 52) (by decide) rfl ?_
            refine e_goto h dX11_leftOf_55 (pc := 55) (tgt := 6) (by decide) ?_
            rw [show (k : Int) + 1 = ((k + 1 : Nat) : Int) by omega]
            exact ih (k + 1) 0 (by omega) (by omega) (Or.inr ⟨rfl, hitN_no (by rcases hs with q | q; omega; exact q.2) (by omega)⟩)
          · refine e_aload_n h dX11_leftOf_33 (pc := 33) rfl ?_
            refine e_getC h fl_X11_43 dX11_leftOf_34 (pc := 34) rfl (Nat.lt_of_lt_of_le (by decide) hN) rfl rfl (r := 122) rfl ?_
            refine e_iload h dX11_leftOf_37 (pc := 37) rfl ?_
            refine e_iald h dX11_leftOf_39 (pc := 39) rfl (Nat.lt_of_lt_of_le (by decide) hN) rfl (by show _ < 10; omega) ?_
            refine e_iload h dX11_leftOf_40 (pc := 40) rfl ?_
            refine e_icmp_ne h (tgt := 49) dX11_leftOf_42 (pc := 42) (by decide) (by omega) (by omega) (fun hb42 => ?_) (fun hb42 => ?_)
            · refine e_iconst h dX11_leftOf_49 (pc := 49)  ?_
              refine e_istore5 h dX11_leftOf_50 (pc := 50) (by decide) rfl ?_
              refine e_iinc6 h dX11_leftOf_52 (pc := 52) (by decide) rfl ?_
              refine e_goto h dX11_leftOf_55 (pc := 55) (tgt := 6) (by decide) ?_
              rw [show (k : Int) + 1 = ((k + 1 : Nat) : Int) by omega]
              exact ih (k + 1) 0 (by omega) (by omega) (Or.inr ⟨rfl, hitN_no (by rcases hs with q | q; omega; exact q.2) (by omega)⟩)
            · refine e_iconst h dX11_leftOf_45 (pc := 45)  ?_
              refine e_goto h dX11_leftOf_46 (pc := 46) (tgt := 50) (by decide) ?_
              refine e_istore5 h dX11_leftOf_50 (pc := 50) (by decide) rfl ?_
              refine e_iinc6 h dX11_leftOf_52 (pc := 52) (by decide) rfl ?_
              refine e_goto h dX11_leftOf_55 (pc := 55) (tgt := 6) (by decide) ?_
              rw [show (k : Int) + 1 = ((k + 1 : Nat) : Int) by omega]
              exact ih (k + 1) 1 (by omega) (by omega) (Or.inl ⟨rfl, by show (hitN S l t k || (sC S k == l && sD S k == t)) = true; rw [show sC S k = l by omega, show sD S k = t by omega]; simp⟩)
  refine e_iconst h dX11_leftOf_0 (pc := 0)  ?_
  refine e_istore5 h dX11_leftOf_1 (pc := 1) (by decide) rfl ?_
  refine e_iconst h dX11_leftOf_3 (pc := 3)  ?_
  refine e_istore6 h dX11_leftOf_4 (pc := 4) (by decide) rfl ?_
  exact loop (sB S + 1) 0 0 (by omega) (by omega) (Or.inr ⟨rfl, rfl⟩)
set_option maxRecDepth 100000 in
set_option maxHeartbeats 4000000 in
theorem m_goBy {gg : GT} {ad : Nat → Nat} {N : Nat} {M : Mem} {Post : Option AV → Mem → Prop} {S : SD} {i u a g1 : Nat}  {xi : Int} (hxi : xi = (i : Int)) {xu : Int} (hxu : xu = (u : Int))  (hN : 139 ≤ N) (hi : i < 6) (ha0 : M 130 i = (a : Int)) (hg0 : M 132 i = (g1 : Int)) (hL : M 112 0 = (sL S : Int)) (hX : M 118 i = (sX S i : Int)) (ha9 : a < 9) (hL6 : sL S ≤ 6) (hg60 : g1 ≤ 60) (hX9 : sX S i ≤ 9) (hu : u ≤ 1) (K : ∀ M2 : Mem, M2 130 i = ((if u = 0 then a - 1 else if a + 1 < sL S ∧ sX S i ≤ g1 then a + 1 else a : Nat) : Int) → M2 132 i = ((if u = 0 then g1 else if a + 1 < sL S ∧ sX S i ≤ g1 then g1 - sX S i else g1 : Nat) : Int) → (∀ q j, ((q ≠ 130 ∧ q ≠ 132) ∨ j ≠ i) → M2 q j = M q j) → Post none M2) : Sp gg yX11_goBy cX11_goBy 3 none rmX11_goBy [vr 110, vi xi, vi xu] ad N pT M Post := by
  refine Sp.intro (ls := [some (vr 110), some (vi xi), some (vi xu)]) (by decide +kernel) rfl (Nat.le_of_ble_eq_true rfl) fun κ hgg h hr ha => ?_
  have h : Ok κ RX11 cX11_goBy 3 rmX11_goBy := h
  subst hgg
  subst hxi
  subst hxu
  refine e_iload_n h dX11_goBy_0 (pc := 0) rfl ?_
  refine e_if_ne h (tgt := 26) dX11_goBy_1 (pc := 1) (by decide) (by omega) (fun hb1 => ?_) (fun hb1 => ?_)
  · refine e_iload_n h dX11_goBy_26 (pc := 26) rfl ?_
    refine e_if_eq h (tgt := 87) dX11_goBy_27 (pc := 27) (by decide) (by omega) (fun hb27 => ?_) (fun hb27 => ?_)
    · refine e_vret h hr ha dX11_goBy_87 (pc := 87) ?_
      exact K _ (by first | (simp (disch := omega) only [up_eq, up_ne]; split <;> (try split) <;> omega) | (split <;> (try split) <;> omega)) (by first | (simp (disch := omega) only [up_eq, up_ne]; split <;> (try split) <;> omega) | (split <;> (try split) <;> omega)) (fun q j hq => by first | rfl | simp (disch := omega) only [up_eq, up_ne])
    · refine e_aload_n h dX11_goBy_30 (pc := 30) rfl ?_
      refine e_getC h fl_X11_67 dX11_goBy_31 (pc := 31) rfl (Nat.lt_of_lt_of_le (by decide) hN) rfl rfl (r := 130) rfl ?_
      refine e_iload_n h dX11_goBy_34 (pc := 34) rfl ?_
      refine e_iald h dX11_goBy_35 (pc := 35) rfl (Nat.lt_of_lt_of_le (by decide) hN) rfl (by show _ < 6; omega) ?_
      refine e_iconst h dX11_goBy_36 (pc := 36)  ?_
      refine e_iadd h dX11_goBy_37 (pc := 37)  ?_
      refine e_aload_n h dX11_goBy_38 (pc := 38) rfl ?_
      refine e_getC h fl_X11_13 dX11_goBy_39 (pc := 39) rfl (Nat.lt_of_lt_of_le (by decide) hN) rfl rfl (r := 112) rfl ?_
      refine e_iconst h dX11_goBy_42 (pc := 42)  ?_
      refine e_iald h dX11_goBy_43 (pc := 43) rfl (Nat.lt_of_lt_of_le (by decide) hN) (j := 0) rfl (by decide) ?_
      refine e_icmp_ge h (tgt := 87) dX11_goBy_44 (pc := 44) (by decide) (by omega) (by omega) (fun hb44 => ?_) (fun hb44 => ?_)
      · refine e_vret h hr ha dX11_goBy_87 (pc := 87) ?_
        exact K _ (by first | (simp (disch := omega) only [up_eq, up_ne]; split <;> (try split) <;> omega) | (split <;> (try split) <;> omega)) (by first | (simp (disch := omega) only [up_eq, up_ne]; split <;> (try split) <;> omega) | (split <;> (try split) <;> omega)) (fun q j hq => by first | rfl | simp (disch := omega) only [up_eq, up_ne])
      · refine e_aload_n h dX11_goBy_47 (pc := 47) rfl ?_
        refine e_getC h fl_X11_73 dX11_goBy_48 (pc := 48) rfl (Nat.lt_of_lt_of_le (by decide) hN) rfl rfl (r := 132) rfl ?_
        refine e_iload_n h dX11_goBy_51 (pc := 51) rfl ?_
        refine e_iald h dX11_goBy_52 (pc := 52) rfl (Nat.lt_of_lt_of_le (by decide) hN) rfl (by show _ < 6; omega) ?_
        refine e_aload_n h dX11_goBy_53 (pc := 53) rfl ?_
        refine e_getC h fl_X11_31 dX11_goBy_54 (pc := 54) rfl (Nat.lt_of_lt_of_le (by decide) hN) rfl rfl (r := 118) rfl ?_
        refine e_iload_n h dX11_goBy_57 (pc := 57) rfl ?_
        refine e_iald h dX11_goBy_58 (pc := 58) rfl (Nat.lt_of_lt_of_le (by decide) hN) rfl (by show _ < 12; omega) ?_
        refine e_icmp_lt h (tgt := 87) dX11_goBy_59 (pc := 59) (by decide) (by omega) (by omega) (fun hb59 => ?_) (fun hb59 => ?_)
        · refine e_vret h hr ha dX11_goBy_87 (pc := 87) ?_
          exact K _ (by first | (simp (disch := omega) only [up_eq, up_ne]; split <;> (try split) <;> omega) | (split <;> (try split) <;> omega)) (by first | (simp (disch := omega) only [up_eq, up_ne]; split <;> (try split) <;> omega) | (split <;> (try split) <;> omega)) (fun q j hq => by first | rfl | simp (disch := omega) only [up_eq, up_ne])
        · refine e_aload_n h dX11_goBy_62 (pc := 62) rfl ?_
          refine e_getC h fl_X11_67 dX11_goBy_63 (pc := 63) rfl (Nat.lt_of_lt_of_le (by decide) hN) rfl rfl (r := 130) rfl ?_
          refine e_iload_n h dX11_goBy_66 (pc := 66) rfl ?_
          refine e_dup2 h dX11_goBy_67 (pc := 67) rfl rfl ?_
          refine e_iald h dX11_goBy_68 (pc := 68) rfl (Nat.lt_of_lt_of_le (by decide) hN) rfl (by show _ < 6; omega) ?_
          refine e_iconst h dX11_goBy_69 (pc := 69)  ?_
          refine e_iadd h dX11_goBy_70 (pc := 70)  ?_
          refine e_iast h dX11_goBy_71 (pc := 71) rfl (Nat.lt_of_lt_of_le (by decide) hN) rfl (by show _ < 6; omega) ?_
          refine e_aload_n h dX11_goBy_72 (pc := 72) rfl ?_
          refine e_getC h fl_X11_73 dX11_goBy_73 (pc := 73) rfl (Nat.lt_of_lt_of_le (by decide) hN) rfl rfl (r := 132) rfl ?_
          refine e_iload_n h dX11_goBy_76 (pc := 76) rfl ?_
          refine e_dup2 h dX11_goBy_77 (pc := 77) rfl rfl ?_
          refine e_iald h dX11_goBy_78 (pc := 78) rfl (Nat.lt_of_lt_of_le (by decide) hN) rfl (by show _ < 6; omega) ?_
          try simp (disch := omega) only [up_eq, up_ne]
          refine e_aload_n h dX11_goBy_79 (pc := 79) rfl ?_
          refine e_getC h fl_X11_31 dX11_goBy_80 (pc := 80) rfl (Nat.lt_of_lt_of_le (by decide) hN) rfl rfl (r := 118) rfl ?_
          refine e_iload_n h dX11_goBy_83 (pc := 83) rfl ?_
          refine e_iald h dX11_goBy_84 (pc := 84) rfl (Nat.lt_of_lt_of_le (by decide) hN) rfl (by show _ < 12; omega) ?_
          try simp (disch := omega) only [up_eq, up_ne]
          refine e_isub h dX11_goBy_85 (pc := 85)  ?_
          refine e_iast h dX11_goBy_86 (pc := 86) rfl (Nat.lt_of_lt_of_le (by decide) hN) rfl (by show _ < 6; omega) ?_
          refine e_vret h hr ha dX11_goBy_87 (pc := 87) ?_
          exact K _ (by first | (simp (disch := omega) only [up_eq, up_ne]; split <;> (try split) <;> omega) | (split <;> (try split) <;> omega)) (by first | (simp (disch := omega) only [up_eq, up_ne]; split <;> (try split) <;> omega) | (split <;> (try split) <;> omega)) (fun q j hq => by first | rfl | simp (disch := omega) only [up_eq, up_ne])
  · refine e_aload_n h dX11_goBy_4 (pc := 4) rfl ?_
    refine e_getC h fl_X11_67 dX11_goBy_5 (pc := 5) rfl (Nat.lt_of_lt_of_le (by decide) hN) rfl rfl (r := 130) rfl ?_
    refine e_iload_n h dX11_goBy_8 (pc := 8) rfl ?_
    refine e_iald h dX11_goBy_9 (pc := 9) rfl (Nat.lt_of_lt_of_le (by decide) hN) rfl (by show _ < 6; omega) ?_
    refine e_if_le h (tgt := 26) dX11_goBy_10 (pc := 10) (by decide) (by omega) (fun hb10 => ?_) (fun hb10 => ?_)
    · refine e_iload_n h dX11_goBy_26 (pc := 26) rfl ?_
      refine e_if_eq h (tgt := 87) dX11_goBy_27 (pc := 27) (by decide) (by omega) (fun hb27 => ?_) (fun hb27 => ?_)
      · refine e_vret h hr ha dX11_goBy_87 (pc := 87) ?_
        exact K _ (by first | (simp (disch := omega) only [up_eq, up_ne]; split <;> (try split) <;> omega) | (split <;> (try split) <;> omega)) (by first | (simp (disch := omega) only [up_eq, up_ne]; split <;> (try split) <;> omega) | (split <;> (try split) <;> omega)) (fun q j hq => by first | rfl | simp (disch := omega) only [up_eq, up_ne])
      · refine e_aload_n h dX11_goBy_30 (pc := 30) rfl ?_
        refine e_getC h fl_X11_67 dX11_goBy_31 (pc := 31) rfl (Nat.lt_of_lt_of_le (by decide) hN) rfl rfl (r := 130) rfl ?_
        refine e_iload_n h dX11_goBy_34 (pc := 34) rfl ?_
        refine e_iald h dX11_goBy_35 (pc := 35) rfl (Nat.lt_of_lt_of_le (by decide) hN) rfl (by show _ < 6; omega) ?_
        refine e_iconst h dX11_goBy_36 (pc := 36)  ?_
        refine e_iadd h dX11_goBy_37 (pc := 37)  ?_
        refine e_aload_n h dX11_goBy_38 (pc := 38) rfl ?_
        refine e_getC h fl_X11_13 dX11_goBy_39 (pc := 39) rfl (Nat.lt_of_lt_of_le (by decide) hN) rfl rfl (r := 112) rfl ?_
        refine e_iconst h dX11_goBy_42 (pc := 42)  ?_
        refine e_iald h dX11_goBy_43 (pc := 43) rfl (Nat.lt_of_lt_of_le (by decide) hN) (j := 0) rfl (by decide) ?_
        refine e_icmp_ge h (tgt := 87) dX11_goBy_44 (pc := 44) (by decide) (by omega) (by omega) (fun hb44 => ?_) (fun hb44 => ?_)
        · refine e_vret h hr ha dX11_goBy_87 (pc := 87) ?_
          exact K _ (by first | (simp (disch := omega) only [up_eq, up_ne]; split <;> (try split) <;> omega) | (split <;> (try split) <;> omega)) (by first | (simp (disch := omega) only [up_eq, up_ne]; split <;> (try split) <;> omega) | (split <;> (try split) <;> omega)) (fun q j hq => by first | rfl | simp (disch := omega) only [up_eq, up_ne])
        · refine e_aload_n h dX11_goBy_47 (pc := 47) rfl ?_
          refine e_getC h fl_X11_73 dX11_goBy_48 (pc := 48) rfl (Nat.lt_of_lt_of_le (by decide) hN) rfl rfl (r := 132) rfl ?_
          refine e_iload_n h dX11_goBy_51 (pc := 51) rfl ?_
          refine e_iald h dX11_goBy_52 (pc := 52) rfl (Nat.lt_of_lt_of_le (by decide) hN) rfl (by show _ < 6; omega) ?_
          refine e_aload_n h dX11_goBy_53 (pc := 53) rfl ?_
          refine e_getC h fl_X11_31 dX11_goBy_54 (pc := 54) rfl (Nat.lt_of_lt_of_le (by decide) hN) rfl rfl (r := 118) rfl ?_
          refine e_iload_n h dX11_goBy_57 (pc := 57) rfl ?_
          refine e_iald h dX11_goBy_58 (pc := 58) rfl (Nat.lt_of_lt_of_le (by decide) hN) rfl (by show _ < 12; omega) ?_
          refine e_icmp_lt h (tgt := 87) dX11_goBy_59 (pc := 59) (by decide) (by omega) (by omega) (fun hb59 => ?_) (fun hb59 => ?_)
          · refine e_vret h hr ha dX11_goBy_87 (pc := 87) ?_
            exact K _ (by first | (simp (disch := omega) only [up_eq, up_ne]; split <;> (try split) <;> omega) | (split <;> (try split) <;> omega)) (by first | (simp (disch := omega) only [up_eq, up_ne]; split <;> (try split) <;> omega) | (split <;> (try split) <;> omega)) (fun q j hq => by first | rfl | simp (disch := omega) only [up_eq, up_ne])
          · refine e_aload_n h dX11_goBy_62 (pc := 62) rfl ?_
            refine e_getC h fl_X11_67 dX11_goBy_63 (pc := 63) rfl (Nat.lt_of_lt_of_le (by decide) hN) rfl rfl (r := 130) rfl ?_
            refine e_iload_n h dX11_goBy_66 (pc := 66) rfl ?_
            refine e_dup2 h dX11_goBy_67 (pc := 67) rfl rfl ?_
            refine e_iald h dX11_goBy_68 (pc := 68) rfl (Nat.lt_of_lt_of_le (by decide) hN) rfl (by show _ < 6; omega) ?_
            refine e_iconst h dX11_goBy_69 (pc := 69)  ?_
            refine e_iadd h dX11_goBy_70 (pc := 70)  ?_
            refine e_iast h dX11_goBy_71 (pc := 71) rfl (Nat.lt_of_lt_of_le (by decide) hN) rfl (by show _ < 6; omega) ?_
            refine e_aload_n h dX11_goBy_72 (pc := 72) rfl ?_
            refine e_getC h fl_X11_73 dX11_goBy_73 (pc := 73) rfl (Nat.lt_of_lt_of_le (by decide) hN) rfl rfl (r := 132) rfl ?_
            refine e_iload_n h dX11_goBy_76 (pc := 76) rfl ?_
            refine e_dup2 h dX11_goBy_77 (pc := 77) rfl rfl ?_
            refine e_iald h dX11_goBy_78 (pc := 78) rfl (Nat.lt_of_lt_of_le (by decide) hN) rfl (by show _ < 6; omega) ?_
            try simp (disch := omega) only [up_eq, up_ne]
            refine e_aload_n h dX11_goBy_79 (pc := 79) rfl ?_
            refine e_getC h fl_X11_31 dX11_goBy_80 (pc := 80) rfl (Nat.lt_of_lt_of_le (by decide) hN) rfl rfl (r := 118) rfl ?_
            refine e_iload_n h dX11_goBy_83 (pc := 83) rfl ?_
            refine e_iald h dX11_goBy_84 (pc := 84) rfl (Nat.lt_of_lt_of_le (by decide) hN) rfl (by show _ < 12; omega) ?_
            try simp (disch := omega) only [up_eq, up_ne]
            refine e_isub h dX11_goBy_85 (pc := 85)  ?_
            refine e_iast h dX11_goBy_86 (pc := 86) rfl (Nat.lt_of_lt_of_le (by decide) hN) rfl (by show _ < 6; omega) ?_
            refine e_vret h hr ha dX11_goBy_87 (pc := 87) ?_
            exact K _ (by first | (simp (disch := omega) only [up_eq, up_ne]; split <;> (try split) <;> omega) | (split <;> (try split) <;> omega)) (by first | (simp (disch := omega) only [up_eq, up_ne]; split <;> (try split) <;> omega) | (split <;> (try split) <;> omega)) (fun q j hq => by first | rfl | simp (disch := omega) only [up_eq, up_ne])
    · refine e_aload_n h dX11_goBy_13 (pc := 13) rfl ?_
      refine e_getC h fl_X11_67 dX11_goBy_14 (pc := 14) rfl (Nat.lt_of_lt_of_le (by decide) hN) rfl rfl (r := 130) rfl ?_
      refine e_iload_n h dX11_goBy_17 (pc := 17) rfl ?_
      refine e_dup2 h dX11_goBy_18 (pc := 18) rfl rfl ?_
      refine e_iald h dX11_goBy_19 (pc := 19) rfl (Nat.lt_of_lt_of_le (by decide) hN) rfl (by show _ < 6; omega) ?_
      refine e_iconst h dX11_goBy_20 (pc := 20)  ?_
      refine e_isub h dX11_goBy_21 (pc := 21)  ?_
      refine e_iast h dX11_goBy_22 (pc := 22) rfl (Nat.lt_of_lt_of_le (by decide) hN) rfl (by show _ < 6; omega) ?_
      refine e_goto h dX11_goBy_23 (pc := 23) (tgt := 87) (by decide) ?_
      refine e_vret h hr ha dX11_goBy_87 (pc := 87) ?_
      exact K _ (by first | (simp (disch := omega) only [up_eq, up_ne]; split <;> (try split) <;> omega) | (split <;> (try split) <;> omega)) (by first | (simp (disch := omega) only [up_eq, up_ne]; split <;> (try split) <;> omega) | (split <;> (try split) <;> omega)) (fun q j hq => by first | rfl | simp (disch := omega) only [up_eq, up_ne])
set_option maxRecDepth 100000 in
set_option maxHeartbeats 4000000 in
theorem m_areTogether {gg : GT} {ad : Nat → Nat} {N : Nat} {M : Mem} {Post : Option AV → Mem → Prop} {i j : Nat}  {xi : Int} (hxi : xi = (i : Int)) {xj : Int} (hxj : xj = (j : Int))  (hN : 139 ≤ N) (hi : i < 6) (hj : j < 6) (h1 : (-2147483648 ≤ M 130 i ∧ M 130 i ≤ 2147483647)) (h2 : (-2147483648 ≤ M 130 j ∧ M 130 j ≤ 2147483647)) (h3 : (-2147483648 ≤ M 131 i ∧ M 131 i ≤ 2147483647)) (h4 : (-2147483648 ≤ M 131 j ∧ M 131 j ≤ 2147483647)) (kt : M 130 i ≠ 9 ∧ M 130 i = M 130 j ∧ M 131 i = M 131 j → Post (some (vi 1)) M) (kf : ¬ (M 130 i ≠ 9 ∧ M 130 i = M 130 j ∧ M 131 i = M 131 j) → Post (some (vi 0)) M) : Sp gg yX11_areTogether cX11_areTogether 3 (some .boolean) rmX11_areTogether [vr 110, vi xi, vi xj] ad N pT M Post := by
  refine Sp.intro (ls := [some (vr 110), some (vi xi), some (vi xj)]) (by decide +kernel) rfl (Nat.le_of_ble_eq_true rfl) fun κ hgg h hr ha => ?_
  have h : Ok κ RX11 cX11_areTogether 3 rmX11_areTogether := h
  subst hgg
  subst hxi
  subst hxj
  refine e_aload_n h dX11_areTogether_0 (pc := 0) rfl ?_
  refine e_getC h fl_X11_67 dX11_areTogether_1 (pc := 1) rfl (Nat.lt_of_lt_of_le (by decide) hN) rfl rfl (r := 130) rfl ?_
  refine e_iload_n h dX11_areTogether_4 (pc := 4) rfl ?_
  refine e_iald h dX11_areTogether_5 (pc := 5) rfl (Nat.lt_of_lt_of_le (by decide) hN) rfl (by show _ < 6; omega) ?_
  refine e_bipush h dX11_areTogether_6 (pc := 6) (by decide +kernel) ?_
  refine e_icmp_eq h (tgt := 45) dX11_areTogether_8 (pc := 8) (by decide) (by omega) (by decide) (fun hb8 => ?_) (fun hb8 => ?_)
  · refine e_iconst h dX11_areTogether_45 (pc := 45)  ?_
    refine e_zret h hr ha dX11_areTogether_46 (pc := 46) (by decide) ?_
    first | exact kt (by omega) | exact kf (by omega)
  · refine e_aload_n h dX11_areTogether_11 (pc := 11) rfl ?_
    refine e_getC h fl_X11_67 dX11_areTogether_12 (pc := 12) rfl (Nat.lt_of_lt_of_le (by decide) hN) rfl rfl (r := 130) rfl ?_
    refine e_iload_n h dX11_areTogether_15 (pc := 15) rfl ?_
    refine e_iald h dX11_areTogether_16 (pc := 16) rfl (Nat.lt_of_lt_of_le (by decide) hN) rfl (by show _ < 6; omega) ?_
    refine e_aload_n h dX11_areTogether_17 (pc := 17) rfl ?_
    refine e_getC h fl_X11_67 dX11_areTogether_18 (pc := 18) rfl (Nat.lt_of_lt_of_le (by decide) hN) rfl rfl (r := 130) rfl ?_
    refine e_iload_n h dX11_areTogether_21 (pc := 21) rfl ?_
    refine e_iald h dX11_areTogether_22 (pc := 22) rfl (Nat.lt_of_lt_of_le (by decide) hN) rfl (by show _ < 6; omega) ?_
    refine e_icmp_ne h (tgt := 45) dX11_areTogether_23 (pc := 23) (by decide) (by omega) (by omega) (fun hb23 => ?_) (fun hb23 => ?_)
    · refine e_iconst h dX11_areTogether_45 (pc := 45)  ?_
      refine e_zret h hr ha dX11_areTogether_46 (pc := 46) (by decide) ?_
      first | exact kt (by omega) | exact kf (by omega)
    · refine e_aload_n h dX11_areTogether_26 (pc := 26) rfl ?_
      refine e_getC h fl_X11_70 dX11_areTogether_27 (pc := 27) rfl (Nat.lt_of_lt_of_le (by decide) hN) rfl rfl (r := 131) rfl ?_
      refine e_iload_n h dX11_areTogether_30 (pc := 30) rfl ?_
      refine e_iald h dX11_areTogether_31 (pc := 31) rfl (Nat.lt_of_lt_of_le (by decide) hN) rfl (by show _ < 6; omega) ?_
      refine e_aload_n h dX11_areTogether_32 (pc := 32) rfl ?_
      refine e_getC h fl_X11_70 dX11_areTogether_33 (pc := 33) rfl (Nat.lt_of_lt_of_le (by decide) hN) rfl rfl (r := 131) rfl ?_
      refine e_iload_n h dX11_areTogether_36 (pc := 36) rfl ?_
      refine e_iald h dX11_areTogether_37 (pc := 37) rfl (Nat.lt_of_lt_of_le (by decide) hN) rfl (by show _ < 6; omega) ?_
      refine e_icmp_ne h (tgt := 45) dX11_areTogether_38 (pc := 38) (by decide) (by omega) (by omega) (fun hb38 => ?_) (fun hb38 => ?_)
      · refine e_iconst h dX11_areTogether_45 (pc := 45)  ?_
        refine e_zret h hr ha dX11_areTogether_46 (pc := 46) (by decide) ?_
        first | exact kt (by omega) | exact kf (by omega)
      · refine e_iconst h dX11_areTogether_41 (pc := 41)  ?_
        refine e_goto h dX11_areTogether_42 (pc := 42) (tgt := 46) (by decide) ?_
        refine e_zret h hr ha dX11_areTogether_46 (pc := 46) (by decide) ?_
        first | exact kt (by omega) | exact kf (by omega)
set_option maxRecDepth 100000 in
set_option maxHeartbeats 4000000 in
theorem m_begin {gg : GT} {ad : Nat → Nat} {N : Nat} {M : Mem} {Post : Option AV → Mem → Prop}   (hN : 139 ≤ N) (K : ∀ M2 : Mem, M2 110 27 = 0 → (∀ j, j < 6 → M2 130 j = M 116 j ∧ M2 131 j = M 117 j ∧ M2 132 j = M 123 j ∧ M2 133 j = -4) → (∀ q j, (q ≠ 130 ∧ q ≠ 131 ∧ q ≠ 132 ∧ q ≠ 133 ∧ (q ≠ 110 ∨ j ≠ 27)) → M2 q j = M q j) → Post none M2) : Sp gg yX11_begin cX11_begin 2 none rmX11_begin [vr 110] ad N pT M Post := by
  refine Sp.intro (ls := [some (vr 110), none]) (by decide +kernel) rfl (Nat.le_of_ble_eq_true rfl) fun κ hgg h hr ha => ?_
  have h : Ok κ RX11 cX11_begin 2 rmX11_begin := h
  subst hgg
  have loop : ∀ (n k : Nat) (M1 : Mem), k ≤ 6 → 6 < k + n → (∀ j, j < k → M1 130 j = M 116 j ∧ M1 131 j = M 117 j ∧ M1 132 j = M 123 j ∧ M1 133 j = -4) → M1 110 27 = 0 → (∀ q j, (q ≠ 130 ∧ q ≠ 131 ∧ q ≠ 132 ∧ q ≠ 133 ∧ (q ≠ 110 ∨ j ≠ 27)) → M1 q j = M q j) → E κ ad N pT M1 7 [some (vr 110), some (vi (k : Int))] [] (0, 0) (QR κ ad N pT Post) := by
    intro n
    induction n with
    | zero => intro k M1 h1 h2; exact absurd h2 (by omega)
    | succ n ih =>
      intro k M1 hk hn hS hd0 hfr
      refine e_iload_n h dX11_begin_7 (pc := 7) rfl ?_
      refine e_bipush h dX11_begin_8 (pc := 8) (by decide +kernel) ?_
      refine e_icmp_ge h (tgt := 63) dX11_begin_10 (pc := 10) (by decide) (by omega) (by decide) (fun hb10 => ?_) (fun hb10 => ?_)
      · refine e_vret h hr ha dX11_begin_63 (pc := 63) ?_
        exact K M1 hd0 (fun j hj => hS j (by omega)) hfr
      · refine e_aload_n h dX11_begin_13 (pc := 13) rfl ?_
        refine e_getC h fl_X11_67 dX11_begin_14 (pc := 14) rfl (Nat.lt_of_lt_of_le (by decide) hN) rfl rfl (r := 130) rfl ?_
        refine e_iload_n h dX11_begin_17 (pc := 17) rfl ?_
        refine e_aload_n h dX11_begin_18 (pc := 18) rfl ?_
        refine e_getC h fl_X11_25 dX11_begin_19 (pc := 19) rfl (Nat.lt_of_lt_of_le (by decide) hN) rfl rfl (r := 116) rfl ?_
        refine e_iload_n h dX11_begin_22 (pc := 22) rfl ?_
        refine e_iald h dX11_begin_23 (pc := 23) rfl (Nat.lt_of_lt_of_le (by decide) hN) rfl (by show _ < 12; omega) ?_
        refine e_iast h dX11_begin_24 (pc := 24) rfl (Nat.lt_of_lt_of_le (by decide) hN) rfl (by show _ < 6; omega) ?_
        refine e_aload_n h dX11_begin_25 (pc := 25) rfl ?_
        refine e_getC h fl_X11_70 dX11_begin_26 (pc := 26) rfl (Nat.lt_of_lt_of_le (by decide) hN) rfl rfl (r := 131) rfl ?_
        refine e_iload_n h dX11_begin_29 (pc := 29) rfl ?_
        refine e_aload_n h dX11_begin_30 (pc := 30) rfl ?_
        refine e_getC h fl_X11_28 dX11_begin_31 (pc := 31) rfl (Nat.lt_of_lt_of_le (by decide) hN) rfl rfl (r := 117) rfl ?_
        refine e_iload_n h dX11_begin_34 (pc := 34) rfl ?_
        refine e_iald h dX11_begin_35 (pc := 35) rfl (Nat.lt_of_lt_of_le (by decide) hN) rfl (by show _ < 12; omega) ?_
        simp (disch := omega) only [up_ne]
        refine e_iast h dX11_begin_36 (pc := 36) rfl (Nat.lt_of_lt_of_le (by decide) hN) rfl (by show _ < 6; omega) ?_
        refine e_aload_n h dX11_begin_37 (pc := 37) rfl ?_
        refine e_getC h fl_X11_73 dX11_begin_38 (pc := 38) rfl (Nat.lt_of_lt_of_le (by decide) hN) rfl rfl (r := 132) rfl ?_
        refine e_iload_n h dX11_begin_41 (pc := 41) rfl ?_
        refine e_aload_n h dX11_begin_42 (pc := 42) rfl ?_
        refine e_getC h fl_X11_46 dX11_begin_43 (pc := 43) rfl (Nat.lt_of_lt_of_le (by decide) hN) rfl rfl (r := 123) rfl ?_
        refine e_iload_n h dX11_begin_46 (pc := 46) rfl ?_
        refine e_iald h dX11_begin_47 (pc := 47) rfl (Nat.lt_of_lt_of_le (by decide) hN) rfl (by show _ < 24; omega) ?_
        simp (disch := omega) only [up_ne]
        refine e_iast h dX11_begin_48 (pc := 48) rfl (Nat.lt_of_lt_of_le (by decide) hN) rfl (by show _ < 6; omega) ?_
        refine e_aload_n h dX11_begin_49 (pc := 49) rfl ?_
        refine e_getC h fl_X11_76 dX11_begin_50 (pc := 50) rfl (Nat.lt_of_lt_of_le (by decide) hN) rfl rfl (r := 133) rfl ?_
        refine e_iload_n h dX11_begin_53 (pc := 53) rfl ?_
        refine e_bipush h dX11_begin_54 (pc := 54) (by decide +kernel) ?_
        refine e_iast h dX11_begin_56 (pc := 56) rfl (Nat.lt_of_lt_of_le (by decide) hN) rfl (by show _ < 6; omega) ?_
        refine e_iinc1 h dX11_begin_57 (pc := 57) (by decide) rfl ?_
        refine e_goto h dX11_begin_60 (pc := 60) (tgt := 7) (by decide) ?_
        rw [show (k : Int) + 1 = ((k + 1 : Nat) : Int) by omega]
        refine ih (k + 1) _ (by omega) (by omega) (fun j hj => ?_) (by simp (disch := omega) only [up_eq, up_ne]; exact hd0) (fun q j hq => by simp (disch := omega) only [up_eq, up_ne]; exact hfr q j hq)
        by_cases e : j = k
        · subst e
          simp (disch := omega) only [up_eq, up_ne]
          exact ⟨by rw [hfr 116 j (by omega)], by rw [hfr 117 j (by omega)], by rw [hfr 123 j (by omega)], trivial⟩
        · simp (disch := omega) only [up_eq, up_ne]
          exact hS j (by omega)
  refine e_aload_n h dX11_begin_0 (pc := 0) rfl ?_
  refine e_iconst h dX11_begin_1 (pc := 1)  ?_
  refine e_putI h fl_X11_159 dX11_begin_2 (pc := 2) rfl (Nat.lt_of_lt_of_le (by decide) hN) rfl ?_
  refine e_iconst h dX11_begin_5 (pc := 5)  ?_
  refine e_istore1 h dX11_begin_6 (pc := 6) (by decide) rfl ?_
  exact loop 7 0 _ (by omega) (by omega) (fun j hj => absurd hj (by omega)) (up_eq _ _ _ _) (fun q j hq => up_ne (by omega))
