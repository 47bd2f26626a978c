theorem er_no {S O : SD} {i d k : Nat} {c : Nat × Nat} (h : ¬ (oW O k = i ∧ oD O k = d)) : er S O i d (k + 1) c = er S O i d k c := by
  show (if _ then _ else _) = _
  rw [if_neg h]
theorem er_down {S O : SD} {i d k : Nat} {c : Nat × Nat} (h : oW O k = i ∧ oD O k = d) (h2 : oU O k = 0) : er S O i d (k + 1) c = ((er S O i d k c).1 - 1, (er S O i d k c).2) := by
  show (if _ then _ else _) = _
  rw [if_pos h, if_pos h2]
theorem er_up {S O : SD} {i d k : Nat} {c : Nat × Nat} (h : oW O k = i ∧ oD O k = d) (h2 : ¬ oU O k = 0) (h3 : (er S O i d k c).1 + 1 < sL S ∧ sX S i ≤ (er S O i d k c).2) : er S O i d (k + 1) c = ((er S O i d k c).1 + 1, (er S O i d k c).2 - sX S i) := by
  show (if _ then _ else _) = _
  rw [if_pos h, if_neg h2, if_pos h3]
theorem er_stay {S O : SD} {i d k : Nat} {c : Nat × Nat} (h : oW O k = i ∧ oD O k = d) (h2 : ¬ oU O k = 0) (h3 : ¬ ((er S O i d k c).1 + 1 < sL S ∧ sX S i ≤ (er S O i d k c).2)) : er S O i d (k + 1) c = er S O i d k c := by
  show (if _ then _ else _) = _
  rw [if_pos h, if_neg h2, if_neg h3]
set_option maxRecDepth 100000 in
set_option maxHeartbeats 4000000 in
theorem c_isStruck {gg : GT} {ad : Nat → Nat} {N : Nat} {M : Mem} {Post : Option AV → Mem → Prop} {S : SD} {so l d : Nat}  {xl : Int} (hxl : xl = (l : Int)) {xd : Int} (hxd : xd = (d : Int))  (hs : IsS so N) (hS : SR S M so) (hb : sB S ≤ 5) (hl : l ≤ 9) (hd : d ≤ 60) (hcd : ∀ k, k < sB S → sC S k ≤ 9 ∧ sD S k ≤ 60) (kt : hit S l d = true → Post (some (vi 1)) M) (kf : hit S l d = false → Post (some (vi 0)) M) : Sp gg yX8_isStruck cX8_isStruck 4 (some .boolean) rmX8_isStruck [vr so, vi xl, vi xd] ad N pT M Post := by
  refine Sp.intro (ls := [some (vr so), some (vi xl), some (vi xd), none]) (by decide +kernel) rfl (Nat.le_of_ble_eq_true rfl) fun κ hgg h hr ha => ?_
  have h : Ok κ RX8 cX8_isStruck 4 rmX8_isStruck := h
  subst hgg
  subst hxl
  subst hxd
  obtain ⟨r1, r2, r3, r4, r5, r6⟩ := hS
  have loop : ∀ (n k : Nat), k ≤ sB S → sB S < k + n → hitN S l d k = false → E κ ad N pT M 2 [some (vr so), some (vi (l : Int)), some (vi (d : Int)), some (vi (k : Int))] [] (0, 0) (QR κ ad N pT Post) := by
    intro n
    induction n with
    | zero => intro k h1 h2; exact absurd h2 (by omega)
    | succ n ih =>
      intro k hk hn hin
      refine e_iload_n h dX8_isStruck_2 (pc := 2) rfl ?_
      refine e_aload_n h dX8_isStruck_3 (pc := 3) rfl ?_
      refine e_getI h fl_X8_50 dX8_isStruck_4 (pc := 4) hs.c0 hs.p0 (by decide) ?_
      refine e_icmp_ge h (tgt := 38) dX8_isStruck_7 (pc := 7) (by decide) (by omega) (by omega) (fun hb7 => ?_) (fun hb7 => ?_)
      · refine e_iconst h dX8_isStruck_38 (pc := 38)  ?_
        refine e_zret h hr ha dX8_isStruck_39 (pc := 39) (by decide) ?_
        exact kf (by rw [← hin]; unfold hit; congr 1; omega)
      · have f6 := r6 k (by omega)
        have f7 := hcd k (by omega)
        refine e_aload_n h dX8_isStruck_10 (pc := 10) rfl ?_
        refine e_getC h fl_X8_30 dX8_isStruck_11 (pc := 11) hs.c0 hs.p0 rfl rfl (r := (so + 7)) (pcr_d (by rw [hs.c0]; decide) 6) ?_
        refine e_iload_n h dX8_isStruck_14 (pc := 14) rfl ?_
        refine e_iald h dX8_isStruck_15 (pc := 15) hs.c7 hs.p7 rfl (by rw [hs.l7]; omega) ?_
        refine e_iload_n h dX8_isStruck_16 (pc := 16) rfl ?_
        refine e_icmp_ne h (tgt := 32) dX8_isStruck_17 (pc := 17) (by decide) (by omega) (by omega) (fun hb17 => ?_) (fun hb17 => ?_)
        · refine e_iinc3 h dX8_isStruck_32 (pc := 32) (by decide) rfl ?_
          refine e_goto h dX8_isStruck_35 (pc := 35) (tgt := 2) (by decide) ?_
          rw [show (k : Int) + 1 = ((k + 1 : Nat) : Int) by omega]
          exact ih (k + 1) (by omega) (by omega) (hitN_no hin (by omega))
        · refine e_aload_n h dX8_isStruck_20 (pc := 20) rfl ?_
          refine e_getC h fl_X8_33 dX8_isStruck_21 (pc := 21) hs.c0 hs.p0 rfl rfl (r := (so + 8)) (pcr_d (by rw [hs.c0]; decide) 7) ?_
          refine e_iload_n h dX8_isStruck_24 (pc := 24) rfl ?_
          refine e_iald h dX8_isStruck_25 (pc := 25) hs.c8 hs.p8 rfl (by rw [hs.l8]; omega) ?_
          refine e_iload_n h dX8_isStruck_26 (pc := 26) rfl ?_
          refine e_icmp_ne h (tgt := 32) dX8_isStruck_27 (pc := 27) (by decide) (by omega) (by omega) (fun hb27 => ?_) (fun hb27 => ?_)
          · refine e_iinc3 h dX8_isStruck_32 (pc := 32) (by decide) rfl ?_
            refine e_goto h dX8_isStruck_35 (pc := 35) (tgt := 2) (by decide) ?_
            rw [show (k : Int) + 1 = ((k + 1 : Nat) : Int) by omega]
            exact ih (k + 1) (by omega) (by omega) (hitN_no hin (by omega))
          · refine e_iconst h dX8_isStruck_30 (pc := 30)  ?_
            refine e_zret h hr ha dX8_isStruck_31 (pc := 31) (by decide) ?_
            exact kt (hit_of (k := k) (by omega) (by omega) (by omega))
  refine e_iconst h dX8_isStruck_0 (pc := 0)  ?_
  refine e_istore3 h dX8_isStruck_1 (pc := 1) (by decide) rfl ?_
  exact loop (sB S + 1) 0 (by omega) (by omega) rfl
set_option maxRecDepth 100000 in
set_option maxHeartbeats 4000000 in
theorem c_dailyLoss {gg : GT} {ad : Nat → Nat} {N : Nat} {M : Mem} {Post : Option AV → Mem → Prop} {S : SD} {so i l d : Nat}  {xi : Int} (hxi : xi = (i : Int)) {xl : Int} (hxl : xl = (l : Int)) {xd : Int} (hxd : xd = (d : Int))  (hs : IsS so N) (hi : i < 6) (hi2 : M (so + 6) i = sK S i) (hk : sK S i ≤ 3) (hl : l < 6) (hl2 : M (so + 2) l = sW S l) (hw : sW S l ≤ 1) (hd : d ≤ 60) (k : Post (some (vi (loss S i l d : Int))) M) : Sp gg yX8_dailyLoss cX8_dailyLoss 4 (some .int) rmX8_dailyLoss [vr so, vi xi, vi xl, vi xd] ad N pT M Post := by
  refine Sp.intro (ls := [some (vr so), some (vi xi), some (vi xl), some (vi xd)]) (by decide +kernel) rfl (Nat.le_of_ble_eq_true rfl) fun κ hgg h hr ha => ?_
  have h : Ok κ RX8 cX8_dailyLoss 4 rmX8_dailyLoss := h
  subst hgg
  subst hxi
  subst hxl
  subst hxd
  refine e_aload_n h dX8_dailyLoss_0 (pc := 0) rfl ?_
  refine e_getC h fl_X8_27 dX8_dailyLoss_1 (pc := 1) hs.c0 hs.p0 rfl rfl (r := (so + 6)) (pcr_d (by rw [hs.c0]; decide) 5) ?_
  refine e_iload_n h dX8_dailyLoss_4 (pc := 4) rfl ?_
  refine e_iald h dX8_dailyLoss_5 (pc := 5) hs.c6 hs.p6 (j := i) (by omega) (by rw [hs.l6]; omega) ?_
  rcases (show sK S i = 1 ∨ sK S i = 2 ∨ sK S i = 3 ∨ sK S i = 0 by omega) with hq | hq | hq | hq
  · refine e_tabV h dX8_dailyLoss_6 (pc := 6) (v := 1) (by omega) (by decide) (by decide) (off := 26) (by decide +kernel) (tgt := 32) (by decide) ?_
    refine e_iconst h dX8_dailyLoss_32 (pc := 32)  ?_
    refine e_iret h hr ha dX8_dailyLoss_33 (pc := 33) ?_
    exact cast (by congr 3; unfold loss; rw [hq]; first | omega | (simp only []; omega)) k
  · refine e_tabV h dX8_dailyLoss_6 (pc := 6) (v := 2) (by omega) (by decide) (by decide) (off := 28) (by decide +kernel) (tgt := 34) (by decide) ?_
    refine e_aload_n h dX8_dailyLoss_34 (pc := 34) rfl ?_
    refine e_getC h fl_X8_15 dX8_dailyLoss_35 (pc := 35) hs.c0 hs.p0 rfl rfl (r := (so + 2)) (pcr_d (by rw [hs.c0]; decide) 1) ?_
    refine e_iload_n h dX8_dailyLoss_38 (pc := 38) rfl ?_
    refine e_iald h dX8_dailyLoss_39 (pc := 39) hs.c2 hs.p2 rfl (by rw [hs.l2]; omega) ?_
    refine e_iconst h dX8_dailyLoss_40 (pc := 40)  ?_
    refine e_icmp_ne h (tgt := 48) dX8_dailyLoss_41 (pc := 41) (by decide) (by omega) (by decide) (fun hb41 => ?_) (fun hb41 => ?_)
    · refine e_iconst h dX8_dailyLoss_48 (pc := 48)  ?_
      refine e_iret h hr ha dX8_dailyLoss_49 (pc := 49) ?_
      exact cast (by congr 3; unfold loss; rw [hq]; first | omega | (simp only []; omega)) k
    · refine e_iconst h dX8_dailyLoss_44 (pc := 44)  ?_
      refine e_goto h dX8_dailyLoss_45 (pc := 45) (tgt := 49) (by decide) ?_
      refine e_iret h hr ha dX8_dailyLoss_49 (pc := 49) ?_
      exact cast (by congr 3; unfold loss; rw [hq]; first | omega | (simp only []; omega)) k
  · refine e_tabV h dX8_dailyLoss_6 (pc := 6) (v := 3) (by omega) (by decide) (by decide) (off := 44) (by decide +kernel) (tgt := 50) (by decide) ?_
    refine e_iload_n h dX8_dailyLoss_50 (pc := 50) rfl ?_
    refine e_iconst h dX8_dailyLoss_51 (pc := 51)  ?_
    refine e_irem h dX8_dailyLoss_52 (pc := 52) (by omega) (by decide) ?_
    generalize hqq : ((d : Int)).tmod 2 = q
    have hq2 := tmod_cases (d : Int) 2 (by decide)
    rw [hqq] at hq2
    refine e_if_ne h (tgt := 60) dX8_dailyLoss_53 (pc := 53) (by decide) (by omega) (fun hb53 => ?_) (fun hb53 => ?_)
    · refine e_iconst h dX8_dailyLoss_60 (pc := 60)  ?_
      refine e_iret h hr ha dX8_dailyLoss_61 (pc := 61) ?_
      exact cast (by congr 3; unfold loss; rw [hq]; first | omega | (simp only []; omega)) k
    · refine e_iconst h dX8_dailyLoss_56 (pc := 56)  ?_
      refine e_goto h dX8_dailyLoss_57 (pc := 57) (tgt := 61) (by decide) ?_
      refine e_iret h hr ha dX8_dailyLoss_61 (pc := 61) ?_
      exact cast (by congr 3; unfold loss; rw [hq]; first | omega | (simp only []; omega)) k
  · refine e_tabOut h dX8_dailyLoss_6 (pc := 6) (by omega) (by omega) (tgt := 62) (by decide) ?_
    refine e_iconst h dX8_dailyLoss_62 (pc := 62)  ?_
    refine e_iret h hr ha dX8_dailyLoss_63 (pc := 63) ?_
    exact cast (by congr 3; unfold loss; rw [hq]; first | omega | (simp only []; omega)) k
set_option maxRecDepth 100000 in
set_option maxHeartbeats 4000000 in
theorem c_note {gg : GT} {ad : Nat → Nat} {N : Nat} {M : Mem} {Post : Option AV → Mem → Prop} {o d : Nat}  {xd : Int} (hxd : xd = (d : Int))  (ho : IsC o N) (hd : d ≤ 60) (k : Post none (up (up (up M (o + 1) d (M o 4)) (o + 2) d (M o 5)) (o + 3) d (M o 6))) : Sp gg yX1_note cX1_note 2 none rmX1_note [vr o, vi xd] ad N pT M Post := by
  refine Sp.intro (ls := [some (vr o), some (vi xd)]) (by decide +kernel) rfl (Nat.le_of_ble_eq_true rfl) fun κ hgg h hr ha => ?_
  have h : Ok κ RX1 cX1_note 2 rmX1_note := h
  subst hgg
  subst hxd
  refine e_aload_n h dX1_note_0 (pc := 0) rfl ?_
  refine e_getC h fl_X1_9 dX1_note_1 (pc := 1) ho.c0 ho.p0 rfl rfl (r := (o + 1)) (pcr_d (by rw [ho.c0]; decide) 0) ?_
  refine e_iload_n h dX1_note_4 (pc := 4) rfl ?_
  refine e_aload_n h dX1_note_5 (pc := 5) rfl ?_
  refine e_getI h fl_X1_25 dX1_note_6 (pc := 6) ho.c0 ho.p0 (by decide) ?_
  refine e_iast h dX1_note_9 (pc := 9) ho.c1 ho.p1 rfl (by rw [ho.l1]; omega) ?_
  refine e_aload_n h dX1_note_10 (pc := 10) rfl ?_
  refine e_getC h fl_X1_15 dX1_note_11 (pc := 11) ho.c0 ho.p0 rfl rfl (r := (o + 2)) (pcr_d (by rw [ho.c0]; decide) 1) ?_
  refine e_iload_n h dX1_note_14 (pc := 14) rfl ?_
  refine e_aload_n h dX1_note_15 (pc := 15) rfl ?_
  refine e_getI h fl_X1_28 dX1_note_16 (pc := 16) ho.c0 ho.p0 (by decide) ?_
  try simp (disch := omega) only [up_eq, up_ne]
  refine e_iast h dX1_note_19 (pc := 19) ho.c2 ho.p2 rfl (by rw [ho.l2]; omega) ?_
  refine e_aload_n h dX1_note_20 (pc := 20) rfl ?_
  refine e_getC h fl_X1_18 dX1_note_21 (pc := 21) ho.c0 ho.p0 rfl rfl (r := (o + 3)) (pcr_d (by rw [ho.c0]; decide) 2) ?_
  refine e_iload_n h dX1_note_24 (pc := 24) rfl ?_
  refine e_aload_n h dX1_note_25 (pc := 25) rfl ?_
  refine e_getI h fl_X1_40 dX1_note_26 (pc := 26) ho.c0 ho.p0 (by decide) ?_
  try simp (disch := omega) only [up_eq, up_ne]
  refine e_iast h dX1_note_29 (pc := 29) ho.c3 ho.p3 rfl (by rw [ho.l3]; omega) ?_
  refine e_vret h hr ha dX1_note_30 (pc := 30) ?_
  exact k
set_option maxRecDepth 100000 in
set_option maxHeartbeats 4000000 in
theorem c_floats {gg : GT} {ad : Nat → Nat} {N : Nat} {M : Mem} {Post : Option AV → Mem → Prop} {o d : Nat}  {xd : Int} (hxd : xd = (d : Int))  (ho : IsC o N) (hd : d ≤ 60) (hr0 : (-2147483648 ≤ M (o + 1) d ∧ M (o + 1) d ≤ 2147483647)) (kt : M (o + 1) d ≠ 9 → Post (some (vi 1)) M) (kf : M (o + 1) d = 9 → Post (some (vi 0)) M) : Sp gg yX1_floats cX1_floats 2 (some .boolean) rmX1_floats [vr o, vi xd] ad N pT M Post := by
  refine Sp.intro (ls := [some (vr o), some (vi xd)]) (by decide +kernel) rfl (Nat.le_of_ble_eq_true rfl) fun κ hgg h hr ha => ?_
  have h : Ok κ RX1 cX1_floats 2 rmX1_floats := h
  subst hgg
  subst hxd
  refine e_aload_n h dX1_floats_0 (pc := 0) rfl ?_
  refine e_getC h fl_X1_9 dX1_floats_1 (pc := 1) ho.c0 ho.p0 rfl rfl (r := (o + 1)) (pcr_d (by rw [ho.c0]; decide) 0) ?_
  refine e_iload_n h dX1_floats_4 (pc := 4) rfl ?_
  refine e_iald h dX1_floats_5 (pc := 5) ho.c1 ho.p1 rfl (by rw [ho.l1]; omega) ?_
  refine e_bipush h dX1_floats_6 (pc := 6) (by decide +kernel) ?_
  refine e_icmp_eq h (tgt := 15) dX1_floats_8 (pc := 8) (by decide) (by omega) (by decide) (fun hb8 => ?_) (fun hb8 => ?_)
  · refine e_iconst h dX1_floats_15 (pc := 15)  ?_
    refine e_zret h hr ha dX1_floats_16 (pc := 16) (by decide) ?_
    first | exact kt (by omega) | exact kf (by omega)
  · refine e_iconst h dX1_floats_11 (pc := 11)  ?_
    refine e_goto h dX1_floats_12 (pc := 12) (tgt := 16) (by decide) ?_
    refine e_zret h hr ha dX1_floats_16 (pc := 16) (by decide) ?_
    first | exact kt (by omega) | exact kf (by omega)
set_option maxRecDepth 100000 in
set_option maxHeartbeats 4000000 in
theorem c_meets {gg : GT} {ad : Nat → Nat} {N : Nat} {M : Mem} {Post : Option AV → Mem → Prop} {o o2 d : Nat}  {xd : Int} (hxd : xd = (d : Int))  (ho : IsC o N) (ho2 : IsC o2 N) (hd : d ≤ 60) (h1 : (-2147483648 ≤ M (o + 1) d ∧ M (o + 1) d ≤ 2147483647)) (h2 : (-2147483648 ≤ M (o2 + 1) d ∧ M (o2 + 1) d ≤ 2147483647)) (h3 : (-2147483648 ≤ M (o + 2) d ∧ M (o + 2) d ≤ 2147483647)) (h4 : (-2147483648 ≤ M (o2 + 2) d ∧ M (o2 + 2) d ≤ 2147483647)) (kt : M (o + 1) d ≠ 9 → M (o + 1) d = M (o2 + 1) d → M (o + 2) d = M (o2 + 2) d → Post (some (vi 1)) M) (kf : ¬ (M (o + 1) d ≠ 9 ∧ M (o + 1) d = M (o2 + 1) d ∧ M (o + 2) d = M (o2 + 2) d) → Post (some (vi 0)) M) : Sp gg yX1_meets cX1_meets 3 (some .boolean) rmX1_meets [vr o, vr o2, vi xd] ad N pT M Post := by
  refine Sp.intro (ls := [some (vr o), some (vr o2), some (vi xd)]) (by decide +kernel) rfl (Nat.le_of_ble_eq_true rfl) fun κ hgg h hr ha => ?_
  have h : Ok κ RX1 cX1_meets 3 rmX1_meets := h
  subst hgg
  subst hxd
  refine e_aload_n h dX1_meets_0 (pc := 0) rfl ?_
  refine e_iload_n h dX1_meets_1 (pc := 1) rfl ?_
  refine e_callV1 lk_X1_97 mv_X1_floats dX1_meets_2 (pc := 2) (by rw [ho.c0]; rfl) (by rw [ho.c0]; decide) ho.p0 (Nat.le_of_ble_eq_true rfl) (rmY := rmX1_floats) (by decide) h ?_
  refine c_floats rfl ho hd h1 (fun hw => ?_) (fun hw => ?_)
  · skip
    refine e_if_eq h (tgt := 42) dX1_meets_5 (pc := 5) (by decide) (by decide) (fun hz => absurd hz (by decide)) (fun _ => ?_)
    refine e_aload_n h dX1_meets_8 (pc := 8) rfl ?_
    refine e_getC h fl_X1_9 dX1_meets_9 (pc := 9) ho.c0 ho.p0 rfl rfl (r := (o + 1)) (pcr_d (by rw [ho.c0]; decide) 0) ?_
    refine e_iload_n h dX1_meets_12 (pc := 12) rfl ?_
    refine e_iald h dX1_meets_13 (pc := 13) ho.c1 ho.p1 rfl (by rw [ho.l1]; omega) ?_
    refine e_aload_n h dX1_meets_14 (pc := 14) rfl ?_
    refine e_getC h fl_X1_9 dX1_meets_15 (pc := 15) ho2.c0 ho2.p0 rfl rfl (r := (o2 + 1)) (pcr_d (by rw [ho2.c0]; decide) 0) ?_
    refine e_iload_n h dX1_meets_18 (pc := 18) rfl ?_
    refine e_iald h dX1_meets_19 (pc := 19) ho2.c1 ho2.p1 rfl (by rw [ho2.l1]; omega) ?_
    refine e_icmp_ne h (tgt := 42) dX1_meets_20 (pc := 20) (by decide) (by omega) (by omega) (fun hb20 => ?_) (fun hb20 => ?_)
    · refine e_iconst h dX1_meets_42 (pc := 42)  ?_
      refine e_zret h hr ha dX1_meets_43 (pc := 43) (by decide) ?_
      first | exact kt (by omega) (by omega) (by omega) | exact kf (by omega)
    · refine e_aload_n h dX1_meets_23 (pc := 23) rfl ?_
      refine e_getC h fl_X1_15 dX1_meets_24 (pc := 24) ho.c0 ho.p0 rfl rfl (r := (o + 2)) (pcr_d (by rw [ho.c0]; decide) 1) ?_
      refine e_iload_n h dX1_meets_27 (pc := 27) rfl ?_
      refine e_iald h dX1_meets_28 (pc := 28) ho.c2 ho.p2 rfl (by rw [ho.l2]; omega) ?_
      refine e_aload_n h dX1_meets_29 (pc := 29) rfl ?_
      refine e_getC h fl_X1_15 dX1_meets_30 (pc := 30) ho2.c0 ho2.p0 rfl rfl (r := (o2 + 2)) (pcr_d (by rw [ho2.c0]; decide) 1) ?_
      refine e_iload_n h dX1_meets_33 (pc := 33) rfl ?_
      refine e_iald h dX1_meets_34 (pc := 34) ho2.c2 ho2.p2 rfl (by rw [ho2.l2]; omega) ?_
      refine e_icmp_ne h (tgt := 42) dX1_meets_35 (pc := 35) (by decide) (by omega) (by omega) (fun hb35 => ?_) (fun hb35 => ?_)
      · refine e_iconst h dX1_meets_42 (pc := 42)  ?_
        refine e_zret h hr ha dX1_meets_43 (pc := 43) (by decide) ?_
        first | exact kt (by omega) (by omega) (by omega) | exact kf (by omega)
      · refine e_iconst h dX1_meets_38 (pc := 38)  ?_
        refine e_goto h dX1_meets_39 (pc := 39) (tgt := 43) (by decide) ?_
        refine e_zret h hr ha dX1_meets_43 (pc := 43) (by decide) ?_
        first | exact kt (by omega) (by omega) (by omega) | exact kf (by omega)
  · skip
    refine e_if_eq h (tgt := 42) dX1_meets_5 (pc := 5) (by decide) (by decide) (fun _ => ?_) (fun hz => absurd hz (by decide))
    refine e_iconst h dX1_meets_42 (pc := 42)  ?_
    refine e_zret h hr ha dX1_meets_43 (pc := 43) (by decide) ?_
    first | exact kt (by omega) (by omega) (by omega) | exact kf (by omega)
set_option maxRecDepth 100000 in
set_option maxHeartbeats 4000000 in
theorem c_sink {gg : GT} {ad : Nat → Nat} {N : Nat} {M : Mem} {Post : Option AV → Mem → Prop} {o d lv g : Nat}  {xd : Int} (hxd : xd = (d : Int))  (ho : IsC o N) (hd : d ≤ 60) (hlv : M o 4 = lv) (hl9 : lv < 9) (hg : M o 6 = g) (hg9 : g ≤ 60) (k : ∀ M2 : Mem, M2 o 4 = sink (lv, g) → M2 o 3 = (if sink (lv, g) = 9 then (d : Int) else M o 3) → (∀ q j, (q ≠ o ∨ (j ≠ 3 ∧ j ≠ 4)) → M2 q j = M q j) → Post none M2) : Sp gg yX1_sinkWithoutGas cX1_sinkWithoutGas 2 none rmX1_sinkWithoutGas [vr o, vi xd] ad N pT M Post := by
  refine Sp.intro (ls := [some (vr o), some (vi xd)]) (by decide +kernel) rfl (Nat.le_of_ble_eq_true rfl) fun κ hgg h hr ha => ?_
  have h : Ok κ RX1 cX1_sinkWithoutGas 2 rmX1_sinkWithoutGas := h
  subst hgg
  subst hxd
  refine e_aload_n h dX1_sinkWithoutGas_0 (pc := 0) rfl ?_
  refine e_getI h fl_X1_40 dX1_sinkWithoutGas_1 (pc := 1) ho.c0 ho.p0 (by decide) ?_
  refine e_if_le h (tgt := 8) dX1_sinkWithoutGas_4 (pc := 4) (by decide) (by omega) (fun hb4 => ?_) (fun hb4 => ?_)
  · refine e_aload_n h dX1_sinkWithoutGas_8 (pc := 8) rfl ?_
    refine e_getI h fl_X1_25 dX1_sinkWithoutGas_9 (pc := 9) ho.c0 ho.p0 (by decide) ?_
    refine e_if_le h (tgt := 28) dX1_sinkWithoutGas_12 (pc := 12) (by decide) (by omega) (fun hb12 => ?_) (fun hb12 => ?_)
    · refine e_aload_n h dX1_sinkWithoutGas_28 (pc := 28) rfl ?_
      refine e_bipush h dX1_sinkWithoutGas_29 (pc := 29) (by decide +kernel) ?_
      refine e_putI h fl_X1_25 dX1_sinkWithoutGas_31 (pc := 31) ho.c0 ho.p0 rfl ?_
      refine e_aload_n h dX1_sinkWithoutGas_34 (pc := 34) rfl ?_
      refine e_iload_n h dX1_sinkWithoutGas_35 (pc := 35) rfl ?_
      refine e_putI h fl_X1_21 dX1_sinkWithoutGas_36 (pc := 36) ho.c0 ho.p0 rfl ?_
      refine e_vret h hr ha dX1_sinkWithoutGas_39 (pc := 39) ?_
      have e : sink (lv, g) = 9 := by simp only [sink]; rw [if_neg (by omega), if_neg (by omega)]
      exact k _ (by rw [e, up_ne (by omega), up_eq]; rfl) (by rw [e, if_pos rfl]; exact up_eq _ _ _ _) (fun q j hq => by rw [up_ne (by omega), up_ne (by omega)])
    · refine e_aload_n h dX1_sinkWithoutGas_15 (pc := 15) rfl ?_
      refine e_dup h dX1_sinkWithoutGas_16 (pc := 16) rfl ?_
      refine e_getI h fl_X1_25 dX1_sinkWithoutGas_17 (pc := 17) ho.c0 ho.p0 (by decide) ?_
      refine e_iconst h dX1_sinkWithoutGas_20 (pc := 20)  ?_
      refine e_isub h dX1_sinkWithoutGas_21 (pc := 21)  ?_
      refine e_putI h fl_X1_25 dX1_sinkWithoutGas_22 (pc := 22) ho.c0 ho.p0 rfl ?_
      refine e_goto h dX1_sinkWithoutGas_25 (pc := 25) (tgt := 39) (by decide) ?_
      refine e_vret h hr ha dX1_sinkWithoutGas_39 (pc := 39) ?_
      have e : sink (lv, g) = lv - 1 := by simp only [sink]; rw [if_neg (by omega), if_pos (by omega)]
      exact k _ (by rw [e, up_eq]; omega) (by rw [e, if_neg (by omega)]; exact up_ne (by omega)) (fun q j hq => up_ne (by omega))
  · refine e_vret h hr ha dX1_sinkWithoutGas_7 (pc := 7) ?_
    have e : sink (lv, g) = lv := by simp only [sink]; rw [if_pos (by omega)]
    exact k _ (by rw [e]; exact hlv) (by rw [e, if_neg (by omega)]) (fun q j hq => rfl)
set_option maxRecDepth 100000 in
set_option maxHeartbeats 4000000 in
theorem c_goOn {gg : GT} {ad : Nat → Nat} {N : Nat} {M : Mem} {Post : Option AV → Mem → Prop} {S : SD} {o so i d lv pl g : Nat}  {xi : Int} (hxi : xi = (i : Int)) {xd : Int} (hxd : xd = (d : Int))  (ho : IsC o N) (hs : IsS so N) (hS : SR S M so) (hdis : so + 14 ≤ o ∨ o < so) (hb : sB S ≤ 5) (hd : d ≤ 60) (hcd : ∀ k, k < sB S → sC S k ≤ 9 ∧ sD S k ≤ 60) (hi : i < 6) (hk2 : M (so + 6) i = sK S i) (hk3 : sK S i ≤ 3) (hlv : M o 4 = lv) (hlt : lv < 6) (hw2 : M (so + 2) lv = sW S lv) (hw3 : sW S lv ≤ 1) (hp2 : M (so + 1) lv = sP S lv) (hp3 : sP S lv ≤ 23) (hpl : M o 5 = pl) (hpl2 : pl ≤ 23) (hg : M o 6 = g) (hg2 : g ≤ 60) (k : ∀ M2 : Mem, M2 o 5 = ((pl + sP S lv) % 24 : Nat) → M2 o 6 = gasL S i lv d g → (∀ q j, (q ≠ o ∨ (j ≠ 5 ∧ j ≠ 6)) → M2 q j = M q j) → Post none M2) : Sp gg yX1_goOn cX1_goOn 4 none rmX1_goOn [vr o, vr so, vi xi, vi xd] ad N pT M Post := by
  refine Sp.intro (ls := [some (vr o), some (vr so), some (vi xi), some (vi xd)]) (by decide +kernel) rfl (Nat.le_of_ble_eq_true rfl) fun κ hgg h hr ha => ?_
  have h : Ok κ RX1 cX1_goOn 4 rmX1_goOn := h
  subst hgg
  subst hxi
  subst hxd
  refine e_aload_n h dX1_goOn_0 (pc := 0) rfl ?_
  refine e_aload_n h dX1_goOn_1 (pc := 1) rfl ?_
  refine e_getI h fl_X1_28 dX1_goOn_2 (pc := 2) ho.c0 ho.p0 (by decide) ?_
  refine e_aload_n h dX1_goOn_5 (pc := 5) rfl ?_
  refine e_getC h fl_X1_82 dX1_goOn_6 (pc := 6) hs.c0 hs.p0 rfl rfl (r := (so + 1)) (pcr_d (by rw [hs.c0]; decide) 0) ?_
  refine e_aload_n h dX1_goOn_9 (pc := 9) rfl ?_
  refine e_getI h fl_X1_25 dX1_goOn_10 (pc := 10) ho.c0 ho.p0 (by decide) ?_
  refine e_iald h dX1_goOn_13 (pc := 13) hs.c1 hs.p1 (j := lv) (by omega) (by rw [hs.l1]; omega) ?_
  refine e_iadd h dX1_goOn_14 (pc := 14)  ?_
  refine e_callS1 lk_X1_85 ms_X10_round dX1_goOn_15 (pc := 15) (Nat.le_of_ble_eq_true rfl) (rmY := rmX10_round) (by decide) h ?_
  refine c_round (by omega) ?_
  refine e_putI h fl_X1_28 dX1_goOn_18 (pc := 18) ho.c0 ho.p0 rfl ?_
  refine e_aload_n h dX1_goOn_21 (pc := 21) rfl ?_
  refine e_aload_n h dX1_goOn_22 (pc := 22) rfl ?_
  refine e_getI h fl_X1_25 dX1_goOn_23 (pc := 23) ho.c0 ho.p0 (by decide) ?_
  try simp (disch := omega) only [up_eq, up_ne]
  refine e_iload_n h dX1_goOn_26 (pc := 26) rfl ?_
  refine e_callV2 lk_X1_89 mv_X8_isStruck dX1_goOn_27 (pc := 27) (by rw [hs.c0]; rfl) (by rw [hs.c0]; decide) hs.p0 (Nat.le_of_ble_eq_true rfl) (rmY := rmX8_isStruck) (by decide) h ?_
  refine c_isStruck (l := lv) (d := d) (by omega) rfl hs (hS.to (fun p a b => by simp (disch := omega) only [up_row])) (by omega) (by omega) hd hcd (fun hh => ?_) (fun hh => ?_)
  · skip
    refine e_if_eq h (tgt := 43) dX1_goOn_30 (pc := 30) (by decide) (by decide) (fun hz => absurd hz (by decide)) (fun _ => ?_)
    refine e_aload_n h dX1_goOn_33 (pc := 33) rfl ?_
    refine e_aload_n h dX1_goOn_34 (pc := 34) rfl ?_
    refine e_getI h fl_X1_40 dX1_goOn_35 (pc := 35) ho.c0 ho.p0 (by decide) ?_
    try simp (disch := omega) only [up_eq, up_ne]
    refine e_iconst h dX1_goOn_38 (pc := 38)  ?_
    refine e_idiv h dX1_goOn_39 (pc := 39) (by omega) (by decide) ?_
    generalize hqq : (M o 6).tdiv 2 = q
    have hq2 : q = M o 6 / 2 := by rw [← hqq]; exact Int.tdiv_eq_ediv_of_nonneg (by omega)
    refine e_putI h fl_X1_40 dX1_goOn_40 (pc := 40) ho.c0 ho.p0 rfl ?_
    refine e_aload_n h dX1_goOn_43 (pc := 43) rfl ?_
    refine e_aload_n h dX1_goOn_44 (pc := 44) rfl ?_
    refine e_getI h fl_X1_40 dX1_goOn_45 (pc := 45) ho.c0 ho.p0 (by decide) ?_
    try simp (disch := omega) only [up_eq, up_ne]
    refine e_aload_n h dX1_goOn_48 (pc := 48) rfl ?_
    refine e_iload_n h dX1_goOn_49 (pc := 49) rfl ?_
    refine e_aload_n h dX1_goOn_50 (pc := 50) rfl ?_
    refine e_getI h fl_X1_25 dX1_goOn_51 (pc := 51) ho.c0 ho.p0 (by decide) ?_
    try simp (disch := omega) only [up_eq, up_ne]
    refine e_iload_n h dX1_goOn_54 (pc := 54) rfl ?_
    refine e_callV3 lk_X1_93 mv_X8_dailyLoss dX1_goOn_55 (pc := 55) (by rw [hs.c0]; rfl) (by rw [hs.c0]; decide) hs.p0 (Nat.le_of_ble_eq_true rfl) (rmY := rmX8_dailyLoss) (by decide) h ?_
    refine c_dailyLoss (S := S) (i := i) (l := lv) (d := d) rfl (by omega) rfl hs (by omega) (by simp (disch := omega) only [up_ne]; exact hk2) (by omega) (by omega) (by simp (disch := omega) only [up_ne]; exact hw2) (by omega) hd ?_
    have hls := loss_le (S := S) (i := i) (l := lv) (d := d)
    refine e_isub h dX1_goOn_58 (pc := 58)  ?_
    refine e_iconst h dX1_goOn_59 (pc := 59)  ?_
    refine e_max lp_X1_70 dX1_goOn_60 (pc := 60) (Nat.le_of_ble_eq_true rfl) (by decide) h (by omega) (by decide) ?_
    refine e_putI h fl_X1_40 dX1_goOn_63 (pc := 63) ho.c0 ho.p0 rfl ?_
    refine e_vret h hr ha dX1_goOn_66 (pc := 66) ?_
    refine k _ (by simp (disch := omega) only [up_eq, up_ne]; omega) ?_ (fun q j hq => by simp (disch := omega) only [up_ne])
    simp (disch := omega) only [up_eq, up_ne]
    unfold gasL
    rw [if_pos hh]
    omega
  · skip
    refine e_if_eq h (tgt := 43) dX1_goOn_30 (pc := 30) (by decide) (by decide) (fun _ => ?_) (fun hz => absurd hz (by decide))
    refine e_aload_n h dX1_goOn_43 (pc := 43) rfl ?_
    refine e_aload_n h dX1_goOn_44 (pc := 44) rfl ?_
    refine e_getI h fl_X1_40 dX1_goOn_45 (pc := 45) ho.c0 ho.p0 (by decide) ?_
    try simp (disch := omega) only [up_eq, up_ne]
    refine e_aload_n h dX1_goOn_48 (pc := 48) rfl ?_
    refine e_iload_n h dX1_goOn_49 (pc := 49) rfl ?_
    refine e_aload_n h dX1_goOn_50 (pc := 50) rfl ?_
    refine e_getI h fl_X1_25 dX1_goOn_51 (pc := 51) ho.c0 ho.p0 (by decide) ?_
    try simp (disch := omega) only [up_eq, up_ne]
    refine e_iload_n h dX1_goOn_54 (pc := 54) rfl ?_
    refine e_callV3 lk_X1_93 mv_X8_dailyLoss dX1_goOn_55 (pc := 55) (by rw [hs.c0]; rfl) (by rw [hs.c0]; decide) hs.p0 (Nat.le_of_ble_eq_true rfl) (rmY := rmX8_dailyLoss) (by decide) h ?_
    refine c_dailyLoss (S := S) (i := i) (l := lv) (d := d) rfl (by omega) rfl hs (by omega) (by simp (disch := omega) only [up_ne]; exact hk2) (by omega) (by omega) (by simp (disch := omega) only [up_ne]; exact hw2) (by omega) hd ?_
    have hls := loss_le (S := S) (i := i) (l := lv) (d := d)
    refine e_isub h dX1_goOn_58 (pc := 58)  ?_
    refine e_iconst h dX1_goOn_59 (pc := 59)  ?_
    refine e_max lp_X1_70 dX1_goOn_60 (pc := 60) (Nat.le_of_ble_eq_true rfl) (by decide) h (by omega) (by decide) ?_
    refine e_putI h fl_X1_40 dX1_goOn_63 (pc := 63) ho.c0 ho.p0 rfl ?_
    refine e_vret h hr ha dX1_goOn_66 (pc := 66) ?_
    refine k _ (by simp (disch := omega) only [up_eq, up_ne]; omega) ?_ (fun q j hq => by simp (disch := omega) only [up_ne])
    simp (disch := omega) only [up_eq, up_ne]
    unfold gasL
    rw [if_neg (by rw [hh]; decide)]
    omega
