/-! the storm that is being told -/
def upS (S : SD) (f k x : Nat) : SD := fun g j => if g = f ∧ j = k then x else S g j
def addV (c : SD × SD) (a w : Nat) : Option (SD × SD) := if sL c.1 < 6 ∧ a ≤ 23 ∧ w ≤ 1 then some (upS (upS (upS c.1 1 (sL c.1) a) 2 (sL c.1) w) 0 0 (sL c.1 + 1), c.2) else none
def addT (c : SD × SD) (l x g m k : Nat) : Option (SD × SD) := if sT c.1 < 6 ∧ l ≤ 5 ∧ x ≤ 23 ∧ g ≤ 60 ∧ 1 ≤ m ∧ m ≤ 9 ∧ k ≤ 3 then some (upS (upS (upS (upS (upS c.1 4 (sT c.1) l) 5 (sT c.1) x) 6 (sT c.1) m) 7 (sT c.1) k) 3 0 (sT c.1 + 1), upS c.2 4 (sT c.1) g) else none
def tellO (O : SD) (t d u : Nat) : SD := upS (upS (upS (upS O 1 (oE O) t) 2 (oE O) d) 3 (oE O) u) 0 0 (oE O + 1)
def addM (c : SD × SD) (t d u : Nat) : Option (SD × SD) := if t < sT c.1 ∧ 1 ≤ d ∧ d ≤ 60 ∧ u ≤ 1 ∧ oE c.2 < 8 then some (c.1, tellO c.2 t d u) else none
def addZ (c : SD × SD) (l d : Nat) : Option (SD × SD) := if sB c.1 < 5 ∧ l ≤ 5 ∧ 1 ≤ d ∧ d ≤ 60 then some (upS (upS (upS c.1 9 (sB c.1) l) 10 (sB c.1) d) 8 0 (sB c.1 + 1), c.2) else none
def PW (S O : SD) : Prop := sL S ≤ 6 ∧ sT S ≤ 6 ∧ sB S ≤ 5 ∧ oE O ≤ 8 ∧ (∀ l, l < sL S → sP S l ≤ 23 ∧ sW S l ≤ 1) ∧ (∀ i, i < sT S → sH S i ≤ 5 ∧ sF S i ≤ 23 ∧ 1 ≤ sX S i ∧ sX S i ≤ 9 ∧ sK S i ≤ 3 ∧ oG O i ≤ 60) ∧ (∀ k, k < sB S → sC S k ≤ 5 ∧ 1 ≤ sD S k ∧ sD S k ≤ 60) ∧ ∀ k, k < oE O → oW O k < sT S ∧ 1 ≤ oD O k ∧ oD O k ≤ 60 ∧ oU O k ≤ 1
theorem PW_V {c c2 : SD × SD} {a w : Nat} (h : addV c a w = some c2) (hp : PW c.1 c.2) : PW c2.1 c2.2 := by
  unfold addV at h
  split at h
  · rename_i q
    cases h
    obtain ⟨h1, h2, h3, h4, h5, h6, h7, h8⟩ := hp
    refine ⟨by show sL c.1 + 1 ≤ 6; omega, h2, h3, h4, fun l hl => ?_, h6, h7, h8⟩
    have hl2 : l < sL c.1 + 1 := hl
    by_cases e : l = sL c.1
    · subst e
      simp [sP, sW, upS]
      omega
    · have := h5 l (by omega)
      unfold sP sW at this
      simp [sP, sW, upS, e]
      omega
  · cases h
theorem PW_T {c c2 : SD × SD} {l x g m k : Nat} (h : addT c l x g m k = some c2) (hp : PW c.1 c.2) : PW c2.1 c2.2 := by
  unfold addT at h
  split at h
  · rename_i q
    cases h
    obtain ⟨h1, h2, h3, h4, h5, h6, h7, h8⟩ := hp
    refine ⟨h1, by show sT c.1 + 1 ≤ 6; omega, h3, h4, h5, fun i hi => ?_, h7, fun k hk => ?_⟩
    · have hi2 : i < sT c.1 + 1 := hi
      by_cases e : i = sT c.1
      · subst e
        simp [sH, sF, sX, sK, oG, upS]
        omega
      · have := h6 i (by omega)
        unfold sH sF sX sK oG at this
        simp [sH, sF, sX, sK, oG, upS, e]
        omega
    · have h9 := h8 k hk
      refine ⟨?_, h9.2⟩
      show oW c.2 k < sT c.1 + 1
      omega
  · cases h
theorem PW_M {c c2 : SD × SD} {t d u : Nat} (h : addM c t d u = some c2) (hp : PW c.1 c.2) : PW c2.1 c2.2 := by
  unfold addM at h
  split at h
  · rename_i q
    cases h
    obtain ⟨h1, h2, h3, h4, h5, h6, h7, h8⟩ := hp
    refine ⟨h1, h2, h3, by show oE c.2 + 1 ≤ 8; omega, h5, h6, h7, fun k hk => ?_⟩
    have hk2 : k < oE c.2 + 1 := hk
    by_cases e : k = oE c.2
    · subst e
      simp [oW, oD, oU, tellO, upS]
      omega
    · have := h8 k (by omega)
      unfold oW oD oU at this
      simp [oW, oD, oU, tellO, upS, e]
      omega
  · cases h
theorem PW_Z {c c2 : SD × SD} {l d : Nat} (h : addZ c l d = some c2) (hp : PW c.1 c.2) : PW c2.1 c2.2 := by
  unfold addZ at h
  split at h
  · rename_i q
    cases h
    obtain ⟨h1, h2, h3, h4, h5, h6, h7, h8⟩ := hp
    refine ⟨h1, h2, by show sB c.1 + 1 ≤ 5; omega, h4, h5, h6, fun k hk => ?_, h8⟩
    have hk2 : k < sB c.1 + 1 := hk
    by_cases e : k = sB c.1
    · subst e
      simp [sC, sD, upS]
      omega
    · have := h7 k (by omega)
      unfold sC sD at this
      simp [sC, sD, upS, e]
      omega
  · cases h
/-- a row of booleans holds 0 and 1 alone -/
def BO (M : Mem) (q : Nat) : Prop := ∀ k, k < 8 → M q k = 0 ∨ M q k = 1
set_option maxRecDepth 100000 in
set_option maxHeartbeats 4000000 in
theorem c_addLevel {gg : GT} {ad : Nat → Nat} {N : Nat} {M : Mem} {Post : Option AV → Mem → Prop} {S O : SD} {so a w : Nat}  {xa : Int} (hxa : xa = (a : Int)) {xw : Int} (hxw : xw = (w : Int))  (hN : 110 ≤ N) (hs : IsS so N) (hSO : SO S O M so) (hP : PW S O) (hBO : BO M (so + 12)) (ha9 : a ≤ 99) (hw9 : w ≤ 99) (kt : ∀ (M2 : Mem) (c2 : SD × SD), addV (S, O) a w = some c2 → SO c2.1 c2.2 M2 so → BO M2 (so + 12) → (∀ p, (p < so ∨ so + 14 ≤ p) → M2 p = M p) → Post (some (vi 1)) M2) (kf : addV (S, O) a w = none → Post (some (vi 0)) M) : Sp gg yX8_addLevel cX8_addLevel 3 (some .boolean) rmX8_addLevel [vr so, vi xa, vi xw] ad N pT M Post := by
  refine Sp.intro (ls := [some (vr so), some (vi xa), some (vi xw)]) (by decide +kernel) rfl (Nat.le_of_ble_eq_true rfl) fun κ hgg h hr ha => ?_
  have h : Ok κ RX8 cX8_addLevel 3 rmX8_addLevel := h
  subst hgg
  subst hxa
  subst hxw
  have hSO0 := hSO
  obtain ⟨⟨r1, r2, r3, r4, r5, r6⟩, t1, t2, t3⟩ := hSO0
  obtain ⟨w1, w2, w3, w4, -⟩ := hP
  refine e_aload_n h dX8_addLevel_0 (pc := 0) rfl ?_
  refine e_getI h fl_X8_43 dX8_addLevel_1 (pc := 1) hs.c0 hs.p0 (by decide) ?_
  refine e_bipush h dX8_addLevel_4 (pc := 4) (by decide +kernel) ?_
  refine e_icmp_ge h (tgt := 28) dX8_addLevel_6 (pc := 6) (by decide) (by omega) (by decide) (fun hb6 => ?_) (fun hb6 => ?_)
  · refine e_iconst h dX8_addLevel_28 (pc := 28)  ?_
    refine e_zret h hr ha dX8_addLevel_29 (pc := 29) (by decide) ?_
    exact kf (by unfold addV; rw [if_neg (by dsimp only; omega)])
  · refine e_iload_n h dX8_addLevel_9 (pc := 9) rfl ?_
    refine e_iconst h dX8_addLevel_10 (pc := 10)  ?_
    refine e_bipush h dX8_addLevel_11 (pc := 11) (by decide +kernel) ?_
    refine e_callS3 lk_X8_56 ms_X10_isWithin dX8_addLevel_13 (pc := 13) (Nat.le_of_ble_eq_true rfl) (rmY := rmX10_isWithin) (by decide) h ?_
    refine c_isWithin (by omega) (by omega) (by omega) (fun hwa => ?_) (fun hwa => ?_)
    · skip
      refine e_if_eq h (tgt := 28) dX8_addLevel_16 (pc := 16) (by decide) (by decide) (fun hz => absurd hz (by decide)) (fun _ => ?_)
      refine e_iload_n h dX8_addLevel_19 (pc := 19) rfl ?_
      refine e_iconst h dX8_addLevel_20 (pc := 20)  ?_
      refine e_iconst h dX8_addLevel_21 (pc := 21)  ?_
      refine e_callS3 lk_X8_56 ms_X10_isWithin dX8_addLevel_22 (pc := 22) (Nat.le_of_ble_eq_true rfl) (rmY := rmX10_isWithin) (by decide) h ?_
      refine c_isWithin (by omega) (by omega) (by omega) (fun hwb => ?_) (fun hwb => ?_)
      · skip
        refine e_if_ne h (tgt := 30) dX8_addLevel_25 (pc := 25) (by decide) (by decide) (fun _ => ?_) (fun hz => absurd hz (by decide))
        refine e_aload_n h dX8_addLevel_30 (pc := 30) rfl ?_
        refine e_getC h fl_X8_9 dX8_addLevel_31 (pc := 31) hs.c0 hs.p0 rfl rfl (r := (so + 1)) (pcr_d (by rw [hs.c0]; decide) 0) ?_
        refine e_aload_n h dX8_addLevel_34 (pc := 34) rfl ?_
        refine e_getI h fl_X8_43 dX8_addLevel_35 (pc := 35) hs.c0 hs.p0 (by decide) ?_
        refine e_iload_n h dX8_addLevel_38 (pc := 38) rfl ?_
        refine e_iast h dX8_addLevel_39 (pc := 39) hs.c1 hs.p1 (j := sL S) (by omega) (by rw [hs.l1]; omega) ?_
        refine e_aload_n h dX8_addLevel_40 (pc := 40) rfl ?_
        refine e_getC h fl_X8_15 dX8_addLevel_41 (pc := 41) hs.c0 hs.p0 rfl rfl (r := (so + 2)) (pcr_d (by rw [hs.c0]; decide) 1) ?_
        refine e_aload_n h dX8_addLevel_44 (pc := 44) rfl ?_
        refine e_getI h fl_X8_43 dX8_addLevel_45 (pc := 45) hs.c0 hs.p0 (by decide) ?_
        try simp (disch := omega) only [up_eq, up_ne]
        refine e_iload_n h dX8_addLevel_48 (pc := 48) rfl ?_
        refine e_iast h dX8_addLevel_49 (pc := 49) hs.c2 hs.p2 (j := sL S) (by omega) (by rw [hs.l2]; omega) ?_
        refine e_aload_n h dX8_addLevel_50 (pc := 50) rfl ?_
        refine e_dup h dX8_addLevel_51 (pc := 51) rfl ?_
        refine e_getI h fl_X8_43 dX8_addLevel_52 (pc := 52) hs.c0 hs.p0 (by decide) ?_
        try simp (disch := omega) only [up_eq, up_ne]
        refine e_iconst h dX8_addLevel_55 (pc := 55)  ?_
        refine e_iadd h dX8_addLevel_56 (pc := 56)  ?_
        refine e_putI h fl_X8_43 dX8_addLevel_57 (pc := 57) hs.c0 hs.p0 rfl ?_
        refine e_iconst h dX8_addLevel_60 (pc := 60)  ?_
        refine e_zret h hr ha dX8_addLevel_61 (pc := 61) (by decide) ?_
        refine kt _ _ (by unfold addV; rw [if_pos (by dsimp only; omega)]) ⟨⟨?_, ?_, ?_, fun l hl => ?_, fun i hi => ?_, fun k hk => ?_⟩, ?_, fun k hk => ?_, fun i hi => ?_⟩ (fun k hk => by simp (disch := omega) only [up_eq, up_ne]; exact hBO k hk) (fun p hp => by simp (disch := omega) only [up_row])
        · rw [up_eq]; show M so 9 + 1 = ((sL S + 1 : Nat) : Int); omega
        · simp (disch := omega) only [up_eq, up_ne]; exact r2
        · simp (disch := omega) only [up_eq, up_ne]; exact r3
        · have hl2 : l < sL S + 1 := hl
          by_cases e : l = sL S
          · subst e
            simp (disch := omega) only [up_eq, up_ne]
            simp [sP, sW, upS]
          · have := r4 l (by omega)
            simp (disch := omega) only [up_eq, up_ne]
            rw [this.1, this.2]
            simp [sP, sW, upS, e]
        · simp (disch := omega) only [up_eq, up_ne]; exact r5 i hi
        · simp (disch := omega) only [up_eq, up_ne]; exact r6 k hk
        · simp (disch := omega) only [up_eq, up_ne]; exact t1
        · simp (disch := omega) only [up_eq, up_ne]; exact t2 k hk
        · simp (disch := omega) only [up_eq, up_ne]; exact t3 i hi
      · skip
        refine e_if_ne h (tgt := 30) dX8_addLevel_25 (pc := 25) (by decide) (by decide) (fun hz => absurd hz (by decide)) (fun _ => ?_)
        refine e_iconst h dX8_addLevel_28 (pc := 28)  ?_
        refine e_zret h hr ha dX8_addLevel_29 (pc := 29) (by decide) ?_
        exact kf (by unfold addV; rw [if_neg (by dsimp only; omega)])
    · skip
      refine e_if_eq h (tgt := 28) dX8_addLevel_16 (pc := 16) (by decide) (by decide) (fun _ => ?_) (fun hz => absurd hz (by decide))
      refine e_iconst h dX8_addLevel_28 (pc := 28)  ?_
      refine e_zret h hr ha dX8_addLevel_29 (pc := 29) (by decide) ?_
      exact kf (by unfold addV; rw [if_neg (by dsimp only; omega)])
set_option maxRecDepth 100000 in
set_option maxHeartbeats 4000000 in
theorem c_addTown {gg : GT} {ad : Nat → Nat} {N : Nat} {M : Mem} {Post : Option AV → Mem → Prop} {S O : SD} {so l x g m k : Nat}  {xl : Int} (hxl : xl = (l : Int)) {xx : Int} (hxx : xx = (x : Int)) {xg : Int} (hxg : xg = (g : Int)) {xm : Int} (hxm : xm = (m : Int)) {xk : Int} (hxk : xk = (k : Int))  (hN : 110 ≤ N) (hs : IsS so N) (hSO : SO S O M so) (hP : PW S O) (hBO : BO M (so + 12)) (hl9 : l ≤ 99) (hx9 : x ≤ 99) (hg9 : g ≤ 99) (hm9 : m ≤ 99) (hk9 : k ≤ 99) (kt : ∀ (M2 : Mem) (c2 : SD × SD), addT (S, O) l x g m k = some c2 → SO c2.1 c2.2 M2 so → BO M2 (so + 12) → (∀ p, (p < so ∨ so + 14 ≤ p) → M2 p = M p) → Post (some (vi 1)) M2) (kf : addT (S, O) l x g m k = none → Post (some (vi 0)) M) : Sp gg yX8_addTown cX8_addTown 6 (some .boolean) rmX8_addTown [vr so, vi xl, vi xx, vi xg, vi xm, vi xk] ad N pT M Post := by
  refine Sp.intro (ls := [some (vr so), some (vi xl), some (vi xx), some (vi xg), some (vi xm), some (vi xk)]) (by decide +kernel) rfl (Nat.le_of_ble_eq_true rfl) fun κ hgg h hr ha => ?_
  have h : Ok κ RX8 cX8_addTown 6 rmX8_addTown := h
  subst hgg
  subst hxl
  subst hxx
  subst hxg
  subst hxm
  subst hxk
  have hSO0 := hSO
  obtain ⟨⟨r1, r2, r3, r4, r5, r6⟩, t1, t2, t3⟩ := hSO0
  obtain ⟨w1, w2, w3, w4, -⟩ := hP
  refine e_aload_n h dX8_addTown_0 (pc := 0) rfl ?_
  refine e_getI h fl_X8_47 dX8_addTown_1 (pc := 1) hs.c0 hs.p0 (by decide) ?_
  refine e_bipush h dX8_addTown_4 (pc := 4) (by decide +kernel) ?_
  refine e_icmp_ge h (tgt := 25) dX8_addTown_6 (pc := 6) (by decide) (by omega) (by decide) (fun hb6 => ?_) (fun hb6 => ?_)
  · refine e_iconst h dX8_addTown_25 (pc := 25)  ?_
    refine e_zret h hr ha dX8_addTown_26 (pc := 26) (by decide) ?_
    exact kf (by unfold addT; rw [if_neg (by dsimp only; omega)])
  · refine e_iload_n h dX8_addTown_9 (pc := 9) rfl ?_
    refine e_iconst h dX8_addTown_10 (pc := 10)  ?_
    refine e_iconst h dX8_addTown_11 (pc := 11)  ?_
    refine e_callS3 lk_X8_56 ms_X10_isWithin dX8_addTown_12 (pc := 12) (Nat.le_of_ble_eq_true rfl) (rmY := rmX10_isWithin) (by decide) h ?_
    refine c_isWithin (by omega) (by omega) (by omega) (fun hwa => ?_) (fun hwa => ?_)
    · skip
      refine e_if_eq h (tgt := 25) dX8_addTown_15 (pc := 15) (by decide) (by decide) (fun hz => absurd hz (by decide)) (fun _ => ?_)
      refine e_iload_n h dX8_addTown_18 (pc := 18) rfl ?_
      refine e_callS1 lk_X8_60 ms_X10_isPlace dX8_addTown_19 (pc := 19) (Nat.le_of_ble_eq_true rfl) (rmY := rmX10_isPlace) (by decide) h ?_
      refine c_isPlace (by omega) (fun hwb => ?_) (fun hwb => ?_)
      · skip
        refine e_if_ne h (tgt := 27) dX8_addTown_22 (pc := 22) (by decide) (by decide) (fun _ => ?_) (fun hz => absurd hz (by decide))
        refine e_iload_n h dX8_addTown_27 (pc := 27) rfl ?_
        refine e_iconst h dX8_addTown_28 (pc := 28)  ?_
        refine e_bipush h dX8_addTown_29 (pc := 29) (by decide +kernel) ?_
        refine e_callS3 lk_X8_56 ms_X10_isWithin dX8_addTown_31 (pc := 31) (Nat.le_of_ble_eq_true rfl) (rmY := rmX10_isWithin) (by decide) h ?_
        refine c_isWithin (by omega) (by omega) (by omega) (fun hwc => ?_) (fun hwc => ?_)
        · skip
          refine e_if_eq h (tgt := 58) dX8_addTown_34 (pc := 34) (by decide) (by decide) (fun hz => absurd hz (by decide)) (fun _ => ?_)
          refine e_iload h dX8_addTown_37 (pc := 37) rfl ?_
          refine e_iconst h dX8_addTown_39 (pc := 39)  ?_
          refine e_bipush h dX8_addTown_40 (pc := 40) (by decide +kernel) ?_
          refine e_callS3 lk_X8_56 ms_X10_isWithin dX8_addTown_42 (pc := 42) (Nat.le_of_ble_eq_true rfl) (rmY := rmX10_isWithin) (by decide) h ?_
          refine c_isWithin (by omega) (by omega) (by omega) (fun hwd => ?_) (fun hwd => ?_)
          · skip
            refine e_if_eq h (tgt := 58) dX8_addTown_45 (pc := 45) (by decide) (by decide) (fun hz => absurd hz (by decide)) (fun _ => ?_)
            refine e_iload h dX8_addTown_48 (pc := 48) rfl ?_
            refine e_iconst h dX8_addTown_50 (pc := 50)  ?_
            refine e_iconst h dX8_addTown_51 (pc := 51)  ?_
            refine e_callS3 lk_X8_56 ms_X10_isWithin dX8_addTown_52 (pc := 52) (Nat.le_of_ble_eq_true rfl) (rmY := rmX10_isWithin) (by decide) h ?_
            refine c_isWithin (by omega) (by omega) (by omega) (fun hwe => ?_) (fun hwe => ?_)
            · skip
              refine e_if_ne h (tgt := 60) dX8_addTown_55 (pc := 55) (by decide) (by decide) (fun _ => ?_) (fun hz => absurd hz (by decide))
              refine e_aload_n h dX8_addTown_60 (pc := 60) rfl ?_
              refine e_getC h fl_X8_18 dX8_addTown_61 (pc := 61) hs.c0 hs.p0 rfl rfl (r := (so + 3)) (pcr_d (by rw [hs.c0]; decide) 2) ?_
              refine e_aload_n h dX8_addTown_64 (pc := 64) rfl ?_
              refine e_getI h fl_X8_47 dX8_addTown_65 (pc := 65) hs.c0 hs.p0 (by decide) ?_
              refine e_iload_n h dX8_addTown_68 (pc := 68) rfl ?_
              refine e_iast h dX8_addTown_69 (pc := 69) hs.c3 hs.p3 (j := sT S) (by omega) (by rw [hs.l3]; omega) ?_
              refine e_aload_n h dX8_addTown_70 (pc := 70) rfl ?_
              refine e_getC h fl_X8_21 dX8_addTown_71 (pc := 71) hs.c0 hs.p0 rfl rfl (r := (so + 4)) (pcr_d (by rw [hs.c0]; decide) 3) ?_
              refine e_aload_n h dX8_addTown_74 (pc := 74) rfl ?_
              refine e_getI h fl_X8_47 dX8_addTown_75 (pc := 75) hs.c0 hs.p0 (by decide) ?_
              try simp (disch := omega) only [up_eq, up_ne]
              refine e_iload_n h dX8_addTown_78 (pc := 78) rfl ?_
              refine e_iast h dX8_addTown_79 (pc := 79) hs.c4 hs.p4 (j := sT S) (by omega) (by rw [hs.l4]; omega) ?_
              refine e_aload_n h dX8_addTown_80 (pc := 80) rfl ?_
              refine e_getC h fl_X8_39 dX8_addTown_81 (pc := 81) hs.c0 hs.p0 rfl rfl (r := (so + 9)) (pcr_d (by rw [hs.c0]; decide) 8) ?_
              refine e_getC h fl_X8_64 dX8_addTown_84 (pc := 84) hs.c9 hs.p9 rfl rfl (r := (so + 13)) (pcr_d (by rw [hs.c9]; decide) 3) ?_
              refine e_aload_n h dX8_addTown_87 (pc := 87) rfl ?_
              refine e_getI h fl_X8_47 dX8_addTown_88 (pc := 88) hs.c0 hs.p0 (by decide) ?_
              try simp (disch := omega) only [up_eq, up_ne]
              refine e_iload_n h dX8_addTown_91 (pc := 91) rfl ?_
              refine e_iast h dX8_addTown_92 (pc := 92) hs.c13 hs.p13 (j := sT S) (by omega) (by rw [hs.l13]; omega) ?_
              refine e_aload_n h dX8_addTown_93 (pc := 93) rfl ?_
              refine e_getC h fl_X8_24 dX8_addTown_94 (pc := 94) hs.c0 hs.p0 rfl rfl (r := (so + 5)) (pcr_d (by rw [hs.c0]; decide) 4) ?_
              refine e_aload_n h dX8_addTown_97 (pc := 97) rfl ?_
              refine e_getI h fl_X8_47 dX8_addTown_98 (pc := 98) hs.c0 hs.p0 (by decide) ?_
              try simp (disch := omega) only [up_eq, up_ne]
              refine e_iload h dX8_addTown_101 (pc := 101) rfl ?_
              refine e_iast h dX8_addTown_103 (pc := 103) hs.c5 hs.p5 (j := sT S) (by omega) (by rw [hs.l5]; omega) ?_
              refine e_aload_n h dX8_addTown_104 (pc := 104) rfl ?_
              refine e_getC h fl_X8_27 dX8_addTown_105 (pc := 105) hs.c0 hs.p0 rfl rfl (r := (so + 6)) (pcr_d (by rw [hs.c0]; decide) 5) ?_
              refine e_aload_n h dX8_addTown_108 (pc := 108) rfl ?_
              refine e_getI h fl_X8_47 dX8_addTown_109 (pc := 109) hs.c0 hs.p0 (by decide) ?_
              try simp (disch := omega) only [up_eq, up_ne]
              refine e_iload h dX8_addTown_112 (pc := 112) rfl ?_
              refine e_iast h dX8_addTown_114 (pc := 114) hs.c6 hs.p6 (j := sT S) (by omega) (by rw [hs.l6]; omega) ?_
              refine e_aload_n h dX8_addTown_115 (pc := 115) rfl ?_
              refine e_dup h dX8_addTown_116 (pc := 116) rfl ?_
              refine e_getI h fl_X8_47 dX8_addTown_117 (pc := 117) hs.c0 hs.p0 (by decide) ?_
              try simp (disch := omega) only [up_eq, up_ne]
              refine e_iconst h dX8_addTown_120 (pc := 120)  ?_
              refine e_iadd h dX8_addTown_121 (pc := 121)  ?_
              refine e_putI h fl_X8_47 dX8_addTown_122 (pc := 122) hs.c0 hs.p0 rfl ?_
              refine e_iconst h dX8_addTown_125 (pc := 125)  ?_
              refine e_zret h hr ha dX8_addTown_126 (pc := 126) (by decide) ?_
              refine kt _ _ (by unfold addT; rw [if_pos (by dsimp only; omega)]) ⟨⟨?_, ?_, ?_, fun l2 hl2 => ?_, fun i hi => ?_, fun k2 hk2 => ?_⟩, ?_, fun k2 hk2 => ?_, fun i hi => ?_⟩ (fun k hk => by simp (disch := omega) only [up_eq, up_ne]; exact hBO k hk) (fun p hp => by simp (disch := omega) only [up_row])
              · simp (disch := omega) only [up_eq, up_ne]; exact r1
              · rw [up_eq]; show M so 10 + 1 = ((sT S + 1 : Nat) : Int); omega
              · simp (disch := omega) only [up_eq, up_ne]; exact r3
              · simp (disch := omega) only [up_eq, up_ne]; exact r4 l2 hl2
              · have hi2 : i < sT S + 1 := hi
                by_cases e : i = sT S
                · subst e
                  simp (disch := omega) only [up_eq, up_ne]
                  simp [sH, sF, sX, sK, upS]
                · have := r5 i (by omega)
                  simp (disch := omega) only [up_eq, up_ne]
                  rw [this.1, this.2.1, this.2.2.1, this.2.2.2]
                  simp [sH, sF, sX, sK, upS, e]
              · simp (disch := omega) only [up_eq, up_ne]; exact r6 k2 hk2
              · simp (disch := omega) only [up_eq, up_ne]; exact t1
              · simp (disch := omega) only [up_eq, up_ne]; exact t2 k2 hk2
              · have hi2 : i < sT S + 1 := hi
                by_cases e : i = sT S
                · subst e
                  simp (disch := omega) only [up_eq, up_ne]
                  simp [oG, upS]
                · have := t3 i (by omega)
                  simp (disch := omega) only [up_eq, up_ne]
                  rw [this]
                  simp [oG, upS, e]
            · skip
              refine e_if_ne h (tgt := 60) dX8_addTown_55 (pc := 55) (by decide) (by decide) (fun hz => absurd hz (by decide)) (fun _ => ?_)
              refine e_iconst h dX8_addTown_58 (pc := 58)  ?_
              refine e_zret h hr ha dX8_addTown_59 (pc := 59) (by decide) ?_
              exact kf (by unfold addT; rw [if_neg (by dsimp only; omega)])
          · skip
            refine e_if_eq h (tgt := 58) dX8_addTown_45 (pc := 45) (by decide) (by decide) (fun _ => ?_) (fun hz => absurd hz (by decide))
            refine e_iconst h dX8_addTown_58 (pc := 58)  ?_
            refine e_zret h hr ha dX8_addTown_59 (pc := 59) (by decide) ?_
            exact kf (by unfold addT; rw [if_neg (by dsimp only; omega)])
        · skip
          refine e_if_eq h (tgt := 58) dX8_addTown_34 (pc := 34) (by decide) (by decide) (fun _ => ?_) (fun hz => absurd hz (by decide))
          refine e_iconst h dX8_addTown_58 (pc := 58)  ?_
          refine e_zret h hr ha dX8_addTown_59 (pc := 59) (by decide) ?_
          exact kf (by unfold addT; rw [if_neg (by dsimp only; omega)])
      · skip
        refine e_if_ne h (tgt := 27) dX8_addTown_22 (pc := 22) (by decide) (by decide) (fun hz => absurd hz (by decide)) (fun _ => ?_)
        refine e_iconst h dX8_addTown_25 (pc := 25)  ?_
        refine e_zret h hr ha dX8_addTown_26 (pc := 26) (by decide) ?_
        exact kf (by unfold addT; rw [if_neg (by dsimp only; omega)])
    · skip
      refine e_if_eq h (tgt := 25) dX8_addTown_15 (pc := 15) (by decide) (by decide) (fun _ => ?_) (fun hz => absurd hz (by decide))
      refine e_iconst h dX8_addTown_25 (pc := 25)  ?_
      refine e_zret h hr ha dX8_addTown_26 (pc := 26) (by decide) ?_
      exact kf (by unfold addT; rw [if_neg (by dsimp only; omega)])
set_option maxRecDepth 100000 in
set_option maxHeartbeats 4000000 in
theorem c_addLightning {gg : GT} {ad : Nat → Nat} {N : Nat} {M : Mem} {Post : Option AV → Mem → Prop} {S O : SD} {so l d : Nat}  {xl : Int} (hxl : xl = (l : Int)) {xd : Int} (hxd : xd = (d : Int))  (hN : 110 ≤ N) (hs : IsS so N) (hSO : SO S O M so) (hP : PW S O) (hBO : BO M (so + 12)) (hl9 : l ≤ 99) (hd9 : d ≤ 99) (kt : ∀ (M2 : Mem) (c2 : SD × SD), addZ (S, O) l d = some c2 → SO c2.1 c2.2 M2 so → BO M2 (so + 12) → (∀ p, (p < so ∨ so + 14 ≤ p) → M2 p = M p) → Post (some (vi 1)) M2) (kf : addZ (S, O) l d = none → Post (some (vi 0)) M) : Sp gg yX8_addLightning cX8_addLightning 3 (some .boolean) rmX8_addLightning [vr so, vi xl, vi xd] ad N pT M Post := by
  refine Sp.intro (ls := [some (vr so), some (vi xl), some (vi xd)]) (by decide +kernel) rfl (Nat.le_of_ble_eq_true rfl) fun κ hgg h hr ha => ?_
  have h : Ok κ RX8 cX8_addLightning 3 rmX8_addLightning := h
  subst hgg
  subst hxl
  subst hxd
  have hSO0 := hSO
  obtain ⟨⟨r1, r2, r3, r4, r5, r6⟩, t1, t2, t3⟩ := hSO0
  obtain ⟨w1, w2, w3, w4, -⟩ := hP
  refine e_aload_n h dX8_addLightning_0 (pc := 0) rfl ?_
  refine e_getI h fl_X8_50 dX8_addLightning_1 (pc := 1) hs.c0 hs.p0 (by decide) ?_
  refine e_iconst h dX8_addLightning_4 (pc := 4)  ?_
  refine e_icmp_ge h (tgt := 27) dX8_addLightning_5 (pc := 5) (by decide) (by omega) (by decide) (fun hb5 => ?_) (fun hb5 => ?_)
  · refine e_iconst h dX8_addLightning_27 (pc := 27)  ?_
    refine e_zret h hr ha dX8_addLightning_28 (pc := 28) (by decide) ?_
    exact kf (by unfold addZ; rw [if_neg (by dsimp only; omega)])
  · refine e_iload_n h dX8_addLightning_8 (pc := 8) rfl ?_
    refine e_iconst h dX8_addLightning_9 (pc := 9)  ?_
    refine e_iconst h dX8_addLightning_10 (pc := 10)  ?_
    refine e_callS3 lk_X8_56 ms_X10_isWithin dX8_addLightning_11 (pc := 11) (Nat.le_of_ble_eq_true rfl) (rmY := rmX10_isWithin) (by decide) h ?_
    refine c_isWithin (by omega) (by omega) (by omega) (fun hwa => ?_) (fun hwa => ?_)
    · skip
      refine e_if_eq h (tgt := 27) dX8_addLightning_14 (pc := 14) (by decide) (by decide) (fun hz => absurd hz (by decide)) (fun _ => ?_)
      refine e_iload_n h dX8_addLightning_17 (pc := 17) rfl ?_
      refine e_iconst h dX8_addLightning_18 (pc := 18)  ?_
      refine e_bipush h dX8_addLightning_19 (pc := 19) (by decide +kernel) ?_
      refine e_callS3 lk_X8_56 ms_X10_isWithin dX8_addLightning_21 (pc := 21) (Nat.le_of_ble_eq_true rfl) (rmY := rmX10_isWithin) (by decide) h ?_
      refine c_isWithin (by omega) (by omega) (by omega) (fun hwb => ?_) (fun hwb => ?_)
      · skip
        refine e_if_ne h (tgt := 29) dX8_addLightning_24 (pc := 24) (by decide) (by decide) (fun _ => ?_) (fun hz => absurd hz (by decide))
        refine e_aload_n h dX8_addLightning_29 (pc := 29) rfl ?_
        refine e_getC h fl_X8_30 dX8_addLightning_30 (pc := 30) hs.c0 hs.p0 rfl rfl (r := (so + 7)) (pcr_d (by rw [hs.c0]; decide) 6) ?_
        refine e_aload_n h dX8_addLightning_33 (pc := 33) rfl ?_
        refine e_getI h fl_X8_50 dX8_addLightning_34 (pc := 34) hs.c0 hs.p0 (by decide) ?_
        refine e_iload_n h dX8_addLightning_37 (pc := 37) rfl ?_
        refine e_iast h dX8_addLightning_38 (pc := 38) hs.c7 hs.p7 (j := sB S) (by omega) (by rw [hs.l7]; omega) ?_
        refine e_aload_n h dX8_addLightning_39 (pc := 39) rfl ?_
        refine e_getC h fl_X8_33 dX8_addLightning_40 (pc := 40) hs.c0 hs.p0 rfl rfl (r := (so + 8)) (pcr_d (by rw [hs.c0]; decide) 7) ?_
        refine e_aload_n h dX8_addLightning_43 (pc := 43) rfl ?_
        refine e_getI h fl_X8_50 dX8_addLightning_44 (pc := 44) hs.c0 hs.p0 (by decide) ?_
        try simp (disch := omega) only [up_eq, up_ne]
        refine e_iload_n h dX8_addLightning_47 (pc := 47) rfl ?_
        refine e_iast h dX8_addLightning_48 (pc := 48) hs.c8 hs.p8 (j := sB S) (by omega) (by rw [hs.l8]; omega) ?_
        refine e_aload_n h dX8_addLightning_49 (pc := 49) rfl ?_
        refine e_dup h dX8_addLightning_50 (pc := 50) rfl ?_
        refine e_getI h fl_X8_50 dX8_addLightning_51 (pc := 51) hs.c0 hs.p0 (by decide) ?_
        try simp (disch := omega) only [up_eq, up_ne]
        refine e_iconst h dX8_addLightning_54 (pc := 54)  ?_
        refine e_iadd h dX8_addLightning_55 (pc := 55)  ?_
        refine e_putI h fl_X8_50 dX8_addLightning_56 (pc := 56) hs.c0 hs.p0 rfl ?_
        refine e_iconst h dX8_addLightning_59 (pc := 59)  ?_
        refine e_zret h hr ha dX8_addLightning_60 (pc := 60) (by decide) ?_
        refine kt _ _ (by unfold addZ; rw [if_pos (by dsimp only; omega)]) ⟨⟨?_, ?_, ?_, fun l2 hl => ?_, fun i hi => ?_, fun k hk => ?_⟩, ?_, fun k hk => ?_, fun i hi => ?_⟩ (fun k hk => by simp (disch := omega) only [up_eq, up_ne]; exact hBO k hk) (fun p hp => by simp (disch := omega) only [up_row])
        · simp (disch := omega) only [up_eq, up_ne]; exact r1
        · simp (disch := omega) only [up_eq, up_ne]; exact r2
        · rw [up_eq]; show M so 11 + 1 = ((sB S + 1 : Nat) : Int); omega
        · simp (disch := omega) only [up_eq, up_ne]; exact r4 l2 hl
        · simp (disch := omega) only [up_eq, up_ne]; exact r5 i hi
        · have hk2 : k < sB S + 1 := hk
          by_cases e : k = sB S
          · subst e
            simp (disch := omega) only [up_eq, up_ne]
            simp [sC, sD, upS]
          · have := r6 k (by omega)
            simp (disch := omega) only [up_eq, up_ne]
            rw [this.1, this.2]
            simp [sC, sD, upS, e]
        · simp (disch := omega) only [up_eq, up_ne]; exact t1
        · simp (disch := omega) only [up_eq, up_ne]; exact t2 k hk
        · simp (disch := omega) only [up_eq, up_ne]; exact t3 i hi
      · skip
        refine e_if_ne h (tgt := 29) dX8_addLightning_24 (pc := 24) (by decide) (by decide) (fun hz => absurd hz (by decide)) (fun _ => ?_)
        refine e_iconst h dX8_addLightning_27 (pc := 27)  ?_
        refine e_zret h hr ha dX8_addLightning_28 (pc := 28) (by decide) ?_
        exact kf (by unfold addZ; rw [if_neg (by dsimp only; omega)])
    · skip
      refine e_if_eq h (tgt := 27) dX8_addLightning_14 (pc := 14) (by decide) (by decide) (fun _ => ?_) (fun hz => absurd hz (by decide))
      refine e_iconst h dX8_addLightning_27 (pc := 27)  ?_
      refine e_zret h hr ha dX8_addLightning_28 (pc := 28) (by decide) ?_
      exact kf (by unfold addZ; rw [if_neg (by dsimp only; omega)])
set_option maxRecDepth 100000 in
set_option maxHeartbeats 4000000 in
theorem c_tell {gg : GT} {ad : Nat → Nat} {N : Nat} {M : Mem} {Post : Option AV → Mem → Prop} {q q1 q2 q3 e t d u : Nat}  {xt : Int} (hxt : xt = (t : Int)) {xd : Int} (hxd : xd = (d : Int)) {xu : Int} (hxu : xu = (u : Int))  (e1 : q + 1 = q1) (e2 : q + 2 = q2) (e3 : q + 3 = q3) (ho : IsO q N) (he : M q 4 = e) (he8 : e ≤ 8) (hu : u = 0 ∨ u = 1) (kt : e < 8 → Post (some (vi 1)) (up (up (up (up M q1 e t) q2 e d) q3 e u) q 4 (M q 4 + 1))) (kf : e = 8 → Post (some (vi 0)) M) : Sp gg yX5_tell cX5_tell 4 (some .boolean) rmX5_tell [vr q, vi xt, vi xd, vi xu] ad N pT M Post := by
  refine Sp.intro (ls := [some (vr q), some (vi xt), some (vi xd), some (vi xu)]) (by decide +kernel) rfl (Nat.le_of_ble_eq_true rfl) fun κ hgg h hr ha => ?_
  have h : Ok κ RX5 cX5_tell 4 rmX5_tell := h
  subst hgg
  subst hxt
  subst hxd
  subst hxu
  subst e1
  subst e2
  subst e3
  refine e_aload_n h dX5_tell_0 (pc := 0) rfl ?_
  refine e_getI h fl_X5_25 dX5_tell_1 (pc := 1) ho.c0 ho.p0 (by decide) ?_
  refine e_bipush h dX5_tell_4 (pc := 4) (by decide +kernel) ?_
  refine e_icmp_lt h (tgt := 11) dX5_tell_6 (pc := 6) (by decide) (by omega) (by decide) (fun hb6 => ?_) (fun hb6 => ?_)
  · refine e_aload_n h dX5_tell_11 (pc := 11) rfl ?_
    refine e_getC h fl_X5_9 dX5_tell_12 (pc := 12) ho.c0 ho.p0 rfl rfl (r := (q + 1)) (pcr_d (by rw [ho.c0]; decide) 0) ?_
    refine e_aload_n h dX5_tell_15 (pc := 15) rfl ?_
    refine e_getI h fl_X5_25 dX5_tell_16 (pc := 16) ho.c0 ho.p0 (by decide) ?_
    refine e_iload_n h dX5_tell_19 (pc := 19) rfl ?_
    refine e_iast h dX5_tell_20 (pc := 20) ho.c1 ho.p1 (j := e) (by omega) (by rw [ho.l1]; omega) ?_
    refine e_aload_n h dX5_tell_21 (pc := 21) rfl ?_
    refine e_getC h fl_X5_15 dX5_tell_22 (pc := 22) ho.c0 ho.p0 rfl rfl (r := (q + 2)) (pcr_d (by rw [ho.c0]; decide) 1) ?_
    refine e_aload_n h dX5_tell_25 (pc := 25) rfl ?_
    refine e_getI h fl_X5_25 dX5_tell_26 (pc := 26) ho.c0 ho.p0 (by decide) ?_
    try simp (disch := omega) only [up_eq, up_ne]
    refine e_iload_n h dX5_tell_29 (pc := 29) rfl ?_
    refine e_iast h dX5_tell_30 (pc := 30) ho.c2 ho.p2 (j := e) (by omega) (by rw [ho.l2]; omega) ?_
    refine e_aload_n h dX5_tell_31 (pc := 31) rfl ?_
    refine e_getC h fl_X5_18 dX5_tell_32 (pc := 32) ho.c0 ho.p0 rfl rfl (r := (q + 3)) (pcr_d (by rw [ho.c0]; decide) 2) ?_
    refine e_aload_n h dX5_tell_35 (pc := 35) rfl ?_
    refine e_getI h fl_X5_25 dX5_tell_36 (pc := 36) ho.c0 ho.p0 (by decide) ?_
    try simp (disch := omega) only [up_eq, up_ne]
    refine e_iload_n h dX5_tell_39 (pc := 39) rfl ?_
    refine e_bast h dX5_tell_40 (pc := 40) ho.c3 ho.p3 (j := e) (by omega) (by rw [ho.l3]; omega) (by omega) ?_
    refine e_aload_n h dX5_tell_41 (pc := 41) rfl ?_
    refine e_dup h dX5_tell_42 (pc := 42) rfl ?_
    refine e_getI h fl_X5_25 dX5_tell_43 (pc := 43) ho.c0 ho.p0 (by decide) ?_
    try simp (disch := omega) only [up_eq, up_ne]
    refine e_iconst h dX5_tell_46 (pc := 46)  ?_
    refine e_iadd h dX5_tell_47 (pc := 47)  ?_
    refine e_putI h fl_X5_25 dX5_tell_48 (pc := 48) ho.c0 ho.p0 rfl ?_
    refine e_iconst h dX5_tell_51 (pc := 51)  ?_
    refine e_zret h hr ha dX5_tell_52 (pc := 52) (by decide) ?_
    refine cast ?_ (kt (by omega))
    simp (disch := omega) only [up_eq, up_ne]
  · refine e_iconst h dX5_tell_9 (pc := 9)  ?_
    refine e_zret h hr ha dX5_tell_10 (pc := 10) (by decide) ?_
    exact kf (by omega)
