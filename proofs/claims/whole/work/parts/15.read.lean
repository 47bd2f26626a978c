def tellS (x : Int) (l : List Nat) (c : SD × SD) : Option (SD × SD) := if x = 118 then (if l.length = 2 then addV c (l.getD 0 0) (l.getD 1 0) else none) else if x = 116 then (if l.length = 5 then addT c (l.getD 0 0) (l.getD 1 0) (l.getD 2 0) (l.getD 3 0) (l.getD 4 0) else none) else if x = 109 then (if l.length = 3 then addM c (l.getD 0 0) (l.getD 1 0) (l.getD 2 0) else none) else if x = 122 then (if l.length = 2 then addZ c (l.getD 0 0) (l.getD 1 0) else none) else none
theorem PW_tell {x : Int} {l : List Nat} {c c2 : SD × SD} (h : tellS x l c = some c2) (hp : PW c.1 c.2) : PW c2.1 c2.2 := by
  unfold tellS at h
  split at h
  · split at h
    · exact PW_V h hp
    · cases h
  · split at h
    · split at h
      · exact PW_T h hp
      · cases h
    · split at h
      · split at h
        · exact PW_M h hp
        · cases h
      · split at h
        · split at h
          · exact PW_Z h hp
          · cases h
        · cases h
def item (b : TB) (n p : Nat) (c : SD × SD) : Option ((SD × SD) × Nat) := match rns b n 5 (p + 1) with
  | none => none
  | some (l, e) => (tellS (atB b n p) l c).map (fun c2 => (c2, e))
def rd (b : TB) (n : Nat) : Nat → Nat → SD × SD → Int × (SD × SD)
  | 0, _, c => (-4, c)
  | f + 1, p, c => if p < n then (match item b n p c with
    | none => ((p : Int), c)
    | some x => rd b n f x.2 x.1) else (-4, c)
def e0 : SD := fun _ _ => 0
theorem PW_0 : PW e0 e0 := ⟨by decide, by decide, by decide, by decide, fun l h => absurd h (by show ¬ l < 0; omega), fun l h => absurd h (by show ¬ l < 0; omega), fun l h => absurd h (by show ¬ l < 0; omega), fun l h => absurd h (by show ¬ l < 0; omega)⟩
theorem rd_end {b : TB} {n f p : Nat} {c : SD × SD} (h : ¬ p < n) : rd b n f p c = (-4, c) := by
  cases f with
  | zero => rfl
  | succ f =>
    unfold rd
    rw [if_neg h]
theorem rd_bad {b : TB} {n f p : Nat} {c : SD × SD} (h : p < n) (hi : item b n p c = none) : rd b n (f + 1) p c = ((p : Int), c) := by
  unfold rd
  rw [if_pos h, hi]
theorem rd_go {b : TB} {n f p e : Nat} {c c2 : SD × SD} (h : p < n) (hi : item b n p c = some (c2, e)) : rd b n (f + 1) p c = rd b n f e c2 := by
  conv => lhs; unfold rd
  rw [if_pos h, hi]
set_option maxRecDepth 100000 in
set_option maxHeartbeats 4000000 in
theorem c_addErrand {gg : GT} {ad : Nat → Nat} {N : Nat} {M : Mem} {Post : Option AV → Mem → Prop} {S O : SD} {so t d u : Nat}  {xt : Int} (hxt : xt = (t : Int)) {xd : Int} (hxd : xd = (d : Int)) {xu : Int} (hxu : xu = (u : Int))  (hN : 110 ≤ N) (hs : IsS so N) (hSO : SO S O M so) (hP : PW S O) (hBO : BO M (so + 12)) (ht9 : t ≤ 99) (hd9 : d ≤ 99) (hu9 : u ≤ 99) (kt : ∀ (M2 : Mem) (c2 : SD × SD), addM (S, O) t d u = some c2 → SO c2.1 c2.2 M2 so → BO M2 (so + 12) → (∀ p, (p < so ∨ so + 14 ≤ p) → M2 p = M p) → Post (some (vi 1)) M2) (kf : addM (S, O) t d u = none → Post (some (vi 0)) M) : Sp gg yX8_addErrand cX8_addErrand 4 (some .boolean) rmX8_addErrand [vr so, vi xt, vi xd, vi xu] ad N pT M Post := by
  refine Sp.intro (ls := [some (vr so), some (vi xt), some (vi xd), some (vi xu)]) (by decide +kernel) rfl (Nat.le_of_ble_eq_true rfl) fun κ hgg h hr ha => ?_
  have h : Ok κ RX8 cX8_addErrand 4 rmX8_addErrand := h
  subst hgg
  subst hxt
  subst hxd
  subst hxu
  have hSO0 := hSO
  obtain ⟨⟨r1, r2, r3, r4, r5, r6⟩, t1, t2, t3⟩ := hSO0
  obtain ⟨w1, w2, w3, w4, -⟩ := hP
  refine e_iload_n h dX8_addErrand_0 (pc := 0) rfl ?_
  refine e_iconst h dX8_addErrand_1 (pc := 1)  ?_
  refine e_aload_n h dX8_addErrand_2 (pc := 2) rfl ?_
  refine e_getI h fl_X8_47 dX8_addErrand_3 (pc := 3) hs.c0 hs.p0 (by decide) ?_
  refine e_iconst h dX8_addErrand_6 (pc := 6)  ?_
  refine e_isub h dX8_addErrand_7 (pc := 7)  ?_
  refine e_callS3 lk_X8_56 ms_X10_isWithin dX8_addErrand_8 (pc := 8) (Nat.le_of_ble_eq_true rfl) (rmY := rmX10_isWithin) (by decide) h ?_
  refine c_isWithin (by omega) (by omega) (by omega) (fun hwa => ?_) (fun hwa => ?_)
  · skip
    refine e_if_eq h (tgt := 33) dX8_addErrand_11 (pc := 11) (by decide) (by decide) (fun hz => absurd hz (by decide)) (fun _ => ?_)
    refine e_iload_n h dX8_addErrand_14 (pc := 14) rfl ?_
    refine e_iconst h dX8_addErrand_15 (pc := 15)  ?_
    refine e_bipush h dX8_addErrand_16 (pc := 16) (by decide +kernel) ?_
    refine e_callS3 lk_X8_56 ms_X10_isWithin dX8_addErrand_18 (pc := 18) (Nat.le_of_ble_eq_true rfl) (rmY := rmX10_isWithin) (by decide) h ?_
    refine c_isWithin (by omega) (by omega) (by omega) (fun hwb => ?_) (fun hwb => ?_)
    · skip
      refine e_if_eq h (tgt := 33) dX8_addErrand_21 (pc := 21) (by decide) (by decide) (fun hz => absurd hz (by decide)) (fun _ => ?_)
      refine e_iload_n h dX8_addErrand_24 (pc := 24) rfl ?_
      refine e_iconst h dX8_addErrand_25 (pc := 25)  ?_
      refine e_iconst h dX8_addErrand_26 (pc := 26)  ?_
      refine e_callS3 lk_X8_56 ms_X10_isWithin dX8_addErrand_27 (pc := 27) (Nat.le_of_ble_eq_true rfl) (rmY := rmX10_isWithin) (by decide) h ?_
      refine c_isWithin (by omega) (by omega) (by omega) (fun hwc => ?_) (fun hwc => ?_)
      · skip
        refine e_if_ne h (tgt := 35) dX8_addErrand_30 (pc := 30) (by decide) (by decide) (fun _ => ?_) (fun hz => absurd hz (by decide))
        refine e_aload_n h dX8_addErrand_35 (pc := 35) rfl ?_
        refine e_getC h fl_X8_39 dX8_addErrand_36 (pc := 36) hs.c0 hs.p0 rfl rfl (r := (so + 9)) (pcr_d (by rw [hs.c0]; decide) 8) ?_
        refine e_iload_n h dX8_addErrand_39 (pc := 39) rfl ?_
        refine e_iload_n h dX8_addErrand_40 (pc := 40) rfl ?_
        refine e_iload_n h dX8_addErrand_41 (pc := 41) rfl ?_
        refine e_iconst h dX8_addErrand_42 (pc := 42)  ?_
        refine e_icmp_ne h (tgt := 50) dX8_addErrand_43 (pc := 43) (by decide) (by omega) (by decide) (fun hb43 => ?_) (fun hb43 => ?_)
        · refine e_iconst h dX8_addErrand_50 (pc := 50)  ?_
          refine e_callV3 lk_X8_67 mv_X5_tell dX8_addErrand_51 (pc := 51) (by rw [hs.c9]; rfl) (by rw [hs.c9]; decide) hs.p9 (Nat.le_of_ble_eq_true rfl) (rmY := rmX5_tell) (by decide) h ?_
          refine c_tell (q := so + 9) (q1 := so + 10) (q2 := so + 11) (q3 := so + 12) (e := oE O) (t := t) (d := d) (u := u) rfl rfl (by omega) rfl rfl rfl hs.o t1 w4 (by omega) (fun he => ?_) (fun he => ?_)
          · skip
            refine e_zret h hr ha dX8_addErrand_54 (pc := 54) (by decide) ?_
            refine kt _ _ (by unfold addM; rw [if_pos (by dsimp only; omega)]) ⟨⟨?_, ?_, ?_, fun l2 hl => ?_, fun i hi => ?_, fun k hk => ?_⟩, ?_, fun k hk => ?_, fun i hi => ?_⟩ (fun k hk => ?_) (fun p hp => by simp (disch := omega) only [up_row])
            · simp (disch := omega) only [up_eq, up_ne]; exact r1
            · simp (disch := omega) only [up_eq, up_ne]; exact r2
            · simp (disch := omega) only [up_eq, up_ne]; exact r3
            · simp (disch := omega) only [up_eq, up_ne]; exact r4 l2 hl
            · simp (disch := omega) only [up_eq, up_ne]; exact r5 i hi
            · simp (disch := omega) only [up_eq, up_ne]; exact r6 k hk
            · rw [up_eq]; show M (so + 9) 4 + 1 = ((oE O + 1 : Nat) : Int); omega
            · have hk2 : k < oE O + 1 := hk
              by_cases e : k = oE O
              · subst e
                simp (disch := omega) only [up_eq, up_ne]
                simp [oW, oD, oU, tellO, upS]
              · have := t2 k (by omega)
                simp (disch := omega) only [up_eq, up_ne]
                rw [this.1, this.2.1, this.2.2]
                simp [oW, oD, oU, tellO, upS, e]
            · simp (disch := omega) only [up_eq, up_ne]; exact t3 i hi
            · have hb := hBO k hk
              by_cases e : k = oE O
              · subst e
                simp (disch := omega) only [up_eq, up_ne]
                omega
              · simp (disch := omega) only [up_eq, up_ne]
                exact hb
          · skip
            refine e_zret h hr ha dX8_addErrand_54 (pc := 54) (by decide) ?_
            exact kf (by unfold addM; rw [if_neg (by dsimp only; omega)])
        · refine e_iconst h dX8_addErrand_46 (pc := 46)  ?_
          refine e_goto h dX8_addErrand_47 (pc := 47) (tgt := 51) (by decide) ?_
          refine e_callV3 lk_X8_67 mv_X5_tell dX8_addErrand_51 (pc := 51) (by rw [hs.c9]; rfl) (by rw [hs.c9]; decide) hs.p9 (Nat.le_of_ble_eq_true rfl) (rmY := rmX5_tell) (by decide) h ?_
          refine c_tell (q := so + 9) (q1 := so + 10) (q2 := so + 11) (q3 := so + 12) (e := oE O) (t := t) (d := d) (u := u) rfl rfl (by omega) rfl rfl rfl hs.o t1 w4 (by omega) (fun he => ?_) (fun he => ?_)
          · skip
            refine e_zret h hr ha dX8_addErrand_54 (pc := 54) (by decide) ?_
            refine kt _ _ (by unfold addM; rw [if_pos (by dsimp only; omega)]) ⟨⟨?_, ?_, ?_, fun l2 hl => ?_, fun i hi => ?_, fun k hk => ?_⟩, ?_, fun k hk => ?_, fun i hi => ?_⟩ (fun k hk => ?_) (fun p hp => by simp (disch := omega) only [up_row])
            · simp (disch := omega) only [up_eq, up_ne]; exact r1
            · simp (disch := omega) only [up_eq, up_ne]; exact r2
            · simp (disch := omega) only [up_eq, up_ne]; exact r3
            · simp (disch := omega) only [up_eq, up_ne]; exact r4 l2 hl
            · simp (disch := omega) only [up_eq, up_ne]; exact r5 i hi
            · simp (disch := omega) only [up_eq, up_ne]; exact r6 k hk
            · rw [up_eq]; show M (so + 9) 4 + 1 = ((oE O + 1 : Nat) : Int); omega
            · have hk2 : k < oE O + 1 := hk
              by_cases e : k = oE O
              · subst e
                simp (disch := omega) only [up_eq, up_ne]
                simp [oW, oD, oU, tellO, upS]
              · have := t2 k (by omega)
                simp (disch := omega) only [up_eq, up_ne]
                rw [this.1, this.2.1, this.2.2]
                simp [oW, oD, oU, tellO, upS, e]
            · simp (disch := omega) only [up_eq, up_ne]; exact t3 i hi
            · have hb := hBO k hk
              by_cases e : k = oE O
              · subst e
                simp (disch := omega) only [up_eq, up_ne]
                omega
              · simp (disch := omega) only [up_eq, up_ne]
                exact hb
          · skip
            refine e_zret h hr ha dX8_addErrand_54 (pc := 54) (by decide) ?_
            exact kf (by unfold addM; rw [if_neg (by dsimp only; omega)])
      · skip
        refine e_if_ne h (tgt := 35) dX8_addErrand_30 (pc := 30) (by decide) (by decide) (fun hz => absurd hz (by decide)) (fun _ => ?_)
        refine e_iconst h dX8_addErrand_33 (pc := 33)  ?_
        refine e_zret h hr ha dX8_addErrand_34 (pc := 34) (by decide) ?_
        exact kf (by unfold addM; rw [if_neg (by dsimp only; omega)])
    · skip
      refine e_if_eq h (tgt := 33) dX8_addErrand_21 (pc := 21) (by decide) (by decide) (fun _ => ?_) (fun hz => absurd hz (by decide))
      refine e_iconst h dX8_addErrand_33 (pc := 33)  ?_
      refine e_zret h hr ha dX8_addErrand_34 (pc := 34) (by decide) ?_
      exact kf (by unfold addM; rw [if_neg (by dsimp only; omega)])
  · skip
    refine e_if_eq h (tgt := 33) dX8_addErrand_11 (pc := 11) (by decide) (by decide) (fun _ => ?_) (fun hz => absurd hz (by decide))
    refine e_iconst h dX8_addErrand_33 (pc := 33)  ?_
    refine e_zret h hr ha dX8_addErrand_34 (pc := 34) (by decide) ?_
    exact kf (by unfold addM; rw [if_neg (by dsimp only; omega)])
set_option maxRecDepth 100000 in
set_option maxHeartbeats 4000000 in
theorem c_sclear {gg : GT} {ad : Nat → Nat} {N : Nat} {M : Mem} {Post : Option AV → Mem → Prop} {so : Nat}   (hs : IsS so N) (K : Post none (up (up (up (up M so 9 0) so 10 0) so 11 0) (so + 9) 4 0)) : Sp gg yX8_clear cX8_clear 1 none rmX8_clear [vr so] ad N pT M Post := by
  refine Sp.intro (ls := [some (vr so)]) (by decide +kernel) rfl (Nat.le_of_ble_eq_true rfl) fun κ hgg h hr ha => ?_
  have h : Ok κ RX8 cX8_clear 1 rmX8_clear := h
  subst hgg
  refine e_aload_n h dX8_clear_0 (pc := 0) rfl ?_
  refine e_iconst h dX8_clear_1 (pc := 1)  ?_
  refine e_putI h fl_X8_43 dX8_clear_2 (pc := 2) hs.c0 hs.p0 rfl ?_
  refine e_aload_n h dX8_clear_5 (pc := 5) rfl ?_
  refine e_iconst h dX8_clear_6 (pc := 6)  ?_
  refine e_putI h fl_X8_47 dX8_clear_7 (pc := 7) hs.c0 hs.p0 rfl ?_
  refine e_aload_n h dX8_clear_10 (pc := 10) rfl ?_
  refine e_iconst h dX8_clear_11 (pc := 11)  ?_
  refine e_putI h fl_X8_50 dX8_clear_12 (pc := 12) hs.c0 hs.p0 rfl ?_
  refine e_aload_n h dX8_clear_15 (pc := 15) rfl ?_
  refine e_getC h fl_X8_39 dX8_clear_16 (pc := 16) hs.c0 hs.p0 rfl rfl (r := (so + 9)) (pcr_d (by rw [hs.c0]; decide) 8) ?_
  refine e_iconst h dX8_clear_19 (pc := 19)  ?_
  refine e_putI h fl_X8_53 dX8_clear_20 (pc := 20) hs.c9 hs.p9 rfl ?_
  refine e_vret h hr ha dX8_clear_23 (pc := 23) ?_
  exact K
set_option maxRecDepth 100000 in
set_option maxHeartbeats 4000000 in
theorem c_rtell {gg : GT} {ad : Nat → Nat} {N : Nat} {M : Mem} {Post : Option AV → Mem → Prop} {S O : SD} {so : Nat} {x : Int} {l : List Nat}   (hN : 110 ≤ N) (hs : IsS so N) (hx : (-2147483648 ≤ x ∧ x ≤ 2147483647)) (hlen : M 3 1 = (l.length : Int)) (hln5 : l.length ≤ 5) (hnum : ∀ j, j < l.length → M 4 j = ((l.getD j 0 : Nat) : Int)) (h99 : ∀ j, l.getD j 0 ≤ 99) (hSO : SO S O M so) (hP : PW S O) (hBO : BO M (so + 12)) (kt : ∀ (M2 : Mem) (c2 : SD × SD), tellS x l (S, O) = some c2 → SO c2.1 c2.2 M2 so → BO M2 (so + 12) → (∀ p, (p < so ∨ so + 14 ≤ p) → M2 p = M p) → Post (some (vi 1)) M2) (kf : tellS x l (S, O) = none → Post (some (vi 0)) M) : Sp gg yX6_tell cX6_tell 3 (some .boolean) rmX6_tell [vr 3, vi x, vr so] ad N pT M Post := by
  refine Sp.intro (ls := [some (vr 3), some (vi x), some (vr so)]) (by decide +kernel) rfl (Nat.le_of_ble_eq_true rfl) fun κ hgg h hr ha => ?_
  have h : Ok κ RX6 cX6_tell 3 rmX6_tell := h
  subst hgg
  refine e_iload_n h dX6_tell_0 (pc := 0) rfl ?_
  rcases (show x = 118 ∨ x = 116 ∨ x = 109 ∨ x = 122 ∨ (x ≠ 118 ∧ x ≠ 116 ∧ x ≠ 109 ∧ x ≠ 122) by omega) with hq | hq | hq | hq | hq
  · refine e_lookV h dX6_tell_1 (pc := 1) (v := 118) (by omega) (by decide) (by decide) (off := 43) (by decide +kernel) (tgt := 44) (by decide) ?_
    refine e_aload_n h dX6_tell_44 (pc := 44) rfl ?_
    refine e_getI h fl_X6_41 dX6_tell_45 (pc := 45) rfl (Nat.lt_of_lt_of_le (by decide) hN) (by decide) ?_
    refine e_iconst h dX6_tell_48 (pc := 48)  ?_
    refine e_icmp_ne h (tgt := 75) dX6_tell_49 (pc := 49) (by decide) (by omega) (by decide) (fun hb49 => ?_) (fun hb49 => ?_)
    · refine e_iconst h dX6_tell_75 (pc := 75)  ?_
      refine e_zret h hr ha dX6_tell_76 (pc := 76) (by decide) ?_
      exact kf (by unfold tellS; rw [if_pos (by omega), if_neg (by omega)])
    · have n0 := hnum 0 (by omega)
      have m0 := h99 0
      have n1 := hnum 1 (by omega)
      have m1 := h99 1
      refine e_aload_n h dX6_tell_52 (pc := 52) rfl ?_
      refine e_aload_n h dX6_tell_53 (pc := 53) rfl ?_
      refine e_getC h fl_X6_9 dX6_tell_54 (pc := 54) rfl (Nat.lt_of_lt_of_le (by decide) hN) rfl rfl (r := 4) rfl ?_
      refine e_iconst h dX6_tell_57 (pc := 57)  ?_
      refine e_iald h dX6_tell_58 (pc := 58) rfl (Nat.lt_of_lt_of_le (by decide) hN) (j := 0) rfl (by decide) ?_
      refine e_aload_n h dX6_tell_59 (pc := 59) rfl ?_
      refine e_getC h fl_X6_9 dX6_tell_60 (pc := 60) rfl (Nat.lt_of_lt_of_le (by decide) hN) rfl rfl (r := 4) rfl ?_
      refine e_iconst h dX6_tell_63 (pc := 63)  ?_
      refine e_iald h dX6_tell_64 (pc := 64) rfl (Nat.lt_of_lt_of_le (by decide) hN) (j := 1) rfl (by decide) ?_
      refine e_callV2 lk_X6_51 mv_X8_addLevel dX6_tell_65 (pc := 65) (by rw [hs.c0]; rfl) (by rw [hs.c0]; decide) hs.p0 (Nat.le_of_ble_eq_true rfl) (rmY := rmX8_addLevel) (by decide) h ?_
      refine c_addLevel (S := S) (O := O) (a := l.getD 0 0) (w := l.getD 1 0) (by omega) (by omega) hN hs hSO hP hBO (by omega) (by omega) (fun M2 c2 q1 q2 q3 q4 => ?_) (fun q1 => ?_)
      · skip
        refine e_if_eq h (tgt := 75) dX6_tell_68 (pc := 68) (by decide) (by decide) (fun hz => absurd hz (by decide)) (fun _ => ?_)
        refine e_iconst h dX6_tell_71 (pc := 71)  ?_
        refine e_goto h dX6_tell_72 (pc := 72) (tgt := 76) (by decide) ?_
        refine e_zret h hr ha dX6_tell_76 (pc := 76) (by decide) ?_
        exact kt M2 c2 (by unfold tellS; rw [if_pos (by omega), if_pos (by omega)]; exact q1) q2 q3 q4
      · skip
        refine e_if_eq h (tgt := 75) dX6_tell_68 (pc := 68) (by decide) (by decide) (fun _ => ?_) (fun hz => absurd hz (by decide))
        refine e_iconst h dX6_tell_75 (pc := 75)  ?_
        refine e_zret h hr ha dX6_tell_76 (pc := 76) (by decide) ?_
        exact kf (by unfold tellS; rw [if_pos (by omega), if_pos (by omega)]; exact q1)
  · refine e_lookV h dX6_tell_1 (pc := 1) (v := 116) (by omega) (by decide) (by decide) (off := 76) (by decide +kernel) (tgt := 77) (by decide) ?_
    refine e_aload_n h dX6_tell_77 (pc := 77) rfl ?_
    refine e_getI h fl_X6_41 dX6_tell_78 (pc := 78) rfl (Nat.lt_of_lt_of_le (by decide) hN) (by decide) ?_
    refine e_iconst h dX6_tell_81 (pc := 81)  ?_
    refine e_icmp_ne h (tgt := 126) dX6_tell_82 (pc := 82) (by decide) (by omega) (by decide) (fun hb82 => ?_) (fun hb82 => ?_)
    · refine e_iconst h dX6_tell_126 (pc := 126)  ?_
      refine e_zret h hr ha dX6_tell_127 (pc := 127) (by decide) ?_
      exact kf (by unfold tellS; rw [if_neg (by omega), if_pos (by omega), if_neg (by omega)])
    · have n0 := hnum 0 (by omega)
      have m0 := h99 0
      have n1 := hnum 1 (by omega)
      have m1 := h99 1
      have n2 := hnum 2 (by omega)
      have m2 := h99 2
      have n3 := hnum 3 (by omega)
      have m3 := h99 3
      have n4 := hnum 4 (by omega)
      have m4 := h99 4
      refine e_aload_n h dX6_tell_85 (pc := 85) rfl ?_
      refine e_aload_n h dX6_tell_86 (pc := 86) rfl ?_
      refine e_getC h fl_X6_9 dX6_tell_87 (pc := 87) rfl (Nat.lt_of_lt_of_le (by decide) hN) rfl rfl (r := 4) rfl ?_
      refine e_iconst h dX6_tell_90 (pc := 90)  ?_
      refine e_iald h dX6_tell_91 (pc := 91) rfl (Nat.lt_of_lt_of_le (by decide) hN) (j := 0) rfl (by decide) ?_
      refine e_aload_n h dX6_tell_92 (pc := 92) rfl ?_
      refine e_getC h fl_X6_9 dX6_tell_93 (pc := 93) rfl (Nat.lt_of_lt_of_le (by decide) hN) rfl rfl (r := 4) rfl ?_
      refine e_iconst h dX6_tell_96 (pc := 96)  ?_
      refine e_iald h dX6_tell_97 (pc := 97) rfl (Nat.lt_of_lt_of_le (by decide) hN) (j := 1) rfl (by decide) ?_
      refine e_aload_n h dX6_tell_98 (pc := 98) rfl ?_
      refine e_getC h fl_X6_9 dX6_tell_99 (pc := 99) rfl (Nat.lt_of_lt_of_le (by decide) hN) rfl rfl (r := 4) rfl ?_
      refine e_iconst h dX6_tell_102 (pc := 102)  ?_
      refine e_iald h dX6_tell_103 (pc := 103) rfl (Nat.lt_of_lt_of_le (by decide) hN) (j := 2) rfl (by decide) ?_
      refine e_aload_n h dX6_tell_104 (pc := 104) rfl ?_
      refine e_getC h fl_X6_9 dX6_tell_105 (pc := 105) rfl (Nat.lt_of_lt_of_le (by decide) hN) rfl rfl (r := 4) rfl ?_
      refine e_iconst h dX6_tell_108 (pc := 108)  ?_
      refine e_iald h dX6_tell_109 (pc := 109) rfl (Nat.lt_of_lt_of_le (by decide) hN) (j := 3) rfl (by decide) ?_
      refine e_aload_n h dX6_tell_110 (pc := 110) rfl ?_
      refine e_getC h fl_X6_9 dX6_tell_111 (pc := 111) rfl (Nat.lt_of_lt_of_le (by decide) hN) rfl rfl (r := 4) rfl ?_
      refine e_iconst h dX6_tell_114 (pc := 114)  ?_
      refine e_iald h dX6_tell_115 (pc := 115) rfl (Nat.lt_of_lt_of_le (by decide) hN) (j := 4) rfl (by decide) ?_
      refine e_callV5 lk_X6_55 mv_X8_addTown dX6_tell_116 (pc := 116) (by rw [hs.c0]; rfl) (by rw [hs.c0]; decide) hs.p0 (Nat.le_of_ble_eq_true rfl) (rmY := rmX8_addTown) (by decide) h ?_
      refine c_addTown (S := S) (O := O) (l := l.getD 0 0) (x := l.getD 1 0) (g := l.getD 2 0) (m := l.getD 3 0) (k := l.getD 4 0) (by omega) (by omega) (by omega) (by omega) (by omega) hN hs hSO hP hBO (by omega) (by omega) (by omega) (by omega) (by omega) (fun M2 c2 q1 q2 q3 q4 => ?_) (fun q1 => ?_)
      · skip
        refine e_if_eq h (tgt := 126) dX6_tell_119 (pc := 119) (by decide) (by decide) (fun hz => absurd hz (by decide)) (fun _ => ?_)
        refine e_iconst h dX6_tell_122 (pc := 122)  ?_
        refine e_goto h dX6_tell_123 (pc := 123) (tgt := 127) (by decide) ?_
        refine e_zret h hr ha dX6_tell_127 (pc := 127) (by decide) ?_
        exact kt M2 c2 (by unfold tellS; rw [if_neg (by omega), if_pos (by omega), if_pos (by omega)]; exact q1) q2 q3 q4
      · skip
        refine e_if_eq h (tgt := 126) dX6_tell_119 (pc := 119) (by decide) (by decide) (fun _ => ?_) (fun hz => absurd hz (by decide))
        refine e_iconst h dX6_tell_126 (pc := 126)  ?_
        refine e_zret h hr ha dX6_tell_127 (pc := 127) (by decide) ?_
        exact kf (by unfold tellS; rw [if_neg (by omega), if_pos (by omega), if_pos (by omega)]; exact q1)
  · refine e_lookV h dX6_tell_1 (pc := 1) (v := 109) (by omega) (by decide) (by decide) (off := 127) (by decide +kernel) (tgt := 128) (by decide) ?_
    refine e_aload_n h dX6_tell_128 (pc := 128) rfl ?_
    refine e_getI h fl_X6_41 dX6_tell_129 (pc := 129) rfl (Nat.lt_of_lt_of_le (by decide) hN) (by decide) ?_
    refine e_iconst h dX6_tell_132 (pc := 132)  ?_
    refine e_icmp_ne h (tgt := 165) dX6_tell_133 (pc := 133) (by decide) (by omega) (by decide) (fun hb133 => ?_) (fun hb133 => ?_)
    · refine e_iconst h dX6_tell_165 (pc := 165)  ?_
      refine e_zret h hr ha dX6_tell_166 (pc := 166) (by decide) ?_
      exact kf (by unfold tellS; rw [if_neg (by omega), if_neg (by omega), if_pos (by omega), if_neg (by omega)])
    · have n0 := hnum 0 (by omega)
      have m0 := h99 0
      have n1 := hnum 1 (by omega)
      have m1 := h99 1
      have n2 := hnum 2 (by omega)
      have m2 := h99 2
      refine e_aload_n h dX6_tell_136 (pc := 136) rfl ?_
      refine e_aload_n h dX6_tell_137 (pc := 137) rfl ?_
      refine e_getC h fl_X6_9 dX6_tell_138 (pc := 138) rfl (Nat.lt_of_lt_of_le (by decide) hN) rfl rfl (r := 4) rfl ?_
      refine e_iconst h dX6_tell_141 (pc := 141)  ?_
      refine e_iald h dX6_tell_142 (pc := 142) rfl (Nat.lt_of_lt_of_le (by decide) hN) (j := 0) rfl (by decide) ?_
      refine e_aload_n h dX6_tell_143 (pc := 143) rfl ?_
      refine e_getC h fl_X6_9 dX6_tell_144 (pc := 144) rfl (Nat.lt_of_lt_of_le (by decide) hN) rfl rfl (r := 4) rfl ?_
      refine e_iconst h dX6_tell_147 (pc := 147)  ?_
      refine e_iald h dX6_tell_148 (pc := 148) rfl (Nat.lt_of_lt_of_le (by decide) hN) (j := 1) rfl (by decide) ?_
      refine e_aload_n h dX6_tell_149 (pc := 149) rfl ?_
      refine e_getC h fl_X6_9 dX6_tell_150 (pc := 150) rfl (Nat.lt_of_lt_of_le (by decide) hN) rfl rfl (r := 4) rfl ?_
      refine e_iconst h dX6_tell_153 (pc := 153)  ?_
      refine e_iald h dX6_tell_154 (pc := 154) rfl (Nat.lt_of_lt_of_le (by decide) hN) (j := 2) rfl (by decide) ?_
      refine e_callV3 lk_X6_59 mv_X8_addErrand dX6_tell_155 (pc := 155) (by rw [hs.c0]; rfl) (by rw [hs.c0]; decide) hs.p0 (Nat.le_of_ble_eq_true rfl) (rmY := rmX8_addErrand) (by decide) h ?_
      refine c_addErrand (S := S) (O := O) (t := l.getD 0 0) (d := l.getD 1 0) (u := l.getD 2 0) (by omega) (by omega) (by omega) hN hs hSO hP hBO (by omega) (by omega) (by omega) (fun M2 c2 q1 q2 q3 q4 => ?_) (fun q1 => ?_)
      · skip
        refine e_if_eq h (tgt := 165) dX6_tell_158 (pc := 158) (by decide) (by decide) (fun hz => absurd hz (by decide)) (fun _ => ?_)
        refine e_iconst h dX6_tell_161 (pc := 161)  ?_
        refine e_goto h dX6_tell_162 (pc := 162) (tgt := 166) (by decide) ?_
        refine e_zret h hr ha dX6_tell_166 (pc := 166) (by decide) ?_
        exact kt M2 c2 (by unfold tellS; rw [if_neg (by omega), if_neg (by omega), if_pos (by omega), if_pos (by omega)]; exact q1) q2 q3 q4
      · skip
        refine e_if_eq h (tgt := 165) dX6_tell_158 (pc := 158) (by decide) (by decide) (fun _ => ?_) (fun hz => absurd hz (by decide))
        refine e_iconst h dX6_tell_165 (pc := 165)  ?_
        refine e_zret h hr ha dX6_tell_166 (pc := 166) (by decide) ?_
        exact kf (by unfold tellS; rw [if_neg (by omega), if_neg (by omega), if_pos (by omega), if_pos (by omega)]; exact q1)
  · refine e_lookV h dX6_tell_1 (pc := 1) (v := 122) (by omega) (by decide) (by decide) (off := 166) (by decide +kernel) (tgt := 167) (by decide) ?_
    refine e_aload_n h dX6_tell_167 (pc := 167) rfl ?_
    refine e_getI h fl_X6_41 dX6_tell_168 (pc := 168) rfl (Nat.lt_of_lt_of_le (by decide) hN) (by decide) ?_
    refine e_iconst h dX6_tell_171 (pc := 171)  ?_
    refine e_icmp_ne h (tgt := 198) dX6_tell_172 (pc := 172) (by decide) (by omega) (by decide) (fun hb172 => ?_) (fun hb172 => ?_)
    · refine e_iconst h dX6_tell_198 (pc := 198)  ?_
      refine e_zret h hr ha dX6_tell_199 (pc := 199) (by decide) ?_
      exact kf (by unfold tellS; rw [if_neg (by omega), if_neg (by omega), if_neg (by omega), if_pos (by omega), if_neg (by omega)])
    · have n0 := hnum 0 (by omega)
      have m0 := h99 0
      have n1 := hnum 1 (by omega)
      have m1 := h99 1
      refine e_aload_n h dX6_tell_175 (pc := 175) rfl ?_
      refine e_aload_n h dX6_tell_176 (pc := 176) rfl ?_
      refine e_getC h fl_X6_9 dX6_tell_177 (pc := 177) rfl (Nat.lt_of_lt_of_le (by decide) hN) rfl rfl (r := 4) rfl ?_
      refine e_iconst h dX6_tell_180 (pc := 180)  ?_
      refine e_iald h dX6_tell_181 (pc := 181) rfl (Nat.lt_of_lt_of_le (by decide) hN) (j := 0) rfl (by decide) ?_
      refine e_aload_n h dX6_tell_182 (pc := 182) rfl ?_
      refine e_getC h fl_X6_9 dX6_tell_183 (pc := 183) rfl (Nat.lt_of_lt_of_le (by decide) hN) rfl rfl (r := 4) rfl ?_
      refine e_iconst h dX6_tell_186 (pc := 186)  ?_
      refine e_iald h dX6_tell_187 (pc := 187) rfl (Nat.lt_of_lt_of_le (by decide) hN) (j := 1) rfl (by decide) ?_
      refine e_callV2 lk_X6_63 mv_X8_addLightning dX6_tell_188 (pc := 188) (by rw [hs.c0]; rfl) (by rw [hs.c0]; decide) hs.p0 (Nat.le_of_ble_eq_true rfl) (rmY := rmX8_addLightning) (by decide) h ?_
      refine c_addLightning (S := S) (O := O) (l := l.getD 0 0) (d := l.getD 1 0) (by omega) (by omega) hN hs hSO hP hBO (by omega) (by omega) (fun M2 c2 q1 q2 q3 q4 => ?_) (fun q1 => ?_)
      · skip
        refine e_if_eq h (tgt := 198) dX6_tell_191 (pc := 191) (by decide) (by decide) (fun hz => absurd hz (by decide)) (fun _ => ?_)
        refine e_iconst h dX6_tell_194 (pc := 194)  ?_
        refine e_goto h dX6_tell_195 (pc := 195) (tgt := 199) (by decide) ?_
        refine e_zret h hr ha dX6_tell_199 (pc := 199) (by decide) ?_
        exact kt M2 c2 (by unfold tellS; rw [if_neg (by omega), if_neg (by omega), if_neg (by omega), if_pos (by omega), if_pos (by omega)]; exact q1) q2 q3 q4
      · skip
        refine e_if_eq h (tgt := 198) dX6_tell_191 (pc := 191) (by decide) (by decide) (fun _ => ?_) (fun hz => absurd hz (by decide))
        refine e_iconst h dX6_tell_198 (pc := 198)  ?_
        refine e_zret h hr ha dX6_tell_199 (pc := 199) (by decide) ?_
        exact kf (by unfold tellS; rw [if_neg (by omega), if_neg (by omega), if_neg (by omega), if_pos (by omega), if_pos (by omega)]; exact q1)
  · refine e_lookup h dX6_tell_1 (pc := 1) (by omega) (by decide) (by show Op.lookupswitch.offset [(109, 127), (116, 76), (118, 43), (122, 166)] 199 _ = 199; rw [Op.lookupswitch.offset_cons, if_neg (by omega), Op.lookupswitch.offset_cons, if_neg (by omega), Op.lookupswitch.offset_cons, if_neg (by omega), Op.lookupswitch.offset_cons, if_neg (by omega)]; rfl) (tgt := 200) (by decide) ?_
    refine e_iconst h dX6_tell_200 (pc := 200)  ?_
    refine e_zret h hr ha dX6_tell_201 (pc := 201) (by decide) ?_
    exact kf (by unfold tellS; rw [if_neg (by omega), if_neg (by omega), if_neg (by omega), if_neg (by omega)])
set_option maxRecDepth 100000 in
set_option maxHeartbeats 4000000 in
theorem c_read {gg : GT} {ad : Nat → Nat} {N : Nat} {M : Mem} {Post : Option AV → Mem → Prop} {b : TB} {n so : Nat}   (hN : 110 ≤ N) (hs : IsS so N) (hso : 5 ≤ so) (hX : TX b n M) (hBO : BO M (so + 12)) (K : ∀ (M2 : Mem) (res : Int) (c2 : SD × SD), rd b n 301 0 (e0, e0) = (res, c2) → (res = -4 → SO c2.1 c2.2 M2 so ∧ PW c2.1 c2.2) → BO M2 (so + 12) → (∀ p, p ≠ 3 → p ≠ 4 → (p < so ∨ so + 14 ≤ p) → M2 p = M p) → Post (some (vi res)) M2) : Sp gg yX6_read cX6_read 5 (some .int) rmX6_read [vr 3, vr 1, vr so] ad N pT M Post := by
  refine Sp.intro (ls := [some (vr 3), some (vr 1), some (vr so), none, none]) (by decide +kernel) rfl (Nat.le_of_ble_eq_true rfl) fun κ hgg h hr ha => ?_
  have h : Ok κ RX6 cX6_read 5 rmX6_read := h
  subst hgg
  have loop : ∀ (n1 k q : Nat) (c : SD × SD) (M1 : Mem), k ≤ 300 → 300 < k + n1 → k ≤ q → q ≤ n → M1 3 2 = q → SO c.1 c.2 M1 so → PW c.1 c.2 → BO M1 (so + 12) → (∀ p, p ≠ 3 → p ≠ 4 → (p < so ∨ so + 14 ≤ p) → M1 p = M p) → rd b n 301 0 (e0, e0) = rd b n (301 - k) q c → E κ ad N pT M1 11 [some (vr 3), some (vr 1), some (vr so), some (vi (k : Int)), none] [] (0, 0) (QR κ ad N pT Post) := by
    intro n1
    induction n1 with
    | zero => intro k q c M1 h1 h2; exact absurd h2 (by omega)
    | succ n1 ih =>
      intro k q c M1 hk hn1 hkq hqn h32 hSO hP hBO hfr hEq
      have hX1 : TX b n M1 := hX.to (hfr 1 (by omega) (by omega) (by omega)) (hfr 2 (by omega) (by omega) (by omega))
      have x1 := hX1.1
      have x2 := hX1.2.1
      have hf : 301 - k = (300 - k) + 1 := by omega
      refine e_iload_n h dX6_read_11 (pc := 11) rfl ?_
      refine e_sipush h dX6_read_12 (pc := 12) (by decide +kernel) ?_
      refine e_icmp_ge h (tgt := 76) dX6_read_15 (pc := 15) (by decide) (by omega) (by decide) (fun hb15 => ?_) (fun hb15 => ?_)
      · have hk3 : k = 300 := by omega
        refine e_bipush h dX6_read_76 (pc := 76) (by decide +kernel) ?_
        refine e_iret h hr ha dX6_read_78 (pc := 78) ?_
        exact K M1 (-4) c (by rw [hEq, rd_end (by omega)]) (fun _ => ⟨hSO, hP⟩) hBO hfr
      · refine e_aload_n h dX6_read_18 (pc := 18) rfl ?_
        refine e_getI h fl_X6_20 dX6_read_19 (pc := 19) rfl (Nat.lt_of_lt_of_le (by decide) hN) (by decide) ?_
        refine e_aload_n h dX6_read_22 (pc := 22) rfl ?_
        refine e_getI h fl_X6_24 dX6_read_23 (pc := 23) rfl (Nat.lt_of_lt_of_le (by decide) hN) (by decide) ?_
        refine e_icmp_ge h (tgt := 76) dX6_read_26 (pc := 26) (by decide) (by omega) (by omega) (fun hb26 => ?_) (fun hb26 => ?_)
        · refine e_bipush h dX6_read_76 (pc := 76) (by decide +kernel) ?_
          refine e_iret h hr ha dX6_read_78 (pc := 78) ?_
          exact K M1 (-4) c (by rw [hEq, rd_end (by omega)]) (fun _ => ⟨hSO, hP⟩) hBO hfr
        · refine e_aload_n h dX6_read_29 (pc := 29) rfl ?_
          refine e_getI h fl_X6_20 dX6_read_30 (pc := 30) rfl (Nat.lt_of_lt_of_le (by decide) hN) (by decide) ?_
          rw [h32]
          refine e_istore4 h dX6_read_33 (pc := 33) (by decide) rfl ?_
          refine e_aload_n h dX6_read_35 (pc := 35) rfl ?_
          refine e_dup h dX6_read_36 (pc := 36) rfl ?_
          refine e_getI h fl_X6_20 dX6_read_37 (pc := 37) rfl (Nat.lt_of_lt_of_le (by decide) hN) (by decide) ?_
          refine e_iconst h dX6_read_40 (pc := 40)  ?_
          refine e_iadd h dX6_read_41 (pc := 41)  ?_
          refine e_putI h fl_X6_20 dX6_read_42 (pc := 42) rfl (Nat.lt_of_lt_of_le (by decide) hN) rfl ?_
          refine e_aload_n h dX6_read_45 (pc := 45) rfl ?_
          refine e_aload_n h dX6_read_46 (pc := 46) rfl ?_
          refine e_callV1 lk_X6_29 mv_X6_readNumbers dX6_read_47 (pc := 47) rfl (by decide) (Nat.lt_of_lt_of_le (by decide) hN) (Nat.le_of_ble_eq_true rfl) (rmY := rmX6_readNumbers) (by decide) h ?_
          refine c_readNumbers (b := b) (n := n) (q0 := q + 1) hN (hX1.to (up_row (by decide)) (up_row (by decide))) (by rw [up_eq]; omega) (by omega) (fun M2 l e hl e31 e32 hnum ef => ?_) (fun M2 hl ef => ?_)
          · have hle := rns_le _ _ _ _ hl
            have hat := hX1.at q
            refine e_if_eq h (tgt := 67) dX6_read_50 (pc := 50) (by decide) (by decide) (fun hz => absurd hz (by decide)) (fun _ => ?_)
            refine e_aload_n h dX6_read_53 (pc := 53) rfl ?_
            refine e_aload_n h dX6_read_54 (pc := 54) rfl ?_
            refine e_iload h dX6_read_55 (pc := 55) rfl ?_
            refine e_callV1 lk_X6_33 mv_X9_at dX6_read_57 (pc := 57) rfl (by decide) (Nat.lt_of_lt_of_le (by decide) hN) (Nat.le_of_ble_eq_true rfl) (rmY := rmX9_at) (by decide) h ?_
            refine c_at (b := b) (n := n) (k := q) rfl hN (hX1.to (funext fun j => by rw [ef 1 j (by decide), up_ne (by omega)]) (funext fun j => by rw [ef 2 j (by decide), up_ne (by omega)])) (by omega) ?_
            refine e_aload_n h dX6_read_60 (pc := 60) rfl ?_
            refine e_callV2 lk_X6_37 mv_X6_tell dX6_read_61 (pc := 61) rfl (by decide) (Nat.lt_of_lt_of_le (by decide) hN) (Nat.le_of_ble_eq_true rfl) (rmY := rmX6_tell) (by decide) h ?_
            refine c_rtell (S := c.1) (O := c.2) (l := l) hN hs (by omega) e31 (by omega) hnum hle.1 (hSO.to (fun p a b => funext fun j => by rw [ef p j (by omega), up_ne (by omega)])) hP (fun k0 hk0 => by rw [ef _ _ (by omega), up_ne (by omega)]; exact hBO k0 hk0) (fun M3 c2 g1 g2 g3 g4 => ?_) (fun g1 => ?_)
            · skip
              refine e_if_ne h (tgt := 70) dX6_read_64 (pc := 64) (by decide) (by decide) (fun _ => ?_) (fun hz => absurd hz (by decide))
              refine e_iinc3 h dX6_read_70 (pc := 70) (by decide) rfl ?_
              refine e_goto h dX6_read_73 (pc := 73) (tgt := 11) (by decide) ?_
              rw [show (k : Int) + 1 = ((k + 1 : Nat) : Int) by omega]
              refine e_fgt (ls2 := [some (vr 3), some (vr 1), some (vr so), some (vi ((k + 1 : Nat) : Int)), none]) ⟨Or.inr rfl, Or.inr rfl, Or.inr rfl, Or.inr rfl, Or.inl rfl, trivial⟩ ?_
              exact ih (k + 1) e c2 M3 (by omega) (by omega) (by omega) (by omega) (by rw [g4 3 (by omega)]; exact e32) g2 (PW_tell g1 hP) g3 (fun p a1 a2 a3 => by rw [g4 p a3, show M2 p = M1 p from funext fun j => by rw [ef p j ⟨a1, a2⟩, up_ne (by omega)]]; exact hfr p a1 a2 a3) (by rw [hEq, hf, rd_go (by omega) (by unfold item; rw [hl]; dsimp only; rw [g1]; rfl), show 301 - (k + 1) = 300 - k by omega])
            · skip
              refine e_if_ne h (tgt := 70) dX6_read_64 (pc := 64) (by decide) (by decide) (fun hz => absurd hz (by decide)) (fun _ => ?_)
              refine e_iload h dX6_read_67 (pc := 67) rfl ?_
              refine e_iret h hr ha dX6_read_69 (pc := 69) ?_
              exact K M2 q c (by rw [hEq, hf, rd_bad (by omega) (by unfold item; rw [hl]; dsimp only; rw [g1]; rfl)]) (fun z => absurd z (by omega)) (fun k0 hk0 => by rw [ef _ _ (by omega), up_ne (by omega)]; exact hBO k0 hk0) (fun p a1 a2 a3 => by rw [show M2 p = M1 p from funext fun j => by rw [ef p j ⟨a1, a2⟩, up_ne (by omega)]]; exact hfr p a1 a2 a3)
          · skip
            refine e_if_eq h (tgt := 67) dX6_read_50 (pc := 50) (by decide) (by decide) (fun _ => ?_) (fun hz => absurd hz (by decide))
            refine e_iload h dX6_read_67 (pc := 67) rfl ?_
            refine e_iret h hr ha dX6_read_69 (pc := 69) ?_
            exact K M2 q c (by rw [hEq, hf, rd_bad (by omega) (by unfold item; rw [hl])]) (fun z => absurd z (by omega)) (fun k0 hk0 => by rw [ef _ _ (by omega), up_ne (by omega)]; exact hBO k0 hk0) (fun p a1 a2 a3 => by rw [show M2 p = M1 p from funext fun j => by rw [ef p j ⟨a1, a2⟩, up_ne (by omega)]]; exact hfr p a1 a2 a3)
  refine e_aload_n h dX6_read_0 (pc := 0) rfl ?_
  refine e_callV0 lk_X6_15 mv_X8_clear dX6_read_1 (pc := 1) (by rw [hs.c0]; rfl) (by rw [hs.c0]; decide) hs.p0 (Nat.le_of_ble_eq_true rfl) (rmY := rmX8_clear) (by decide) h ?_
  refine c_sclear hs ?_
  refine e_aload_n h dX6_read_4 (pc := 4) rfl ?_
  refine e_iconst h dX6_read_5 (pc := 5)  ?_
  refine e_putI h fl_X6_20 dX6_read_6 (pc := 6) rfl (Nat.lt_of_lt_of_le (by decide) hN) rfl ?_
  refine e_iconst h dX6_read_9 (pc := 9)  ?_
  refine e_istore3 h dX6_read_10 (pc := 10) (by decide) rfl ?_
  refine loop 301 0 0 (e0, e0) _ (by omega) (by omega) (by omega) (by omega) (by rw [up_eq]; rfl) ⟨⟨?_, ?_, ?_, fun l hl => absurd hl (by show ¬ l < 0; omega), fun l hl => absurd hl (by show ¬ l < 0; omega), fun l hl => absurd hl (by show ¬ l < 0; omega)⟩, ?_, fun l hl => absurd hl (by show ¬ l < 0; omega), fun l hl => absurd hl (by show ¬ l < 0; omega)⟩ PW_0 (fun k hk => by simp (disch := omega) only [up_eq, up_ne]; exact hBO k hk) (fun p a1 a2 a3 => by simp (disch := omega) only [up_row]) rfl
  · simp (disch := omega) only [up_eq, up_ne]; rfl
  · simp (disch := omega) only [up_eq, up_ne]; rfl
  · simp (disch := omega) only [up_eq, up_ne]; rfl
  · simp (disch := omega) only [up_eq, up_ne]; rfl
