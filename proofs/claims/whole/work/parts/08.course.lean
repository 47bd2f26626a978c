theorem reE (x : Int) (n : Nat) (h : x = n) : x = n := h
set_option maxRecDepth 100000 in
set_option maxHeartbeats 4000000 in
theorem c_isStruck {g : GT} {ad : Nat → Nat} {N : Nat} {M : Mem} {Post : Option AV → Mem → Prop} {S : SD} {so l d : Nat} (hs : IsS so N) (hS : SR S M so) (hb : sB S ≤ 5) (hl : l ≤ 9) (hd : d ≤ 60) (hcd : ∀ k, k < sB S → sC S k ≤ 9 ∧ sD S k ≤ 60) (kt : hit S l d = true → Post (some (vi 1)) M) (kf : hit S l d = false → Post (some (vi 0)) M) : Sp g yX8_isStruck cX8_isStruck 4 (some .boolean) rmX8_isStruck [vr so, vi (l : Int), vi (d : Int)] ad N pT M Post := by
  refine Sp.intro (ls := [some (vr so), some (vi (l : Int)), some (vi (d : Int)), none]) (by decide +kernel) rfl (Nat.le_of_ble_eq_true rfl) fun κ hg h hr ha => ?_
  have h : Ok κ RX8 cX8_isStruck 4 rmX8_isStruck := h
  subst hg
  obtain ⟨r1, r2, r3, r4, r5, r6⟩ := hS
  have loop : ∀ (n k : Nat), k ≤ sB S → sB S < k + n → hitN S l d k = false → E κ ad N pT M 2 [some (vr so), some (vi (l : Int)), some (vi (d : Int)), some (vi (k : Int))] [] (0, 0) (QR κ ad N pT Post) := by
    intro n
    induction n with
    | zero => intro k h1 h2; exact absurd h2 (by omega)
    | succ n ih =>
      intro k hk hn hin
      have f6 := r6 k
      refine e_iload_n h dX8_isStruck_2 (pc := 2) rfl ?_
      refine e_aload_n h dX8_isStruck_3 (pc := 3) rfl ?_
      refine e_getI h fl_X8_50 dX8_isStruck_4 (pc := 4) hs.c0 hs.p0 (by decide) ?_
      refine e_icmp_ge h (tgt := 38) dX8_isStruck_7 (pc := 7) (by decide) (by omega) (by omega) (fun hb7 => ?_) (fun hb7 => ?_)
      · refine e_iconst h dX8_isStruck_38 (pc := 38)  ?_
        refine e_zret h hr ha dX8_isStruck_39 (pc := 39) (by decide) ?_
        exact kf (by rw [← hin]; unfold hit; congr 1; omega)
      · have f6 := f6 (by omega)
        have f7 := hcd k (by omega)
        refine e_aload_n h dX8_isStruck_10 (pc := 10) rfl ?_
        refine e_getC h fl_X8_30 dX8_isStruck_11 (pc := 11) hs.c0 hs.p0 rfl rfl (r := (so + 7)) (pcr_d (by rw [hs.c0]; decide) 6) ?_
        refine e_iload_n h dX8_isStruck_14 (pc := 14) rfl ?_
        refine e_iald h dX8_isStruck_15 (pc := 15) hs.c7 hs.p7 rfl (by rw [hs.l7]; omega) ?_
        refine e_iload_n h dX8_isStruck_16 (pc := 16) rfl ?_
        refine e_icmp_ne h (tgt := 32) dX8_isStruck_17 (pc := 17) (by decide) (by omega) (by omega) (fun hb17 => ?_) (fun hb17 => ?_)
        · refine e_iinc3 h dX8_isStruck_32 (pc := 32) (by decide) rfl ?_
          refine e_goto h dX8_isStruck_35 (pc := 35) (tgt := 2) (by decide) ?_
          rw [show (k : Int) + 1 = ((k + 1 : Nat) : Int) by omega]
          exact ih (k + 1) (by omega) (by omega) (hitN_no hin (by omega))
        · refine e_aload_n h dX8_isStruck_20 (pc := 20) rfl ?_
          refine e_getC h fl_X8_33 dX8_isStruck_21 (pc := 21) hs.c0 hs.p0 rfl rfl (r := (so + 8)) (pcr_d (by rw [hs.c0]; decide) 7) ?_
          refine e_iload_n h dX8_isStruck_24 (pc := 24) rfl ?_
          refine e_iald h dX8_isStruck_25 (pc := 25) hs.c8 hs.p8 rfl (by rw [hs.l8]; omega) ?_
          refine e_iload_n h dX8_isStruck_26 (pc := 26) rfl ?_
          refine e_icmp_ne h (tgt := 32) dX8_isStruck_27 (pc := 27) (by decide) (by omega) (by omega) (fun hb27 => ?_) (fun hb27 => ?_)
          · refine e_iinc3 h dX8_isStruck_32 (pc := 32) (by decide) rfl ?_
            refine e_goto h dX8_isStruck_35 (pc := 35) (tgt := 2) (by decide) ?_
            rw [show (k : Int) + 1 = ((k + 1 : Nat) : Int) by omega]
            exact ih (k + 1) (by omega) (by omega) (hitN_no hin (by omega))
          · refine e_iconst h dX8_isStruck_30 (pc := 30)  ?_
            refine e_zret h hr ha dX8_isStruck_31 (pc := 31) (by decide) ?_
            exact kt (hit_of (k := k) (by omega) (by omega) (by omega))
  refine e_iconst h dX8_isStruck_0 (pc := 0)  ?_
  refine e_istore3 h dX8_isStruck_1 (pc := 1) (by decide) rfl ?_
  exact loop (sB S + 1) 0 (by omega) (by omega) rfl
