def PD (S : SD) (i d : Nat) (M : Mem) (nw lim c g : Nat) : Prop := ∃ m k, m < lim ∧ bt M nw m k ∧ LV S i d (m / 24) (m % 24) k c g
theorem PD_step {S : SD} {i d l x a nw c g : Nat} {M : Mem} (hx : x < 24) (ha : M nw (24 * l + x) = (a : Int)) : (PD S i d M nw (24 * l + x) c g ∨ ∃ k, a.testBit k = true ∧ LV S i d l x k c g) ↔ PD S i d M nw (24 * l + x + 1) c g := by
  have h1 : (24 * l + x) / 24 = l := by omega
  have h2 : (24 * l + x) % 24 = x := by omega
  have h3 : ∀ k, bt M nw (24 * l + x) k ↔ a.testBit k = true := fun k => by unfold bt; rw [ha]; exact Iff.rfl
  constructor
  · rintro (⟨m, k, z1, z2, z3⟩ | ⟨k, z1, z2⟩)
    · exact ⟨m, k, by omega, z2, z3⟩
    · exact ⟨24 * l + x, k, by omega, (h3 k).2 z1, by rw [h1, h2]; exact z2⟩
  · rintro ⟨m, k, z1, z2, z3⟩
    by_cases e : m = 24 * l + x
    · subst e
      rw [h1, h2] at z3
      exact Or.inr ⟨k, (h3 k).1 z2, z3⟩
    · exact Or.inl ⟨m, k, by omega, z2, z3⟩
theorem jb_0 {M : Mem} {p : Nat} (h : ∀ c, c < 144 → M p c = 0) : JB M p := fun c hc => ⟨0, h c hc, by decide⟩
theorem bt_0 {M : Mem} {p c g : Nat} (h : M p c = 0) : ¬ bt M p c g := by
  unfold bt
  rw [h]
  show ¬ Nat.testBit 0 g = true
  simp
def ChaseP (M : Mem) : Prop := (M 61 0 = 62 ∧ M 61 1 = 63) ∨ (M 61 0 = 63 ∧ M 61 1 = 62)
theorem isJ_62 {N : Nat} (hN : 110 ≤ N) : IsJL 62 N := ⟨by omega, rfl, rfl⟩
theorem isJ_63 {N : Nat} (hN : 110 ≤ N) : IsJL 63 N := ⟨by omega, rfl, rfl⟩
theorem ChaseP.get {M : Mem} {N : Nat} (hN : 110 ≤ N) (h : ChaseP M) : ∃ nw th : Nat, IsJL nw N ∧ IsJL th N ∧ nw ≠ th ∧ 62 ≤ nw ∧ nw ≤ 63 ∧ 62 ≤ th ∧ th ≤ 63 ∧ M 61 0 = (nw : Int) ∧ M 61 1 = (th : Int) := by
  rcases h with h | h
  · exact ⟨62, 63, isJ_62 hN, isJ_63 hN, by decide, by decide, by decide, by decide, by decide, h.1, h.2⟩
  · exact ⟨63, 62, isJ_63 hN, isJ_62 hN, by decide, by decide, by decide, by decide, by decide, h.1, h.2⟩
theorem ChaseP.mk {M : Mem} {nw th : Nat} (hd : nw ≠ th) (h1 : 62 ≤ nw) (h2 : nw ≤ 63) (h3 : 62 ≤ th) (h4 : th ≤ 63) (e0 : M 61 0 = (nw : Int)) (e1 : M 61 1 = (th : Int)) : ChaseP M := by
  unfold ChaseP
  omega
/-- the gases that a town could have in a cell behind so many days -/
def RC (S O : SD) (i : Nat) : Nat → Nat → Nat → Prop
  | 0, c, g => c = 24 * sH S i + sF S i ∧ g = oG O i
  | d + 1, c, g => ∃ m k, m < 24 * sL S ∧ RC S O i d m k ∧ LV S i (d + 1) (m / 24) (m % 24) k c g
set_option maxRecDepth 100000 in
set_option maxHeartbeats 4000000 in
theorem c_passDay {gg : GT} {ad : Nat → Nat} {N : Nat} {M : Mem} {Post : Option AV → Mem → Prop} {S : SD} {so i d nw th : Nat}  {xi : Int} (hxi : xi = (i : Int))  (hN : 110 ≤ N) (hs : IsS so N) (s82 : 82 ≤ so) (hsr : SR S M so) (hws : WS S) (hi : i < sT S) (hday : M 61 2 = (d : Int)) (hd : d ≤ 60) (e0 : M 61 0 = (nw : Int)) (e1 : M 61 1 = (th : Int)) (hnw : IsJL nw N) (hth : IsJL th N) (hne : nw ≠ th) (n62 : 62 ≤ nw) (n63 : nw ≤ 63) (t62 : 62 ≤ th) (t63 : th ≤ 63) (hjn : JB M nw) (K : ∀ M2 : Mem, M2 61 0 = (th : Int) → M2 61 1 = (nw : Int) → JB M2 th → (∀ c g, c < 144 → (bt M2 th c g ↔ PD S i d M nw (24 * sL S) c g)) → (∀ q j, q ≠ th → (q ≠ 61 ∨ (j ≠ 0 ∧ j ≠ 1)) → M2 q j = M q j) → Post none M2) : Sp gg yX0_passDay cX0_passDay 7 none rmX0_passDay [vr 61, vr so, vi xi] ad N pT M Post := by
  refine Sp.intro (ls := [some (vr 61), some (vr so), some (vi xi), none, none, none, none]) (by decide +kernel) rfl (Nat.le_of_ble_eq_true rfl) fun κ hgg h hr ha => ?_
  have h : Ok κ RX0 cX0_passDay 7 rmX0_passDay := h
  subst hgg
  subst hxi
  refine e_aload_n h dX0_passDay_0 (pc := 0) rfl ?_
  refine e_getR h fl_X0_15 dX0_passDay_1 (pc := 1) rfl (Nat.lt_of_lt_of_le (by decide) hN) rfl rfl (r := th) (by first | exact e1 | (simp (disch := omega) only [up_ne]; exact e1)) ?_
  refine e_callS1 lk_X0_18 ms_X0_empty dX0_passDay_4 (pc := 4) (Nat.le_of_ble_eq_true rfl) (rmY := rmX0_empty) (by decide) h ?_
  refine c_empty hth (fun M0 hz0 hf0 => ?_)
  refine e_iconst h dX0_passDay_7 (pc := 7)  ?_
  refine e_istore3 h dX0_passDay_8 (pc := 8) (by decide) rfl ?_
  have hC0 : CH S so i d th N M0 := ⟨hN, hs, s82, hsr.to (fun p a b => hf0 p (by omega)), hws, hi, by rw [hf0 61 (by omega)]; exact hday, hd, by rw [hf0 61 (by omega)]; exact e1, hth, t62, t63, jb_0 hz0⟩
  have hL := hws.1
  have loop : ∀ (n l : Nat) (M1 : Mem), l ≤ sL S → sL S < l + n → ADD M0 M1 th (PD S i d M nw (24 * l)) → E κ ad N pT M1 9 [some (vr 61), some (vr so), some (vi (i : Int)), some (vi ((l : Int))), none, none, none] [] (0, 0) (QR κ ad N pT Post) := by
    intro n
    induction n with
    | zero => intro l M1 h1 h2; exact absurd h2 (by omega)
    | succ n ih =>
      intro l M1 hl hn hAd
      have r9 : M1 so 9 = sL S := (hC0.add hAd).sr.1
      by_cases hlt : sL S = l
      · subst hlt
        refine e_iload_n h dX0_passDay_9 (pc := 9) rfl ?_
        refine e_aload_n h dX0_passDay_10 (pc := 10) rfl ?_
        refine e_getI h fl_X0_70 dX0_passDay_11 (pc := 11) hs.c0 hs.p0 (by decide) ?_
        refine e_icmp_ge h (tgt := 70) dX0_passDay_14 (pc := 14) (by decide) (by omega) (by omega) (fun hb14 => ?_) (fun hb14 => absurd hb14 (by omega))
        have f0 : M1 61 0 = nw := by rw [hAd.2.2 61 (by omega), hf0 61 (by omega)]; exact e0
        have f1 : M1 61 1 = th := by rw [hAd.2.2 61 (by omega), hf0 61 (by omega)]; exact e1
        refine e_aload_n h dX0_passDay_70 (pc := 70) rfl ?_
        refine e_getR h fl_X0_9 dX0_passDay_71 (pc := 71) rfl (Nat.lt_of_lt_of_le (by decide) hN) rfl rfl (r := nw) (by first | exact f0 | (simp (disch := omega) only [up_ne]; exact f0)) ?_
        refine e_astore3 h dX0_passDay_74 (pc := 74) (by decide) rfl ?_
        refine e_aload_n h dX0_passDay_75 (pc := 75) rfl ?_
        refine e_aload_n h dX0_passDay_76 (pc := 76) rfl ?_
        refine e_getR h fl_X0_15 dX0_passDay_77 (pc := 77) rfl (Nat.lt_of_lt_of_le (by decide) hN) rfl rfl (r := th) (by first | exact f1 | (simp (disch := omega) only [up_ne]; exact f1)) ?_
        refine e_putR h fl_X0_9 dX0_passDay_80 (pc := 80) rfl (Nat.lt_of_lt_of_le (by decide) hN) rfl rfl ?_
        refine e_aload_n h dX0_passDay_83 (pc := 83) rfl ?_
        refine e_aload_n h dX0_passDay_84 (pc := 84) rfl ?_
        refine e_putR h fl_X0_15 dX0_passDay_85 (pc := 85) rfl (Nat.lt_of_lt_of_le (by decide) hN) rfl rfl ?_
        refine e_vret h hr ha dX0_passDay_88 (pc := 88) ?_
        refine K _ (by simp (disch := omega) only [up_eq, up_ne]) (by simp (disch := omega) only [up_eq, up_ne]) (fun c hc => by have := hAd.1 c hc; simp (disch := omega) only [up_eq, up_ne]; exact this) (fun c g hc => ?_) (fun q j hq hq2 => by simp (disch := omega) only [up_eq, up_ne]; rw [hAd.2.2 q hq]; rw [hf0 q hq])
        have z := hAd.2.1 c g hc
        show bt (up _ _ _ _) _ _ _ ↔ _
        unfold bt at z ⊢
        simp (disch := omega) only [up_eq, up_ne]
        rw [z]
        exact ⟨fun q => q.elim (fun q => absurd q (bt_0 (hz0 c hc))) (fun q => q), fun q => Or.inr q⟩
      have inner : ∀ (n2 x : Nat) (M2 : Mem), x ≤ 24 → 24 < x + n2 → ADD M0 M2 th (PD S i d M nw (24 * l + x)) → E κ ad N pT M2 20 [some (vr 61), some (vr so), some (vi (i : Int)), some (vi ((l : Int))), some (vi (x : Int)), none, none] [] (0, 0) (QR κ ad N pT Post) := by
        intro n2
        induction n2 with
        | zero => intro x M2 h1 h2; exact absurd h2 (by omega)
        | succ n2 ih2 =>
          intro x M2 hx hn2 hAd2
          have e0 : M2 61 0 = nw := by rw [hAd2.2.2 61 (by omega), hf0 61 (by omega)]; exact e0
          have e1 : M2 61 1 = th := by rw [hAd2.2.2 61 (by omega), hf0 61 (by omega)]; exact e1
          refine e_iload h dX0_passDay_20 (pc := 20) rfl ?_
          refine e_bipush h dX0_passDay_22 (pc := 22) (by decide +kernel) ?_
          refine e_icmp_ge h (tgt := 64) dX0_passDay_24 (pc := 24) (by decide) (by omega) (by decide) (fun hb24 => ?_) (fun hb24 => ?_)
          · refine e_iinc3 h dX0_passDay_64 (pc := 64) (by decide) rfl ?_
            refine e_goto h dX0_passDay_67 (pc := 67) (tgt := 9) (by decide) ?_
            have hx24 : x = 24 := by omega
            subst hx24
            rw [show (l : Int) + 1 = ((l + 1 : Nat) : Int) by omega]
            refine e_fgt (ls2 := [some (vr 61), some (vr so), some (vi (i : Int)), some (vi (((l + 1 : Nat) : Int))), none, none, none]) ⟨Or.inr rfl, Or.inr rfl, Or.inr rfl, Or.inr rfl, Or.inl rfl, Or.inl rfl, Or.inl rfl, trivial⟩ ?_
            exact ih (l + 1) M2 (by omega) (by omega) (cast (by rw [show 24 * l + 24 = 24 * (l + 1) by omega]) hAd2)
          · obtain ⟨a, hav1, hav2⟩ := hjn (24 * l + x) (by omega)
            have hav : M2 nw (24 * l + x) = (a : Int) := by rw [hAd2.2.2 nw (by omega), hf0 nw (by omega)]; exact hav1
            refine e_aload_n h dX0_passDay_27 (pc := 27) rfl ?_
            refine e_getR h fl_X0_9 dX0_passDay_28 (pc := 28) rfl (Nat.lt_of_lt_of_le (by decide) hN) rfl rfl (r := nw) (by first | exact e0 | (simp (disch := omega) only [up_ne]; exact e0)) ?_
            refine e_iload_n h dX0_passDay_31 (pc := 31) rfl ?_
            refine e_iload h dX0_passDay_32 (pc := 32) rfl ?_
            refine e_callS2 lk_X0_31 ms_X0_cell dX0_passDay_34 (pc := 34) (Nat.le_of_ble_eq_true rfl) (rmY := rmX0_cell) (by decide) h ?_
            refine c_cell (l := l) (x := x) rfl rfl (by omega) (by omega) ?_
            refine e_lald h dX0_passDay_37 (pc := 37) hnw.c0 hnw.p0 rfl (by rw [hnw.l0]; omega) ?_
            rw [hav]
            refine e_lstore5 h dX0_passDay_38 (pc := 38) (by decide) rfl ?_
            refine e_lload h dX0_passDay_40 (pc := 40) rfl ?_
            refine e_lconst h dX0_passDay_42 (pc := 42) (x := 0) rfl ?_
            refine e_lcmp h dX0_passDay_43 (pc := 43) (by omega) (by decide) ?_
            generalize hlc43 : lcmp _ _ = lc43
            have hlr43 := lcmp_spec hlc43
            refine e_if_eq h (tgt := 58) dX0_passDay_44 (pc := 44) (by decide) (by omega) (fun hb44 => ?_) (fun hb44 => ?_)
            · refine e_iinc4 h dX0_passDay_58 (pc := 58) (by decide) rfl ?_
              refine e_goto h dX0_passDay_61 (pc := 61) (tgt := 20) (by decide) ?_
              have hz : ADD M2 M2 th (fun c g => ∃ k, a.testBit k = true ∧ LV S i d l x k c g) := ADD.none hAd2.1 (fun c g z => by obtain ⟨k, z1, z2⟩ := z; rw [show a = 0 by omega] at z1; simp at z1)
              rw [show (x : Int) + 1 = ((x + 1 : Nat) : Int) by omega]
              refine e_fgt (ls2 := [some (vr 61), some (vr so), some (vi (i : Int)), some (vi ((l : Int))), some (vi ((x + 1 : Nat) : Int)), none, none]) ⟨Or.inr rfl, Or.inr rfl, Or.inr rfl, Or.inr rfl, Or.inr rfl, Or.inl rfl, Or.inl rfl, trivial⟩ ?_
              exact ih2 (x + 1) _ (by omega) (by omega) ((hAd2.trans hz).iff (fun c g => PD_step (by omega) hav1))
            · refine e_aload_n h dX0_passDay_47 (pc := 47) rfl ?_
              refine e_aload_n h dX0_passDay_48 (pc := 48) rfl ?_
              refine e_iload_n h dX0_passDay_49 (pc := 49) rfl ?_
              refine e_iload_n h dX0_passDay_50 (pc := 50) rfl ?_
              refine e_iload h dX0_passDay_51 (pc := 51) rfl ?_
              refine e_lload h dX0_passDay_53 (pc := 53) rfl ?_
              refine e_callV5 lk_X0_73 mv_X0_leave dX0_passDay_55 (pc := 55) rfl (by decide) (Nat.lt_of_lt_of_le (by decide) hN) (Nat.le_of_ble_eq_true rfl) (rmY := rmX0_leave) (by decide) h ?_
              refine c_leave (a := a) rfl rfl rfl rfl (hC0.add hAd2) (by omega) (by omega) hav2 (fun M3 hz => ?_)
              refine e_iinc4 h dX0_passDay_58 (pc := 58) (by decide) rfl ?_
              refine e_goto h dX0_passDay_61 (pc := 61) (tgt := 20) (by decide) ?_
              rw [show (x : Int) + 1 = ((x + 1 : Nat) : Int) by omega]
              refine e_fgt (ls2 := [some (vr 61), some (vr so), some (vi (i : Int)), some (vi ((l : Int))), some (vi ((x + 1 : Nat) : Int)), none, none]) ⟨Or.inr rfl, Or.inr rfl, Or.inr rfl, Or.inr rfl, Or.inr rfl, Or.inl rfl, Or.inl rfl, trivial⟩ ?_
              exact ih2 (x + 1) _ (by omega) (by omega) ((hAd2.trans hz).iff (fun c g => PD_step (by omega) hav1))
      refine e_iload_n h dX0_passDay_9 (pc := 9) rfl ?_
      refine e_aload_n h dX0_passDay_10 (pc := 10) rfl ?_
      refine e_getI h fl_X0_70 dX0_passDay_11 (pc := 11) hs.c0 hs.p0 (by decide) ?_
      refine e_icmp_ge h (tgt := 70) dX0_passDay_14 (pc := 14) (by decide) (by omega) (by omega) (fun hb14 => absurd hb14 (by omega)) (fun hb14 => ?_)
      refine e_iconst h dX0_passDay_17 (pc := 17)  ?_
      refine e_istore4 h dX0_passDay_18 (pc := 18) (by decide) rfl ?_
      exact inner 25 0 M1 (by omega) (by omega) hAd
  exact loop (sL S + 1) 0 M0 (by omega) (by omega) (ADD.none (jb_0 hz0) (fun c g z => by obtain ⟨m, k, z1, z2⟩ := z; omega))
