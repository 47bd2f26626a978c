set_option maxRecDepth 100000 in
set_option maxHeartbeats 4000000 in
theorem c_marketsWith {gg : GT} {ad : Nat → Nat} {N : Nat} {M : Mem} {Post : Option AV → Mem → Prop} {f o i n T : Nat} {A : TJ} {B : Nat → TJ}  {xi : Int} (hxi : xi = (i : Int)) {xn : Int} (hxn : xn = (n : Int))  (hf : IsF f N) (ho : IsC o N) (hT : M f 1 = T) (hT6 : T ≤ 6) (hA : TR A M o) (hB : ∀ j, j < T → TR (B j) M (f + 2 + 4 * j)) (hi : i < 6) (hn : n ≤ 60) (K : Post (some (vi ((mw A B i n T : Nat) : Int))) M) : Sp gg yX2_marketsWith cX2_marketsWith 7 (some .int) rmX2_marketsWith [vr f, vr o, vi xi, vi xn] ad N pT M Post := by
  refine Sp.intro (ls := [some (vr f), some (vr o), some (vi xi), some (vi xn), none, none, none]) (by decide +kernel) rfl (Nat.le_of_ble_eq_true rfl) fun κ hgg h hr ha => ?_
  have h : Ok κ RX2 cX2_marketsWith 7 rmX2_marketsWith := h
  subst hgg
  subst hxi
  subst hxn
  have loop : ∀ (n1 k : Nat), k ≤ T → T < k + n1 → E κ ad N pT M 6 [some (vr f), some (vr o), some (vi (i : Int)), some (vi (n : Int)), some (vi ((mw A B i n k : Nat) : Int)), some (vi (k : Int)), none] [] (0, 0) (QR κ ad N pT Post) := by
    intro n1
    induction n1 with
    | zero => intro k h1 h2; exact absurd h2 (by omega)
    | succ n1 ih =>
      intro k hk hn1
      refine e_iload h dX2_marketsWith_6 (pc := 6) rfl ?_
      refine e_aload_n h dX2_marketsWith_8 (pc := 8) rfl ?_
      refine e_getI h fl_X2_24 dX2_marketsWith_9 (pc := 9) hf.c0 hf.p0 (by decide) ?_
      refine e_icmp_ge h (tgt := 64) dX2_marketsWith_12 (pc := 12) (by decide) (by omega) (by omega) (fun hb12 => ?_) (fun hb12 => ?_)
      · refine e_iload h dX2_marketsWith_64 (pc := 64) rfl ?_
        refine e_iret h hr ha dX2_marketsWith_66 (pc := 66) ?_
        have hk2 : k = T := by omega
        subst hk2
        exact K
      · obtain ⟨o2, hoe⟩ : ∃ o2, o2 = f + 2 + 4 * k := ⟨_, rfl⟩
        have ho2 : IsC o2 N := hoe ▸ hf.co (by omega)
        have hB2 := hB k (by omega)
        rw [← hoe] at hB2
        have step58 : E κ ad N pT M 58 [some (vr f), some (vr o), some (vi (i : Int)), some (vi (n : Int)), some (vi ((mw A B i n (k + 1) : Nat) : Int)), some (vi (k : Int)), none] [] (0, 0) (QR κ ad N pT Post) := by
          refine e_iinc5 h dX2_marketsWith_58 (pc := 58) (by decide) rfl ?_
          refine e_goto h dX2_marketsWith_61 (pc := 61) (tgt := 6) (by decide) ?_
          rw [show (k : Int) + 1 = ((k + 1 : Nat) : Int) by omega]
          refine e_fgt (ls2 := [some (vr f), some (vr o), some (vi (i : Int)), some (vi (n : Int)), some (vi ((mw A B i n (k + 1) : Nat) : Int)), some (vi ((k + 1 : Nat) : Int)), none]) ⟨Or.inr rfl, Or.inr rfl, Or.inr rfl, Or.inr rfl, Or.inr rfl, Or.inr rfl, Or.inl rfl, trivial⟩ ?_
          exact ih (k + 1) (by omega) (by omega)
        have inner : ∀ (n2 t : Nat), t ≤ n → n < t + n2 → ¬ ((k : Int) = (i : Int)) → E κ ad N pT M 27 [some (vr f), some (vr o), some (vi (i : Int)), some (vi (n : Int)), some (vi ((mw A B i n k + cnt (fun t => meetB (A (t + 1)) (B k (t + 1))) t : Nat) : Int)), some (vi (k : Int)), some (vi ((t + 1 : Nat) : Int))] [] (0, 0) (QR κ ad N pT Post) := by
          intro n2
          induction n2 with
          | zero => intro t h1 h2; exact absurd h2 (by omega)
          | succ n2 ih2 =>
            intro t ht hn2 hne
            refine e_iload h dX2_marketsWith_27 (pc := 27) rfl ?_
            refine e_iload_n h dX2_marketsWith_29 (pc := 29) rfl ?_
            refine e_icmp_gt h (tgt := 58) dX2_marketsWith_30 (pc := 30) (by decide) (by omega) (by omega) (fun hb30 => ?_) (fun hb30 => ?_)
            · have ht2 : t = n := by omega
              subst ht2
              have emw : mw A B i t (k + 1) = mw A B i t k + cnt (fun t => meetB (A (t + 1)) (B k (t + 1))) t := by
                show mw A B i t k + (if _ then 0 else dm A (B k) t) = _
                rw [if_neg (by omega)]
                rfl
              rw [← emw]
              refine e_fgt (ls2 := [some (vr f), some (vr o), some (vi (i : Int)), some (vi (t : Int)), some (vi ((mw A B i t (k + 1) : Nat) : Int)), some (vi (k : Int)), none]) ⟨Or.inr rfl, Or.inr rfl, Or.inr rfl, Or.inr rfl, Or.inr rfl, Or.inr rfl, Or.inl rfl, trivial⟩ ?_
              exact step58
            · have hAt := hA (t + 1) (by omega)
              have hBt := hB2 (t + 1) (by omega)
              refine e_aload_n h dX2_marketsWith_33 (pc := 33) rfl ?_
              refine e_aload_n h dX2_marketsWith_34 (pc := 34) rfl ?_
              refine e_getC h fl_X2_11 dX2_marketsWith_35 (pc := 35) hf.c0 hf.p0 rfl rfl (r := (f + 1)) (pcr_d (by rw [hf.c0]; decide) 0) ?_
              refine e_iload h dX2_marketsWith_38 (pc := 38) rfl ?_
              refine e_aald3 h dX2_marketsWith_40 (pc := 40) hf.c1 hf.p1 rfl (by rw [hf.l1]; omega) rfl (r := o2) (by rw [pcr_103 hf.c1, hoe]) ?_
              refine e_iload h dX2_marketsWith_41 (pc := 41) rfl ?_
              refine e_callV2 lk_X2_50 mv_X1_meets dX2_marketsWith_43 (pc := 43) (by rw [ho.c0]; rfl) (by rw [ho.c0]; decide) ho.p0 (Nat.le_of_ble_eq_true rfl) (rmY := rmX1_meets) (by decide) h ?_
              refine c_meets (d := t + 1) rfl ho ho2 (by omega) (by omega) (by omega) (by omega) (by omega) (fun q1 q2 q3 => ?_) (fun q1 => ?_)
              · have eqm : cnt (fun t => meetB (A (t + 1)) (B k (t + 1))) (t + 1) = cnt (fun t => meetB (A (t + 1)) (B k (t + 1))) t + 1 := by
                  show _ + (if _ then 1 else 0) = _
                  rw [if_pos (meetB_t (by omega) (by omega) (by omega))]
                refine e_if_eq h (tgt := 52) dX2_marketsWith_46 (pc := 46) (by decide) (by decide) (fun hz => absurd hz (by decide)) (fun _ => ?_)
                refine e_iinc4 h dX2_marketsWith_49 (pc := 49) (by decide) rfl ?_
                refine e_iinc6 h dX2_marketsWith_52 (pc := 52) (by decide) rfl ?_
                refine e_goto h dX2_marketsWith_55 (pc := 55) (tgt := 27) (by decide) ?_
                rw [show ((t + 1 : Nat) : Int) + 1 = ((t + 1 + 1 : Nat) : Int) by omega]
                rw [show ((mw A B i n k + cnt (fun t => meetB (A (t + 1)) (B k (t + 1))) t : Nat) : Int) + 1 = ((mw A B i n k + cnt (fun t => meetB (A (t + 1)) (B k (t + 1))) (t + 1) : Nat) : Int) by omega]
                exact ih2 (t + 1) (by omega) (by omega) hne
              · have eqm : cnt (fun t => meetB (A (t + 1)) (B k (t + 1))) (t + 1) = cnt (fun t => meetB (A (t + 1)) (B k (t + 1))) t := by
                  show _ + (if _ then 1 else 0) = _
                  rw [if_neg (show ¬ meetB (A (t + 1)) (B k (t + 1)) = true by rw [meetB_f (by omega)]; decide)]
                  rfl
                refine e_if_eq h (tgt := 52) dX2_marketsWith_46 (pc := 46) (by decide) (by decide) (fun _ => ?_) (fun hz => absurd hz (by decide))
                refine e_iinc6 h dX2_marketsWith_52 (pc := 52) (by decide) rfl ?_
                refine e_goto h dX2_marketsWith_55 (pc := 55) (tgt := 27) (by decide) ?_
                rw [show ((t + 1 : Nat) : Int) + 1 = ((t + 1 + 1 : Nat) : Int) by omega]
                rw [show ((mw A B i n k + cnt (fun t => meetB (A (t + 1)) (B k (t + 1))) t : Nat) : Int) = ((mw A B i n k + cnt (fun t => meetB (A (t + 1)) (B k (t + 1))) (t + 1) : Nat) : Int) by omega]
                exact ih2 (t + 1) (by omega) (by omega) hne
        refine e_iload h dX2_marketsWith_15 (pc := 15) rfl ?_
        refine e_iload_n h dX2_marketsWith_17 (pc := 17) rfl ?_
        refine e_icmp_ne h (tgt := 24) dX2_marketsWith_18 (pc := 18) (by decide) (by omega) (by omega) (fun hb18 => ?_) (fun hb18 => ?_)
        · refine e_iconst h dX2_marketsWith_24 (pc := 24)  ?_
          refine e_istore6 h dX2_marketsWith_25 (pc := 25) (by decide) rfl ?_
          exact inner (n + 1) 0 (by omega) (by omega) (by omega)
        · refine e_goto h dX2_marketsWith_21 (pc := 21) (tgt := 58) (by decide) ?_
          have emw : mw A B i n (k + 1) = mw A B i n k := by
            show mw A B i n k + (if _ then 0 else dm A (B k) n) = _
            rw [if_pos (by omega)]
            rfl
          rw [← emw]
          exact step58
  refine e_iconst h dX2_marketsWith_0 (pc := 0)  ?_
  refine e_istore4 h dX2_marketsWith_1 (pc := 1) (by decide) rfl ?_
  refine e_iconst h dX2_marketsWith_3 (pc := 3)  ?_
  refine e_istore5 h dX2_marketsWith_4 (pc := 4) (by decide) rfl ?_
  exact loop (T + 1) 0 (by omega) (by omega)
set_option maxRecDepth 100000 in
set_option maxHeartbeats 4000000 in
theorem c_allMarkets {gg : GT} {ad : Nat → Nat} {N : Nat} {M : Mem} {Post : Option AV → Mem → Prop} {f n T : Nat} {B : Nat → TJ}  {xn : Int} (hxn : xn = (n : Int))  (hf : IsF f N) (hT : M f 1 = T) (hT6 : T ≤ 6) (hB : ∀ j, j < T → TR (B j) M (f + 2 + 4 * j)) (hn : n ≤ 60) (K : Post (some (vi ((am B n T T / 2 : Nat) : Int))) M) : Sp gg yX2_allMarkets cX2_allMarkets 4 (some .int) rmX2_allMarkets [vr f, vi xn] ad N pT M Post := by
  refine Sp.intro (ls := [some (vr f), some (vi xn), none, none]) (by decide +kernel) rfl (Nat.le_of_ble_eq_true rfl) fun κ hgg h hr ha => ?_
  have h : Ok κ RX2 cX2_allMarkets 4 rmX2_allMarkets := h
  subst hgg
  subst hxn
  have loop : ∀ (n1 k : Nat), k ≤ T → T < k + n1 → E κ ad N pT M 4 [some (vr f), some (vi (n : Int)), some (vi ((am B n T k : Nat) : Int)), some (vi (k : Int))] [] (0, 0) (QR κ ad N pT Post) := by
    intro n1
    induction n1 with
    | zero => intro k h1 h2; exact absurd h2 (by omega)
    | succ n1 ih =>
      intro k hk hn1
      have hal := am_le (B := B) (n := n) (T := T) k
      have hal2 : n * T * k ≤ 60 * 6 * 6 := Nat.mul_le_mul (Nat.mul_le_mul hn hT6) (by omega)
      refine e_iload_n h dX2_allMarkets_4 (pc := 4) rfl ?_
      refine e_aload_n h dX2_allMarkets_5 (pc := 5) rfl ?_
      refine e_getI h fl_X2_24 dX2_allMarkets_6 (pc := 6) hf.c0 hf.p0 (by decide) ?_
      refine e_icmp_ge h (tgt := 33) dX2_allMarkets_9 (pc := 9) (by decide) (by omega) (by omega) (fun hb9 => ?_) (fun hb9 => ?_)
      · refine e_iload_n h dX2_allMarkets_33 (pc := 33) rfl ?_
        refine e_iconst h dX2_allMarkets_34 (pc := 34)  ?_
        refine e_idiv h dX2_allMarkets_35 (pc := 35) (by omega) (by decide) ?_
        refine e_iret h hr ha dX2_allMarkets_36 (pc := 36) ?_
        have hk2 : k = T := by omega
        subst hk2
        exact K
      · obtain ⟨o, hoe⟩ : ∃ o, o = f + 2 + 4 * k := ⟨_, rfl⟩
        have ho : IsC o N := hoe ▸ hf.co (by omega)
        have hB2 := hB k (by omega)
        rw [← hoe] at hB2
        refine e_iload_n h dX2_allMarkets_12 (pc := 12) rfl ?_
        refine e_aload_n h dX2_allMarkets_13 (pc := 13) rfl ?_
        refine e_aload_n h dX2_allMarkets_14 (pc := 14) rfl ?_
        refine e_getC h fl_X2_11 dX2_allMarkets_15 (pc := 15) hf.c0 hf.p0 rfl rfl (r := (f + 1)) (pcr_d (by rw [hf.c0]; decide) 0) ?_
        refine e_iload_n h dX2_allMarkets_18 (pc := 18) rfl ?_
        refine e_aald3 h dX2_allMarkets_19 (pc := 19) hf.c1 hf.p1 rfl (by rw [hf.l1]; omega) rfl (r := o) (by rw [pcr_103 hf.c1, hoe]) ?_
        refine e_iload_n h dX2_allMarkets_20 (pc := 20) rfl ?_
        refine e_iload_n h dX2_allMarkets_21 (pc := 21) rfl ?_
        refine e_callV3 lk_X2_46 mv_X2_marketsWith dX2_allMarkets_22 (pc := 22) (by rw [hf.c0]; rfl) (by rw [hf.c0]; decide) hf.p0 (Nat.le_of_ble_eq_true rfl) (rmY := rmX2_marketsWith) (by decide) h ?_
        refine c_marketsWith (i := k) (n := n) (T := T) (A := B k) (B := B) rfl rfl hf ho hT hT6 hB2 hB (by omega) hn ?_
        refine e_iadd h dX2_allMarkets_25 (pc := 25)  ?_
        refine e_istore2 h dX2_allMarkets_26 (pc := 26) (by decide) rfl ?_
        refine e_iinc3 h dX2_allMarkets_27 (pc := 27) (by decide) rfl ?_
        refine e_goto h dX2_allMarkets_30 (pc := 30) (tgt := 4) (by decide) ?_
        rw [show (k : Int) + 1 = ((k + 1 : Nat) : Int) by omega]
        rw [show ((am B n T k : Nat) : Int) + ((mw (B k) B k n T : Nat) : Int) = ((am B n T (k + 1) : Nat) : Int) from (Int.natCast_add _ _).symm]
        exact ih (k + 1) (by omega) (by omega)
  refine e_iconst h dX2_allMarkets_0 (pc := 0)  ?_
  refine e_istore2 h dX2_allMarkets_1 (pc := 1) (by decide) rfl ?_
  refine e_iconst h dX2_allMarkets_2 (pc := 2)  ?_
  refine e_istore3 h dX2_allMarkets_3 (pc := 3) (by decide) rfl ?_
  exact loop (T + 1) 0 (by omega) (by omega)
/-- how many of the first k towns are lost by day 60 -/
def lostN (L : Nat → Int) : Nat → Nat := cnt (fun i => L i != -4)
set_option maxRecDepth 100000 in
set_option maxHeartbeats 4000000 in
theorem c_lostTowns {gg : GT} {ad : Nat → Nat} {N : Nat} {M : Mem} {Post : Option AV → Mem → Prop} {f T : Nat} {L : Nat → Int}   (hf : IsF f N) (hT : M f 1 = T) (hT6 : T ≤ 6) (hL : ∀ j, j < T → M (f + 2 + 4 * j) 3 = L j ∧ -4 ≤ L j ∧ L j ≤ 60) (K : Post (some (vi ((lostN L T : Nat) : Int))) M) : Sp gg yX2_lostTowns cX2_lostTowns 3 (some .int) rmX2_lostTowns [vr f] ad N pT M Post := by
  refine Sp.intro (ls := [some (vr f), none, none]) (by decide +kernel) rfl (Nat.le_of_ble_eq_true rfl) fun κ hgg h hr ha => ?_
  have h : Ok κ RX2 cX2_lostTowns 3 rmX2_lostTowns := h
  subst hgg
  have loop : ∀ (n1 k : Nat), k ≤ T → T < k + n1 → E κ ad N pT M 4 [some (vr f), some (vi ((lostN L k : Nat) : Int)), some (vi (k : Int))] [] (0, 0) (QR κ ad N pT Post) := by
    intro n1
    induction n1 with
    | zero => intro k h1 h2; exact absurd h2 (by omega)
    | succ n1 ih =>
      intro k hk hn1
      refine e_iload_n h dX2_lostTowns_4 (pc := 4) rfl ?_
      refine e_aload_n h dX2_lostTowns_5 (pc := 5) rfl ?_
      refine e_getI h fl_X2_24 dX2_lostTowns_6 (pc := 6) hf.c0 hf.p0 (by decide) ?_
      refine e_icmp_ge h (tgt := 35) dX2_lostTowns_9 (pc := 9) (by decide) (by omega) (by omega) (fun hb9 => ?_) (fun hb9 => ?_)
      · refine e_iload_n h dX2_lostTowns_35 (pc := 35) rfl ?_
        refine e_iret h hr ha dX2_lostTowns_36 (pc := 36) ?_
        have hk2 : k = T := by omega
        subst hk2
        exact K
      · obtain ⟨o, hoe⟩ : ∃ o, o = f + 2 + 4 * k := ⟨_, rfl⟩
        have ho : IsC o N := hoe ▸ hf.co (by omega)
        have hL2 := hL k (by omega)
        rw [← hoe] at hL2
        refine e_aload_n h dX2_lostTowns_12 (pc := 12) rfl ?_
        refine e_getC h fl_X2_11 dX2_lostTowns_13 (pc := 13) hf.c0 hf.p0 rfl rfl (r := (f + 1)) (pcr_d (by rw [hf.c0]; decide) 0) ?_
        refine e_iload_n h dX2_lostTowns_16 (pc := 16) rfl ?_
        refine e_aald3 h dX2_lostTowns_17 (pc := 17) hf.c1 hf.p1 rfl (by rw [hf.l1]; omega) rfl (r := o) (by rw [pcr_103 hf.c1, hoe]) ?_
        refine e_getI h fl_X2_54 dX2_lostTowns_18 (pc := 18) ho.c0 ho.p0 (by decide) ?_
        refine e_bipush h dX2_lostTowns_21 (pc := 21) (by decide +kernel) ?_
        refine e_icmp_eq h (tgt := 29) dX2_lostTowns_23 (pc := 23) (by decide) (by omega) (by decide) (fun hb23 => ?_) (fun hb23 => ?_)
        · refine e_iinc2 h dX2_lostTowns_29 (pc := 29) (by decide) rfl ?_
          refine e_goto h dX2_lostTowns_32 (pc := 32) (tgt := 4) (by decide) ?_
          rw [show (k : Int) + 1 = ((k + 1 : Nat) : Int) by omega]
          have eqm : lostN L (k + 1) = lostN L k := by
            show _ + (if _ then 1 else 0) = _
            rw [if_neg (by simp; omega)]
            rfl
          rw [← eqm]
          exact ih (k + 1) (by omega) (by omega)
        · refine e_iinc1 h dX2_lostTowns_26 (pc := 26) (by decide) rfl ?_
          refine e_iinc2 h dX2_lostTowns_29 (pc := 29) (by decide) rfl ?_
          refine e_goto h dX2_lostTowns_32 (pc := 32) (tgt := 4) (by decide) ?_
          rw [show (k : Int) + 1 = ((k + 1 : Nat) : Int) by omega]
          have eqm : lostN L (k + 1) = lostN L k + 1 := by
            show _ + (if _ then 1 else 0) = _
            rw [if_pos (by simp; omega)]
            rfl
          rw [show ((lostN L k : Nat) : Int) + 1 = ((lostN L (k + 1) : Nat) : Int) by omega]
          exact ih (k + 1) (by omega) (by omega)
  refine e_iconst h dX2_lostTowns_0 (pc := 0)  ?_
  refine e_istore1 h dX2_lostTowns_1 (pc := 1) (by decide) rfl ?_
  refine e_iconst h dX2_lostTowns_2 (pc := 2)  ?_
  refine e_istore2 h dX2_lostTowns_3 (pc := 3) (by decide) rfl ?_
  exact loop (T + 1) 0 (by omega) (by omega)
