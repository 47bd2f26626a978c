def p1 (B : Nat → TJ) (t i : Nat) : Nat → Nat
  | 0 => 0
  | j + 1 => p1 B t i j + if meetB (B i t) (B j t) = true then 1 else 0
def p2 (B : Nat → TJ) (t : Nat) : Nat → Nat
  | 0 => 0
  | i + 1 => p2 B t i + p1 B t i i
def mt (B : Nat → TJ) (T : Nat) : Nat → Nat
  | 0 => 0
  | n + 1 => mt B T n + p2 B (n + 1) T
def t1 (B : Nat → TJ) (t i : Nat) : Nat → Nat
  | 0 => 0
  | j + 1 => t1 B t i j + if j ≠ i ∧ meetB (B i t) (B j t) = true then 1 else 0
def t2 (B : Nat → TJ) (i T : Nat) : Nat → Nat
  | 0 => 0
  | n + 1 => t2 B i T n + t1 B (n + 1) i T
theorem p1_y {B : Nat → TJ} {t i j : Nat} (h : meetB (B i t) (B j t) = true) : p1 B t i (j + 1) = p1 B t i j + 1 := by show _ + (if _ then _ else _) = _; rw [if_pos h]
theorem p1_n {B : Nat → TJ} {t i j : Nat} (h : ¬ meetB (B i t) (B j t) = true) : p1 B t i (j + 1) = p1 B t i j + 0 := by show _ + (if _ then _ else _) = _; rw [if_neg h]
theorem t1_y {B : Nat → TJ} {t i j : Nat} (h : j ≠ i ∧ meetB (B i t) (B j t) = true) : t1 B t i (j + 1) = t1 B t i j + 1 := by show _ + (if _ then _ else _) = _; rw [if_pos h]
theorem t1_n {B : Nat → TJ} {t i j : Nat} (h : ¬ (j ≠ i ∧ meetB (B i t) (B j t) = true)) : t1 B t i (j + 1) = t1 B t i j + 0 := by show _ + (if _ then _ else _) = _; rw [if_neg h]
set_option maxRecDepth 100000 in
set_option maxHeartbeats 4000000 in
theorem m_pairs {gg : GT} {ad : Nat → Nat} {N : Nat} {M : Mem} {Post : Option AV → Mem → Prop} {n : Nat} {b : TB} {S O : SD} {h0 : Nat} {f g : Nat → Int} {z : Nat} {K : Nat → SD} {t : Nat}   (hN : 139 ≤ N) (hR : RepM n b S O h0 f g z K M) (hG : MG S O t M) (Kp : Post (some (vi ((p2 (fun i => cs S O i) t (sT S) : Nat) : Int))) M) : Sp gg yX11_pairs cX11_pairs 4 (some .int) rmX11_pairs [vr 110] ad N pT M Post := by
  refine Sp.intro (ls := [some (vr 110), none, none, none]) (by decide +kernel) rfl (Nat.le_of_ble_eq_true rfl) fun κ hgg h hr ha => ?_
  have h : Ok κ RX11 cX11_pairs 4 rmX11_pairs := h
  subst hgg
  have hwL := hR.ws.1
  have hwT := hR.ws.2.1
  have hwB := hR.ws.2.2.1
  have w4 := hR.ws.2.2.2.1
  have w5 := hR.ws.2.2.2.2.1
  have r9 := hR.ms.1
  have r10 := hR.ms.2.1
  have r11 := hR.ms.2.2.1
  have loop : ∀ (m0 i : Nat), i ≤ sT S → sT S < i + m0 → E κ ad N pT M 4 [some (vr 110), some (vi ((p2 (fun i => cs S O i) t i : Nat) : Int)), some (vi (i : Int)), none] [] (0, 0) (QR κ ad N pT Post) := by
    intro m0
    induction m0 with
    | zero => intro i h1 h2; exact absurd h2 (by omega)
    | succ m0 ih =>
      intro i hi0 hm0
      by_cases hi : i < sT S
      · have inner : ∀ (m2 j : Nat), j ≤ i → i < j + m2 → E κ ad N pT M 16 [some (vr 110), some (vi ((p2 (fun i => cs S O i) t i + p1 (fun i => cs S O i) t i j : Nat) : Int)), some (vi (i : Int)), some (vi (j : Int))] [] (0, 0) (QR κ ad N pT Post) := by
          intro m2
          induction m2 with
          | zero => intro j h1 h2; exact absurd h2 (by omega)
          | succ m2 ih2 =>
            intro j hji0 hm2
            refine e_iload_n h dX11_pairs_16 (pc := 16) rfl ?_
            refine e_iload_n h dX11_pairs_17 (pc := 17) rfl ?_
            refine e_icmp_ge h (tgt := 44) dX11_pairs_18 (pc := 18) (by decide) (by omega) (by omega) (fun hb18 => ?_) (fun hb18 => ?_)
            · refine e_iinc2 h dX11_pairs_44 (pc := 44) (by decide) rfl ?_
              refine e_goto h dX11_pairs_47 (pc := 47) (tgt := 4) (by decide) ?_
              have hji : j = i := by omega
              rw [hji, show (i : Int) + 1 = ((i + 1 : Nat) : Int) by omega]
              refine e_fgt (ls2 := [some (vr 110), some (vi ((p2 (fun i => cs S O i) t (i + 1) : Nat) : Int)), some (vi ((i + 1 : Nat) : Int)), none]) ⟨Or.inr rfl, Or.inr rfl, Or.inr rfl, Or.inl rfl, trivial⟩ ?_
              exact ih (i + 1) (by omega) (by omega)
            · have hj : j < sT S := by omega
              refine e_iload_n h dX11_pairs_21 (pc := 21) rfl ?_
              refine e_aload_n h dX11_pairs_22 (pc := 22) rfl ?_
              refine e_iload_n h dX11_pairs_23 (pc := 23) rfl ?_
              refine e_iload_n h dX11_pairs_24 (pc := 24) rfl ?_
              refine e_callV2 lk_X11_176 mv_X11_areTogether dX11_pairs_25 (pc := 25) rfl (by decide) (Nat.lt_of_lt_of_le (by decide) hN) (Nat.le_of_ble_eq_true rfl) (rmY := rmX11_areTogether) (by decide) h ?_
              have ci : ((cs S O i t).1 < sL S ∨ (cs S O i t).1 = 9) ∧ (cs S O i t).2.1 ≤ 23 := by have z := crs_wf (S := S) (O := O) (i := i) (w5 i hi).1 (w5 i hi).2.1 (hR.wo.2.2 i hi) (t); exact ⟨z.1, z.2.1⟩
              have gi := hG.2 i hi
              have cj : ((cs S O j t).1 < sL S ∨ (cs S O j t).1 = 9) ∧ (cs S O j t).2.1 ≤ 23 := by have z := crs_wf (S := S) (O := O) (i := j) (w5 j hj).1 (w5 j hj).2.1 (hR.wo.2.2 j hj) (t); exact ⟨z.1, z.2.1⟩
              have gj := hG.2 j hj
              refine m_areTogether (i := i) (j := j) rfl rfl hN (by omega) (by omega) (by omega) (by omega) (by omega) (by omega) (fun hm => ?_) (fun hm => ?_)
              · have hmt : meetB (cs S O i (t)) (cs S O j (t)) = true := meetB_iff.2 ⟨by omega, by omega, by omega⟩
                refine e_if_eq h (tgt := 35) dX11_pairs_28 (pc := 28) (by decide) (by decide) (fun hz => absurd hz (by decide)) (fun _ => ?_)
                refine e_iconst h dX11_pairs_31 (pc := 31)  ?_
                refine e_goto h dX11_pairs_32 (pc := 32) (tgt := 36) (by decide) ?_
                refine e_iadd h dX11_pairs_36 (pc := 36)  ?_
                refine e_istore1 h dX11_pairs_37 (pc := 37) (by decide) rfl ?_
                refine e_iinc3 h dX11_pairs_38 (pc := 38) (by decide) rfl ?_
                refine e_goto h dX11_pairs_41 (pc := 41) (tgt := 16) (by decide) ?_
                rw [show ((p2 (fun i => cs S O i) t i + p1 (fun i => cs S O i) t i j : Nat) : Int) + 1 = ((p2 (fun i => cs S O i) t i + p1 (fun i => cs S O i) t i (j + 1) : Nat) : Int) by rw [p1_y (B := (fun i => cs S O i)) hmt]; omega, show (j : Int) + 1 = ((j + 1 : Nat) : Int) by omega]
                exact ih2 (j + 1) (by omega) (by omega)
              · have hmt : ¬ meetB (cs S O i (t)) (cs S O j (t)) = true := fun q => by have u := meetB_iff.1 q; exact hm ⟨by omega, by omega, by omega⟩
                refine e_if_eq h (tgt := 35) dX11_pairs_28 (pc := 28) (by decide) (by decide) (fun _ => ?_) (fun hz => absurd hz (by decide))
                refine e_iconst h dX11_pairs_35 (pc := 35)  ?_
                refine e_iadd h dX11_pairs_36 (pc := 36)  ?_
                refine e_istore1 h dX11_pairs_37 (pc := 37) (by decide) rfl ?_
                refine e_iinc3 h dX11_pairs_38 (pc := 38) (by decide) rfl ?_
                refine e_goto h dX11_pairs_41 (pc := 41) (tgt := 16) (by decide) ?_
                rw [show ((p2 (fun i => cs S O i) t i + p1 (fun i => cs S O i) t i j : Nat) : Int) + 0 = ((p2 (fun i => cs S O i) t i + p1 (fun i => cs S O i) t i (j + 1) : Nat) : Int) by rw [p1_n (B := (fun i => cs S O i)) hmt]; omega, show (j : Int) + 1 = ((j + 1 : Nat) : Int) by omega]
                exact ih2 (j + 1) (by omega) (by omega)
        refine e_iload_n h dX11_pairs_4 (pc := 4) rfl ?_
        refine e_aload_n h dX11_pairs_5 (pc := 5) rfl ?_
        refine e_getC h fl_X11_22 dX11_pairs_6 (pc := 6) rfl (Nat.lt_of_lt_of_le (by decide) hN) rfl rfl (r := 115) rfl ?_
        refine e_iconst h dX11_pairs_9 (pc := 9)  ?_
        refine e_iald h dX11_pairs_10 (pc := 10) rfl (Nat.lt_of_lt_of_le (by decide) hN) (j := 0) rfl (by decide) ?_
        refine e_icmp_ge h (tgt := 50) dX11_pairs_11 (pc := 11) (by decide) (by omega) (by omega) (fun hb11 => absurd hb11 (by omega)) (fun hb11 => ?_)
        refine e_iconst h dX11_pairs_14 (pc := 14)  ?_
        refine e_istore3 h dX11_pairs_15 (pc := 15) (by decide) rfl ?_
        exact inner (i + 1) 0 (by omega) (by omega)
      · have hiT : i = sT S := by omega
        refine e_iload_n h dX11_pairs_4 (pc := 4) rfl ?_
        refine e_aload_n h dX11_pairs_5 (pc := 5) rfl ?_
        refine e_getC h fl_X11_22 dX11_pairs_6 (pc := 6) rfl (Nat.lt_of_lt_of_le (by decide) hN) rfl rfl (r := 115) rfl ?_
        refine e_iconst h dX11_pairs_9 (pc := 9)  ?_
        refine e_iald h dX11_pairs_10 (pc := 10) rfl (Nat.lt_of_lt_of_le (by decide) hN) (j := 0) rfl (by decide) ?_
        refine e_icmp_ge h (tgt := 50) dX11_pairs_11 (pc := 11) (by decide) (by omega) (by omega) (fun hb11 => ?_) (fun hb11 => absurd hb11 (by omega))
        refine e_iload_n h dX11_pairs_50 (pc := 50) rfl ?_
        refine e_iret h hr ha dX11_pairs_51 (pc := 51) ?_
        rw [hiT]
        exact Kp
  refine e_iconst h dX11_pairs_0 (pc := 0)  ?_
  refine e_istore1 h dX11_pairs_1 (pc := 1) (by decide) rfl ?_
  refine e_iconst h dX11_pairs_2 (pc := 2)  ?_
  refine e_istore2 h dX11_pairs_3 (pc := 3) (by decide) rfl ?_
  exact loop (sT S + 1) 0 (by omega) (by omega)
set_option maxRecDepth 100000 in
set_option maxHeartbeats 4000000 in
theorem m_marketsTo {gg : GT} {ad : Nat → Nat} {N : Nat} {M : Mem} {Post : Option AV → Mem → Prop} {n : Nat} {b : TB} {S O : SD} {h0 : Nat} {f g : Nat → Int} {z : Nat} {K : Nat → SD} {t : Nat}  {xt : Int} (hxt : xt = (t : Int))  (hN : 139 ≤ N) (hR : RepM n b S O h0 f g z K M) (ht : t ≤ 60) (Kmt : ∀ M2 : Mem, MG S O t M2 → RepM n b S O h0 f g z K M2 → (∀ q j, (q ≠ 130 ∧ q ≠ 131 ∧ q ≠ 132 ∧ q ≠ 133 ∧ (q ≠ 110 ∨ j ≠ 27)) → M2 q j = M q j) → Post (some (vi ((mt (fun i => cs S O i) (sT S) t : Nat) : Int))) M2) : Sp gg yX11_marketsTo cX11_marketsTo 3 (some .int) rmX11_marketsTo [vr 110, vi xt] ad N pT M Post := by
  refine Sp.intro (ls := [some (vr 110), some (vi xt), none]) (by decide +kernel) rfl (Nat.le_of_ble_eq_true rfl) fun κ hgg h hr ha => ?_
  have h : Ok κ RX11 cX11_marketsTo 3 rmX11_marketsTo := h
  subst hgg
  subst hxt
  have hwL := hR.ws.1
  have hwT := hR.ws.2.1
  have hwB := hR.ws.2.2.1
  have w4 := hR.ws.2.2.2.1
  have w5 := hR.ws.2.2.2.2.1
  have r9 := hR.ms.1
  have r10 := hR.ms.2.1
  have r11 := hR.ms.2.2.1
  have loop : ∀ (m0 d : Nat) (M1 : Mem), d + m0 = t → MG S O d M1 → RepM n b S O h0 f g z K M1 → (∀ q j, (q ≠ 130 ∧ q ≠ 131 ∧ q ≠ 132 ∧ q ≠ 133 ∧ (q ≠ 110 ∨ j ≠ 27)) → M1 q j = M q j) → E κ ad N pT M1 6 [some (vr 110), some (vi (t : Int)), some (vi ((mt (fun i => cs S O i) (sT S) d : Nat) : Int))] [] (0, 0) (QR κ ad N pT Post) := by
    intro m0
    induction m0 with
    | zero =>
      intro d M1 hdn hG1 hR1 hf1
      have h27 := hG1.1
      refine e_aload_n h dX11_marketsTo_6 (pc := 6) rfl ?_
      refine e_getI h fl_X11_159 dX11_marketsTo_7 (pc := 7) rfl (Nat.lt_of_lt_of_le (by decide) hN) (by decide) ?_
      refine e_iload_n h dX11_marketsTo_10 (pc := 10) rfl ?_
      refine e_icmp_ge h (tgt := 28) dX11_marketsTo_11 (pc := 11) (by decide) (by omega) (by omega) (fun hb11 => ?_) (fun hb11 => absurd hb11 (by omega))
      refine e_iload_n h dX11_marketsTo_28 (pc := 28) rfl ?_
      refine e_iret h hr ha dX11_marketsTo_29 (pc := 29) ?_
      have hdt : d = t := by omega
      subst hdt
      exact Kmt M1 hG1 hR1 hf1
    | succ m0 ih =>
      intro d M1 hdn hG1 hR1 hf1
      have h27 := hG1.1
      refine e_aload_n h dX11_marketsTo_6 (pc := 6) rfl ?_
      refine e_getI h fl_X11_159 dX11_marketsTo_7 (pc := 7) rfl (Nat.lt_of_lt_of_le (by decide) hN) (by decide) ?_
      refine e_iload_n h dX11_marketsTo_10 (pc := 10) rfl ?_
      refine e_icmp_ge h (tgt := 28) dX11_marketsTo_11 (pc := 11) (by decide) (by omega) (by omega) (fun hb11 => absurd hb11 (by omega)) (fun hb11 => ?_)
      refine e_aload_n h dX11_marketsTo_14 (pc := 14) rfl ?_
      refine e_callV0 lk_X11_173 mv_X11_goDay dX11_marketsTo_15 (pc := 15) rfl (by decide) (Nat.lt_of_lt_of_le (by decide) hN) (Nat.le_of_ble_eq_true rfl) (rmY := rmX11_goDay) (by decide) h ?_
      refine m_goDay hN hR1 hG1 (by omega) (fun M2 hG2 hR2 hf2 => ?_)
      refine e_iload_n h dX11_marketsTo_18 (pc := 18) rfl ?_
      refine e_aload_n h dX11_marketsTo_19 (pc := 19) rfl ?_
      refine e_callV0 lk_X11_187 mv_X11_pairs dX11_marketsTo_20 (pc := 20) rfl (by decide) (Nat.lt_of_lt_of_le (by decide) hN) (Nat.le_of_ble_eq_true rfl) (rmY := rmX11_pairs) (by decide) h ?_
      refine m_pairs hN hR2 hG2 ?_
      refine e_iadd h dX11_marketsTo_23 (pc := 23)  ?_
      refine e_istore2 h dX11_marketsTo_24 (pc := 24) (by decide) rfl ?_
      refine e_goto h dX11_marketsTo_25 (pc := 25) (tgt := 6) (by decide) ?_
      rw [show ((mt (fun i => cs S O i) (sT S) d : Nat) : Int) + ((p2 (fun i => cs S O i) (d + 1) (sT S) : Nat) : Int) = ((mt (fun i => cs S O i) (sT S) (d + 1) : Nat) : Int) from (Int.natCast_add _ _).symm]
      exact ih (d + 1) M2 (by omega) hG2 hR2 (fun q j hq => by rw [hf2 q j hq]; exact hf1 q j hq)
  refine e_aload_n h dX11_marketsTo_0 (pc := 0) rfl ?_
  refine e_callV0 lk_X11_170 mv_X11_begin dX11_marketsTo_1 (pc := 1) rfl (by decide) (Nat.lt_of_lt_of_le (by decide) hN) (Nat.le_of_ble_eq_true rfl) (rmY := rmX11_begin) (by decide) h ?_
  refine m_begin hN (fun M0 b1 b2 b3 => ?_)
  refine e_iconst h dX11_marketsTo_4 (pc := 4)  ?_
  refine e_istore2 h dX11_marketsTo_5 (pc := 5) (by decide) rfl ?_
  exact loop t 0 M0 (by omega) (MG_0 hR b1 b2) (hR.go (fun q j hq => b3 q j (by omega))) (fun q j hq => b3 q j (by omega))
set_option maxRecDepth 100000 in
set_option maxHeartbeats 4000000 in
theorem m_markets {gg : GT} {ad : Nat → Nat} {N : Nat} {M : Mem} {Post : Option AV → Mem → Prop} {n : Nat} {b : TB} {S O : SD} {h0 : Nat} {f g : Nat → Int} {z : Nat} {K : Nat → SD} {x : Int}   (hN : 139 ≤ N) (hR : RepM n b S O h0 f g z K M) (hxx : (-2147483648 ≤ x ∧ x ≤ 2147483647)) (kb : ¬ (1 ≤ x ∧ x ≤ 60) → Post (some (vi (-1))) M) (kt : ∀ (n1 : Nat) (M2 : Mem) (v : Int), x = (n1 : Int) → 1 ≤ n1 ∧ n1 ≤ 60 → v = ((mt (fun i => cs S O i) (sT S) n1 : Nat) : Int) → RepM n b S O h0 f g z K M2 → (∀ p, p < 110 → M2 p = M p) → Post (some (vi v)) M2) : Sp gg yX11_markets cX11_markets 2 (some .int) rmX11_markets [vr 110, vi x] ad N pT M Post := by
  refine Sp.intro (ls := [some (vr 110), some (vi x)]) (by decide +kernel) rfl (Nat.le_of_ble_eq_true rfl) fun κ hgg h hr ha => ?_
  have h : Ok κ RX11 cX11_markets 2 rmX11_markets := h
  subst hgg
  have hwL := hR.ws.1
  have hwT := hR.ws.2.1
  have hwB := hR.ws.2.2.1
  have w4 := hR.ws.2.2.2.1
  have w5 := hR.ws.2.2.2.2.1
  have r9 := hR.ms.1
  have r10 := hR.ms.2.1
  have r11 := hR.ms.2.2.1
  refine e_iload_n h dX11_markets_0 (pc := 0) rfl ?_
  refine e_i2l h dX11_markets_1 (pc := 1) (by omega) ?_
  refine e_lconst h dX11_markets_2 (pc := 2) (x := 1) rfl ?_
  refine e_ldc2 h dX11_markets_3 (pc := 3) (x := 60) kl_X11_130 rfl ?_
  refine e_callS3 lk_X11_97 ms_X11_in dX11_markets_6 (pc := 6) (Nat.le_of_ble_eq_true rfl) (rmY := rmX11_in) (by decide) h ?_
  refine c_in (by omega) (by omega) (by omega) (fun hzx => ?_) (fun hzx => ?_)
  · obtain ⟨t, rfl⟩ : ∃ kk : Nat, x = (kk : Int) := ⟨x.toNat, by omega⟩
    refine e_if_eq h (tgt := 20) dX11_markets_9 (pc := 9) (by decide) (by decide) (fun hz => absurd hz (by decide)) (fun _ => ?_)
    refine e_aload_n h dX11_markets_12 (pc := 12) rfl ?_
    refine e_iload_n h dX11_markets_13 (pc := 13) rfl ?_
    refine e_callV1 lk_X11_190 mv_X11_marketsTo dX11_markets_14 (pc := 14) rfl (by decide) (Nat.lt_of_lt_of_le (by decide) hN) (Nat.le_of_ble_eq_true rfl) (rmY := rmX11_marketsTo) (by decide) h ?_
    refine m_marketsTo rfl hN hR (by omega) (fun M2 hG2 hR2 hf2 => ?_)
    refine e_goto h dX11_markets_17 (pc := 17) (tgt := 21) (by decide) ?_
    refine e_iret h hr ha dX11_markets_21 (pc := 21) ?_
    exact kt t M2 _ rfl (by omega) rfl hR2 (fun p hp => by funext j; exact hf2 p j (by omega))
  · skip
    refine e_if_eq h (tgt := 20) dX11_markets_9 (pc := 9) (by decide) (by decide) (fun _ => ?_) (fun hz => absurd hz (by decide))
    refine e_iconst h dX11_markets_20 (pc := 20)  ?_
    refine e_iret h hr ha dX11_markets_21 (pc := 21) ?_
    exact kb (by omega)
