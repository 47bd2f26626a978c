/-- the same storm, but for where its towns begin -/
def S45 (S S2 : SD) : Prop := ∀ f k, f ≠ 4 → f ≠ 5 → S2 f k = S f k
theorem hit_45 {S S2 : SD} (h : S45 S S2) {l d : Nat} : hit S2 l d = hit S l d := by
  have e : ∀ k, hitN S2 l d k = hitN S l d k := by
    intro k
    induction k with
    | zero => rfl
    | succ k ih =>
      show (hitN S2 l d k || (S2 9 k == l && S2 10 k == d)) = (hitN S l d k || (S 9 k == l && S 10 k == d))
      rw [ih, h 9 k (by decide) (by decide), h 10 k (by decide) (by decide)]
  show hitN S2 l d (S2 8 0) = hitN S l d (S 8 0)
  rw [h 8 0 (by decide) (by decide), e]
theorem gasL_45 {S S2 : SD} (h : S45 S S2) {i l d g : Nat} : gasL S2 i l d g = gasL S i l d g := by
  have e1 : sK S2 i = sK S i := h 7 i (by decide) (by decide)
  have e2 : sW S2 l = sW S l := h 2 l (by decide) (by decide)
  unfold gasL loss
  rw [hit_45 h, e1, e2]
theorem er_45 {S S2 O : SD} (h : S45 S S2) {i d : Nat} {c : Nat × Nat} : ∀ k, er S2 O i d k c = er S O i d k c
  | 0 => rfl
  | k + 1 => by
    have e1 : sL S2 = sL S := h 0 0 (by decide) (by decide)
    have e2 : sX S2 i = sX S i := h 6 i (by decide) (by decide)
    unfold er
    rw [er_45 h k, e1, e2]
theorem crs_45 {S S2 O : SD} (h : S45 S S2) {i l0 x0 : Nat} : ∀ d, crs S2 O i l0 x0 d = crs S O i l0 x0 d
  | 0 => rfl
  | d + 1 => by
    have e1 : ∀ l, sP S2 l = sP S l := fun l => h 1 l (by decide) (by decide)
    show stepC S2 O i (d + 1) (crs S2 O i l0 x0 d) = stepC S O i (d + 1) (crs S O i l0 x0 d)
    rw [crs_45 h d]
    unfold stepC
    simp only [er_45 h, e1, gasL_45 h]
theorem lst_45 {S S2 O : SD} (h : S45 S S2) {i l0 x0 : Nat} : ∀ d, lst S2 O i l0 x0 d = lst S O i l0 x0 d
  | 0 => rfl
  | d + 1 => by
    unfold lst
    rw [crs_45 h, crs_45 h, lst_45 h d]
theorem S45_up {S : SD} {f k x : Nat} (hf : f = 4 ∨ f = 5) : S45 S (upS S f k x) := fun f2 k2 h4 h5 => by
  unfold upS
  rw [if_neg (fun q => by omega)]
theorem S45.trans {S S2 S3 : SD} (h : S45 S S2) (k : S45 S2 S3) : S45 S S3 := fun f j h4 h5 => (k f j h4 h5).trans (h f j h4 h5)
set_option maxRecDepth 100000 in
set_option maxHeartbeats 4000000 in
theorem m_tradesOf {gg : GT} {ad : Nat → Nat} {N : Nat} {M : Mem} {Post : Option AV → Mem → Prop} {n : Nat} {b : TB} {S O : SD} {h0 : Nat} {f g : Nat → Int} {z : Nat} {K : Nat → SD} {i t : Nat}  {xi : Int} (hxi : xi = (i : Int)) {xt : Int} (hxt : xt = (t : Int))  (hN : 139 ≤ N) (hR : RepM n b S O h0 f g z K M) (hi : i < sT S) (ht : t ≤ 60) (Kto : ∀ M2 : Mem, MG S O t M2 → RepM n b S O h0 f g z K M2 → (∀ q j, (q ≠ 130 ∧ q ≠ 131 ∧ q ≠ 132 ∧ q ≠ 133 ∧ (q ≠ 110 ∨ j ≠ 27)) → M2 q j = M q j) → Post (some (vi ((t2 (fun i => cs S O i) i (sT S) t : Nat) : Int))) M2) : Sp gg yX11_tradesOf cX11_tradesOf 5 (some .int) rmX11_tradesOf [vr 110, vi xi, vi xt] ad N pT M Post := by
  refine Sp.intro (ls := [some (vr 110), some (vi xi), some (vi xt), none, none]) (by decide +kernel) rfl (Nat.le_of_ble_eq_true rfl) fun κ hgg h hr ha => ?_
  have h : Ok κ RX11 cX11_tradesOf 5 rmX11_tradesOf := h
  subst hgg
  subst hxi
  subst hxt
  have hwL := hR.ws.1
  have hwT := hR.ws.2.1
  have hwB := hR.ws.2.2.1
  have w4 := hR.ws.2.2.2.1
  have w5 := hR.ws.2.2.2.2.1
  have r9 := hR.ms.1
  have r10 := hR.ms.2.1
  have r11 := hR.ms.2.2.1
  have loop : ∀ (m0 d : Nat) (M1 : Mem), d + m0 = t → MG S O d M1 → RepM n b S O h0 f g z K M1 → (∀ q j, (q ≠ 130 ∧ q ≠ 131 ∧ q ≠ 132 ∧ q ≠ 133 ∧ (q ≠ 110 ∨ j ≠ 27)) → M1 q j = M q j) → E κ ad N pT M1 6 [some (vr 110), some (vi (i : Int)), some (vi (t : Int)), some (vi ((t2 (fun i => cs S O i) i (sT S) d : Nat) : Int)), none] [] (0, 0) (QR κ ad N pT Post) := by
    intro m0
    induction m0 with
    | zero =>
      intro d M1 hdn hG1 hR1 hf1
      have h27 := hG1.1
      refine e_aload_n h dX11_tradesOf_6 (pc := 6) rfl ?_
      refine e_getI h fl_X11_159 dX11_tradesOf_7 (pc := 7) rfl (Nat.lt_of_lt_of_le (by decide) hN) (by decide) ?_
      refine e_iload_n h dX11_tradesOf_10 (pc := 10) rfl ?_
      refine e_icmp_ge h (tgt := 65) dX11_tradesOf_11 (pc := 11) (by decide) (by omega) (by omega) (fun hb11 => ?_) (fun hb11 => absurd hb11 (by omega))
      refine e_iload_n h dX11_tradesOf_65 (pc := 65) rfl ?_
      refine e_iret h hr ha dX11_tradesOf_66 (pc := 66) ?_
      have hdt : d = t := by omega
      subst hdt
      exact Kto M1 hG1 hR1 hf1
    | succ m0 ih =>
      intro d M1 hdn hG1 hR1 hf1
      have h27 := hG1.1
      refine e_aload_n h dX11_tradesOf_6 (pc := 6) rfl ?_
      refine e_getI h fl_X11_159 dX11_tradesOf_7 (pc := 7) rfl (Nat.lt_of_lt_of_le (by decide) hN) (by decide) ?_
      refine e_iload_n h dX11_tradesOf_10 (pc := 10) rfl ?_
      refine e_icmp_ge h (tgt := 65) dX11_tradesOf_11 (pc := 11) (by decide) (by omega) (by omega) (fun hb11 => absurd hb11 (by omega)) (fun hb11 => ?_)
      refine e_aload_n h dX11_tradesOf_14 (pc := 14) rfl ?_
      refine e_callV0 lk_X11_173 mv_X11_goDay dX11_tradesOf_15 (pc := 15) rfl (by decide) (Nat.lt_of_lt_of_le (by decide) hN) (Nat.le_of_ble_eq_true rfl) (rmY := rmX11_goDay) (by decide) h ?_
      refine m_goDay hN hR1 hG1 (by omega) (fun M2 hG2 hR2 hf2 => ?_)
      have r102 : M2 115 0 = (sT S : Nat) := hR2.ms.2.1
      refine e_iconst h dX11_tradesOf_18 (pc := 18)  ?_
      refine e_istore4 h dX11_tradesOf_19 (pc := 19) (by decide) rfl ?_
      have inner : ∀ (m2 j : Nat), j ≤ sT S → sT S < j + m2 → E κ ad N pT M2 21 [some (vr 110), some (vi (i : Int)), some (vi (t : Int)), some (vi ((t2 (fun i => cs S O i) i (sT S) d + t1 (fun i => cs S O i) (d + 1) i j : Nat) : Int)), some (vi (j : Int))] [] (0, 0) (QR κ ad N pT Post) := by
        intro m2
        induction m2 with
        | zero => intro j h1 h2; exact absurd h2 (by omega)
        | succ m2 ih2 =>
          intro j hji0 hm2
          refine e_iload h dX11_tradesOf_21 (pc := 21) rfl ?_
          refine e_aload_n h dX11_tradesOf_23 (pc := 23) rfl ?_
          refine e_getC h fl_X11_22 dX11_tradesOf_24 (pc := 24) rfl (Nat.lt_of_lt_of_le (by decide) hN) rfl rfl (r := 115) rfl ?_
          refine e_iconst h dX11_tradesOf_27 (pc := 27)  ?_
          refine e_iald h dX11_tradesOf_28 (pc := 28) rfl (Nat.lt_of_lt_of_le (by decide) hN) (j := 0) rfl (by decide) ?_
          refine e_icmp_ge h (tgt := 62) dX11_tradesOf_29 (pc := 29) (by decide) (by omega) (by omega) (fun hb29 => ?_) (fun hb29 => ?_)
          · have hjT : j = sT S := by omega
            refine e_goto h dX11_tradesOf_62 (pc := 62) (tgt := 6) (by decide) ?_
            rw [hjT]
            rw [show ((t2 (fun i => cs S O i) i (sT S) d + t1 (fun i => cs S O i) (d + 1) i (sT S) : Nat) : Int) = ((t2 (fun i => cs S O i) i (sT S) (d + 1) : Nat) : Int) from rfl]
            refine e_fgt (ls2 := [some (vr 110), some (vi (i : Int)), some (vi (t : Int)), some (vi ((t2 (fun i => cs S O i) i (sT S) (d + 1) : Nat) : Int)), none]) ⟨Or.inr rfl, Or.inr rfl, Or.inr rfl, Or.inr rfl, Or.inl rfl, trivial⟩ ?_
            exact ih (d + 1) M2 (by omega) hG2 hR2 (fun q j hq => by rw [hf2 q j hq]; exact hf1 q j hq)
          · have hj : j < sT S := by omega
            refine e_iload_n h dX11_tradesOf_32 (pc := 32) rfl ?_
            refine e_iload h dX11_tradesOf_33 (pc := 33) rfl ?_
            refine e_iload_n h dX11_tradesOf_35 (pc := 35) rfl ?_
            refine e_icmp_eq h (tgt := 53) dX11_tradesOf_36 (pc := 36) (by decide) (by omega) (by omega) (fun hb36 => ?_) (fun hb36 => ?_)
            · refine e_iconst h dX11_tradesOf_53 (pc := 53)  ?_
              refine e_iadd h dX11_tradesOf_54 (pc := 54)  ?_
              refine e_istore3 h dX11_tradesOf_55 (pc := 55) (by decide) rfl ?_
              refine e_iinc4 h dX11_tradesOf_56 (pc := 56) (by decide) rfl ?_
              refine e_goto h dX11_tradesOf_59 (pc := 59) (tgt := 21) (by decide) ?_
              rw [show ((t2 (fun i => cs S O i) i (sT S) d + t1 (fun i => cs S O i) (d + 1) i j : Nat) : Int) + 0 = ((t2 (fun i => cs S O i) i (sT S) d + t1 (fun i => cs S O i) (d + 1) i (j + 1) : Nat) : Int) by rw [t1_n (B := (fun i => cs S O i)) (fun q => absurd q.1 (by omega))]; omega, show (j : Int) + 1 = ((j + 1 : Nat) : Int) by omega]
              exact ih2 (j + 1) (by omega) (by omega)
            · refine e_aload_n h dX11_tradesOf_39 (pc := 39) rfl ?_
              refine e_iload_n h dX11_tradesOf_40 (pc := 40) rfl ?_
              refine e_iload h dX11_tradesOf_41 (pc := 41) rfl ?_
              refine e_callV2 lk_X11_176 mv_X11_areTogether dX11_tradesOf_43 (pc := 43) rfl (by decide) (Nat.lt_of_lt_of_le (by decide) hN) (Nat.le_of_ble_eq_true rfl) (rmY := rmX11_areTogether) (by decide) h ?_
              have ci : ((cs S O i (d + 1)).1 < sL S ∨ (cs S O i (d + 1)).1 = 9) ∧ (cs S O i (d + 1)).2.1 ≤ 23 := by have z := crs_wf (S := S) (O := O) (i := i) (w5 i hi).1 (w5 i hi).2.1 (hR.wo.2.2 i hi) ((d + 1)); exact ⟨z.1, z.2.1⟩
              have gi := hG2.2 i hi
              have cj : ((cs S O j (d + 1)).1 < sL S ∨ (cs S O j (d + 1)).1 = 9) ∧ (cs S O j (d + 1)).2.1 ≤ 23 := by have z := crs_wf (S := S) (O := O) (i := j) (w5 j hj).1 (w5 j hj).2.1 (hR.wo.2.2 j hj) ((d + 1)); exact ⟨z.1, z.2.1⟩
              have gj := hG2.2 j hj
              refine m_areTogether (i := i) (j := j) rfl rfl hN (by omega) (by omega) (by omega) (by omega) (by omega) (by omega) (fun hm => ?_) (fun hm => ?_)
              · have hmt : meetB (cs S O i (d + 1)) (cs S O j (d + 1)) = true := meetB_iff.2 ⟨by omega, by omega, by omega⟩
                refine e_if_eq h (tgt := 53) dX11_tradesOf_46 (pc := 46) (by decide) (by decide) (fun hz => absurd hz (by decide)) (fun _ => ?_)
                refine e_iconst h dX11_tradesOf_49 (pc := 49)  ?_
                refine e_goto h dX11_tradesOf_50 (pc := 50) (tgt := 54) (by decide) ?_
                refine e_iadd h dX11_tradesOf_54 (pc := 54)  ?_
                refine e_istore3 h dX11_tradesOf_55 (pc := 55) (by decide) rfl ?_
                refine e_iinc4 h dX11_tradesOf_56 (pc := 56) (by decide) rfl ?_
                refine e_goto h dX11_tradesOf_59 (pc := 59) (tgt := 21) (by decide) ?_
                rw [show ((t2 (fun i => cs S O i) i (sT S) d + t1 (fun i => cs S O i) (d + 1) i j : Nat) : Int) + 1 = ((t2 (fun i => cs S O i) i (sT S) d + t1 (fun i => cs S O i) (d + 1) i (j + 1) : Nat) : Int) by rw [t1_y (B := (fun i => cs S O i)) ⟨by omega, hmt⟩]; omega, show (j : Int) + 1 = ((j + 1 : Nat) : Int) by omega]
                exact ih2 (j + 1) (by omega) (by omega)
              · have hmt : ¬ meetB (cs S O i (d + 1)) (cs S O j (d + 1)) = true := fun q => by have u := meetB_iff.1 q; exact hm ⟨by omega, by omega, by omega⟩
                refine e_if_eq h (tgt := 53) dX11_tradesOf_46 (pc := 46) (by decide) (by decide) (fun _ => ?_) (fun hz => absurd hz (by decide))
                refine e_iconst h dX11_tradesOf_53 (pc := 53)  ?_
                refine e_iadd h dX11_tradesOf_54 (pc := 54)  ?_
                refine e_istore3 h dX11_tradesOf_55 (pc := 55) (by decide) rfl ?_
                refine e_iinc4 h dX11_tradesOf_56 (pc := 56) (by decide) rfl ?_
                refine e_goto h dX11_tradesOf_59 (pc := 59) (tgt := 21) (by decide) ?_
                rw [show ((t2 (fun i => cs S O i) i (sT S) d + t1 (fun i => cs S O i) (d + 1) i j : Nat) : Int) + 0 = ((t2 (fun i => cs S O i) i (sT S) d + t1 (fun i => cs S O i) (d + 1) i (j + 1) : Nat) : Int) by rw [t1_n (B := (fun i => cs S O i)) (fun q => hmt q.2)]; omega, show (j : Int) + 1 = ((j + 1 : Nat) : Int) by omega]
                exact ih2 (j + 1) (by omega) (by omega)
      exact inner (sT S + 1) 0 (by omega) (by omega)
  refine e_aload_n h dX11_tradesOf_0 (pc := 0) rfl ?_
  refine e_callV0 lk_X11_170 mv_X11_begin dX11_tradesOf_1 (pc := 1) rfl (by decide) (Nat.lt_of_lt_of_le (by decide) hN) (Nat.le_of_ble_eq_true rfl) (rmY := rmX11_begin) (by decide) h ?_
  refine m_begin hN (fun M0 b1 b2 b3 => ?_)
  refine e_iconst h dX11_tradesOf_4 (pc := 4)  ?_
  refine e_istore3 h dX11_tradesOf_5 (pc := 5) (by decide) rfl ?_
  exact loop t 0 M0 (by omega) (MG_0 hR b1 b2) (hR.go (fun q j hq => b3 q j (by omega))) (fun q j hq => b3 q j (by omega))
