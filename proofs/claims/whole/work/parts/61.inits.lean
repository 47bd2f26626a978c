abbrev rmX9_init : Room := { frames := 1, cells := 1, slots := 300, locals := 12 }
set_option maxRecDepth 100000 in
set_option maxHeartbeats 4000000 in
theorem c_X9_init {gg : GT} {ad : Nat → Nat} {ph : Phs} {M : Mem} {Post : (Nat → Nat) → Phs → Mem → Prop}   (hz : Nw 2 ph M) (K : ∀ (ad2 : Nat → Nat) (ph2 : Phs), (∀ q j, q < 2 → q ≠ 1 → ph2 q j = ph q j) → Bt 1 3 ph2 → Nw 3 ph2 (M) → Post ad2 ph2 (M)) : SpI gg yX9_init cX9_init 1 rmX9_init [vr 1] ad 2 3 ph M Tr 1 300 Post := by
  refine SpI.intro (ls := [some (vr 1)]) (by decide +kernel) rfl rfl (Nat.le_of_ble_eq_true rfl) fun κ hgg h hr ha hf hin hex => ?_
  have h : Ok κ RX9 cX9_init 1 rmX9_init := h
  subst hgg
  have hag : ∀ q, q < 2 ∨ 2 ≤ q → ad q = ad q := fun _ _ => rfl
  have hU : ∀ q j, q < 2 → q ≠ 1 → ph q j = ph q j := fun _ _ _ _ => rfl
  have hB : Bp 1 0 2 ph := Bp.start
  refine e_aload_n h dX9_init_0 (pc := 0) rfl ?_
  refine e_objInit h lp_X9_3 dX9_init_1 (pc := 1) (by decide) ?_
  refine e_aload_n h dX9_init_4 (pc := 4) rfl ?_
  refine e_sipush h dX9_init_5 (pc := 5) (by decide +kernel) ?_
  refine e_newaI h hf hz (show pcl 2 = 100 from rfl) (n := 300) (show plen 2 = 300 from rfl) dX9_init_8 (pc := 8) rfl (by decide) (rbL_some (rbA_r (Or.inl (by omega))) rbL_nil) (rbS_cons (rbA_r (Or.inl (by omega))) rbS_nil) (fun ad1 hg1 => ?_)
  replace hB : Bp 1 0 3 ph := hB.num (Or.inl (show pcl 2 = 100 from rfl))
  replace hag : ∀ q, q < 2 ∨ 3 ≤ q → ad1 q = ad q := fun q hq => (hg1 q (by omega)).trans (hag q (by omega))
  replace hz : Nw 3 _ _ := hz.new
  show E κ ad1 3 _ _ _ _ _ (1, 300) _
  refine e_putF h hin fl_X9_9 dX9_init_10 (pc := 10) (show pcl 1 = 9 from rfl) (by omega) rfl rfl (r := 2) rfl fp_X9_9 ?_
  replace hz := hz.setP (p := 1) (k := 0) (by omega) (by rw [tg_c (r := 2) (by rw [(show pcl 1 = 9 from rfl)]; decide) rfl]; omega)
  replace hU : ∀ q j, q < 2 → q ≠ 1 → (phs ph 1 0) q j = ph q j := fun q j h1 h2 => (phs_ne (Or.inl h2)).trans (hU q j h1 h2)
  replace hB : Bp 1 1 3 (phs ph 1 0) := hB.fld
  refine e_vretI h hr ha dX9_init_13 (pc := 13) hag (by decide) ?_
  exact K _ _ hU (hB.all (rf_lt (show pcl 1 = 9 from rfl) (by decide) (kd_lt rfl (by decide)))) hz
abbrev rmX6_init : Room := { frames := 1, cells := 1, slots := 5, locals := 12 }
set_option maxRecDepth 100000 in
set_option maxHeartbeats 4000000 in
theorem c_X6_init {gg : GT} {ad : Nat → Nat} {ph : Phs} {M : Mem} {Post : (Nat → Nat) → Phs → Mem → Prop}   (hz : Nw 4 ph M) (K : ∀ (ad2 : Nat → Nat) (ph2 : Phs), (∀ q j, q < 4 → q ≠ 3 → ph2 q j = ph q j) → Bt 3 5 ph2 → Nw 5 ph2 (M) → Post ad2 ph2 (M)) : SpI gg yX6_init cX6_init 1 rmX6_init [vr 3] ad 4 5 ph M Tr 1 5 Post := by
  refine SpI.intro (ls := [some (vr 3)]) (by decide +kernel) rfl rfl (Nat.le_of_ble_eq_true rfl) fun κ hgg h hr ha hf hin hex => ?_
  have h : Ok κ RX6 cX6_init 1 rmX6_init := h
  subst hgg
  have hag : ∀ q, q < 4 ∨ 4 ≤ q → ad q = ad q := fun _ _ => rfl
  have hU : ∀ q j, q < 4 → q ≠ 3 → ph q j = ph q j := fun _ _ _ _ => rfl
  have hB : Bp 3 0 4 ph := Bp.start
  refine e_aload_n h dX6_init_0 (pc := 0) rfl ?_
  refine e_objInit h lp_X6_3 dX6_init_1 (pc := 1) (by decide) ?_
  refine e_aload_n h dX6_init_4 (pc := 4) rfl ?_
  refine e_iconst h dX6_init_5 (pc := 5) ?_
  refine e_newaI h hf hz (show pcl 4 = 100 from rfl) (n := 5) (show plen 4 = 5 from rfl) dX6_init_6 (pc := 6) rfl (by decide) (rbL_some (rbA_r (Or.inl (by omega))) rbL_nil) (rbS_cons (rbA_r (Or.inl (by omega))) rbS_nil) (fun ad1 hg1 => ?_)
  replace hB : Bp 3 0 5 ph := hB.num (Or.inl (show pcl 4 = 100 from rfl))
  replace hag : ∀ q, q < 4 ∨ 5 ≤ q → ad1 q = ad q := fun q hq => (hg1 q (by omega)).trans (hag q (by omega))
  replace hz : Nw 5 _ _ := hz.new
  show E κ ad1 5 _ _ _ _ _ (1, 5) _
  refine e_putF h hin fl_X6_9 dX6_init_8 (pc := 8) (show pcl 3 = 6 from rfl) (by omega) rfl rfl (r := 4) rfl fp_X6_9 ?_
  replace hz := hz.setP (p := 3) (k := 0) (by omega) (by rw [tg_c (r := 4) (by rw [(show pcl 3 = 6 from rfl)]; decide) rfl]; omega)
  replace hU : ∀ q j, q < 4 → q ≠ 3 → (phs ph 3 0) q j = ph q j := fun q j h1 h2 => (phs_ne (Or.inl h2)).trans (hU q j h1 h2)
  replace hB : Bp 3 1 5 (phs ph 3 0) := hB.fld
  refine e_vretI h hr ha dX6_init_11 (pc := 11) hag (by decide) ?_
  exact K _ _ hU (hB.all (rf_lt (show pcl 3 = 6 from rfl) (by decide) (kd_lt rfl (by decide)))) hz
abbrev rmX1_init : Room := { frames := 1, cells := 3, slots := 183, locals := 12 }
set_option maxRecDepth 100000 in
set_option maxHeartbeats 4000000 in
theorem c_X1_init {gg : GT} {ad : Nat → Nat} {ph : Phs} {M : Mem} {Post : (Nat → Nat) → Phs → Mem → Prop} {o : Nat}  (hs : IsC o (o + 4)) (hz : Nw (o + 1) ph M) (K : ∀ (ad2 : Nat → Nat) (ph2 : Phs), (∀ q j, q < (o + 1) → q ≠ o → ph2 q j = ph q j) → Bt o (o + 4) ph2 → Nw (o + 4) ph2 (M) → Post ad2 ph2 (M)) : SpI gg yX1_init cX1_init 1 rmX1_init [vr o] ad (o + 1) (o + 4) ph M Tr 3 183 Post := by
  refine SpI.intro (ls := [some (vr o)]) (by decide +kernel) rfl rfl (Nat.le_of_ble_eq_true rfl) fun κ hgg h hr ha hf hin hex => ?_
  have h : Ok κ RX1 cX1_init 1 rmX1_init := h
  subst hgg
  have hag : ∀ q, q < (o + 1) ∨ (o + 1) ≤ q → ad q = ad q := fun _ _ => rfl
  have hU : ∀ q j, q < (o + 1) → q ≠ o → ph q j = ph q j := fun _ _ _ _ => rfl
  have hB : Bp o 0 (o + 1) ph := Bp.start
  refine e_aload_n h dX1_init_0 (pc := 0) rfl ?_
  refine e_objInit h lp_X1_3 dX1_init_1 (pc := 1) (by decide) ?_
  refine e_aload_n h dX1_init_4 (pc := 4) rfl ?_
  refine e_bipush h dX1_init_5 (pc := 5) (by decide +kernel) ?_
  refine e_newaI h hf hz hs.c1 (n := 61) hs.l1 dX1_init_7 (pc := 7) rfl (by decide) (rbL_some (rbA_r (Or.inl (by omega))) rbL_nil) (rbS_cons (rbA_r (Or.inl (by omega))) rbS_nil) (fun ad1 hg1 => ?_)
  replace hB : Bp o 0 (o + 2) ph := hB.num (Or.inl hs.c1)
  replace hag : ∀ q, q < (o + 1) ∨ (o + 2) ≤ q → ad1 q = ad q := fun q hq => (hg1 q (by omega)).trans (hag q (by omega))
  replace hz : Nw (o + 2) _ _ := hz.new
  show E κ ad1 (o + 2) _ _ _ _ _ (1, 61) _
  refine e_putF h hin fl_X1_9 dX1_init_9 (pc := 9) hs.c0 (by omega) rfl rfl (r := (o + 1)) (pcr_d (by rw [hs.c0]; decide) 0) fp_X1_9 ?_
  replace hz := hz.setP (p := o) (k := 0) (by omega) (by rw [tg_c (r := (o + 1)) (by rw [hs.c0]; decide) (pcr_d (by rw [hs.c0]; decide) 0)]; omega)
  replace hU : ∀ q j, q < (o + 1) → q ≠ o → (phs ph o 0) q j = ph q j := fun q j h1 h2 => (phs_ne (Or.inl h2)).trans (hU q j h1 h2)
  replace hB : Bp o 1 (o + 2) (phs ph o 0) := hB.fld
  refine e_aload_n h dX1_init_12 (pc := 12) rfl ?_
  refine e_bipush h dX1_init_13 (pc := 13) (by decide +kernel) ?_
  refine e_newaI h hf hz hs.c2 (n := 61) hs.l2 dX1_init_15 (pc := 15) rfl (by decide) (rbL_some (rbA_r (Or.inl (by omega))) rbL_nil) (rbS_cons (rbA_r (Or.inl (by omega))) rbS_nil) (fun ad2 hg2 => ?_)
  replace hB : Bp o 1 (o + 3) (phs ph o 0) := hB.num (Or.inl hs.c2)
  replace hag : ∀ q, q < (o + 1) ∨ (o + 3) ≤ q → ad2 q = ad q := fun q hq => (hg2 q (by omega)).trans (hag q (by omega))
  replace hz : Nw (o + 3) _ _ := hz.new
  show E κ ad2 (o + 3) _ _ _ _ _ (2, 122) _
  refine e_putF h hin fl_X1_15 dX1_init_17 (pc := 17) hs.c0 (by omega) rfl rfl (r := (o + 2)) (pcr_d (by rw [hs.c0]; decide) 1) fp_X1_15 ?_
  replace hz := hz.setP (p := o) (k := 1) (by omega) (by rw [tg_c (r := (o + 2)) (by rw [hs.c0]; decide) (pcr_d (by rw [hs.c0]; decide) 1)]; omega)
  replace hU : ∀ q j, q < (o + 1) → q ≠ o → (phs (phs ph o 0) o 1) q j = ph q j := fun q j h1 h2 => (phs_ne (Or.inl h2)).trans (hU q j h1 h2)
  replace hB : Bp o 2 (o + 3) (phs (phs ph o 0) o 1) := hB.fld
  refine e_aload_n h dX1_init_20 (pc := 20) rfl ?_
  refine e_bipush h dX1_init_21 (pc := 21) (by decide +kernel) ?_
  refine e_newaI h hf hz hs.c3 (n := 61) hs.l3 dX1_init_23 (pc := 23) rfl (by decide) (rbL_some (rbA_r (Or.inl (by omega))) rbL_nil) (rbS_cons (rbA_r (Or.inl (by omega))) rbS_nil) (fun ad3 hg3 => ?_)
  replace hB : Bp o 2 (o + 4) (phs (phs ph o 0) o 1) := hB.num (Or.inl hs.c3)
  replace hag : ∀ q, q < (o + 1) ∨ (o + 4) ≤ q → ad3 q = ad q := fun q hq => (hg3 q (by omega)).trans (hag q (by omega))
  replace hz : Nw (o + 4) _ _ := hz.new
  show E κ ad3 (o + 4) _ _ _ _ _ (3, 183) _
  refine e_putF h hin fl_X1_18 dX1_init_25 (pc := 25) hs.c0 (by omega) rfl rfl (r := (o + 3)) (pcr_d (by rw [hs.c0]; decide) 2) fp_X1_18 ?_
  replace hz := hz.setP (p := o) (k := 2) (by omega) (by rw [tg_c (r := (o + 3)) (by rw [hs.c0]; decide) (pcr_d (by rw [hs.c0]; decide) 2)]; omega)
  replace hU : ∀ q j, q < (o + 1) → q ≠ o → (phs (phs (phs ph o 0) o 1) o 2) q j = ph q j := fun q j h1 h2 => (phs_ne (Or.inl h2)).trans (hU q j h1 h2)
  replace hB : Bp o 3 (o + 4) (phs (phs (phs ph o 0) o 1) o 2) := hB.fld
  refine e_vretI h hr ha dX1_init_28 (pc := 28) hag (by decide) ?_
  exact K _ _ hU (hB.all (rf_lt hs.c0 (by decide) (kd_lt rfl (by decide)))) hz
abbrev rmX5_init : Room := { frames := 1, cells := 4, slots := 30, locals := 12 }
set_option maxRecDepth 100000 in
set_option maxHeartbeats 4000000 in
theorem c_X5_init {gg : GT} {ad : Nat → Nat} {ph : Phs} {M : Mem} {Post : (Nat → Nat) → Phs → Mem → Prop} {o : Nat}  (hs : IsO o (o + 5)) (hz : Nw (o + 1) ph M) (K : ∀ (ad2 : Nat → Nat) (ph2 : Phs), (∀ q j, q < (o + 1) → q ≠ o → ph2 q j = ph q j) → Bt o (o + 5) ph2 → Nw (o + 5) ph2 (M) → Post ad2 ph2 (M)) : SpI gg yX5_init cX5_init 1 rmX5_init [vr o] ad (o + 1) (o + 5) ph M Tr 4 30 Post := by
  refine SpI.intro (ls := [some (vr o)]) (by decide +kernel) rfl rfl (Nat.le_of_ble_eq_true rfl) fun κ hgg h hr ha hf hin hex => ?_
  have h : Ok κ RX5 cX5_init 1 rmX5_init := h
  subst hgg
  have hag : ∀ q, q < (o + 1) ∨ (o + 1) ≤ q → ad q = ad q := fun _ _ => rfl
  have hU : ∀ q j, q < (o + 1) → q ≠ o → ph q j = ph q j := fun _ _ _ _ => rfl
  have hB : Bp o 0 (o + 1) ph := Bp.start
  refine e_aload_n h dX5_init_0 (pc := 0) rfl ?_
  refine e_objInit h lp_X5_3 dX5_init_1 (pc := 1) (by decide) ?_
  refine e_aload_n h dX5_init_4 (pc := 4) rfl ?_
  refine e_bipush h dX5_init_5 (pc := 5) (by decide +kernel) ?_
  refine e_newaI h hf hz hs.c1 (n := 8) hs.l1 dX5_init_7 (pc := 7) rfl (by decide) (rbL_some (rbA_r (Or.inl (by omega))) rbL_nil) (rbS_cons (rbA_r (Or.inl (by omega))) rbS_nil) (fun ad1 hg1 => ?_)
  replace hB : Bp o 0 (o + 2) ph := hB.num (Or.inl hs.c1)
  replace hag : ∀ q, q < (o + 1) ∨ (o + 2) ≤ q → ad1 q = ad q := fun q hq => (hg1 q (by omega)).trans (hag q (by omega))
  replace hz : Nw (o + 2) _ _ := hz.new
  show E κ ad1 (o + 2) _ _ _ _ _ (1, 8) _
  refine e_putF h hin fl_X5_9 dX5_init_9 (pc := 9) hs.c0 (by omega) rfl rfl (r := (o + 1)) (pcr_d (by rw [hs.c0]; decide) 0) fp_X5_9 ?_
  replace hz := hz.setP (p := o) (k := 0) (by omega) (by rw [tg_c (r := (o + 1)) (by rw [hs.c0]; decide) (pcr_d (by rw [hs.c0]; decide) 0)]; omega)
  replace hU : ∀ q j, q < (o + 1) → q ≠ o → (phs ph o 0) q j = ph q j := fun q j h1 h2 => (phs_ne (Or.inl h2)).trans (hU q j h1 h2)
  replace hB : Bp o 1 (o + 2) (phs ph o 0) := hB.fld
  refine e_aload_n h dX5_init_12 (pc := 12) rfl ?_
  refine e_bipush h dX5_init_13 (pc := 13) (by decide +kernel) ?_
  refine e_newaI h hf hz hs.c2 (n := 8) hs.l2 dX5_init_15 (pc := 15) rfl (by decide) (rbL_some (rbA_r (Or.inl (by omega))) rbL_nil) (rbS_cons (rbA_r (Or.inl (by omega))) rbS_nil) (fun ad2 hg2 => ?_)
  replace hB : Bp o 1 (o + 3) (phs ph o 0) := hB.num (Or.inl hs.c2)
  replace hag : ∀ q, q < (o + 1) ∨ (o + 3) ≤ q → ad2 q = ad q := fun q hq => (hg2 q (by omega)).trans (hag q (by omega))
  replace hz : Nw (o + 3) _ _ := hz.new
  show E κ ad2 (o + 3) _ _ _ _ _ (2, 16) _
  refine e_putF h hin fl_X5_15 dX5_init_17 (pc := 17) hs.c0 (by omega) rfl rfl (r := (o + 2)) (pcr_d (by rw [hs.c0]; decide) 1) fp_X5_15 ?_
  replace hz := hz.setP (p := o) (k := 1) (by omega) (by rw [tg_c (r := (o + 2)) (by rw [hs.c0]; decide) (pcr_d (by rw [hs.c0]; decide) 1)]; omega)
  replace hU : ∀ q j, q < (o + 1) → q ≠ o → (phs (phs ph o 0) o 1) q j = ph q j := fun q j h1 h2 => (phs_ne (Or.inl h2)).trans (hU q j h1 h2)
  replace hB : Bp o 2 (o + 3) (phs (phs ph o 0) o 1) := hB.fld
  refine e_aload_n h dX5_init_20 (pc := 20) rfl ?_
  refine e_bipush h dX5_init_21 (pc := 21) (by decide +kernel) ?_
  refine e_newaZ h hf hz hs.c3 (n := 8) hs.l3 dX5_init_23 (pc := 23) rfl (by decide) (rbL_some (rbA_r (Or.inl (by omega))) rbL_nil) (rbS_cons (rbA_r (Or.inl (by omega))) rbS_nil) (fun ad3 hg3 => ?_)
  replace hB : Bp o 2 (o + 4) (phs (phs ph o 0) o 1) := hB.num (Or.inr (Or.inr hs.c3))
  replace hag : ∀ q, q < (o + 1) ∨ (o + 4) ≤ q → ad3 q = ad q := fun q hq => (hg3 q (by omega)).trans (hag q (by omega))
  replace hz : Nw (o + 4) _ _ := hz.new
  show E κ ad3 (o + 4) _ _ _ _ _ (3, 24) _
  refine e_putF h hin fl_X5_18 dX5_init_25 (pc := 25) hs.c0 (by omega) rfl rfl (r := (o + 3)) (pcr_d (by rw [hs.c0]; decide) 2) fp_X5_18 ?_
  replace hz := hz.setP (p := o) (k := 2) (by omega) (by rw [tg_c (r := (o + 3)) (by rw [hs.c0]; decide) (pcr_d (by rw [hs.c0]; decide) 2)]; omega)
  replace hU : ∀ q j, q < (o + 1) → q ≠ o → (phs (phs (phs ph o 0) o 1) o 2) q j = ph q j := fun q j h1 h2 => (phs_ne (Or.inl h2)).trans (hU q j h1 h2)
  replace hB : Bp o 3 (o + 4) (phs (phs (phs ph o 0) o 1) o 2) := hB.fld
  refine e_aload_n h dX5_init_28 (pc := 28) rfl ?_
  refine e_bipush h dX5_init_29 (pc := 29) (by decide +kernel) ?_
  refine e_newaI h hf hz hs.c4 (n := 6) hs.l4 dX5_init_31 (pc := 31) rfl (by decide) (rbL_some (rbA_r (Or.inl (by omega))) rbL_nil) (rbS_cons (rbA_r (Or.inl (by omega))) rbS_nil) (fun ad4 hg4 => ?_)
  replace hB : Bp o 3 (o + 5) (phs (phs (phs ph o 0) o 1) o 2) := hB.num (Or.inl hs.c4)
  replace hag : ∀ q, q < (o + 1) ∨ (o + 5) ≤ q → ad4 q = ad q := fun q hq => (hg4 q (by omega)).trans (hag q (by omega))
  replace hz : Nw (o + 5) _ _ := hz.new
  show E κ ad4 (o + 5) _ _ _ _ _ (4, 30) _
  refine e_putF h hin fl_X5_22 dX5_init_33 (pc := 33) hs.c0 (by omega) rfl rfl (r := (o + 4)) (pcr_d (by rw [hs.c0]; decide) 3) fp_X5_22 ?_
  replace hz := hz.setP (p := o) (k := 3) (by omega) (by rw [tg_c (r := (o + 4)) (by rw [hs.c0]; decide) (pcr_d (by rw [hs.c0]; decide) 3)]; omega)
  replace hU : ∀ q j, q < (o + 1) → q ≠ o → (phs (phs (phs (phs ph o 0) o 1) o 2) o 3) q j = ph q j := fun q j h1 h2 => (phs_ne (Or.inl h2)).trans (hU q j h1 h2)
  replace hB : Bp o 4 (o + 5) (phs (phs (phs (phs ph o 0) o 1) o 2) o 3) := hB.fld
  refine e_vretI h hr ha dX5_init_36 (pc := 36) hag (by decide) ?_
  exact K _ _ hU (hB.all (rf_lt hs.c0 (by decide) (kd_lt rfl (by decide)))) hz
abbrev rmX0_init : Room := { frames := 1, cells := 2, slots := 288, locals := 12 }
set_option maxRecDepth 100000 in
set_option maxHeartbeats 4000000 in
theorem c_X0_init {gg : GT} {ad : Nat → Nat} {ph : Phs} {M : Mem} {Post : (Nat → Nat) → Phs → Mem → Prop}   (hz : Nw 62 ph M) (K : ∀ (ad2 : Nat → Nat) (ph2 : Phs), (∀ q j, q < 62 → q ≠ 61 → ph2 q j = ph q j) → Bt 61 64 ph2 → Nw 64 ph2 (up (up M 61 0 62) 61 1 63) → Post ad2 ph2 (up (up M 61 0 62) 61 1 63)) : SpI gg yX0_init cX0_init 1 rmX0_init [vr 61] ad 62 64 ph M Tr 2 288 Post := by
  refine SpI.intro (ls := [some (vr 61)]) (by decide +kernel) rfl rfl (Nat.le_of_ble_eq_true rfl) fun κ hgg h hr ha hf hin hex => ?_
  have h : Ok κ RX0 cX0_init 1 rmX0_init := h
  subst hgg
  have hag : ∀ q, q < 62 ∨ 62 ≤ q → ad q = ad q := fun _ _ => rfl
  have hU : ∀ q j, q < 62 → q ≠ 61 → ph q j = ph q j := fun _ _ _ _ => rfl
  have hB : Bp 61 0 62 ph := Bp.start
  refine e_aload_n h dX0_init_0 (pc := 0) rfl ?_
  refine e_objInit h lp_X0_3 dX0_init_1 (pc := 1) (by decide) ?_
  refine e_aload_n h dX0_init_4 (pc := 4) rfl ?_
  refine e_sipush h dX0_init_5 (pc := 5) (by decide +kernel) ?_
  refine e_newaJ h hf hz (show pcl 62 = 101 from rfl) (n := 144) (show plen 62 = 144 from rfl) dX0_init_8 (pc := 8) rfl (by decide) (rbL_some (rbA_r (Or.inl (by omega))) rbL_nil) (rbS_cons (rbA_r (Or.inl (by omega))) rbS_nil) (fun ad1 hg1 => ?_)
  replace hB : Bp 61 0 63 ph := hB.num (Or.inr (Or.inl (show pcl 62 = 101 from rfl)))
  replace hag : ∀ q, q < 62 ∨ 63 ≤ q → ad1 q = ad q := fun q hq => (hg1 q (by omega)).trans (hag q (by omega))
  replace hz : Nw 63 _ _ := hz.new
  show E κ ad1 63 _ _ _ _ _ (1, 144) _
  refine e_putR0 h fl_X0_9 dX0_init_10 (pc := 10) (show pcl 61 = 0 from rfl) (by omega) rfl ?_
  replace hz := hz.putR (p := 61) (k := 0) (x := 62) (by omega) (by rw [(show pcl 61 = 0 from rfl)]; rfl) (by omega)
  replace hU : ∀ q j, q < 62 → q ≠ 61 → (phs ph 61 0) q j = ph q j := fun q j h1 h2 => (phs_ne (Or.inl h2)).trans (hU q j h1 h2)
  replace hB : Bp 61 1 63 (phs ph 61 0) := hB.fld
  refine e_aload_n h dX0_init_13 (pc := 13) rfl ?_
  refine e_sipush h dX0_init_14 (pc := 14) (by decide +kernel) ?_
  refine e_newaJ h hf hz (show pcl 63 = 101 from rfl) (n := 144) (show plen 63 = 144 from rfl) dX0_init_17 (pc := 17) rfl (by decide) (rbL_some (rbA_r (Or.inl (by omega))) rbL_nil) (rbS_cons (rbA_r (Or.inl (by omega))) rbS_nil) (fun ad2 hg2 => ?_)
  replace hB : Bp 61 1 64 (phs ph 61 0) := hB.num (Or.inr (Or.inl (show pcl 63 = 101 from rfl)))
  replace hag : ∀ q, q < 62 ∨ 64 ≤ q → ad2 q = ad q := fun q hq => (hg2 q (by omega)).trans (hag q (by omega))
  replace hz : Nw 64 _ _ := hz.new
  show E κ ad2 64 _ _ _ _ _ (2, 288) _
  refine e_putR0 h fl_X0_15 dX0_init_19 (pc := 19) (show pcl 61 = 0 from rfl) (by omega) rfl ?_
  replace hz := hz.putR (p := 61) (k := 1) (x := 63) (by omega) (by rw [(show pcl 61 = 0 from rfl)]; rfl) (by omega)
  replace hU : ∀ q j, q < 62 → q ≠ 61 → (phs (phs ph 61 0) 61 1) q j = ph q j := fun q j h1 h2 => (phs_ne (Or.inl h2)).trans (hU q j h1 h2)
  replace hB : Bp 61 2 64 (phs (phs ph 61 0) 61 1) := hB.fld
  refine e_vretI h hr ha dX0_init_22 (pc := 22) hag (by decide) ?_
  exact K _ _ hU (hB.all (rf_lt (show pcl 61 = 0 from rfl) (by decide) (kd_lt rfl (by decide)))) hz
abbrev rmX4_init : Room := { frames := 1, cells := 2, slots := 12, locals := 12 }
set_option maxRecDepth 100000 in
set_option maxHeartbeats 4000000 in
theorem c_X4_init {gg : GT} {ad : Nat → Nat} {ph : Phs} {M : Mem} {Post : (Nat → Nat) → Phs → Mem → Prop}   (hz : Nw 65 ph M) (K : ∀ (ad2 : Nat → Nat) (ph2 : Phs), (∀ q j, q < 65 → q ≠ 64 → ph2 q j = ph q j) → Bt 64 67 ph2 → Nw 67 ph2 (up (up M 64 0 65) 64 1 66) → Post ad2 ph2 (up (up M 64 0 65) 64 1 66)) : SpI gg yX4_init cX4_init 1 rmX4_init [vr 64] ad 65 67 ph M Tr 2 12 Post := by
  refine SpI.intro (ls := [some (vr 64)]) (by decide +kernel) rfl rfl (Nat.le_of_ble_eq_true rfl) fun κ hgg h hr ha hf hin hex => ?_
  have h : Ok κ RX4 cX4_init 1 rmX4_init := h
  subst hgg
  have hag : ∀ q, q < 65 ∨ 65 ≤ q → ad q = ad q := fun _ _ => rfl
  have hU : ∀ q j, q < 65 → q ≠ 64 → ph q j = ph q j := fun _ _ _ _ => rfl
  have hB : Bp 64 0 65 ph := Bp.start
  refine e_aload_n h dX4_init_0 (pc := 0) rfl ?_
  refine e_objInit h lp_X4_3 dX4_init_1 (pc := 1) (by decide) ?_
  refine e_aload_n h dX4_init_4 (pc := 4) rfl ?_
  refine e_bipush h dX4_init_5 (pc := 5) (by decide +kernel) ?_
  refine e_newaJ h hf hz (show pcl 65 = 101 from rfl) (n := 6) (show plen 65 = 6 from rfl) dX4_init_7 (pc := 7) rfl (by decide) (rbL_some (rbA_r (Or.inl (by omega))) rbL_nil) (rbS_cons (rbA_r (Or.inl (by omega))) rbS_nil) (fun ad1 hg1 => ?_)
  replace hB : Bp 64 0 66 ph := hB.num (Or.inr (Or.inl (show pcl 65 = 101 from rfl)))
  replace hag : ∀ q, q < 65 ∨ 66 ≤ q → ad1 q = ad q := fun q hq => (hg1 q (by omega)).trans (hag q (by omega))
  replace hz : Nw 66 _ _ := hz.new
  show E κ ad1 66 _ _ _ _ _ (1, 6) _
  refine e_putR0 h fl_X4_9 dX4_init_9 (pc := 9) (show pcl 64 = 4 from rfl) (by omega) rfl ?_
  replace hz := hz.putR (p := 64) (k := 0) (x := 65) (by omega) (by rw [(show pcl 64 = 4 from rfl)]; rfl) (by omega)
  replace hU : ∀ q j, q < 65 → q ≠ 64 → (phs ph 64 0) q j = ph q j := fun q j h1 h2 => (phs_ne (Or.inl h2)).trans (hU q j h1 h2)
  replace hB : Bp 64 1 66 (phs ph 64 0) := hB.fld
  refine e_aload_n h dX4_init_12 (pc := 12) rfl ?_
  refine e_bipush h dX4_init_13 (pc := 13) (by decide +kernel) ?_
  refine e_newaJ h hf hz (show pcl 66 = 101 from rfl) (n := 6) (show plen 66 = 6 from rfl) dX4_init_15 (pc := 15) rfl (by decide) (rbL_some (rbA_r (Or.inl (by omega))) rbL_nil) (rbS_cons (rbA_r (Or.inl (by omega))) rbS_nil) (fun ad2 hg2 => ?_)
  replace hB : Bp 64 1 67 (phs ph 64 0) := hB.num (Or.inr (Or.inl (show pcl 66 = 101 from rfl)))
  replace hag : ∀ q, q < 65 ∨ 67 ≤ q → ad2 q = ad q := fun q hq => (hg2 q (by omega)).trans (hag q (by omega))
  replace hz : Nw 67 _ _ := hz.new
  show E κ ad2 67 _ _ _ _ _ (2, 12) _
  refine e_putR0 h fl_X4_15 dX4_init_17 (pc := 17) (show pcl 64 = 4 from rfl) (by omega) rfl ?_
  replace hz := hz.putR (p := 64) (k := 1) (x := 66) (by omega) (by rw [(show pcl 64 = 4 from rfl)]; rfl) (by omega)
  replace hU : ∀ q j, q < 65 → q ≠ 64 → (phs (phs ph 64 0) 64 1) q j = ph q j := fun q j h1 h2 => (phs_ne (Or.inl h2)).trans (hU q j h1 h2)
  replace hB : Bp 64 2 67 (phs (phs ph 64 0) 64 1) := hB.fld
  refine e_vretI h hr ha dX4_init_20 (pc := 20) hag (by decide) ?_
  exact K _ _ hU (hB.all (rf_lt (show pcl 64 = 4 from rfl) (by decide) (kd_lt rfl (by decide)))) hz
abbrev rmX3_init : Room := { frames := 1, cells := 2, slots := 16, locals := 12 }
set_option maxRecDepth 100000 in
set_option maxHeartbeats 4000000 in
theorem c_X3_init {gg : GT} {ad : Nat → Nat} {ph : Phs} {M : Mem} {Post : (Nat → Nat) → Phs → Mem → Prop}   (hz : Nw 68 ph M) (K : ∀ (ad2 : Nat → Nat) (ph2 : Phs), (∀ q j, q < 68 → q ≠ 67 → ph2 q j = ph q j) → Bt 67 70 ph2 → Nw 70 ph2 (M) → Post ad2 ph2 (M)) : SpI gg yX3_init cX3_init 1 rmX3_init [vr 67] ad 68 70 ph M Tr 2 16 Post := by
  refine SpI.intro (ls := [some (vr 67)]) (by decide +kernel) rfl rfl (Nat.le_of_ble_eq_true rfl) fun κ hgg h hr ha hf hin hex => ?_
  have h : Ok κ RX3 cX3_init 1 rmX3_init := h
  subst hgg
  have hag : ∀ q, q < 68 ∨ 68 ≤ q → ad q = ad q := fun _ _ => rfl
  have hU : ∀ q j, q < 68 → q ≠ 67 → ph q j = ph q j := fun _ _ _ _ => rfl
  have hB : Bp 67 0 68 ph := Bp.start
  refine e_aload_n h dX3_init_0 (pc := 0) rfl ?_
  refine e_objInit h lp_X3_3 dX3_init_1 (pc := 1) (by decide) ?_
  refine e_aload_n h dX3_init_4 (pc := 4) rfl ?_
  refine e_bipush h dX3_init_5 (pc := 5) (by decide +kernel) ?_
  refine e_newaI h hf hz (show pcl 68 = 100 from rfl) (n := 8) (show plen 68 = 8 from rfl) dX3_init_7 (pc := 7) rfl (by decide) (rbL_some (rbA_r (Or.inl (by omega))) rbL_nil) (rbS_cons (rbA_r (Or.inl (by omega))) rbS_nil) (fun ad1 hg1 => ?_)
  replace hB : Bp 67 0 69 ph := hB.num (Or.inl (show pcl 68 = 100 from rfl))
  replace hag : ∀ q, q < 68 ∨ 69 ≤ q → ad1 q = ad q := fun q hq => (hg1 q (by omega)).trans (hag q (by omega))
  replace hz : Nw 69 _ _ := hz.new
  show E κ ad1 69 _ _ _ _ _ (1, 8) _
  refine e_putF h hin fl_X3_9 dX3_init_9 (pc := 9) (show pcl 67 = 3 from rfl) (by omega) rfl rfl (r := 68) rfl fp_X3_9 ?_
  replace hz := hz.setP (p := 67) (k := 0) (by omega) (by rw [tg_c (r := 68) (by rw [(show pcl 67 = 3 from rfl)]; decide) rfl]; omega)
  replace hU : ∀ q j, q < 68 → q ≠ 67 → (phs ph 67 0) q j = ph q j := fun q j h1 h2 => (phs_ne (Or.inl h2)).trans (hU q j h1 h2)
  replace hB : Bp 67 1 69 (phs ph 67 0) := hB.fld
  refine e_aload_n h dX3_init_12 (pc := 12) rfl ?_
  refine e_bipush h dX3_init_13 (pc := 13) (by decide +kernel) ?_
  refine e_newaI h hf hz (show pcl 69 = 100 from rfl) (n := 8) (show plen 69 = 8 from rfl) dX3_init_15 (pc := 15) rfl (by decide) (rbL_some (rbA_r (Or.inl (by omega))) rbL_nil) (rbS_cons (rbA_r (Or.inl (by omega))) rbS_nil) (fun ad2 hg2 => ?_)
  replace hB : Bp 67 1 70 (phs ph 67 0) := hB.num (Or.inl (show pcl 69 = 100 from rfl))
  replace hag : ∀ q, q < 68 ∨ 70 ≤ q → ad2 q = ad q := fun q hq => (hg2 q (by omega)).trans (hag q (by omega))
  replace hz : Nw 70 _ _ := hz.new
  show E κ ad2 70 _ _ _ _ _ (2, 16) _
  refine e_putF h hin fl_X3_15 dX3_init_17 (pc := 17) (show pcl 67 = 3 from rfl) (by omega) rfl rfl (r := 69) rfl fp_X3_15 ?_
  replace hz := hz.setP (p := 67) (k := 1) (by omega) (by rw [tg_c (r := 69) (by rw [(show pcl 67 = 3 from rfl)]; decide) rfl]; omega)
  replace hU : ∀ q j, q < 68 → q ≠ 67 → (phs (phs ph 67 0) 67 1) q j = ph q j := fun q j h1 h2 => (phs_ne (Or.inl h2)).trans (hU q j h1 h2)
  replace hB : Bp 67 2 70 (phs (phs ph 67 0) 67 1) := hB.fld
  refine e_vretI h hr ha dX3_init_20 (pc := 20) hag (by decide) ?_
  exact K _ _ hU (hB.all (rf_lt (show pcl 67 = 3 from rfl) (by decide) (kd_lt rfl (by decide)))) hz
