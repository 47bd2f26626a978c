theorem rf_arr {q n j : Nat} (h : pcl q = 103 ∨ pcl q = 104) (hn : plen q = n) (hj : rf q j = true) : j < n := by
  unfold rf at hj
  rw [if_neg (by omega)] at hj
  rw [← hn]
  exact (of_decide_eq_true hj).2
theorem Bt.join {a b c : Nat} {ph ph2 : Phs} (h : Bt a b ph) (hu : ∀ q j, q < b + 1 → q ≠ b → ph2 q j = ph q j) (hb : Bt b c ph2) : Bt a c ph2 := fun q j h1 h2 h3 => by
  by_cases e : q < b
  · rw [hu q j (by omega) (by omega)]; exact h q j h1 e h3
  · exact hb q j (by omega) h2 h3
theorem Bt.nil {a : Nat} {ph : Phs} : Bt a a ph := fun q j h1 h2 => absurd h1 (by omega)
theorem Bt.ph {a b p k : Nat} {ph : Phs} (h : Bt a b ph) (hp : p < a) : Bt a b (phs ph p k) := fun q j h1 h2 h3 => (phs_ne (by omega)).trans (h q j h1 h2 h3)
def IsF6 (o : Nat) : Prop := pcl o = 2 ∧ pcl (o + 1) = 103 ∧ plen (o + 1) = 6 ∧ IsC (o + 2) (o + 6) ∧ IsC (o + 6) (o + 10) ∧ IsC (o + 10) (o + 14) ∧ IsC (o + 14) (o + 18) ∧ IsC (o + 18) (o + 22) ∧ IsC (o + 22) (o + 26)
theorem isF6_a : IsF6 5 := by unfold IsF6 IsC; decide
theorem isF6_b : IsF6 31 := by unfold IsF6 IsC; decide
abbrev rmX8_init : Room := { frames := 2, cells := 13, slots := 81, locals := 32 }
set_option maxRecDepth 100000 in
set_option maxHeartbeats 4000000 in
theorem c_X8_init {gg : GT} {ad : Nat → Nat} {ph : Phs} {M : Mem} {Post : (Nat → Nat) → Phs → Mem → Prop} {o : Nat}  (hs : IsS o (o + 14)) (hz : Nw (o + 1) ph M) (K : ∀ (ad2 : Nat → Nat) (ph2 : Phs), (∀ q j, q < (o + 1) → q ≠ o → ph2 q j = ph q j) → Bt o (o + 14) ph2 → Nw (o + 14) ph2 (M) → Post ad2 ph2 (M)) : SpI gg yX8_init cX8_init 1 rmX8_init [vr o] ad (o + 1) (o + 14) ph M Tr 13 81 Post := by
  refine SpI.intro (ls := [some (vr o)]) (by decide +kernel) rfl rfl (Nat.le_of_ble_eq_true rfl) fun κ hgg h hr ha hf hin hex => ?_
  have h : Ok κ RX8 cX8_init 1 rmX8_init := h
  subst hgg
  have hag : ∀ q, q < (o + 1) ∨ (o + 1) ≤ q → ad q = ad q := fun _ _ => rfl
  have hU : ∀ q j, q < (o + 1) → q ≠ o → ph q j = ph q j := fun _ _ _ _ => rfl
  have hB : Bp o 0 (o + 1) ph := Bp.start
  refine e_aload_n h dX8_init_0 (pc := 0) rfl ?_
  refine e_objInit h lp_X8_3 dX8_init_1 (pc := 1) (by decide) ?_
  refine e_aload_n h dX8_init_4 (pc := 4) rfl ?_
  refine e_bipush h dX8_init_5 (pc := 5) (by decide +kernel) ?_
  refine e_newaI h hf hz hs.c1 (n := 6) hs.l1 dX8_init_7 (pc := 7) rfl (by decide) (rbL_some (rbA_r (Or.inl (by omega))) rbL_nil) (rbS_cons (rbA_r (Or.inl (by omega))) rbS_nil) (fun ad1 hg1 => ?_)
  replace hB : Bp o 0 (o + 2) ph := hB.num (Or.inl hs.c1)
  replace hag : ∀ q, q < (o + 1) ∨ (o + 2) ≤ q → ad1 q = ad q := fun q hq => (hg1 q (by omega)).trans (hag q (by omega))
  replace hz : Nw (o + 2) _ _ := hz.new
  show E κ ad1 (o + 2) _ _ _ _ _ (1, 6) _
  refine e_putF h hin fl_X8_9 dX8_init_9 (pc := 9) hs.c0 (by omega) rfl rfl (r := (o + 1)) (pcr_d (by rw [hs.c0]; decide) 0) fp_X8_9 ?_
  replace hz := hz.setP (p := o) (k := 0) (by omega) (by rw [tg_c (r := (o + 1)) (by rw [hs.c0]; decide) (pcr_d (by rw [hs.c0]; decide) 0)]; omega)
  replace hU : ∀ q j, q < (o + 1) → q ≠ o → (phs ph o 0) q j = ph q j := fun q j h1 h2 => (phs_ne (Or.inl h2)).trans (hU q j h1 h2)
  replace hB : Bp o 1 (o + 2) (phs ph o 0) := hB.fld
  refine e_aload_n h dX8_init_12 (pc := 12) rfl ?_
  refine e_bipush h dX8_init_13 (pc := 13) (by decide +kernel) ?_
  refine e_newaI h hf hz hs.c2 (n := 6) hs.l2 dX8_init_15 (pc := 15) rfl (by decide) (rbL_some (rbA_r (Or.inl (by omega))) rbL_nil) (rbS_cons (rbA_r (Or.inl (by omega))) rbS_nil) (fun ad2 hg2 => ?_)
  replace hB : Bp o 1 (o + 3) (phs ph o 0) := hB.num (Or.inl hs.c2)
  replace hag : ∀ q, q < (o + 1) ∨ (o + 3) ≤ q → ad2 q = ad q := fun q hq => (hg2 q (by omega)).trans (hag q (by omega))
  replace hz : Nw (o + 3) _ _ := hz.new
  show E κ ad2 (o + 3) _ _ _ _ _ (2, 12) _
  refine e_putF h hin fl_X8_15 dX8_init_17 (pc := 17) hs.c0 (by omega) rfl rfl (r := (o + 2)) (pcr_d (by rw [hs.c0]; decide) 1) fp_X8_15 ?_
  replace hz := hz.setP (p := o) (k := 1) (by omega) (by rw [tg_c (r := (o + 2)) (by rw [hs.c0]; decide) (pcr_d (by rw [hs.c0]; decide) 1)]; omega)
  replace hU : ∀ q j, q < (o + 1) → q ≠ o → (phs (phs ph o 0) o 1) q j = ph q j := fun q j h1 h2 => (phs_ne (Or.inl h2)).trans (hU q j h1 h2)
  replace hB : Bp o 2 (o + 3) (phs (phs ph o 0) o 1) := hB.fld
  refine e_aload_n h dX8_init_20 (pc := 20) rfl ?_
  refine e_bipush h dX8_init_21 (pc := 21) (by decide +kernel) ?_
  refine e_newaI h hf hz hs.c3 (n := 6) hs.l3 dX8_init_23 (pc := 23) rfl (by decide) (rbL_some (rbA_r (Or.inl (by omega))) rbL_nil) (rbS_cons (rbA_r (Or.inl (by omega))) rbS_nil) (fun ad3 hg3 => ?_)
  replace hB : Bp o 2 (o + 4) (phs (phs ph o 0) o 1) := hB.num (Or.inl hs.c3)
  replace hag : ∀ q, q < (o + 1) ∨ (o + 4) ≤ q → ad3 q = ad q := fun q hq => (hg3 q (by omega)).trans (hag q (by omega))
  replace hz : Nw (o + 4) _ _ := hz.new
  show E κ ad3 (o + 4) _ _ _ _ _ (3, 18) _
  refine e_putF h hin fl_X8_18 dX8_init_25 (pc := 25) hs.c0 (by omega) rfl rfl (r := (o + 3)) (pcr_d (by rw [hs.c0]; decide) 2) fp_X8_18 ?_
  replace hz := hz.setP (p := o) (k := 2) (by omega) (by rw [tg_c (r := (o + 3)) (by rw [hs.c0]; decide) (pcr_d (by rw [hs.c0]; decide) 2)]; omega)
  replace hU : ∀ q j, q < (o + 1) → q ≠ o → (phs (phs (phs ph o 0) o 1) o 2) q j = ph q j := fun q j h1 h2 => (phs_ne (Or.inl h2)).trans (hU q j h1 h2)
  replace hB : Bp o 3 (o + 4) (phs (phs (phs ph o 0) o 1) o 2) := hB.fld
  refine e_aload_n h dX8_init_28 (pc := 28) rfl ?_
  refine e_bipush h dX8_init_29 (pc := 29) (by decide +kernel) ?_
  refine e_newaI h hf hz hs.c4 (n := 6) hs.l4 dX8_init_31 (pc := 31) rfl (by decide) (rbL_some (rbA_r (Or.inl (by omega))) rbL_nil) (rbS_cons (rbA_r (Or.inl (by omega))) rbS_nil) (fun ad4 hg4 => ?_)
  replace hB : Bp o 3 (o + 5) (phs (phs (phs ph o 0) o 1) o 2) := hB.num (Or.inl hs.c4)
  replace hag : ∀ q, q < (o + 1) ∨ (o + 5) ≤ q → ad4 q = ad q := fun q hq => (hg4 q (by omega)).trans (hag q (by omega))
  replace hz : Nw (o + 5) _ _ := hz.new
  show E κ ad4 (o + 5) _ _ _ _ _ (4, 24) _
  refine e_putF h hin fl_X8_21 dX8_init_33 (pc := 33) hs.c0 (by omega) rfl rfl (r := (o + 4)) (pcr_d (by rw [hs.c0]; decide) 3) fp_X8_21 ?_
  replace hz := hz.setP (p := o) (k := 3) (by omega) (by rw [tg_c (r := (o + 4)) (by rw [hs.c0]; decide) (pcr_d (by rw [hs.c0]; decide) 3)]; omega)
  replace hU : ∀ q j, q < (o + 1) → q ≠ o → (phs (phs (phs (phs ph o 0) o 1) o 2) o 3) q j = ph q j := fun q j h1 h2 => (phs_ne (Or.inl h2)).trans (hU q j h1 h2)
  replace hB : Bp o 4 (o + 5) (phs (phs (phs (phs ph o 0) o 1) o 2) o 3) := hB.fld
  refine e_aload_n h dX8_init_36 (pc := 36) rfl ?_
  refine e_bipush h dX8_init_37 (pc := 37) (by decide +kernel) ?_
  refine e_newaI h hf hz hs.c5 (n := 6) hs.l5 dX8_init_39 (pc := 39) rfl (by decide) (rbL_some (rbA_r (Or.inl (by omega))) rbL_nil) (rbS_cons (rbA_r (Or.inl (by omega))) rbS_nil) (fun ad5 hg5 => ?_)
  replace hB : Bp o 4 (o + 6) (phs (phs (phs (phs ph o 0) o 1) o 2) o 3) := hB.num (Or.inl hs.c5)
  replace hag : ∀ q, q < (o + 1) ∨ (o + 6) ≤ q → ad5 q = ad q := fun q hq => (hg5 q (by omega)).trans (hag q (by omega))
  replace hz : Nw (o + 6) _ _ := hz.new
  show E κ ad5 (o + 6) _ _ _ _ _ (5, 30) _
  refine e_putF h hin fl_X8_24 dX8_init_41 (pc := 41) hs.c0 (by omega) rfl rfl (r := (o + 5)) (pcr_d (by rw [hs.c0]; decide) 4) fp_X8_24 ?_
  replace hz := hz.setP (p := o) (k := 4) (by omega) (by rw [tg_c (r := (o + 5)) (by rw [hs.c0]; decide) (pcr_d (by rw [hs.c0]; decide) 4)]; omega)
  replace hU : ∀ q j, q < (o + 1) → q ≠ o → (phs (phs (phs (phs (phs ph o 0) o 1) o 2) o 3) o 4) q j = ph q j := fun q j h1 h2 => (phs_ne (Or.inl h2)).trans (hU q j h1 h2)
  replace hB : Bp o 5 (o + 6) (phs (phs (phs (phs (phs ph o 0) o 1) o 2) o 3) o 4) := hB.fld
  refine e_aload_n h dX8_init_44 (pc := 44) rfl ?_
  refine e_bipush h dX8_init_45 (pc := 45) (by decide +kernel) ?_
  refine e_newaI h hf hz hs.c6 (n := 6) hs.l6 dX8_init_47 (pc := 47) rfl (by decide) (rbL_some (rbA_r (Or.inl (by omega))) rbL_nil) (rbS_cons (rbA_r (Or.inl (by omega))) rbS_nil) (fun ad6 hg6 => ?_)
  replace hB : Bp o 5 (o + 7) (phs (phs (phs (phs (phs ph o 0) o 1) o 2) o 3) o 4) := hB.num (Or.inl hs.c6)
  replace hag : ∀ q, q < (o + 1) ∨ (o + 7) ≤ q → ad6 q = ad q := fun q hq => (hg6 q (by omega)).trans (hag q (by omega))
  replace hz : Nw (o + 7) _ _ := hz.new
  show E κ ad6 (o + 7) _ _ _ _ _ (6, 36) _
  refine e_putF h hin fl_X8_27 dX8_init_49 (pc := 49) hs.c0 (by omega) rfl rfl (r := (o + 6)) (pcr_d (by rw [hs.c0]; decide) 5) fp_X8_27 ?_
  replace hz := hz.setP (p := o) (k := 5) (by omega) (by rw [tg_c (r := (o + 6)) (by rw [hs.c0]; decide) (pcr_d (by rw [hs.c0]; decide) 5)]; omega)
  replace hU : ∀ q j, q < (o + 1) → q ≠ o → (phs (phs (phs (phs (phs (phs ph o 0) o 1) o 2) o 3) o 4) o 5) q j = ph q j := fun q j h1 h2 => (phs_ne (Or.inl h2)).trans (hU q j h1 h2)
  replace hB : Bp o 6 (o + 7) (phs (phs (phs (phs (phs (phs ph o 0) o 1) o 2) o 3) o 4) o 5) := hB.fld
  refine e_aload_n h dX8_init_52 (pc := 52) rfl ?_
  refine e_iconst h dX8_init_53 (pc := 53) ?_
  refine e_newaI h hf hz hs.c7 (n := 5) hs.l7 dX8_init_54 (pc := 54) rfl (by decide) (rbL_some (rbA_r (Or.inl (by omega))) rbL_nil) (rbS_cons (rbA_r (Or.inl (by omega))) rbS_nil) (fun ad7 hg7 => ?_)
  replace hB : Bp o 6 (o + 8) (phs (phs (phs (phs (phs (phs ph o 0) o 1) o 2) o 3) o 4) o 5) := hB.num (Or.inl hs.c7)
  replace hag : ∀ q, q < (o + 1) ∨ (o + 8) ≤ q → ad7 q = ad q := fun q hq => (hg7 q (by omega)).trans (hag q (by omega))
  replace hz : Nw (o + 8) _ _ := hz.new
  show E κ ad7 (o + 8) _ _ _ _ _ (7, 41) _
  refine e_putF h hin fl_X8_30 dX8_init_56 (pc := 56) hs.c0 (by omega) rfl rfl (r := (o + 7)) (pcr_d (by rw [hs.c0]; decide) 6) fp_X8_30 ?_
  replace hz := hz.setP (p := o) (k := 6) (by omega) (by rw [tg_c (r := (o + 7)) (by rw [hs.c0]; decide) (pcr_d (by rw [hs.c0]; decide) 6)]; omega)
  replace hU : ∀ q j, q < (o + 1) → q ≠ o → (phs (phs (phs (phs (phs (phs (phs ph o 0) o 1) o 2) o 3) o 4) o 5) o 6) q j = ph q j := fun q j h1 h2 => (phs_ne (Or.inl h2)).trans (hU q j h1 h2)
  replace hB : Bp o 7 (o + 8) (phs (phs (phs (phs (phs (phs (phs ph o 0) o 1) o 2) o 3) o 4) o 5) o 6) := hB.fld
  refine e_aload_n h dX8_init_59 (pc := 59) rfl ?_
  refine e_iconst h dX8_init_60 (pc := 60) ?_
  refine e_newaI h hf hz hs.c8 (n := 5) hs.l8 dX8_init_61 (pc := 61) rfl (by decide) (rbL_some (rbA_r (Or.inl (by omega))) rbL_nil) (rbS_cons (rbA_r (Or.inl (by omega))) rbS_nil) (fun ad8 hg8 => ?_)
  replace hB : Bp o 7 (o + 9) (phs (phs (phs (phs (phs (phs (phs ph o 0) o 1) o 2) o 3) o 4) o 5) o 6) := hB.num (Or.inl hs.c8)
  replace hag : ∀ q, q < (o + 1) ∨ (o + 9) ≤ q → ad8 q = ad q := fun q hq => (hg8 q (by omega)).trans (hag q (by omega))
  replace hz : Nw (o + 9) _ _ := hz.new
  show E κ ad8 (o + 9) _ _ _ _ _ (8, 46) _
  refine e_putF h hin fl_X8_33 dX8_init_63 (pc := 63) hs.c0 (by omega) rfl rfl (r := (o + 8)) (pcr_d (by rw [hs.c0]; decide) 7) fp_X8_33 ?_
  replace hz := hz.setP (p := o) (k := 7) (by omega) (by rw [tg_c (r := (o + 8)) (by rw [hs.c0]; decide) (pcr_d (by rw [hs.c0]; decide) 7)]; omega)
  replace hU : ∀ q j, q < (o + 1) → q ≠ o → (phs (phs (phs (phs (phs (phs (phs (phs ph o 0) o 1) o 2) o 3) o 4) o 5) o 6) o 7) q j = ph q j := fun q j h1 h2 => (phs_ne (Or.inl h2)).trans (hU q j h1 h2)
  replace hB : Bp o 8 (o + 9) (phs (phs (phs (phs (phs (phs (phs (phs ph o 0) o 1) o 2) o 3) o 4) o 5) o 6) o 7) := hB.fld
  refine e_aload_n h dX8_init_66 (pc := 66) rfl ?_
  refine e_new h hf hz hs.c9 (by decide) cl_X8_36 ia_X5 iz_X5 dX8_init_67 (pc := 67) (by decide) (rbL_some (rbA_r (Or.inl (by omega))) rbL_nil) (rbS_cons (rbA_r (Or.inl (by omega))) rbS_nil) (fun ad9 hg9 => ?_)
  replace hag : ∀ q, q < (o + 1) ∨ (o + 10) ≤ q → ad9 q = ad q := fun q hq => (hg9 q (by omega)).trans (hag q (by omega))
  replace hz : Nw (o + 10) _ _ := hz.new
  show E κ ad9 (o + 10) _ _ _ _ _ (9, 51) _
  refine e_dup h dX8_init_70 (pc := 70) rfl ?_
  refine e_callI (rmY := rmX5_init) (N2 := (o + 14)) (mc := 4) (ms := 30) lk_X8_38 mi_X5_init dX8_init_71 (pc := 71) (Nat.le_of_ble_eq_true rfl) (by decide) h hf ExOK.tr (rbL_some (rbA_r (Or.inl (by omega))) rbL_nil) (rbS_cons (rbA_r (Or.inl (by omega))) (rbS_cons (rbA_r (Or.inl (by omega))) rbS_nil)) ?_
  refine c_X5_init (o := (o + 9)) hs.o hz (fun ad10 ph10 hu10 hb10 hz => ?_)
  intro hg10
  replace hU : ∀ q j, q < (o + 1) → q ≠ o → ph10 q j = ph q j := fun q j h1 h2 => (hu10 q j (by omega) (by omega)).trans (hU q j h1 h2)
  replace hB : Bp o 8 (o + 14) ph10 := hB.call hu10 hb10
  replace hag : ∀ q, q < (o + 1) ∨ (o + 14) ≤ q → ad10 q = ad q := fun q hq => (hg10 q (by omega)).trans (hag q (by omega))
  replace hz : Nw (o + 14) _ _ := hz
  show E κ ad10 (o + 14) _ _ _ _ _ (13, 81) _
  refine e_putF h hin fl_X8_39 dX8_init_74 (pc := 74) hs.c0 (by omega) rfl rfl (r := (o + 9)) (pcr_d (by rw [hs.c0]; decide) 8) fp_X8_39 ?_
  replace hz := hz.setP (p := o) (k := 8) (by omega) (by rw [tg_c (r := (o + 9)) (by rw [hs.c0]; decide) (pcr_d (by rw [hs.c0]; decide) 8)]; omega)
  replace hU : ∀ q j, q < (o + 1) → q ≠ o → (phs ph10 o 8) q j = ph q j := fun q j h1 h2 => (phs_ne (Or.inl h2)).trans (hU q j h1 h2)
  replace hB : Bp o 9 (o + 14) (phs ph10 o 8) := hB.fld
  refine e_vretI h hr ha dX8_init_77 (pc := 77) hag (by decide) ?_
  exact K _ _ hU (hB.all (rf_lt hs.c0 (by decide) (kd_lt rfl (by decide)))) hz
abbrev rmX2_init : Room := { frames := 2, cells := 25, slots := 1146, locals := 32 }
set_option maxRecDepth 100000 in
set_option maxHeartbeats 4000000 in
theorem c_X2_init {gg : GT} {ad : Nat → Nat} {ph : Phs} {M : Mem} {Post : (Nat → Nat) → Phs → Mem → Prop} {o : Nat}  (hs : IsF6 o) (hz : Nw (o + 1) ph M) (K : ∀ (ad2 : Nat → Nat) (ph2 : Phs), (∀ q j, q < (o + 1) → q ≠ o → ph2 q j = ph q j) → Bt o (o + 26) ph2 → Nw (o + 26) ph2 (M) → Post ad2 ph2 (M)) : SpI gg yX2_init cX2_init 2 rmX2_init [vr o] ad (o + 1) (o + 26) ph M Tr 25 1146 Post := by
  refine SpI.intro (ls := [some (vr o), none]) (by decide +kernel) rfl rfl (Nat.le_of_ble_eq_true rfl) fun κ hgg h hr ha hf hin hex => ?_
  have h : Ok κ RX2 cX2_init 2 rmX2_init := h
  subst hgg
  have hag : ∀ q, q < (o + 1) ∨ (o + 1) ≤ q → ad q = ad q := fun _ _ => rfl
  have hU : ∀ q j, q < (o + 1) → q ≠ o → ph q j = ph q j := fun _ _ _ _ => rfl
  have hx0 := hs.1
  refine e_aload_n h dX2_init_0 (pc := 0) rfl ?_
  refine e_objInit h lp_X2_3 dX2_init_1 (pc := 1) (by decide) ?_
  refine e_aload_n h dX2_init_4 (pc := 4) rfl ?_
  refine e_bipush h dX2_init_5 (pc := 5) (by decide +kernel) ?_
  refine e_newq3 h hf hz hs.2.1 (n := 6) hs.2.2.1 cl_X2_9 dX2_init_7 (pc := 7) rfl (by decide) (rbL_some (rbA_r (Or.inl (by omega))) (rbL_none rbL_nil)) (rbS_cons (rbA_r (Or.inl (by omega))) rbS_nil) (fun ad1 hg1 => ?_)
  replace hag : ∀ q, q < (o + 1) ∨ (o + 2) ≤ q → ad1 q = ad q := fun q hq => (hg1 q (by omega)).trans (hag q (by omega))
  replace hz : Nw (o + 2) _ _ := hz.new
  show E κ ad1 (o + 2) _ _ _ _ _ (1, 6) _
  refine e_putF h hin fl_X2_11 dX2_init_10 (pc := 10) hs.1 (by omega) rfl rfl (r := (o + 1)) (pcr_d (by rw [hs.1]; decide) 0) fp_X2_11 ?_
  replace hz := hz.setP (p := o) (k := 0) (by omega) (by rw [tg_c (r := (o + 1)) (by rw [hs.1]; decide) (pcr_d (by rw [hs.1]; decide) 0)]; omega)
  replace hU : ∀ q j, q < (o + 1) → q ≠ o → (phs ph o 0) q j = ph q j := fun q j h1 h2 => (phs_ne (Or.inl h2)).trans (hU q j h1 h2)
  have hc0 : (phs ph o 0) o 0 = true := phs_eq _ _ _
  have hB : Bt (o + 2) (o + 2) (phs ph o 0) := Bt.nil
  refine e_iconst h dX2_init_13 (pc := 13) ?_
  refine e_istore1 h dX2_init_14 (pc := 14) (by decide) rfl ?_
  refine e_iload_n h dX2_init_15 (pc := 15) rfl ?_
  refine e_bipush h dX2_init_16 (pc := 16) (by decide +kernel) ?_
  refine e_icmp_ge h (tgt := 40) dX2_init_18 (pc := 18) (by decide) (by decide) (by decide) (fun hz0 => absurd hz0 (by decide)) (fun _ => ?_)
  refine e_aload_n h dX2_init_21 (pc := 21) rfl ?_
  refine e_getC h fl_X2_11 dX2_init_22 (pc := 22) hs.1 (by omega) rfl hc0 (r := (o + 1)) (pcr_d (by rw [hs.1]; decide) 0) ?_
  refine e_iload_n h dX2_init_25 (pc := 25) rfl ?_
  refine e_new h hf hz hs.2.2.2.1.c0 (by decide) cl_X2_9 ia_X1 iz_X1 dX2_init_26 (pc := 26) (by decide) (rbL_some (rbA_r (Or.inl (by omega))) (rbL_some rbA_i rbL_nil)) (rbS_cons rbA_i (rbS_cons (rbA_r (Or.inl (by omega))) rbS_nil)) (fun ad2 hg2 => ?_)
  replace hag : ∀ q, q < (o + 1) ∨ (o + 3) ≤ q → ad2 q = ad q := fun q hq => (hg2 q (by omega)).trans (hag q (by omega))
  replace hz : Nw (o + 3) _ _ := hz.new
  show E κ ad2 (o + 3) _ _ _ _ _ (2, 13) _
  refine e_dup h dX2_init_29 (pc := 29) rfl ?_
  refine e_callI (rmY := rmX1_init) (N2 := (o + 6)) (mc := 3) (ms := 183) lk_X2_17 mi_X1_init dX2_init_30 (pc := 30) (Nat.le_of_ble_eq_true rfl) (by decide) h hf ExOK.tr (rbL_some (rbA_r (Or.inl (by omega))) (rbL_some rbA_i rbL_nil)) (rbS_cons (rbA_r (Or.inl (by omega))) (rbS_cons rbA_i (rbS_cons (rbA_r (Or.inl (by omega))) rbS_nil))) ?_
  refine c_X1_init (o := (o + 2)) hs.2.2.2.1 hz (fun ad3 ph3 hu3 hb3 hz => ?_)
  intro hg3
  replace hU : ∀ q j, q < (o + 1) → q ≠ o → ph3 q j = ph q j := fun q j h1 h2 => (hu3 q j (by omega) (by omega)).trans (hU q j h1 h2)
  replace hc0 : ph3 o 0 = true := (hu3 _ _ (by omega) (by omega)).trans hc0
  replace hB : Bt (o + 2) (o + 6) ph3 := hB.join hu3 hb3
  replace hag : ∀ q, q < (o + 1) ∨ (o + 6) ≤ q → ad3 q = ad q := fun q hq => (hg3 q (by omega)).trans (hag q (by omega))
  replace hz : Nw (o + 6) _ _ := hz
  show E κ ad3 (o + 6) _ _ _ _ _ (5, 196) _
  refine e_astq3 h (p0 := (o + 1)) (v := (o + 2)) dX2_init_33 (pc := 33) hs.2.1 (by omega) hs.2.2.2.1.c0 (by omega) (j := 0) rfl (by rw [hs.2.2.1]; decide) (pcr_103 hs.2.1 0) ?_
  replace hz := hz.setP (p := (o + 1)) (k := 0) (by omega) (by rw [tg_c (r := (o + 2)) (by rw [hs.2.1]; decide) (pcr_103 hs.2.1 0)]; omega)
  replace hU : ∀ q j, q < (o + 1) → q ≠ o → (phs ph3 (o + 1) 0) q j = ph q j := fun q j h1 h2 => (phs_ne (by omega)).trans (hU q j h1 h2)
  replace hc0 : (phs ph3 (o + 1) 0) o 0 = true := (phs_ne (by omega)).trans hc0
  have hT0 : (phs ph3 (o + 1) 0) (o + 1) 0 = true := phs_eq _ _ _
  replace hB : Bt (o + 2) (o + 6) (phs ph3 (o + 1) 0) := hB.ph (by omega)
  refine e_iinc1 h dX2_init_34 (pc := 34) (by decide) rfl ?_
  rw [show ((0 : Int) + 1) = 1 from rfl]
  refine e_goto h dX2_init_37 (pc := 37) (tgt := 15) (by decide) ?_
  refine e_iload_n h dX2_init_15 (pc := 15) rfl ?_
  refine e_bipush h dX2_init_16 (pc := 16) (by decide +kernel) ?_
  refine e_icmp_ge h (tgt := 40) dX2_init_18 (pc := 18) (by decide) (by decide) (by decide) (fun hz0 => absurd hz0 (by decide)) (fun _ => ?_)
  refine e_aload_n h dX2_init_21 (pc := 21) rfl ?_
  refine e_getC h fl_X2_11 dX2_init_22 (pc := 22) hs.1 (by omega) rfl hc0 (r := (o + 1)) (pcr_d (by rw [hs.1]; decide) 0) ?_
  refine e_iload_n h dX2_init_25 (pc := 25) rfl ?_
  refine e_new h hf hz hs.2.2.2.2.1.c0 (by decide) cl_X2_9 ia_X1 iz_X1 dX2_init_26 (pc := 26) (by decide) (rbL_some (rbA_r (Or.inl (by omega))) (rbL_some rbA_i rbL_nil)) (rbS_cons rbA_i (rbS_cons (rbA_r (Or.inl (by omega))) rbS_nil)) (fun ad4 hg4 => ?_)
  replace hag : ∀ q, q < (o + 1) ∨ (o + 7) ≤ q → ad4 q = ad q := fun q hq => (hg4 q (by omega)).trans (hag q (by omega))
  replace hz : Nw (o + 7) _ _ := hz.new
  show E κ ad4 (o + 7) _ _ _ _ _ (6, 203) _
  refine e_dup h dX2_init_29 (pc := 29) rfl ?_
  refine e_callI (rmY := rmX1_init) (N2 := (o + 10)) (mc := 3) (ms := 183) lk_X2_17 mi_X1_init dX2_init_30 (pc := 30) (Nat.le_of_ble_eq_true rfl) (by decide) h hf ExOK.tr (rbL_some (rbA_r (Or.inl (by omega))) (rbL_some rbA_i rbL_nil)) (rbS_cons (rbA_r (Or.inl (by omega))) (rbS_cons rbA_i (rbS_cons (rbA_r (Or.inl (by omega))) rbS_nil))) ?_
  refine c_X1_init (o := (o + 6)) hs.2.2.2.2.1 hz (fun ad5 ph5 hu5 hb5 hz => ?_)
  intro hg5
  replace hU : ∀ q j, q < (o + 1) → q ≠ o → ph5 q j = ph q j := fun q j h1 h2 => (hu5 q j (by omega) (by omega)).trans (hU q j h1 h2)
  replace hc0 : ph5 o 0 = true := (hu5 _ _ (by omega) (by omega)).trans hc0
  replace hT0 : ph5 (o + 1) 0 = true := (hu5 _ _ (by omega) (by omega)).trans hT0
  replace hB : Bt (o + 2) (o + 10) ph5 := hB.join hu5 hb5
  replace hag : ∀ q, q < (o + 1) ∨ (o + 10) ≤ q → ad5 q = ad q := fun q hq => (hg5 q (by omega)).trans (hag q (by omega))
  replace hz : Nw (o + 10) _ _ := hz
  show E κ ad5 (o + 10) _ _ _ _ _ (9, 386) _
  refine e_astq3 h (p0 := (o + 1)) (v := (o + 6)) dX2_init_33 (pc := 33) hs.2.1 (by omega) hs.2.2.2.2.1.c0 (by omega) (j := 1) rfl (by rw [hs.2.2.1]; decide) (pcr_103 hs.2.1 1) ?_
  replace hz := hz.setP (p := (o + 1)) (k := 1) (by omega) (by rw [tg_c (r := (o + 6)) (by rw [hs.2.1]; decide) (pcr_103 hs.2.1 1)]; omega)
  replace hU : ∀ q j, q < (o + 1) → q ≠ o → (phs ph5 (o + 1) 1) q j = ph q j := fun q j h1 h2 => (phs_ne (by omega)).trans (hU q j h1 h2)
  replace hc0 : (phs ph5 (o + 1) 1) o 0 = true := (phs_ne (by omega)).trans hc0
  replace hT0 : (phs ph5 (o + 1) 1) (o + 1) 0 = true := (phs_ne (by omega)).trans hT0
  have hT1 : (phs ph5 (o + 1) 1) (o + 1) 1 = true := phs_eq _ _ _
  replace hB : Bt (o + 2) (o + 10) (phs ph5 (o + 1) 1) := hB.ph (by omega)
  refine e_iinc1 h dX2_init_34 (pc := 34) (by decide) rfl ?_
  rw [show ((1 : Int) + 1) = 2 from rfl]
  refine e_goto h dX2_init_37 (pc := 37) (tgt := 15) (by decide) ?_
  refine e_iload_n h dX2_init_15 (pc := 15) rfl ?_
  refine e_bipush h dX2_init_16 (pc := 16) (by decide +kernel) ?_
  refine e_icmp_ge h (tgt := 40) dX2_init_18 (pc := 18) (by decide) (by decide) (by decide) (fun hz0 => absurd hz0 (by decide)) (fun _ => ?_)
  refine e_aload_n h dX2_init_21 (pc := 21) rfl ?_
  refine e_getC h fl_X2_11 dX2_init_22 (pc := 22) hs.1 (by omega) rfl hc0 (r := (o + 1)) (pcr_d (by rw [hs.1]; decide) 0) ?_
  refine e_iload_n h dX2_init_25 (pc := 25) rfl ?_
  refine e_new h hf hz hs.2.2.2.2.2.1.c0 (by decide) cl_X2_9 ia_X1 iz_X1 dX2_init_26 (pc := 26) (by decide) (rbL_some (rbA_r (Or.inl (by omega))) (rbL_some rbA_i rbL_nil)) (rbS_cons rbA_i (rbS_cons (rbA_r (Or.inl (by omega))) rbS_nil)) (fun ad6 hg6 => ?_)
  replace hag : ∀ q, q < (o + 1) ∨ (o + 11) ≤ q → ad6 q = ad q := fun q hq => (hg6 q (by omega)).trans (hag q (by omega))
  replace hz : Nw (o + 11) _ _ := hz.new
  show E κ ad6 (o + 11) _ _ _ _ _ (10, 393) _
  refine e_dup h dX2_init_29 (pc := 29) rfl ?_
  refine e_callI (rmY := rmX1_init) (N2 := (o + 14)) (mc := 3) (ms := 183) lk_X2_17 mi_X1_init dX2_init_30 (pc := 30) (Nat.le_of_ble_eq_true rfl) (by decide) h hf ExOK.tr (rbL_some (rbA_r (Or.inl (by omega))) (rbL_some rbA_i rbL_nil)) (rbS_cons (rbA_r (Or.inl (by omega))) (rbS_cons rbA_i (rbS_cons (rbA_r (Or.inl (by omega))) rbS_nil))) ?_
  refine c_X1_init (o := (o + 10)) hs.2.2.2.2.2.1 hz (fun ad7 ph7 hu7 hb7 hz => ?_)
  intro hg7
  replace hU : ∀ q j, q < (o + 1) → q ≠ o → ph7 q j = ph q j := fun q j h1 h2 => (hu7 q j (by omega) (by omega)).trans (hU q j h1 h2)
  replace hc0 : ph7 o 0 = true := (hu7 _ _ (by omega) (by omega)).trans hc0
  replace hT0 : ph7 (o + 1) 0 = true := (hu7 _ _ (by omega) (by omega)).trans hT0
  replace hT1 : ph7 (o + 1) 1 = true := (hu7 _ _ (by omega) (by omega)).trans hT1
  replace hB : Bt (o + 2) (o + 14) ph7 := hB.join hu7 hb7
  replace hag : ∀ q, q < (o + 1) ∨ (o + 14) ≤ q → ad7 q = ad q := fun q hq => (hg7 q (by omega)).trans (hag q (by omega))
  replace hz : Nw (o + 14) _ _ := hz
  show E κ ad7 (o + 14) _ _ _ _ _ (13, 576) _
  refine e_astq3 h (p0 := (o + 1)) (v := (o + 10)) dX2_init_33 (pc := 33) hs.2.1 (by omega) hs.2.2.2.2.2.1.c0 (by omega) (j := 2) rfl (by rw [hs.2.2.1]; decide) (pcr_103 hs.2.1 2) ?_
  replace hz := hz.setP (p := (o + 1)) (k := 2) (by omega) (by rw [tg_c (r := (o + 10)) (by rw [hs.2.1]; decide) (pcr_103 hs.2.1 2)]; omega)
  replace hU : ∀ q j, q < (o + 1) → q ≠ o → (phs ph7 (o + 1) 2) q j = ph q j := fun q j h1 h2 => (phs_ne (by omega)).trans (hU q j h1 h2)
  replace hc0 : (phs ph7 (o + 1) 2) o 0 = true := (phs_ne (by omega)).trans hc0
  replace hT0 : (phs ph7 (o + 1) 2) (o + 1) 0 = true := (phs_ne (by omega)).trans hT0
  replace hT1 : (phs ph7 (o + 1) 2) (o + 1) 1 = true := (phs_ne (by omega)).trans hT1
  have hT2 : (phs ph7 (o + 1) 2) (o + 1) 2 = true := phs_eq _ _ _
  replace hB : Bt (o + 2) (o + 14) (phs ph7 (o + 1) 2) := hB.ph (by omega)
  refine e_iinc1 h dX2_init_34 (pc := 34) (by decide) rfl ?_
  rw [show ((2 : Int) + 1) = 3 from rfl]
  refine e_goto h dX2_init_37 (pc := 37) (tgt := 15) (by decide) ?_
  refine e_iload_n h dX2_init_15 (pc := 15) rfl ?_
  refine e_bipush h dX2_init_16 (pc := 16) (by decide +kernel) ?_
  refine e_icmp_ge h (tgt := 40) dX2_init_18 (pc := 18) (by decide) (by decide) (by decide) (fun hz0 => absurd hz0 (by decide)) (fun _ => ?_)
  refine e_aload_n h dX2_init_21 (pc := 21) rfl ?_
  refine e_getC h fl_X2_11 dX2_init_22 (pc := 22) hs.1 (by omega) rfl hc0 (r := (o + 1)) (pcr_d (by rw [hs.1]; decide) 0) ?_
  refine e_iload_n h dX2_init_25 (pc := 25) rfl ?_
  refine e_new h hf hz hs.2.2.2.2.2.2.1.c0 (by decide) cl_X2_9 ia_X1 iz_X1 dX2_init_26 (pc := 26) (by decide) (rbL_some (rbA_r (Or.inl (by omega))) (rbL_some rbA_i rbL_nil)) (rbS_cons rbA_i (rbS_cons (rbA_r (Or.inl (by omega))) rbS_nil)) (fun ad8 hg8 => ?_)
  replace hag : ∀ q, q < (o + 1) ∨ (o + 15) ≤ q → ad8 q = ad q := fun q hq => (hg8 q (by omega)).trans (hag q (by omega))
  replace hz : Nw (o + 15) _ _ := hz.new
  show E κ ad8 (o + 15) _ _ _ _ _ (14, 583) _
  refine e_dup h dX2_init_29 (pc := 29) rfl ?_
  refine e_callI (rmY := rmX1_init) (N2 := (o + 18)) (mc := 3) (ms := 183) lk_X2_17 mi_X1_init dX2_init_30 (pc := 30) (Nat.le_of_ble_eq_true rfl) (by decide) h hf ExOK.tr (rbL_some (rbA_r (Or.inl (by omega))) (rbL_some rbA_i rbL_nil)) (rbS_cons (rbA_r (Or.inl (by omega))) (rbS_cons rbA_i (rbS_cons (rbA_r (Or.inl (by omega))) rbS_nil))) ?_
  refine c_X1_init (o := (o + 14)) hs.2.2.2.2.2.2.1 hz (fun ad9 ph9 hu9 hb9 hz => ?_)
  intro hg9
  replace hU : ∀ q j, q < (o + 1) → q ≠ o → ph9 q j = ph q j := fun q j h1 h2 => (hu9 q j (by omega) (by omega)).trans (hU q j h1 h2)
  replace hc0 : ph9 o 0 = true := (hu9 _ _ (by omega) (by omega)).trans hc0
  replace hT0 : ph9 (o + 1) 0 = true := (hu9 _ _ (by omega) (by omega)).trans hT0
  replace hT1 : ph9 (o + 1) 1 = true := (hu9 _ _ (by omega) (by omega)).trans hT1
  replace hT2 : ph9 (o + 1) 2 = true := (hu9 _ _ (by omega) (by omega)).trans hT2
  replace hB : Bt (o + 2) (o + 18) ph9 := hB.join hu9 hb9
  replace hag : ∀ q, q < (o + 1) ∨ (o + 18) ≤ q → ad9 q = ad q := fun q hq => (hg9 q (by omega)).trans (hag q (by omega))
  replace hz : Nw (o + 18) _ _ := hz
  show E κ ad9 (o + 18) _ _ _ _ _ (17, 766) _
  refine e_astq3 h (p0 := (o + 1)) (v := (o + 14)) dX2_init_33 (pc := 33) hs.2.1 (by omega) hs.2.2.2.2.2.2.1.c0 (by omega) (j := 3) rfl (by rw [hs.2.2.1]; decide) (pcr_103 hs.2.1 3) ?_
  replace hz := hz.setP (p := (o + 1)) (k := 3) (by omega) (by rw [tg_c (r := (o + 14)) (by rw [hs.2.1]; decide) (pcr_103 hs.2.1 3)]; omega)
  replace hU : ∀ q j, q < (o + 1) → q ≠ o → (phs ph9 (o + 1) 3) q j = ph q j := fun q j h1 h2 => (phs_ne (by omega)).trans (hU q j h1 h2)
  replace hc0 : (phs ph9 (o + 1) 3) o 0 = true := (phs_ne (by omega)).trans hc0
  replace hT0 : (phs ph9 (o + 1) 3) (o + 1) 0 = true := (phs_ne (by omega)).trans hT0
  replace hT1 : (phs ph9 (o + 1) 3) (o + 1) 1 = true := (phs_ne (by omega)).trans hT1
  replace hT2 : (phs ph9 (o + 1) 3) (o + 1) 2 = true := (phs_ne (by omega)).trans hT2
  have hT3 : (phs ph9 (o + 1) 3) (o + 1) 3 = true := phs_eq _ _ _
  replace hB : Bt (o + 2) (o + 18) (phs ph9 (o + 1) 3) := hB.ph (by omega)
  refine e_iinc1 h dX2_init_34 (pc := 34) (by decide) rfl ?_
  rw [show ((3 : Int) + 1) = 4 from rfl]
  refine e_goto h dX2_init_37 (pc := 37) (tgt := 15) (by decide) ?_
  refine e_iload_n h dX2_init_15 (pc := 15) rfl ?_
  refine e_bipush h dX2_init_16 (pc := 16) (by decide +kernel) ?_
  refine e_icmp_ge h (tgt := 40) dX2_init_18 (pc := 18) (by decide) (by decide) (by decide) (fun hz0 => absurd hz0 (by decide)) (fun _ => ?_)
  refine e_aload_n h dX2_init_21 (pc := 21) rfl ?_
  refine e_getC h fl_X2_11 dX2_init_22 (pc := 22) hs.1 (by omega) rfl hc0 (r := (o + 1)) (pcr_d (by rw [hs.1]; decide) 0) ?_
  refine e_iload_n h dX2_init_25 (pc := 25) rfl ?_
  refine e_new h hf hz hs.2.2.2.2.2.2.2.1.c0 (by decide) cl_X2_9 ia_X1 iz_X1 dX2_init_26 (pc := 26) (by decide) (rbL_some (rbA_r (Or.inl (by omega))) (rbL_some rbA_i rbL_nil)) (rbS_cons rbA_i (rbS_cons (rbA_r (Or.inl (by omega))) rbS_nil)) (fun ad10 hg10 => ?_)
  replace hag : ∀ q, q < (o + 1) ∨ (o + 19) ≤ q → ad10 q = ad q := fun q hq => (hg10 q (by omega)).trans (hag q (by omega))
  replace hz : Nw (o + 19) _ _ := hz.new
  show E κ ad10 (o + 19) _ _ _ _ _ (18, 773) _
  refine e_dup h dX2_init_29 (pc := 29) rfl ?_
  refine e_callI (rmY := rmX1_init) (N2 := (o + 22)) (mc := 3) (ms := 183) lk_X2_17 mi_X1_init dX2_init_30 (pc := 30) (Nat.le_of_ble_eq_true rfl) (by decide) h hf ExOK.tr (rbL_some (rbA_r (Or.inl (by omega))) (rbL_some rbA_i rbL_nil)) (rbS_cons (rbA_r (Or.inl (by omega))) (rbS_cons rbA_i (rbS_cons (rbA_r (Or.inl (by omega))) rbS_nil))) ?_
  refine c_X1_init (o := (o + 18)) hs.2.2.2.2.2.2.2.1 hz (fun ad11 ph11 hu11 hb11 hz => ?_)
  intro hg11
  replace hU : ∀ q j, q < (o + 1) → q ≠ o → ph11 q j = ph q j := fun q j h1 h2 => (hu11 q j (by omega) (by omega)).trans (hU q j h1 h2)
  replace hc0 : ph11 o 0 = true := (hu11 _ _ (by omega) (by omega)).trans hc0
  replace hT0 : ph11 (o + 1) 0 = true := (hu11 _ _ (by omega) (by omega)).trans hT0
  replace hT1 : ph11 (o + 1) 1 = true := (hu11 _ _ (by omega) (by omega)).trans hT1
  replace hT2 : ph11 (o + 1) 2 = true := (hu11 _ _ (by omega) (by omega)).trans hT2
  replace hT3 : ph11 (o + 1) 3 = true := (hu11 _ _ (by omega) (by omega)).trans hT3
  replace hB : Bt (o + 2) (o + 22) ph11 := hB.join hu11 hb11
  replace hag : ∀ q, q < (o + 1) ∨ (o + 22) ≤ q → ad11 q = ad q := fun q hq => (hg11 q (by omega)).trans (hag q (by omega))
  replace hz : Nw (o + 22) _ _ := hz
  show E κ ad11 (o + 22) _ _ _ _ _ (21, 956) _
  refine e_astq3 h (p0 := (o + 1)) (v := (o + 18)) dX2_init_33 (pc := 33) hs.2.1 (by omega) hs.2.2.2.2.2.2.2.1.c0 (by omega) (j := 4) rfl (by rw [hs.2.2.1]; decide) (pcr_103 hs.2.1 4) ?_
  replace hz := hz.setP (p := (o + 1)) (k := 4) (by omega) (by rw [tg_c (r := (o + 18)) (by rw [hs.2.1]; decide) (pcr_103 hs.2.1 4)]; omega)
  replace hU : ∀ q j, q < (o + 1) → q ≠ o → (phs ph11 (o + 1) 4) q j = ph q j := fun q j h1 h2 => (phs_ne (by omega)).trans (hU q j h1 h2)
  replace hc0 : (phs ph11 (o + 1) 4) o 0 = true := (phs_ne (by omega)).trans hc0
  replace hT0 : (phs ph11 (o + 1) 4) (o + 1) 0 = true := (phs_ne (by omega)).trans hT0
  replace hT1 : (phs ph11 (o + 1) 4) (o + 1) 1 = true := (phs_ne (by omega)).trans hT1
  replace hT2 : (phs ph11 (o + 1) 4) (o + 1) 2 = true := (phs_ne (by omega)).trans hT2
  replace hT3 : (phs ph11 (o + 1) 4) (o + 1) 3 = true := (phs_ne (by omega)).trans hT3
  have hT4 : (phs ph11 (o + 1) 4) (o + 1) 4 = true := phs_eq _ _ _
  replace hB : Bt (o + 2) (o + 22) (phs ph11 (o + 1) 4) := hB.ph (by omega)
  refine e_iinc1 h dX2_init_34 (pc := 34) (by decide) rfl ?_
  rw [show ((4 : Int) + 1) = 5 from rfl]
  refine e_goto h dX2_init_37 (pc := 37) (tgt := 15) (by decide) ?_
  refine e_iload_n h dX2_init_15 (pc := 15) rfl ?_
  refine e_bipush h dX2_init_16 (pc := 16) (by decide +kernel) ?_
  refine e_icmp_ge h (tgt := 40) dX2_init_18 (pc := 18) (by decide) (by decide) (by decide) (fun hz0 => absurd hz0 (by decide)) (fun _ => ?_)
  refine e_aload_n h dX2_init_21 (pc := 21) rfl ?_
  refine e_getC h fl_X2_11 dX2_init_22 (pc := 22) hs.1 (by omega) rfl hc0 (r := (o + 1)) (pcr_d (by rw [hs.1]; decide) 0) ?_
  refine e_iload_n h dX2_init_25 (pc := 25) rfl ?_
  refine e_new h hf hz hs.2.2.2.2.2.2.2.2.c0 (by decide) cl_X2_9 ia_X1 iz_X1 dX2_init_26 (pc := 26) (by decide) (rbL_some (rbA_r (Or.inl (by omega))) (rbL_some rbA_i rbL_nil)) (rbS_cons rbA_i (rbS_cons (rbA_r (Or.inl (by omega))) rbS_nil)) (fun ad12 hg12 => ?_)
  replace hag : ∀ q, q < (o + 1) ∨ (o + 23) ≤ q → ad12 q = ad q := fun q hq => (hg12 q (by omega)).trans (hag q (by omega))
  replace hz : Nw (o + 23) _ _ := hz.new
  show E κ ad12 (o + 23) _ _ _ _ _ (22, 963) _
  refine e_dup h dX2_init_29 (pc := 29) rfl ?_
  refine e_callI (rmY := rmX1_init) (N2 := (o + 26)) (mc := 3) (ms := 183) lk_X2_17 mi_X1_init dX2_init_30 (pc := 30) (Nat.le_of_ble_eq_true rfl) (by decide) h hf ExOK.tr (rbL_some (rbA_r (Or.inl (by omega))) (rbL_some rbA_i rbL_nil)) (rbS_cons (rbA_r (Or.inl (by omega))) (rbS_cons rbA_i (rbS_cons (rbA_r (Or.inl (by omega))) rbS_nil))) ?_
  refine c_X1_init (o := (o + 22)) hs.2.2.2.2.2.2.2.2 hz (fun ad13 ph13 hu13 hb13 hz => ?_)
  intro hg13
  replace hU : ∀ q j, q < (o + 1) → q ≠ o → ph13 q j = ph q j := fun q j h1 h2 => (hu13 q j (by omega) (by omega)).trans (hU q j h1 h2)
  replace hc0 : ph13 o 0 = true := (hu13 _ _ (by omega) (by omega)).trans hc0
  replace hT0 : ph13 (o + 1) 0 = true := (hu13 _ _ (by omega) (by omega)).trans hT0
  replace hT1 : ph13 (o + 1) 1 = true := (hu13 _ _ (by omega) (by omega)).trans hT1
  replace hT2 : ph13 (o + 1) 2 = true := (hu13 _ _ (by omega) (by omega)).trans hT2
  replace hT3 : ph13 (o + 1) 3 = true := (hu13 _ _ (by omega) (by omega)).trans hT3
  replace hT4 : ph13 (o + 1) 4 = true := (hu13 _ _ (by omega) (by omega)).trans hT4
  replace hB : Bt (o + 2) (o + 26) ph13 := hB.join hu13 hb13
  replace hag : ∀ q, q < (o + 1) ∨ (o + 26) ≤ q → ad13 q = ad q := fun q hq => (hg13 q (by omega)).trans (hag q (by omega))
  replace hz : Nw (o + 26) _ _ := hz
  show E κ ad13 (o + 26) _ _ _ _ _ (25, 1146) _
  refine e_astq3 h (p0 := (o + 1)) (v := (o + 22)) dX2_init_33 (pc := 33) hs.2.1 (by omega) hs.2.2.2.2.2.2.2.2.c0 (by omega) (j := 5) rfl (by rw [hs.2.2.1]; decide) (pcr_103 hs.2.1 5) ?_
  replace hz := hz.setP (p := (o + 1)) (k := 5) (by omega) (by rw [tg_c (r := (o + 22)) (by rw [hs.2.1]; decide) (pcr_103 hs.2.1 5)]; omega)
  replace hU : ∀ q j, q < (o + 1) → q ≠ o → (phs ph13 (o + 1) 5) q j = ph q j := fun q j h1 h2 => (phs_ne (by omega)).trans (hU q j h1 h2)
  replace hc0 : (phs ph13 (o + 1) 5) o 0 = true := (phs_ne (by omega)).trans hc0
  replace hT0 : (phs ph13 (o + 1) 5) (o + 1) 0 = true := (phs_ne (by omega)).trans hT0
  replace hT1 : (phs ph13 (o + 1) 5) (o + 1) 1 = true := (phs_ne (by omega)).trans hT1
  replace hT2 : (phs ph13 (o + 1) 5) (o + 1) 2 = true := (phs_ne (by omega)).trans hT2
  replace hT3 : (phs ph13 (o + 1) 5) (o + 1) 3 = true := (phs_ne (by omega)).trans hT3
  replace hT4 : (phs ph13 (o + 1) 5) (o + 1) 4 = true := (phs_ne (by omega)).trans hT4
  have hT5 : (phs ph13 (o + 1) 5) (o + 1) 5 = true := phs_eq _ _ _
  replace hB : Bt (o + 2) (o + 26) (phs ph13 (o + 1) 5) := hB.ph (by omega)
  refine e_iinc1 h dX2_init_34 (pc := 34) (by decide) rfl ?_
  rw [show ((5 : Int) + 1) = 6 from rfl]
  refine e_goto h dX2_init_37 (pc := 37) (tgt := 15) (by decide) ?_
  refine e_iload_n h dX2_init_15 (pc := 15) rfl ?_
  refine e_bipush h dX2_init_16 (pc := 16) (by decide +kernel) ?_
  refine e_icmp_ge h (tgt := 40) dX2_init_18 (pc := 18) (by decide) (by decide) (by decide) (fun _ => ?_) (fun hz0 => absurd hz0 (by decide))
  refine e_vretI h hr ha dX2_init_40 (pc := 40) hag (by decide) ?_
  refine K _ _ hU (fun q j h1 h2 h3 => ?_) hz
  by_cases e0 : q = o
  · rw [e0] at h3 ⊢
    have hj := rf_lt hs.1 (by decide) (kd_lt (a := 1) rfl (by decide)) j h3
    obtain rfl : j = 0 := by omega
    exact hc0
  · by_cases e1 : q = (o + 1)
    · rw [e1] at h3 ⊢
      have hj := rf_arr (by rw [hs.2.1]; decide) hs.2.2.1 h3
      match j, hj with
      | 0, _ => exact hT0
      | 1, _ => exact hT1
      | 2, _ => exact hT2
      | 3, _ => exact hT3
      | 4, _ => exact hT4
      | 5, _ => exact hT5
      | j + 6, hj => exact absurd hj (by omega)
    · exact hB q j (by omega) h2 h3
abbrev rmX7_init : Room := { frames := 2, cells := 11, slots := 72, locals := 32 }
set_option maxRecDepth 100000 in
set_option maxHeartbeats 4000000 in
theorem c_X7_init {gg : GT} {ad : Nat → Nat} {ph : Phs} {M : Mem} {Post : (Nat → Nat) → Phs → Mem → Prop}   (hz : Nw 71 ph M) (K : ∀ (ad2 : Nat → Nat) (ph2 : Phs), (∀ q j, q < 71 → q ≠ 70 → ph2 q j = ph q j) → Bt 70 82 ph2 → Nw 82 ph2 (M) → Post ad2 ph2 (M)) : SpI gg yX7_init cX7_init 2 rmX7_init [vr 70] ad 71 82 ph M Tr 11 72 Post := by
  refine SpI.intro (ls := [some (vr 70), none]) (by decide +kernel) rfl rfl (Nat.le_of_ble_eq_true rfl) fun κ hgg h hr ha hf hin hex => ?_
  have h : Ok κ RX7 cX7_init 2 rmX7_init := h
  subst hgg
  have hag : ∀ q, q < 71 ∨ 71 ≤ q → ad q = ad q := fun _ _ => rfl
  have hU : ∀ q j, q < 71 → q ≠ 70 → ph q j = ph q j := fun _ _ _ _ => rfl
  have hx0 := hz
  refine e_aload_n h dX7_init_0 (pc := 0) rfl ?_
  refine e_objInit h lp_X7_3 dX7_init_1 (pc := 1) (by decide) ?_
  refine e_aload_n h dX7_init_4 (pc := 4) rfl ?_
  refine e_iconst h dX7_init_5 (pc := 5) ?_
  refine e_newq4 h hf hz (show pcl 71 = 104 from rfl) (n := 2) (show plen 71 = 2 from rfl) cl_X7_9 dX7_init_6 (pc := 6) rfl (by decide) (rbL_some (rbA_r (Or.inl (by omega))) (rbL_none rbL_nil)) (rbS_cons (rbA_r (Or.inl (by omega))) rbS_nil) (fun ad1 hg1 => ?_)
  replace hag : ∀ q, q < 71 ∨ 72 ≤ q → ad1 q = ad q := fun q hq => (hg1 q (by omega)).trans (hag q (by omega))
  replace hz : Nw 72 _ _ := hz.new
  show E κ ad1 72 _ _ _ _ _ (1, 2) _
  refine e_putF h hin fl_X7_11 dX7_init_9 (pc := 9) (show pcl 70 = 7 from rfl) (by omega) rfl rfl (r := 71) rfl fp_X7_11 ?_
  replace hz := hz.setP (p := 70) (k := 0) (by omega) (by rw [tg_c (r := 71) (by rw [(show pcl 70 = 7 from rfl)]; decide) rfl]; omega)
  replace hU : ∀ q j, q < 71 → q ≠ 70 → (phs ph 70 0) q j = ph q j := fun q j h1 h2 => (phs_ne (Or.inl h2)).trans (hU q j h1 h2)
  have hc0 : (phs ph 70 0) 70 0 = true := phs_eq _ _ _
  have hB : Bt 72 72 (phs ph 70 0) := Bt.nil
  refine e_iconst h dX7_init_12 (pc := 12) ?_
  refine e_istore1 h dX7_init_13 (pc := 13) (by decide) rfl ?_
  refine e_iload_n h dX7_init_14 (pc := 14) rfl ?_
  refine e_iconst h dX7_init_15 (pc := 15) ?_
  refine e_icmp_ge h (tgt := 38) dX7_init_16 (pc := 16) (by decide) (by decide) (by decide) (fun hz0 => absurd hz0 (by decide)) (fun _ => ?_)
  refine e_aload_n h dX7_init_19 (pc := 19) rfl ?_
  refine e_getC h fl_X7_11 dX7_init_20 (pc := 20) (show pcl 70 = 7 from rfl) (by omega) rfl hc0 (r := 71) rfl ?_
  refine e_iload_n h dX7_init_23 (pc := 23) rfl ?_
  refine e_new h hf hz (show pcl 72 = 5 from rfl) (by decide) cl_X7_9 ia_X5 iz_X5 dX7_init_24 (pc := 24) (by decide) (rbL_some (rbA_r (Or.inl (by omega))) (rbL_some rbA_i rbL_nil)) (rbS_cons rbA_i (rbS_cons (rbA_r (Or.inl (by omega))) rbS_nil)) (fun ad2 hg2 => ?_)
  replace hag : ∀ q, q < 71 ∨ 73 ≤ q → ad2 q = ad q := fun q hq => (hg2 q (by omega)).trans (hag q (by omega))
  replace hz : Nw 73 _ _ := hz.new
  show E κ ad2 73 _ _ _ _ _ (2, 7) _
  refine e_dup h dX7_init_27 (pc := 27) rfl ?_
  refine e_callI (rmY := rmX5_init) (N2 := 77) (mc := 4) (ms := 30) lk_X7_17 mi_X5_init dX7_init_28 (pc := 28) (Nat.le_of_ble_eq_true rfl) (by decide) h hf ExOK.tr (rbL_some (rbA_r (Or.inl (by omega))) (rbL_some rbA_i rbL_nil)) (rbS_cons (rbA_r (Or.inl (by omega))) (rbS_cons rbA_i (rbS_cons (rbA_r (Or.inl (by omega))) rbS_nil))) ?_
  refine c_X5_init (o := 72) (by unfold IsO; decide) hz (fun ad3 ph3 hu3 hb3 hz => ?_)
  intro hg3
  replace hU : ∀ q j, q < 71 → q ≠ 70 → ph3 q j = ph q j := fun q j h1 h2 => (hu3 q j (by omega) (by omega)).trans (hU q j h1 h2)
  replace hc0 : ph3 70 0 = true := (hu3 _ _ (by omega) (by omega)).trans hc0
  replace hB : Bt 72 77 ph3 := hB.join hu3 hb3
  replace hag : ∀ q, q < 71 ∨ 77 ≤ q → ad3 q = ad q := fun q hq => (hg3 q (by omega)).trans (hag q (by omega))
  replace hz : Nw 77 _ _ := hz
  show E κ ad3 77 _ _ _ _ _ (6, 37) _
  refine e_astq4 h (p0 := 71) (v := 72) dX7_init_31 (pc := 31) (show pcl 71 = 104 from rfl) (by omega) (show pcl 72 = 5 from rfl) (by omega) (j := 0) rfl (by rw [(show plen 71 = 2 from rfl)]; decide) rfl ?_
  replace hz := hz.setP (p := 71) (k := 0) (by omega) (by rw [tg_c (r := 72) (by rw [(show pcl 71 = 104 from rfl)]; decide) rfl]; omega)
  replace hU : ∀ q j, q < 71 → q ≠ 70 → (phs ph3 71 0) q j = ph q j := fun q j h1 h2 => (phs_ne (by omega)).trans (hU q j h1 h2)
  replace hc0 : (phs ph3 71 0) 70 0 = true := (phs_ne (by omega)).trans hc0
  have hT0 : (phs ph3 71 0) 71 0 = true := phs_eq _ _ _
  replace hB : Bt 72 77 (phs ph3 71 0) := hB.ph (by omega)
  refine e_iinc1 h dX7_init_32 (pc := 32) (by decide) rfl ?_
  rw [show ((0 : Int) + 1) = 1 from rfl]
  refine e_goto h dX7_init_35 (pc := 35) (tgt := 14) (by decide) ?_
  refine e_iload_n h dX7_init_14 (pc := 14) rfl ?_
  refine e_iconst h dX7_init_15 (pc := 15) ?_
  refine e_icmp_ge h (tgt := 38) dX7_init_16 (pc := 16) (by decide) (by decide) (by decide) (fun hz0 => absurd hz0 (by decide)) (fun _ => ?_)
  refine e_aload_n h dX7_init_19 (pc := 19) rfl ?_
  refine e_getC h fl_X7_11 dX7_init_20 (pc := 20) (show pcl 70 = 7 from rfl) (by omega) rfl hc0 (r := 71) rfl ?_
  refine e_iload_n h dX7_init_23 (pc := 23) rfl ?_
  refine e_new h hf hz (show pcl 77 = 5 from rfl) (by decide) cl_X7_9 ia_X5 iz_X5 dX7_init_24 (pc := 24) (by decide) (rbL_some (rbA_r (Or.inl (by omega))) (rbL_some rbA_i rbL_nil)) (rbS_cons rbA_i (rbS_cons (rbA_r (Or.inl (by omega))) rbS_nil)) (fun ad4 hg4 => ?_)
  replace hag : ∀ q, q < 71 ∨ 78 ≤ q → ad4 q = ad q := fun q hq => (hg4 q (by omega)).trans (hag q (by omega))
  replace hz : Nw 78 _ _ := hz.new
  show E κ ad4 78 _ _ _ _ _ (7, 42) _
  refine e_dup h dX7_init_27 (pc := 27) rfl ?_
  refine e_callI (rmY := rmX5_init) (N2 := 82) (mc := 4) (ms := 30) lk_X7_17 mi_X5_init dX7_init_28 (pc := 28) (Nat.le_of_ble_eq_true rfl) (by decide) h hf ExOK.tr (rbL_some (rbA_r (Or.inl (by omega))) (rbL_some rbA_i rbL_nil)) (rbS_cons (rbA_r (Or.inl (by omega))) (rbS_cons rbA_i (rbS_cons (rbA_r (Or.inl (by omega))) rbS_nil))) ?_
  refine c_X5_init (o := 77) (by unfold IsO; decide) hz (fun ad5 ph5 hu5 hb5 hz => ?_)
  intro hg5
  replace hU : ∀ q j, q < 71 → q ≠ 70 → ph5 q j = ph q j := fun q j h1 h2 => (hu5 q j (by omega) (by omega)).trans (hU q j h1 h2)
  replace hc0 : ph5 70 0 = true := (hu5 _ _ (by omega) (by omega)).trans hc0
  replace hT0 : ph5 71 0 = true := (hu5 _ _ (by omega) (by omega)).trans hT0
  replace hB : Bt 72 82 ph5 := hB.join hu5 hb5
  replace hag : ∀ q, q < 71 ∨ 82 ≤ q → ad5 q = ad q := fun q hq => (hg5 q (by omega)).trans (hag q (by omega))
  replace hz : Nw 82 _ _ := hz
  show E κ ad5 82 _ _ _ _ _ (11, 72) _
  refine e_astq4 h (p0 := 71) (v := 77) dX7_init_31 (pc := 31) (show pcl 71 = 104 from rfl) (by omega) (show pcl 77 = 5 from rfl) (by omega) (j := 1) rfl (by rw [(show plen 71 = 2 from rfl)]; decide) rfl ?_
  replace hz := hz.setP (p := 71) (k := 1) (by omega) (by rw [tg_c (r := 77) (by rw [(show pcl 71 = 104 from rfl)]; decide) rfl]; omega)
  replace hU : ∀ q j, q < 71 → q ≠ 70 → (phs ph5 71 1) q j = ph q j := fun q j h1 h2 => (phs_ne (by omega)).trans (hU q j h1 h2)
  replace hc0 : (phs ph5 71 1) 70 0 = true := (phs_ne (by omega)).trans hc0
  replace hT0 : (phs ph5 71 1) 71 0 = true := (phs_ne (by omega)).trans hT0
  have hT1 : (phs ph5 71 1) 71 1 = true := phs_eq _ _ _
  replace hB : Bt 72 82 (phs ph5 71 1) := hB.ph (by omega)
  refine e_iinc1 h dX7_init_32 (pc := 32) (by decide) rfl ?_
  rw [show ((1 : Int) + 1) = 2 from rfl]
  refine e_goto h dX7_init_35 (pc := 35) (tgt := 14) (by decide) ?_
  refine e_iload_n h dX7_init_14 (pc := 14) rfl ?_
  refine e_iconst h dX7_init_15 (pc := 15) ?_
  refine e_icmp_ge h (tgt := 38) dX7_init_16 (pc := 16) (by decide) (by decide) (by decide) (fun _ => ?_) (fun hz0 => absurd hz0 (by decide))
  refine e_vretI h hr ha dX7_init_38 (pc := 38) hag (by decide) ?_
  refine K _ _ hU (fun q j h1 h2 h3 => ?_) hz
  by_cases e0 : q = 70
  · rw [e0] at h3 ⊢
    have hj := rf_lt (show pcl 70 = 7 from rfl) (by decide) (kd_lt (a := 1) rfl (by decide)) j h3
    obtain rfl : j = 0 := by omega
    exact hc0
  · by_cases e1 : q = 71
    · rw [e1] at h3 ⊢
      have hj := rf_arr (by rw [(show pcl 71 = 104 from rfl)]; decide) (show plen 71 = 2 from rfl) h3
      match j, hj with
      | 0, _ => exact hT0
      | 1, _ => exact hT1
      | j + 2, hj => exact absurd hj (by omega)
    · exact hB q j (by omega) h2 h3
