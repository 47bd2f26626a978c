theorem s0_P0 : sP S0 0 = 2 := by decide +kernel
theorem s0_P1 : sP S0 1 = 5 := by decide +kernel
theorem s0_W0 : sW S0 0 = 0 := by decide +kernel
theorem s0_W1 : sW S0 1 = 1 := by decide +kernel
theorem s0_H0 : sH S0 0 = 0 := by decide +kernel
theorem s0_H1 : sH S0 1 = 1 := by decide +kernel
theorem s0_F0 : sF S0 0 = 0 := by decide +kernel
theorem s0_F1 : sF S0 1 = 6 := by decide +kernel
theorem s0_X0 : sX S0 0 = 2 := by decide +kernel
theorem s0_X1 : sX S0 1 = 3 := by decide +kernel
theorem s0_K0 : sK S0 0 = 0 := by decide +kernel
theorem s0_K1 : sK S0 1 = 0 := by decide +kernel
theorem o0_E : oE O0 = 0 := by decide +kernel
theorem o0_G0 : oG O0 0 = 20 := by decide +kernel
theorem o0_G1 : oG O0 1 = 20 := by decide +kernel
theorem PW00 : PW S0 O0 := by
  refine ⟨by rw [S0_L]; decide, by rw [S0_T]; decide, by rw [S0_B]; decide, by rw [o0_E]; decide, fun l hl => ?_, fun i hi => ?_, fun k hk => ?_, fun k hk => ?_⟩
  · rw [S0_L] at hl
    match l, hl with
    | 0, _ => rw [s0_P0, s0_W0]; decide
    | 1, _ => rw [s0_P1, s0_W1]; decide
    | l + 2, hl => exact absurd hl (by omega)
  · rw [S0_T] at hi
    match i, hi with
    | 0, _ => rw [s0_H0, s0_F0, s0_X0, s0_K0, o0_G0]; decide
    | 1, _ => rw [s0_H1, s0_F1, s0_X1, s0_K1, o0_G1]; decide
    | i + 2, hi => exact absurd hi (by omega)
  · rw [S0_B] at hk
    exact absurd hk (by omega)
  · rw [o0_E] at hk
    exact absurd hk (by omega)
abbrev rmX11_init : Room := { frames := 1, cells := 28, slots := 873, locals := 12 }
theorem nums : ∀ p, 111 ≤ p → p < 139 → pcl p = 100 ∨ pcl p = 101 ∨ pcl p = 102 := by
  intro p h1 h2
  obtain ⟨k, rfl⟩ : ∃ k, p = 111 + k := ⟨p - 111, by omega⟩
  have hk : k < 28 := by omega
  clear h1 h2
  match k, hk with
  | 0, _ => exact (by decide)
  | 1, _ => exact (by decide)
  | 2, _ => exact (by decide)
  | 3, _ => exact (by decide)
  | 4, _ => exact (by decide)
  | 5, _ => exact (by decide)
  | 6, _ => exact (by decide)
  | 7, _ => exact (by decide)
  | 8, _ => exact (by decide)
  | 9, _ => exact (by decide)
  | 10, _ => exact (by decide)
  | 11, _ => exact (by decide)
  | 12, _ => exact (by decide)
  | 13, _ => exact (by decide)
  | 14, _ => exact (by decide)
  | 15, _ => exact (by decide)
  | 16, _ => exact (by decide)
  | 17, _ => exact (by decide)
  | 18, _ => exact (by decide)
  | 19, _ => exact (by decide)
  | 20, _ => exact (by decide)
  | 21, _ => exact (by decide)
  | 22, _ => exact (by decide)
  | 23, _ => exact (by decide)
  | 24, _ => exact (by decide)
  | 25, _ => exact (by decide)
  | 26, _ => exact (by decide)
  | 27, _ => exact (by decide)
  | k + 28, hk => exact absurd hk (by omega)
set_option maxRecDepth 100000 in
set_option maxHeartbeats 4000000 in
theorem c_X11_init {gg : GT} {ad : Nat → Nat} {ph : Phs} {M : Mem} {Post : (Nat → Nat) → Phs → Mem → Prop} (hz : Nw 111 ph M) (hz0 : ∀ p j, 110 ≤ p → M p j = 0) (hb0 : ∀ p j, p < 110 → rf p j = true → ph p j = true) (K : ∀ (ad2 : Nat → Nat) (M2 : Mem), RepM 0 fsB S0 O0 0 zI zI 0 zK M2 → (∀ p, p < 110 → M2 p = M p) → Post ad2 pT M2) : SpI gg yX11_init cX11_init 1 rmX11_init [vr 110] ad 111 139 ph M Tr 28 873 Post := by
  refine SpI.intro (ls := [some (vr 110)]) (by decide +kernel) rfl rfl (Nat.le_of_ble_eq_true rfl) fun κ hgg h hr ha hf hin hex => ?_
  have h : Ok κ RX11 cX11_init 1 rmX11_init := h
  subst hgg
  have hWW := whole_ws PW00 whole0
  have hag : ∀ q, q < 111 ∨ 111 ≤ q → ad q = ad q := fun _ _ => rfl
  have hU : ∀ q j, q < 111 → q ≠ 110 → ph q j = ph q j := fun _ _ _ _ => rfl
  refine e_aload_n h dX11_init_0 (pc := 0) rfl ?_
  refine e_objInit h lp_X11_1 dX11_init_1 (pc := 1) (by decide) ?_
  refine e_aload_n h dX11_init_4 (pc := 4) rfl ?_
  refine e_sipush h dX11_init_5 (pc := 5) (by decide +kernel) ?_
  refine e_newaI h hf hz (show pcl 111 = 100 from rfl) (n := 300) (show plen 111 = 300 from rfl) dX11_init_8 (pc := 8) rfl (by decide) (rbL_some (rbA_r (Or.inl (by omega))) rbL_nil) (rbS_cons (rbA_r (Or.inl (by omega))) rbS_nil) (fun ad1 hg1 => ?_)
  replace hag : ∀ q, q < 111 ∨ 112 ≤ q → ad1 q = ad q := fun q hq => (hg1 q (by omega)).trans (hag q (by omega))
  replace hz : Nw 112 _ _ := hz.new
  show E κ ad1 112 _ _ _ _ _ (1, 300) _
  refine e_putF h hin fl_X11_7 dX11_init_10 (pc := 10) (show pcl 110 = 11 from rfl) (by omega) rfl rfl (r := 111) rfl fp_X11_7 ?_
  replace hz := hz.setP (p := 110) (k := 1) (by omega) (by rw [tg_c (r := 111) (by rw [(show pcl 110 = 11 from rfl)]; decide) rfl]; omega)
  replace hU : ∀ q j, q < 111 → q ≠ 110 → (phs ph 110 1) q j = ph q j := fun q j h1 h2 => (phs_ne (Or.inl h2)).trans (hU q j h1 h2)
  refine e_aload_n h dX11_init_13 (pc := 13) rfl ?_
  refine e_iconst h dX11_init_14 (pc := 14) ?_
  refine e_newaI h hf hz (show pcl 112 = 100 from rfl) (n := 2) (show plen 112 = 2 from rfl) dX11_init_15 (pc := 15) rfl (by decide) (rbL_some (rbA_r (Or.inl (by omega))) rbL_nil) (rbS_cons (rbA_r (Or.inl (by omega))) rbS_nil) (fun ad2 hg2 => ?_)
  replace hag : ∀ q, q < 111 ∨ 113 ≤ q → ad2 q = ad q := fun q hq => (hg2 q (by omega)).trans (hag q (by omega))
  replace hz : Nw 113 _ _ := hz.new
  show E κ ad2 113 _ _ _ _ _ (2, 302) _
  refine e_putF h hin fl_X11_13 dX11_init_17 (pc := 17) (show pcl 110 = 11 from rfl) (by omega) rfl rfl (r := 112) rfl fp_X11_13 ?_
  replace hz := hz.setP (p := 110) (k := 2) (by omega) (by rw [tg_c (r := 112) (by rw [(show pcl 110 = 11 from rfl)]; decide) rfl]; omega)
  replace hU : ∀ q j, q < 111 → q ≠ 110 → (phs (phs ph 110 1) 110 2) q j = ph q j := fun q j h1 h2 => (phs_ne (Or.inl h2)).trans (hU q j h1 h2)
  refine e_aload_n h dX11_init_20 (pc := 20) rfl ?_
  refine e_bipush h dX11_init_21 (pc := 21) (by decide +kernel) ?_
  refine e_newaI h hf hz (show pcl 113 = 100 from rfl) (n := 12) (show plen 113 = 12 from rfl) dX11_init_23 (pc := 23) rfl (by decide) (rbL_some (rbA_r (Or.inl (by omega))) rbL_nil) (rbS_cons (rbA_r (Or.inl (by omega))) rbS_nil) (fun ad3 hg3 => ?_)
  replace hag : ∀ q, q < 111 ∨ 114 ≤ q → ad3 q = ad q := fun q hq => (hg3 q (by omega)).trans (hag q (by omega))
  replace hz : Nw 114 _ _ := hz.new
  show E κ ad3 114 _ _ _ _ _ (3, 314) _
  refine e_putF h hin fl_X11_16 dX11_init_25 (pc := 25) (show pcl 110 = 11 from rfl) (by omega) rfl rfl (r := 113) rfl fp_X11_16 ?_
  replace hz := hz.setP (p := 110) (k := 3) (by omega) (by rw [tg_c (r := 113) (by rw [(show pcl 110 = 11 from rfl)]; decide) rfl]; omega)
  replace hU : ∀ q j, q < 111 → q ≠ 110 → (phs (phs (phs ph 110 1) 110 2) 110 3) q j = ph q j := fun q j h1 h2 => (phs_ne (Or.inl h2)).trans (hU q j h1 h2)
  refine e_aload_n h dX11_init_28 (pc := 28) rfl ?_
  refine e_bipush h dX11_init_29 (pc := 29) (by decide +kernel) ?_
  refine e_newaI h hf hz (show pcl 114 = 100 from rfl) (n := 12) (show plen 114 = 12 from rfl) dX11_init_31 (pc := 31) rfl (by decide) (rbL_some (rbA_r (Or.inl (by omega))) rbL_nil) (rbS_cons (rbA_r (Or.inl (by omega))) rbS_nil) (fun ad4 hg4 => ?_)
  replace hag : ∀ q, q < 111 ∨ 115 ≤ q → ad4 q = ad q := fun q hq => (hg4 q (by omega)).trans (hag q (by omega))
  replace hz : Nw 115 _ _ := hz.new
  show E κ ad4 115 _ _ _ _ _ (4, 326) _
  refine e_putF h hin fl_X11_19 dX11_init_33 (pc := 33) (show pcl 110 = 11 from rfl) (by omega) rfl rfl (r := 114) rfl fp_X11_19 ?_
  replace hz := hz.setP (p := 110) (k := 4) (by omega) (by rw [tg_c (r := 114) (by rw [(show pcl 110 = 11 from rfl)]; decide) rfl]; omega)
  replace hU : ∀ q j, q < 111 → q ≠ 110 → (phs (phs (phs (phs ph 110 1) 110 2) 110 3) 110 4) q j = ph q j := fun q j h1 h2 => (phs_ne (Or.inl h2)).trans (hU q j h1 h2)
  refine e_aload_n h dX11_init_36 (pc := 36) rfl ?_
  refine e_iconst h dX11_init_37 (pc := 37) ?_
  refine e_newaI h hf hz (show pcl 115 = 100 from rfl) (n := 2) (show plen 115 = 2 from rfl) dX11_init_38 (pc := 38) rfl (by decide) (rbL_some (rbA_r (Or.inl (by omega))) rbL_nil) (rbS_cons (rbA_r (Or.inl (by omega))) rbS_nil) (fun ad5 hg5 => ?_)
  replace hag : ∀ q, q < 111 ∨ 116 ≤ q → ad5 q = ad q := fun q hq => (hg5 q (by omega)).trans (hag q (by omega))
  replace hz : Nw 116 _ _ := hz.new
  show E κ ad5 116 _ _ _ _ _ (5, 328) _
  refine e_putF h hin fl_X11_22 dX11_init_40 (pc := 40) (show pcl 110 = 11 from rfl) (by omega) rfl rfl (r := 115) rfl fp_X11_22 ?_
  replace hz := hz.setP (p := 110) (k := 5) (by omega) (by rw [tg_c (r := 115) (by rw [(show pcl 110 = 11 from rfl)]; decide) rfl]; omega)
  replace hU : ∀ q j, q < 111 → q ≠ 110 → (phs (phs (phs (phs (phs ph 110 1) 110 2) 110 3) 110 4) 110 5) q j = ph q j := fun q j h1 h2 => (phs_ne (Or.inl h2)).trans (hU q j h1 h2)
  refine e_aload_n h dX11_init_43 (pc := 43) rfl ?_
  refine e_bipush h dX11_init_44 (pc := 44) (by decide +kernel) ?_
  refine e_newaI h hf hz (show pcl 116 = 100 from rfl) (n := 12) (show plen 116 = 12 from rfl) dX11_init_46 (pc := 46) rfl (by decide) (rbL_some (rbA_r (Or.inl (by omega))) rbL_nil) (rbS_cons (rbA_r (Or.inl (by omega))) rbS_nil) (fun ad6 hg6 => ?_)
  replace hag : ∀ q, q < 111 ∨ 117 ≤ q → ad6 q = ad q := fun q hq => (hg6 q (by omega)).trans (hag q (by omega))
  replace hz : Nw 117 _ _ := hz.new
  show E κ ad6 117 _ _ _ _ _ (6, 340) _
  refine e_putF h hin fl_X11_25 dX11_init_48 (pc := 48) (show pcl 110 = 11 from rfl) (by omega) rfl rfl (r := 116) rfl fp_X11_25 ?_
  replace hz := hz.setP (p := 110) (k := 6) (by omega) (by rw [tg_c (r := 116) (by rw [(show pcl 110 = 11 from rfl)]; decide) rfl]; omega)
  replace hU : ∀ q j, q < 111 → q ≠ 110 → (phs (phs (phs (phs (phs (phs ph 110 1) 110 2) 110 3) 110 4) 110 5) 110 6) q j = ph q j := fun q j h1 h2 => (phs_ne (Or.inl h2)).trans (hU q j h1 h2)
  refine e_aload_n h dX11_init_51 (pc := 51) rfl ?_
  refine e_bipush h dX11_init_52 (pc := 52) (by decide +kernel) ?_
  refine e_newaI h hf hz (show pcl 117 = 100 from rfl) (n := 12) (show plen 117 = 12 from rfl) dX11_init_54 (pc := 54) rfl (by decide) (rbL_some (rbA_r (Or.inl (by omega))) rbL_nil) (rbS_cons (rbA_r (Or.inl (by omega))) rbS_nil) (fun ad7 hg7 => ?_)
  replace hag : ∀ q, q < 111 ∨ 118 ≤ q → ad7 q = ad q := fun q hq => (hg7 q (by omega)).trans (hag q (by omega))
  replace hz : Nw 118 _ _ := hz.new
  show E κ ad7 118 _ _ _ _ _ (7, 352) _
  refine e_putF h hin fl_X11_28 dX11_init_56 (pc := 56) (show pcl 110 = 11 from rfl) (by omega) rfl rfl (r := 117) rfl fp_X11_28 ?_
  replace hz := hz.setP (p := 110) (k := 7) (by omega) (by rw [tg_c (r := 117) (by rw [(show pcl 110 = 11 from rfl)]; decide) rfl]; omega)
  replace hU : ∀ q j, q < 111 → q ≠ 110 → (phs (phs (phs (phs (phs (phs (phs ph 110 1) 110 2) 110 3) 110 4) 110 5) 110 6) 110 7) q j = ph q j := fun q j h1 h2 => (phs_ne (Or.inl h2)).trans (hU q j h1 h2)
  refine e_aload_n h dX11_init_59 (pc := 59) rfl ?_
  refine e_bipush h dX11_init_60 (pc := 60) (by decide +kernel) ?_
  refine e_newaI h hf hz (show pcl 118 = 100 from rfl) (n := 12) (show plen 118 = 12 from rfl) dX11_init_62 (pc := 62) rfl (by decide) (rbL_some (rbA_r (Or.inl (by omega))) rbL_nil) (rbS_cons (rbA_r (Or.inl (by omega))) rbS_nil) (fun ad8 hg8 => ?_)
  replace hag : ∀ q, q < 111 ∨ 119 ≤ q → ad8 q = ad q := fun q hq => (hg8 q (by omega)).trans (hag q (by omega))
  replace hz : Nw 119 _ _ := hz.new
  show E κ ad8 119 _ _ _ _ _ (8, 364) _
  refine e_putF h hin fl_X11_31 dX11_init_64 (pc := 64) (show pcl 110 = 11 from rfl) (by omega) rfl rfl (r := 118) rfl fp_X11_31 ?_
  replace hz := hz.setP (p := 110) (k := 8) (by omega) (by rw [tg_c (r := 118) (by rw [(show pcl 110 = 11 from rfl)]; decide) rfl]; omega)
  replace hU : ∀ q j, q < 111 → q ≠ 110 → (phs (phs (phs (phs (phs (phs (phs (phs ph 110 1) 110 2) 110 3) 110 4) 110 5) 110 6) 110 7) 110 8) q j = ph q j := fun q j h1 h2 => (phs_ne (Or.inl h2)).trans (hU q j h1 h2)
  refine e_aload_n h dX11_init_67 (pc := 67) rfl ?_
  refine e_bipush h dX11_init_68 (pc := 68) (by decide +kernel) ?_
  refine e_newaI h hf hz (show pcl 119 = 100 from rfl) (n := 12) (show plen 119 = 12 from rfl) dX11_init_70 (pc := 70) rfl (by decide) (rbL_some (rbA_r (Or.inl (by omega))) rbL_nil) (rbS_cons (rbA_r (Or.inl (by omega))) rbS_nil) (fun ad9 hg9 => ?_)
  replace hag : ∀ q, q < 111 ∨ 120 ≤ q → ad9 q = ad q := fun q hq => (hg9 q (by omega)).trans (hag q (by omega))
  replace hz : Nw 120 _ _ := hz.new
  show E κ ad9 120 _ _ _ _ _ (9, 376) _
  refine e_putF h hin fl_X11_34 dX11_init_72 (pc := 72) (show pcl 110 = 11 from rfl) (by omega) rfl rfl (r := 119) rfl fp_X11_34 ?_
  replace hz := hz.setP (p := 110) (k := 9) (by omega) (by rw [tg_c (r := 119) (by rw [(show pcl 110 = 11 from rfl)]; decide) rfl]; omega)
  replace hU : ∀ q j, q < 111 → q ≠ 110 → (phs (phs (phs (phs (phs (phs (phs (phs (phs ph 110 1) 110 2) 110 3) 110 4) 110 5) 110 6) 110 7) 110 8) 110 9) q j = ph q j := fun q j h1 h2 => (phs_ne (Or.inl h2)).trans (hU q j h1 h2)
  refine e_aload_n h dX11_init_75 (pc := 75) rfl ?_
  refine e_iconst h dX11_init_76 (pc := 76) ?_
  refine e_newaI h hf hz (show pcl 120 = 100 from rfl) (n := 2) (show plen 120 = 2 from rfl) dX11_init_77 (pc := 77) rfl (by decide) (rbL_some (rbA_r (Or.inl (by omega))) rbL_nil) (rbS_cons (rbA_r (Or.inl (by omega))) rbS_nil) (fun ad10 hg10 => ?_)
  replace hag : ∀ q, q < 111 ∨ 121 ≤ q → ad10 q = ad q := fun q hq => (hg10 q (by omega)).trans (hag q (by omega))
  replace hz : Nw 121 _ _ := hz.new
  show E κ ad10 121 _ _ _ _ _ (10, 378) _
  refine e_putF h hin fl_X11_37 dX11_init_79 (pc := 79) (show pcl 110 = 11 from rfl) (by omega) rfl rfl (r := 120) rfl fp_X11_37 ?_
  replace hz := hz.setP (p := 110) (k := 10) (by omega) (by rw [tg_c (r := 120) (by rw [(show pcl 110 = 11 from rfl)]; decide) rfl]; omega)
  replace hU : ∀ q j, q < 111 → q ≠ 110 → (phs (phs (phs (phs (phs (phs (phs (phs (phs (phs ph 110 1) 110 2) 110 3) 110 4) 110 5) 110 6) 110 7) 110 8) 110 9) 110 10) q j = ph q j := fun q j h1 h2 => (phs_ne (Or.inl h2)).trans (hU q j h1 h2)
  refine e_aload_n h dX11_init_82 (pc := 82) rfl ?_
  refine e_bipush h dX11_init_83 (pc := 83) (by decide +kernel) ?_
  refine e_newaI h hf hz (show pcl 121 = 100 from rfl) (n := 10) (show plen 121 = 10 from rfl) dX11_init_85 (pc := 85) rfl (by decide) (rbL_some (rbA_r (Or.inl (by omega))) rbL_nil) (rbS_cons (rbA_r (Or.inl (by omega))) rbS_nil) (fun ad11 hg11 => ?_)
  replace hag : ∀ q, q < 111 ∨ 122 ≤ q → ad11 q = ad q := fun q hq => (hg11 q (by omega)).trans (hag q (by omega))
  replace hz : Nw 122 _ _ := hz.new
  show E κ ad11 122 _ _ _ _ _ (11, 388) _
  refine e_putF h hin fl_X11_40 dX11_init_87 (pc := 87) (show pcl 110 = 11 from rfl) (by omega) rfl rfl (r := 121) rfl fp_X11_40 ?_
  replace hz := hz.setP (p := 110) (k := 11) (by omega) (by rw [tg_c (r := 121) (by rw [(show pcl 110 = 11 from rfl)]; decide) rfl]; omega)
  replace hU : ∀ q j, q < 111 → q ≠ 110 → (phs (phs (phs (phs (phs (phs (phs (phs (phs (phs (phs ph 110 1) 110 2) 110 3) 110 4) 110 5) 110 6) 110 7) 110 8) 110 9) 110 10) 110 11) q j = ph q j := fun q j h1 h2 => (phs_ne (Or.inl h2)).trans (hU q j h1 h2)
  refine e_aload_n h dX11_init_90 (pc := 90) rfl ?_
  refine e_bipush h dX11_init_91 (pc := 91) (by decide +kernel) ?_
  refine e_newaI h hf hz (show pcl 122 = 100 from rfl) (n := 10) (show plen 122 = 10 from rfl) dX11_init_93 (pc := 93) rfl (by decide) (rbL_some (rbA_r (Or.inl (by omega))) rbL_nil) (rbS_cons (rbA_r (Or.inl (by omega))) rbS_nil) (fun ad12 hg12 => ?_)
  replace hag : ∀ q, q < 111 ∨ 123 ≤ q → ad12 q = ad q := fun q hq => (hg12 q (by omega)).trans (hag q (by omega))
  replace hz : Nw 123 _ _ := hz.new
  show E κ ad12 123 _ _ _ _ _ (12, 398) _
  refine e_putF h hin fl_X11_43 dX11_init_95 (pc := 95) (show pcl 110 = 11 from rfl) (by omega) rfl rfl (r := 122) rfl fp_X11_43 ?_
  replace hz := hz.setP (p := 110) (k := 12) (by omega) (by rw [tg_c (r := 122) (by rw [(show pcl 110 = 11 from rfl)]; decide) rfl]; omega)
  replace hU : ∀ q j, q < 111 → q ≠ 110 → (phs (phs (phs (phs (phs (phs (phs (phs (phs (phs (phs (phs ph 110 1) 110 2) 110 3) 110 4) 110 5) 110 6) 110 7) 110 8) 110 9) 110 10) 110 11) 110 12) q j = ph q j := fun q j h1 h2 => (phs_ne (Or.inl h2)).trans (hU q j h1 h2)
  refine e_aload_n h dX11_init_98 (pc := 98) rfl ?_
  refine e_bipush h dX11_init_99 (pc := 99) (by decide +kernel) ?_
  refine e_newaI h hf hz (show pcl 123 = 100 from rfl) (n := 24) (show plen 123 = 24 from rfl) dX11_init_101 (pc := 101) rfl (by decide) (rbL_some (rbA_r (Or.inl (by omega))) rbL_nil) (rbS_cons (rbA_r (Or.inl (by omega))) rbS_nil) (fun ad13 hg13 => ?_)
  replace hag : ∀ q, q < 111 ∨ 124 ≤ q → ad13 q = ad q := fun q hq => (hg13 q (by omega)).trans (hag q (by omega))
  replace hz : Nw 124 _ _ := hz.new
  show E κ ad13 124 _ _ _ _ _ (13, 422) _
  refine e_putF h hin fl_X11_46 dX11_init_103 (pc := 103) (show pcl 110 = 11 from rfl) (by omega) rfl rfl (r := 123) rfl fp_X11_46 ?_
  replace hz := hz.setP (p := 110) (k := 13) (by omega) (by rw [tg_c (r := 123) (by rw [(show pcl 110 = 11 from rfl)]; decide) rfl]; omega)
  replace hU : ∀ q j, q < 111 → q ≠ 110 → (phs (phs (phs (phs (phs (phs (phs (phs (phs (phs (phs (phs (phs ph 110 1) 110 2) 110 3) 110 4) 110 5) 110 6) 110 7) 110 8) 110 9) 110 10) 110 11) 110 12) 110 13) q j = ph q j := fun q j h1 h2 => (phs_ne (Or.inl h2)).trans (hU q j h1 h2)
  refine e_aload_n h dX11_init_106 (pc := 106) rfl ?_
  refine e_iconst h dX11_init_107 (pc := 107) ?_
  refine e_newaI h hf hz (show pcl 124 = 100 from rfl) (n := 4) (show plen 124 = 4 from rfl) dX11_init_108 (pc := 108) rfl (by decide) (rbL_some (rbA_r (Or.inl (by omega))) rbL_nil) (rbS_cons (rbA_r (Or.inl (by omega))) rbS_nil) (fun ad14 hg14 => ?_)
  replace hag : ∀ q, q < 111 ∨ 125 ≤ q → ad14 q = ad q := fun q hq => (hg14 q (by omega)).trans (hag q (by omega))
  replace hz : Nw 125 _ _ := hz.new
  show E κ ad14 125 _ _ _ _ _ (14, 426) _
  refine e_putF h hin fl_X11_49 dX11_init_110 (pc := 110) (show pcl 110 = 11 from rfl) (by omega) rfl rfl (r := 124) rfl fp_X11_49 ?_
  replace hz := hz.setP (p := 110) (k := 14) (by omega) (by rw [tg_c (r := 124) (by rw [(show pcl 110 = 11 from rfl)]; decide) rfl]; omega)
  replace hU : ∀ q j, q < 111 → q ≠ 110 → (phs (phs (phs (phs (phs (phs (phs (phs (phs (phs (phs (phs (phs (phs ph 110 1) 110 2) 110 3) 110 4) 110 5) 110 6) 110 7) 110 8) 110 9) 110 10) 110 11) 110 12) 110 13) 110 14) q j = ph q j := fun q j h1 h2 => (phs_ne (Or.inl h2)).trans (hU q j h1 h2)
  refine e_aload_n h dX11_init_113 (pc := 113) rfl ?_
  refine e_bipush h dX11_init_114 (pc := 114) (by decide +kernel) ?_
  refine e_newaI h hf hz (show pcl 125 = 100 from rfl) (n := 32) (show plen 125 = 32 from rfl) dX11_init_116 (pc := 116) rfl (by decide) (rbL_some (rbA_r (Or.inl (by omega))) rbL_nil) (rbS_cons (rbA_r (Or.inl (by omega))) rbS_nil) (fun ad15 hg15 => ?_)
  replace hag : ∀ q, q < 111 ∨ 126 ≤ q → ad15 q = ad q := fun q hq => (hg15 q (by omega)).trans (hag q (by omega))
  replace hz : Nw 126 _ _ := hz.new
  show E κ ad15 126 _ _ _ _ _ (15, 458) _
  refine e_putF h hin fl_X11_52 dX11_init_118 (pc := 118) (show pcl 110 = 11 from rfl) (by omega) rfl rfl (r := 125) rfl fp_X11_52 ?_
  replace hz := hz.setP (p := 110) (k := 15) (by omega) (by rw [tg_c (r := 125) (by rw [(show pcl 110 = 11 from rfl)]; decide) rfl]; omega)
  replace hU : ∀ q j, q < 111 → q ≠ 110 → (phs (phs (phs (phs (phs (phs (phs (phs (phs (phs (phs (phs (phs (phs (phs ph 110 1) 110 2) 110 3) 110 4) 110 5) 110 6) 110 7) 110 8) 110 9) 110 10) 110 11) 110 12) 110 13) 110 14) 110 15) q j = ph q j := fun q j h1 h2 => (phs_ne (Or.inl h2)).trans (hU q j h1 h2)
  refine e_aload_n h dX11_init_121 (pc := 121) rfl ?_
  refine e_bipush h dX11_init_122 (pc := 122) (by decide +kernel) ?_
  refine e_newaI h hf hz (show pcl 126 = 100 from rfl) (n := 32) (show plen 126 = 32 from rfl) dX11_init_124 (pc := 124) rfl (by decide) (rbL_some (rbA_r (Or.inl (by omega))) rbL_nil) (rbS_cons (rbA_r (Or.inl (by omega))) rbS_nil) (fun ad16 hg16 => ?_)
  replace hag : ∀ q, q < 111 ∨ 127 ≤ q → ad16 q = ad q := fun q hq => (hg16 q (by omega)).trans (hag q (by omega))
  replace hz : Nw 127 _ _ := hz.new
  show E κ ad16 127 _ _ _ _ _ (16, 490) _
  refine e_putF h hin fl_X11_55 dX11_init_126 (pc := 126) (show pcl 110 = 11 from rfl) (by omega) rfl rfl (r := 126) rfl fp_X11_55 ?_
  replace hz := hz.setP (p := 110) (k := 16) (by omega) (by rw [tg_c (r := 126) (by rw [(show pcl 110 = 11 from rfl)]; decide) rfl]; omega)
  replace hU : ∀ q j, q < 111 → q ≠ 110 → (phs (phs (phs (phs (phs (phs (phs (phs (phs (phs (phs (phs (phs (phs (phs (phs ph 110 1) 110 2) 110 3) 110 4) 110 5) 110 6) 110 7) 110 8) 110 9) 110 10) 110 11) 110 12) 110 13) 110 14) 110 15) 110 16) q j = ph q j := fun q j h1 h2 => (phs_ne (Or.inl h2)).trans (hU q j h1 h2)
  refine e_aload_n h dX11_init_129 (pc := 129) rfl ?_
  refine e_bipush h dX11_init_130 (pc := 130) (by decide +kernel) ?_
  refine e_newaI h hf hz (show pcl 127 = 100 from rfl) (n := 32) (show plen 127 = 32 from rfl) dX11_init_132 (pc := 132) rfl (by decide) (rbL_some (rbA_r (Or.inl (by omega))) rbL_nil) (rbS_cons (rbA_r (Or.inl (by omega))) rbS_nil) (fun ad17 hg17 => ?_)
  replace hag : ∀ q, q < 111 ∨ 128 ≤ q → ad17 q = ad q := fun q hq => (hg17 q (by omega)).trans (hag q (by omega))
  replace hz : Nw 128 _ _ := hz.new
  show E κ ad17 128 _ _ _ _ _ (17, 522) _
  refine e_putF h hin fl_X11_58 dX11_init_134 (pc := 134) (show pcl 110 = 11 from rfl) (by omega) rfl rfl (r := 127) rfl fp_X11_58 ?_
  replace hz := hz.setP (p := 110) (k := 17) (by omega) (by rw [tg_c (r := 127) (by rw [(show pcl 110 = 11 from rfl)]; decide) rfl]; omega)
  replace hU : ∀ q j, q < 111 → q ≠ 110 → (phs (phs (phs (phs (phs (phs (phs (phs (phs (phs (phs (phs (phs (phs (phs (phs (phs ph 110 1) 110 2) 110 3) 110 4) 110 5) 110 6) 110 7) 110 8) 110 9) 110 10) 110 11) 110 12) 110 13) 110 14) 110 15) 110 16) 110 17) q j = ph q j := fun q j h1 h2 => (phs_ne (Or.inl h2)).trans (hU q j h1 h2)
  refine e_aload_n h dX11_init_137 (pc := 137) rfl ?_
  refine e_bipush h dX11_init_138 (pc := 138) (by decide +kernel) ?_
  refine e_newaI h hf hz (show pcl 128 = 100 from rfl) (n := 16) (show plen 128 = 16 from rfl) dX11_init_140 (pc := 140) rfl (by decide) (rbL_some (rbA_r (Or.inl (by omega))) rbL_nil) (rbS_cons (rbA_r (Or.inl (by omega))) rbS_nil) (fun ad18 hg18 => ?_)
  replace hag : ∀ q, q < 111 ∨ 129 ≤ q → ad18 q = ad q := fun q hq => (hg18 q (by omega)).trans (hag q (by omega))
  replace hz : Nw 129 _ _ := hz.new
  show E κ ad18 129 _ _ _ _ _ (18, 538) _
  refine e_putF h hin fl_X11_61 dX11_init_142 (pc := 142) (show pcl 110 = 11 from rfl) (by omega) rfl rfl (r := 128) rfl fp_X11_61 ?_
  replace hz := hz.setP (p := 110) (k := 20) (by omega) (by rw [tg_c (r := 128) (by rw [(show pcl 110 = 11 from rfl)]; decide) rfl]; omega)
  replace hU : ∀ q j, q < 111 → q ≠ 110 → (phs (phs (phs (phs (phs (phs (phs (phs (phs (phs (phs (phs (phs (phs (phs (phs (phs (phs ph 110 1) 110 2) 110 3) 110 4) 110 5) 110 6) 110 7) 110 8) 110 9) 110 10) 110 11) 110 12) 110 13) 110 14) 110 15) 110 16) 110 17) 110 20) q j = ph q j := fun q j h1 h2 => (phs_ne (Or.inl h2)).trans (hU q j h1 h2)
  refine e_aload_n h dX11_init_145 (pc := 145) rfl ?_
  refine e_iconst h dX11_init_146 (pc := 146) ?_
  refine e_newaI h hf hz (show pcl 129 = 100 from rfl) (n := 5) (show plen 129 = 5 from rfl) dX11_init_147 (pc := 147) rfl (by decide) (rbL_some (rbA_r (Or.inl (by omega))) rbL_nil) (rbS_cons (rbA_r (Or.inl (by omega))) rbS_nil) (fun ad19 hg19 => ?_)
  replace hag : ∀ q, q < 111 ∨ 130 ≤ q → ad19 q = ad q := fun q hq => (hg19 q (by omega)).trans (hag q (by omega))
  replace hz : Nw 130 _ _ := hz.new
  show E κ ad19 130 _ _ _ _ _ (19, 543) _
  refine e_putF h hin fl_X11_64 dX11_init_149 (pc := 149) (show pcl 110 = 11 from rfl) (by omega) rfl rfl (r := 129) rfl fp_X11_64 ?_
  replace hz := hz.setP (p := 110) (k := 22) (by omega) (by rw [tg_c (r := 129) (by rw [(show pcl 110 = 11 from rfl)]; decide) rfl]; omega)
  replace hU : ∀ q j, q < 111 → q ≠ 110 → (phs (phs (phs (phs (phs (phs (phs (phs (phs (phs (phs (phs (phs (phs (phs (phs (phs (phs (phs ph 110 1) 110 2) 110 3) 110 4) 110 5) 110 6) 110 7) 110 8) 110 9) 110 10) 110 11) 110 12) 110 13) 110 14) 110 15) 110 16) 110 17) 110 20) 110 22) q j = ph q j := fun q j h1 h2 => (phs_ne (Or.inl h2)).trans (hU q j h1 h2)
  refine e_aload_n h dX11_init_152 (pc := 152) rfl ?_
  refine e_bipush h dX11_init_153 (pc := 153) (by decide +kernel) ?_
  refine e_newaI h hf hz (show pcl 130 = 100 from rfl) (n := 6) (show plen 130 = 6 from rfl) dX11_init_155 (pc := 155) rfl (by decide) (rbL_some (rbA_r (Or.inl (by omega))) rbL_nil) (rbS_cons (rbA_r (Or.inl (by omega))) rbS_nil) (fun ad20 hg20 => ?_)
  replace hag : ∀ q, q < 111 ∨ 131 ≤ q → ad20 q = ad q := fun q hq => (hg20 q (by omega)).trans (hag q (by omega))
  replace hz : Nw 131 _ _ := hz.new
  show E κ ad20 131 _ _ _ _ _ (20, 549) _
  refine e_putF h hin fl_X11_67 dX11_init_157 (pc := 157) (show pcl 110 = 11 from rfl) (by omega) rfl rfl (r := 130) rfl fp_X11_67 ?_
  replace hz := hz.setP (p := 110) (k := 23) (by omega) (by rw [tg_c (r := 130) (by rw [(show pcl 110 = 11 from rfl)]; decide) rfl]; omega)
  replace hU : ∀ q j, q < 111 → q ≠ 110 → (phs (phs (phs (phs (phs (phs (phs (phs (phs (phs (phs (phs (phs (phs (phs (phs (phs (phs (phs (phs ph 110 1) 110 2) 110 3) 110 4) 110 5) 110 6) 110 7) 110 8) 110 9) 110 10) 110 11) 110 12) 110 13) 110 14) 110 15) 110 16) 110 17) 110 20) 110 22) 110 23) q j = ph q j := fun q j h1 h2 => (phs_ne (Or.inl h2)).trans (hU q j h1 h2)
  refine e_aload_n h dX11_init_160 (pc := 160) rfl ?_
  refine e_bipush h dX11_init_161 (pc := 161) (by decide +kernel) ?_
  refine e_newaI h hf hz (show pcl 131 = 100 from rfl) (n := 6) (show plen 131 = 6 from rfl) dX11_init_163 (pc := 163) rfl (by decide) (rbL_some (rbA_r (Or.inl (by omega))) rbL_nil) (rbS_cons (rbA_r (Or.inl (by omega))) rbS_nil) (fun ad21 hg21 => ?_)
  replace hag : ∀ q, q < 111 ∨ 132 ≤ q → ad21 q = ad q := fun q hq => (hg21 q (by omega)).trans (hag q (by omega))
  replace hz : Nw 132 _ _ := hz.new
  show E κ ad21 132 _ _ _ _ _ (21, 555) _
  refine e_putF h hin fl_X11_70 dX11_init_165 (pc := 165) (show pcl 110 = 11 from rfl) (by omega) rfl rfl (r := 131) rfl fp_X11_70 ?_
  replace hz := hz.setP (p := 110) (k := 24) (by omega) (by rw [tg_c (r := 131) (by rw [(show pcl 110 = 11 from rfl)]; decide) rfl]; omega)
  replace hU : ∀ q j, q < 111 → q ≠ 110 → (phs (phs (phs (phs (phs (phs (phs (phs (phs (phs (phs (phs (phs (phs (phs (phs (phs (phs (phs (phs (phs ph 110 1) 110 2) 110 3) 110 4) 110 5) 110 6) 110 7) 110 8) 110 9) 110 10) 110 11) 110 12) 110 13) 110 14) 110 15) 110 16) 110 17) 110 20) 110 22) 110 23) 110 24) q j = ph q j := fun q j h1 h2 => (phs_ne (Or.inl h2)).trans (hU q j h1 h2)
  refine e_aload_n h dX11_init_168 (pc := 168) rfl ?_
  refine e_bipush h dX11_init_169 (pc := 169) (by decide +kernel) ?_
  refine e_newaI h hf hz (show pcl 132 = 100 from rfl) (n := 6) (show plen 132 = 6 from rfl) dX11_init_171 (pc := 171) rfl (by decide) (rbL_some (rbA_r (Or.inl (by omega))) rbL_nil) (rbS_cons (rbA_r (Or.inl (by omega))) rbS_nil) (fun ad22 hg22 => ?_)
  replace hag : ∀ q, q < 111 ∨ 133 ≤ q → ad22 q = ad q := fun q hq => (hg22 q (by omega)).trans (hag q (by omega))
  replace hz : Nw 133 _ _ := hz.new
  show E κ ad22 133 _ _ _ _ _ (22, 561) _
  refine e_putF h hin fl_X11_73 dX11_init_173 (pc := 173) (show pcl 110 = 11 from rfl) (by omega) rfl rfl (r := 132) rfl fp_X11_73 ?_
  replace hz := hz.setP (p := 110) (k := 25) (by omega) (by rw [tg_c (r := 132) (by rw [(show pcl 110 = 11 from rfl)]; decide) rfl]; omega)
  replace hU : ∀ q j, q < 111 → q ≠ 110 → (phs (phs (phs (phs (phs (phs (phs (phs (phs (phs (phs (phs (phs (phs (phs (phs (phs (phs (phs (phs (phs (phs ph 110 1) 110 2) 110 3) 110 4) 110 5) 110 6) 110 7) 110 8) 110 9) 110 10) 110 11) 110 12) 110 13) 110 14) 110 15) 110 16) 110 17) 110 20) 110 22) 110 23) 110 24) 110 25) q j = ph q j := fun q j h1 h2 => (phs_ne (Or.inl h2)).trans (hU q j h1 h2)
  refine e_aload_n h dX11_init_176 (pc := 176) rfl ?_
  refine e_bipush h dX11_init_177 (pc := 177) (by decide +kernel) ?_
  refine e_newaI h hf hz (show pcl 133 = 100 from rfl) (n := 6) (show plen 133 = 6 from rfl) dX11_init_179 (pc := 179) rfl (by decide) (rbL_some (rbA_r (Or.inl (by omega))) rbL_nil) (rbS_cons (rbA_r (Or.inl (by omega))) rbS_nil) (fun ad23 hg23 => ?_)
  replace hag : ∀ q, q < 111 ∨ 134 ≤ q → ad23 q = ad q := fun q hq => (hg23 q (by omega)).trans (hag q (by omega))
  replace hz : Nw 134 _ _ := hz.new
  show E κ ad23 134 _ _ _ _ _ (23, 567) _
  refine e_putF h hin fl_X11_76 dX11_init_181 (pc := 181) (show pcl 110 = 11 from rfl) (by omega) rfl rfl (r := 133) rfl fp_X11_76 ?_
  replace hz := hz.setP (p := 110) (k := 26) (by omega) (by rw [tg_c (r := 133) (by rw [(show pcl 110 = 11 from rfl)]; decide) rfl]; omega)
  replace hU : ∀ q j, q < 111 → q ≠ 110 → (phs (phs (phs (phs (phs (phs (phs (phs (phs (phs (phs (phs (phs (phs (phs (phs (phs (phs (phs (phs (phs (phs (phs ph 110 1) 110 2) 110 3) 110 4) 110 5) 110 6) 110 7) 110 8) 110 9) 110 10) 110 11) 110 12) 110 13) 110 14) 110 15) 110 16) 110 17) 110 20) 110 22) 110 23) 110 24) 110 25) 110 26) q j = ph q j := fun q j h1 h2 => (phs_ne (Or.inl h2)).trans (hU q j h1 h2)
  refine e_aload_n h dX11_init_184 (pc := 184) rfl ?_
  refine e_sipush h dX11_init_185 (pc := 185) (by decide +kernel) ?_
  refine e_newaJ h hf hz (show pcl 134 = 101 from rfl) (n := 144) (show plen 134 = 144 from rfl) dX11_init_188 (pc := 188) rfl (by decide) (rbL_some (rbA_r (Or.inl (by omega))) rbL_nil) (rbS_cons (rbA_r (Or.inl (by omega))) rbS_nil) (fun ad24 hg24 => ?_)
  replace hag : ∀ q, q < 111 ∨ 135 ≤ q → ad24 q = ad q := fun q hq => (hg24 q (by omega)).trans (hag q (by omega))
  replace hz : Nw 135 _ _ := hz.new
  show E κ ad24 135 _ _ _ _ _ (24, 711) _
  refine e_putF h hin fl_X11_79 dX11_init_190 (pc := 190) (show pcl 110 = 11 from rfl) (by omega) rfl rfl (r := 134) rfl fp_X11_79 ?_
  replace hz := hz.setP (p := 110) (k := 28) (by omega) (by rw [tg_c (r := 134) (by rw [(show pcl 110 = 11 from rfl)]; decide) rfl]; omega)
  replace hU : ∀ q j, q < 111 → q ≠ 110 → (phs (phs (phs (phs (phs (phs (phs (phs (phs (phs (phs (phs (phs (phs (phs (phs (phs (phs (phs (phs (phs (phs (phs (phs ph 110 1) 110 2) 110 3) 110 4) 110 5) 110 6) 110 7) 110 8) 110 9) 110 10) 110 11) 110 12) 110 13) 110 14) 110 15) 110 16) 110 17) 110 20) 110 22) 110 23) 110 24) 110 25) 110 26) 110 28) q j = ph q j := fun q j h1 h2 => (phs_ne (Or.inl h2)).trans (hU q j h1 h2)
  refine e_aload_n h dX11_init_193 (pc := 193) rfl ?_
  refine e_sipush h dX11_init_194 (pc := 194) (by decide +kernel) ?_
  refine e_newaJ h hf hz (show pcl 135 = 101 from rfl) (n := 144) (show plen 135 = 144 from rfl) dX11_init_197 (pc := 197) rfl (by decide) (rbL_some (rbA_r (Or.inl (by omega))) rbL_nil) (rbS_cons (rbA_r (Or.inl (by omega))) rbS_nil) (fun ad25 hg25 => ?_)
  replace hag : ∀ q, q < 111 ∨ 136 ≤ q → ad25 q = ad q := fun q hq => (hg25 q (by omega)).trans (hag q (by omega))
  replace hz : Nw 136 _ _ := hz.new
  show E κ ad25 136 _ _ _ _ _ (25, 855) _
  refine e_putF h hin fl_X11_83 dX11_init_199 (pc := 199) (show pcl 110 = 11 from rfl) (by omega) rfl rfl (r := 135) rfl fp_X11_83 ?_
  replace hz := hz.setP (p := 110) (k := 29) (by omega) (by rw [tg_c (r := 135) (by rw [(show pcl 110 = 11 from rfl)]; decide) rfl]; omega)
  replace hU : ∀ q j, q < 111 → q ≠ 110 → (phs (phs (phs (phs (phs (phs (phs (phs (phs (phs (phs (phs (phs (phs (phs (phs (phs (phs (phs (phs (phs (phs (phs (phs (phs ph 110 1) 110 2) 110 3) 110 4) 110 5) 110 6) 110 7) 110 8) 110 9) 110 10) 110 11) 110 12) 110 13) 110 14) 110 15) 110 16) 110 17) 110 20) 110 22) 110 23) 110 24) 110 25) 110 26) 110 28) 110 29) q j = ph q j := fun q j h1 h2 => (phs_ne (Or.inl h2)).trans (hU q j h1 h2)
  refine e_aload_n h dX11_init_202 (pc := 202) rfl ?_
  refine e_bipush h dX11_init_203 (pc := 203) (by decide +kernel) ?_
  refine e_newaJ h hf hz (show pcl 136 = 101 from rfl) (n := 6) (show plen 136 = 6 from rfl) dX11_init_205 (pc := 205) rfl (by decide) (rbL_some (rbA_r (Or.inl (by omega))) rbL_nil) (rbS_cons (rbA_r (Or.inl (by omega))) rbS_nil) (fun ad26 hg26 => ?_)
  replace hag : ∀ q, q < 111 ∨ 137 ≤ q → ad26 q = ad q := fun q hq => (hg26 q (by omega)).trans (hag q (by omega))
  replace hz : Nw 137 _ _ := hz.new
  show E κ ad26 137 _ _ _ _ _ (26, 861) _
  refine e_putF h hin fl_X11_86 dX11_init_207 (pc := 207) (show pcl 110 = 11 from rfl) (by omega) rfl rfl (r := 136) rfl fp_X11_86 ?_
  replace hz := hz.setP (p := 110) (k := 30) (by omega) (by rw [tg_c (r := 136) (by rw [(show pcl 110 = 11 from rfl)]; decide) rfl]; omega)
  replace hU : ∀ q j, q < 111 → q ≠ 110 → (phs (phs (phs (phs (phs (phs (phs (phs (phs (phs (phs (phs (phs (phs (phs (phs (phs (phs (phs (phs (phs (phs (phs (phs (phs (phs ph 110 1) 110 2) 110 3) 110 4) 110 5) 110 6) 110 7) 110 8) 110 9) 110 10) 110 11) 110 12) 110 13) 110 14) 110 15) 110 16) 110 17) 110 20) 110 22) 110 23) 110 24) 110 25) 110 26) 110 28) 110 29) 110 30) q j = ph q j := fun q j h1 h2 => (phs_ne (Or.inl h2)).trans (hU q j h1 h2)
  refine e_aload_n h dX11_init_210 (pc := 210) rfl ?_
  refine e_bipush h dX11_init_211 (pc := 211) (by decide +kernel) ?_
  refine e_newaJ h hf hz (show pcl 137 = 101 from rfl) (n := 6) (show plen 137 = 6 from rfl) dX11_init_213 (pc := 213) rfl (by decide) (rbL_some (rbA_r (Or.inl (by omega))) rbL_nil) (rbS_cons (rbA_r (Or.inl (by omega))) rbS_nil) (fun ad27 hg27 => ?_)
  replace hag : ∀ q, q < 111 ∨ 138 ≤ q → ad27 q = ad q := fun q hq => (hg27 q (by omega)).trans (hag q (by omega))
  replace hz : Nw 138 _ _ := hz.new
  show E κ ad27 138 _ _ _ _ _ (27, 867) _
  refine e_putF h hin fl_X11_89 dX11_init_215 (pc := 215) (show pcl 110 = 11 from rfl) (by omega) rfl rfl (r := 137) rfl fp_X11_89 ?_
  replace hz := hz.setP (p := 110) (k := 31) (by omega) (by rw [tg_c (r := 137) (by rw [(show pcl 110 = 11 from rfl)]; decide) rfl]; omega)
  replace hU : ∀ q j, q < 111 → q ≠ 110 → (phs (phs (phs (phs (phs (phs (phs (phs (phs (phs (phs (phs (phs (phs (phs (phs (phs (phs (phs (phs (phs (phs (phs (phs (phs (phs (phs ph 110 1) 110 2) 110 3) 110 4) 110 5) 110 6) 110 7) 110 8) 110 9) 110 10) 110 11) 110 12) 110 13) 110 14) 110 15) 110 16) 110 17) 110 20) 110 22) 110 23) 110 24) 110 25) 110 26) 110 28) 110 29) 110 30) 110 31) q j = ph q j := fun q j h1 h2 => (phs_ne (Or.inl h2)).trans (hU q j h1 h2)
  refine e_aload_n h dX11_init_218 (pc := 218) rfl ?_
  refine e_bipush h dX11_init_219 (pc := 219) (by decide +kernel) ?_
  refine e_newaI h hf hz (show pcl 138 = 100 from rfl) (n := 6) (show plen 138 = 6 from rfl) dX11_init_221 (pc := 221) rfl (by decide) (rbL_some (rbA_r (Or.inl (by omega))) rbL_nil) (rbS_cons (rbA_r (Or.inl (by omega))) rbS_nil) (fun ad28 hg28 => ?_)
  replace hag : ∀ q, q < 111 ∨ 139 ≤ q → ad28 q = ad q := fun q hq => (hg28 q (by omega)).trans (hag q (by omega))
  replace hz : Nw 139 _ _ := hz.new
  show E κ ad28 139 _ _ _ _ _ (28, 873) _
  refine e_putF h hin fl_X11_92 dX11_init_223 (pc := 223) (show pcl 110 = 11 from rfl) (by omega) rfl rfl (r := 138) rfl fp_X11_92 ?_
  replace hz := hz.setP (p := 110) (k := 32) (by omega) (by rw [tg_c (r := 138) (by rw [(show pcl 110 = 11 from rfl)]; decide) rfl]; omega)
  replace hU : ∀ q j, q < 111 → q ≠ 110 → (phs (phs (phs (phs (phs (phs (phs (phs (phs (phs (phs (phs (phs (phs (phs (phs (phs (phs (phs (phs (phs (phs (phs (phs (phs (phs (phs (phs ph 110 1) 110 2) 110 3) 110 4) 110 5) 110 6) 110 7) 110 8) 110 9) 110 10) 110 11) 110 12) 110 13) 110 14) 110 15) 110 16) 110 17) 110 20) 110 22) 110 23) 110 24) 110 25) 110 26) 110 28) 110 29) 110 30) 110 31) 110 32) q j = ph q j := fun q j h1 h2 => (phs_ne (Or.inl h2)).trans (hU q j h1 h2)
  refine e_ph (ph2 := pT) (fun p j hp hj => ?_) ?_
  · show true = _
    refine Eq.symm ?_
    by_cases e1 : p < 110
    · exact (hU p j (by omega) (by omega)).trans (hb0 p j e1 hj)
    · by_cases e2 : p = 110
      · rw [e2] at hj ⊢
        have hj2 := rf_lt (o := 110) (ci := 11) (a := 33) rfl (by decide) (kd_lt rfl (by decide)) j hj
        match j, hj2 with
        | 0, _ => exact absurd hj (by decide)
        | 1, _ => exact rfl
        | 2, _ => exact rfl
        | 3, _ => exact rfl
        | 4, _ => exact rfl
        | 5, _ => exact rfl
        | 6, _ => exact rfl
        | 7, _ => exact rfl
        | 8, _ => exact rfl
        | 9, _ => exact rfl
        | 10, _ => exact rfl
        | 11, _ => exact rfl
        | 12, _ => exact rfl
        | 13, _ => exact rfl
        | 14, _ => exact rfl
        | 15, _ => exact rfl
        | 16, _ => exact rfl
        | 17, _ => exact rfl
        | 18, _ => exact absurd hj (by decide)
        | 19, _ => exact absurd hj (by decide)
        | 20, _ => exact rfl
        | 21, _ => exact absurd hj (by decide)
        | 22, _ => exact rfl
        | 23, _ => exact rfl
        | 24, _ => exact rfl
        | 25, _ => exact rfl
        | 26, _ => exact rfl
        | 27, _ => exact absurd hj (by decide)
        | 28, _ => exact rfl
        | 29, _ => exact rfl
        | 30, _ => exact rfl
        | 31, _ => exact rfl
        | 32, _ => exact rfl
        | j + 33, hj2 => exact absurd hj2 (by omega)
      · rw [rf_num (nums p (by omega) hp)] at hj
        cases hj
  refine e_aload_n h dX11_init_226 (pc := 226) rfl ?_
  refine e_getC h fl_X11_13 dX11_init_227 (pc := 227) rfl (by decide) rfl rfl (r := 112) rfl ?_
  refine e_iconst h dX11_init_230 (pc := 230)  ?_
  refine e_iconst h dX11_init_231 (pc := 231)  ?_
  refine e_iast h dX11_init_232 (pc := 232) rfl (by decide) (j := 0) rfl (by decide) ?_
  refine e_aload_n h dX11_init_233 (pc := 233) rfl ?_
  refine e_getC h fl_X11_16 dX11_init_234 (pc := 234) rfl (by decide) rfl rfl (r := 113) rfl ?_
  refine e_iconst h dX11_init_237 (pc := 237)  ?_
  refine e_iconst h dX11_init_238 (pc := 238)  ?_
  refine e_iast h dX11_init_239 (pc := 239) rfl (by decide) (j := 0) rfl (by decide) ?_
  refine e_aload_n h dX11_init_240 (pc := 240) rfl ?_
  refine e_getC h fl_X11_16 dX11_init_241 (pc := 241) rfl (by decide) rfl rfl (r := 113) rfl ?_
  refine e_iconst h dX11_init_244 (pc := 244)  ?_
  refine e_iconst h dX11_init_245 (pc := 245)  ?_
  refine e_iast h dX11_init_246 (pc := 246) rfl (by decide) (j := 1) rfl (by decide) ?_
  refine e_aload_n h dX11_init_247 (pc := 247) rfl ?_
  refine e_getC h fl_X11_19 dX11_init_248 (pc := 248) rfl (by decide) rfl rfl (r := 114) rfl ?_
  refine e_iconst h dX11_init_251 (pc := 251)  ?_
  refine e_iconst h dX11_init_252 (pc := 252)  ?_
  refine e_iast h dX11_init_253 (pc := 253) rfl (by decide) (j := 1) rfl (by decide) ?_
  refine e_aload_n h dX11_init_254 (pc := 254) rfl ?_
  refine e_getC h fl_X11_22 dX11_init_255 (pc := 255) rfl (by decide) rfl rfl (r := 115) rfl ?_
  refine e_iconst h dX11_init_258 (pc := 258)  ?_
  refine e_iconst h dX11_init_259 (pc := 259)  ?_
  refine e_iast h dX11_init_260 (pc := 260) rfl (by decide) (j := 0) rfl (by decide) ?_
  refine e_aload_n h dX11_init_261 (pc := 261) rfl ?_
  refine e_getC h fl_X11_46 dX11_init_262 (pc := 262) rfl (by decide) rfl rfl (r := 123) rfl ?_
  refine e_iconst h dX11_init_265 (pc := 265)  ?_
  refine e_bipush h dX11_init_266 (pc := 266) (by decide +kernel) ?_
  refine e_iast h dX11_init_268 (pc := 268) rfl (by decide) (j := 0) rfl (by decide) ?_
  refine e_aload_n h dX11_init_269 (pc := 269) rfl ?_
  refine e_getC h fl_X11_31 dX11_init_270 (pc := 270) rfl (by decide) rfl rfl (r := 118) rfl ?_
  refine e_iconst h dX11_init_273 (pc := 273)  ?_
  refine e_iconst h dX11_init_274 (pc := 274)  ?_
  refine e_iast h dX11_init_275 (pc := 275) rfl (by decide) (j := 0) rfl (by decide) ?_
  refine e_aload_n h dX11_init_276 (pc := 276) rfl ?_
  refine e_getC h fl_X11_25 dX11_init_277 (pc := 277) rfl (by decide) rfl rfl (r := 116) rfl ?_
  refine e_iconst h dX11_init_280 (pc := 280)  ?_
  refine e_iconst h dX11_init_281 (pc := 281)  ?_
  refine e_iast h dX11_init_282 (pc := 282) rfl (by decide) (j := 1) rfl (by decide) ?_
  refine e_aload_n h dX11_init_283 (pc := 283) rfl ?_
  refine e_getC h fl_X11_28 dX11_init_284 (pc := 284) rfl (by decide) rfl rfl (r := 117) rfl ?_
  refine e_iconst h dX11_init_287 (pc := 287)  ?_
  refine e_bipush h dX11_init_288 (pc := 288) (by decide +kernel) ?_
  refine e_iast h dX11_init_290 (pc := 290) rfl (by decide) (j := 1) rfl (by decide) ?_
  refine e_aload_n h dX11_init_291 (pc := 291) rfl ?_
  refine e_getC h fl_X11_46 dX11_init_292 (pc := 292) rfl (by decide) rfl rfl (r := 123) rfl ?_
  refine e_iconst h dX11_init_295 (pc := 295)  ?_
  refine e_bipush h dX11_init_296 (pc := 296) (by decide +kernel) ?_
  refine e_iast h dX11_init_298 (pc := 298) rfl (by decide) (j := 1) rfl (by decide) ?_
  refine e_aload_n h dX11_init_299 (pc := 299) rfl ?_
  refine e_getC h fl_X11_31 dX11_init_300 (pc := 300) rfl (by decide) rfl rfl (r := 118) rfl ?_
  refine e_iconst h dX11_init_303 (pc := 303)  ?_
  refine e_iconst h dX11_init_304 (pc := 304)  ?_
  refine e_iast h dX11_init_305 (pc := 305) rfl (by decide) (j := 1) rfl (by decide) ?_
  refine e_vretI h hr ha dX11_init_306 hag (by decide) ?_
  refine K _ _ ⟨⟨?_, by omega, fun k hk => absurd hk (by omega)⟩, ⟨?_, ?_, ?_, fun l hl => ?_, fun i hi => ?_, fun k hk => ?_⟩, ⟨?_, fun k hk => ?_, fun i hi => ?_⟩, hWW.1, hWW.2, ⟨?_, fun k hk => absurd hk (by omega)⟩, by omega, HW_0, ?_, by omega, fun k hk => absurd hk (by omega)⟩ (fun p hp => funext fun j => by simp (disch := omega) only [up_ne])
  · simp (disch := omega) only [up_ne]; exact hz0 _ _ (by decide)
  · rw [S0_L]; simp (disch := omega) only [up_eq, up_ne]; rfl
  · rw [S0_T]; simp (disch := omega) only [up_eq, up_ne]; rfl
  · rw [S0_B]; simp (disch := omega) only [up_ne]; exact hz0 _ _ (by decide)
  · rw [S0_L] at hl
    match l, hl with
    | 0, _ => rw [s0_P0, s0_W0]; refine ⟨by simp (disch := omega) only [up_eq, up_ne]; rfl, by simp (disch := omega) only [up_ne]; exact hz0 _ _ (by decide)⟩
    | 1, _ => rw [s0_P1, s0_W1]; refine ⟨by simp (disch := omega) only [up_eq, up_ne]; rfl, by simp (disch := omega) only [up_eq, up_ne]; rfl⟩
    | l + 2, hl => exact absurd hl (by omega)
  · rw [S0_T] at hi
    match i, hi with
    | 0, _ => rw [s0_H0, s0_F0, s0_X0, s0_K0]; refine ⟨by simp (disch := omega) only [up_ne]; exact hz0 _ _ (by decide), by simp (disch := omega) only [up_ne]; exact hz0 _ _ (by decide), by simp (disch := omega) only [up_eq, up_ne]; rfl, by simp (disch := omega) only [up_ne]; exact hz0 _ _ (by decide)⟩
    | 1, _ => rw [s0_H1, s0_F1, s0_X1, s0_K1]; refine ⟨by simp (disch := omega) only [up_eq, up_ne]; rfl, by simp (disch := omega) only [up_eq, up_ne]; rfl, by simp (disch := omega) only [up_eq, up_ne]; rfl, by simp (disch := omega) only [up_ne]; exact hz0 _ _ (by decide)⟩
    | i + 2, hi => exact absurd hi (by omega)
  · rw [S0_B] at hk; exact absurd hk (by omega)
  · rw [o0_E]; simp (disch := omega) only [up_ne]; exact hz0 _ _ (by decide)
  · rw [o0_E] at hk; exact absurd hk (by omega)
  · rw [S0_T] at hi
    match i, hi with
    | 0, _ => rw [o0_G0]; simp (disch := omega) only [up_eq, up_ne]; rfl
    | 1, _ => rw [o0_G1]; simp (disch := omega) only [up_eq, up_ne]; rfl
    | i + 2, hi => exact absurd hi (by omega)
  · simp (disch := omega) only [up_ne]; exact hz0 _ _ (by decide)
  · simp (disch := omega) only [up_ne]; exact hz0 _ _ (by decide)
