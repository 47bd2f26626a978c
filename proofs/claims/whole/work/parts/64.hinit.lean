def ExX (sz0 a t : Nat) : State → Prop := fun u => SFA (fun q => sz0 ≤ q) a t u u.heap ∧ vk_R RX10 82 "v2,0;v5,1;t0,0,20,2,0;t1,6,20,3,0;" a u ∧ sz0 ≤ u.heap.size
def StK (κ : KT) (a t : Nat) : Prop := match κ with
  | (p, l, e, R, s, m, args, below, meth, c, D, cy, A) => SFA A a t s s.heap ∧ vk_R RX10 82 "v2,0;v5,1;t0,0,20,2,0;t1,6,20,3,0;" a s
theorem StK_of {κ : KT} {sz0 a t : Nat} {ad : Nat → Nat} (hex : Exh κ (ExX sz0 a t)) (ha : KI κ ad 1) (h0 : sz0 ≤ ad 0) : StK κ a t := by
  obtain ⟨p, l, e, R, s, m, args, below, meth, c, D, cy, A⟩ := κ
  obtain ⟨⟨h1, h2, v, h3, h4⟩, h5, h6⟩ := hex
  have ha2 : A = AI ad 1 s.heap.size := ha
  have hn : ∀ q, A q → sz0 ≤ q := fun q hq => by
    rw [ha2] at hq
    rcases hq with ⟨k, hk, e⟩ | hq
    · obtain rfl : k = 0 := by omega
      rw [e]; exact h0
    · exact Nat.le_trans h6 hq
  exact ⟨⟨h1.narrow hn, h2.narrow hn, v, h3, h4.narrow hn⟩, h5⟩
theorem lp_84 : Cond.methodLink RX10 84 yJ0_length_8abf5 ∈ U := u_mem 286 (by decide +kernel) rfl
theorem lp_90 : Cond.methodLink RX10 90 yJ0_charAt_5068e ∈ U := u_mem 296 (by decide +kernel) rfl
theorem e_ldcS {κ : KT} {cc : ByteArray} {nL : Nat} {rm : Room} {ad : Nat → Nat} {N : Nat} {ph : Phs} {M : Mem} {pc : Nat} {ls : List (Option AV)} {st : List AV} {cs : Nat × Nat} {Q : State → Prop} {a t : Nat} (h : Ok κ RX10 cc nL rm) (hs : StK κ a t) (h2 : ad 201 = a) (d : decode cc pc = .ok (.ldc 82, 2)) (k : E κ ad N ph M (pc + 2) ls (vr 201 :: st) cs Q) : E κ ad N ph M pc ls st cs Q := by
  obtain ⟨p, l, e, R, s, m, args, below, meth, c, D, cy, A⟩ := κ
  obtain ⟨hx, hb, hml, hown, hts, hnw, hlk, hK, hR⟩ := h
  intro h1 h22 H locs Ls hP hS hl
  have kk := k h1 h22 H locs Ls hP hS hl
  rw [List.map_cons, show cv ad (vr 201) = .ref a by show Value.ref (ad 201) = _; rw [h2]] at kk
  exact va_ldcS hx hb hown hs.2 d kk
theorem e_strlen {κ : KT} {cc : ByteArray} {nL : Nat} {rm : Room} {ad : Nat → Nat} {N : Nat} {ph : Phs} {M : Mem} {pc : Nat} {ls : List (Option AV)} {st : List AV} {cs : Nat × Nat} {Q : State → Prop} {a t : Nat} (h : Ok κ RX10 cc nL rm) (hs : StK κ a t) (h2 : ad 201 = a) (d : decode cc pc = .ok (.invokevirtual 84, 3)) (hst : (st.map ct).sum ≤ 8) (hrm : 2 ≤ rm.frames ∧ 40 ≤ rm.locals ∧ cs.1 ≤ rm.cells ∧ cs.2 ≤ rm.slots) (k : E κ ad N ph M (pc + 3) ls (vi 34 :: st) cs Q) : E κ ad N ph M pc ls (vr 201 :: st) cs Q := by
  obtain ⟨p, l, e, R, s, m, args, below, meth, c, D, cy, A⟩ := κ
  obtain ⟨hx, hb, hml, hown, hts, hnw, hlk, hK, hR⟩ := h
  intro h1 h22 H locs Ls hP hS hl
  subst hR
  rw [List.map_cons, show cv ad (vr 201) = .ref a by show Value.ref (ad 201) = _; rw [h2]]
  exact sw_callV (As := []) (rest := st.map (cv ad)) (n := 0) hx hb hml hown hts mv_J0_length_8abf5 lp_84 rfl (s_len l) hs.1 hS rfl (by rw [hl.1, hml]) (by rw [ct_sum]; exact hst) ⟨hrm.1, hrm.2.1, rfl, rfl, hrm.2.2.1, hrm.2.2.2⟩ d (fun H1 locs1 hH hS1 => k h1 h22 H1 locs1 Ls (hP.kept (fun i q hq => hH _ ((hP i q hq).lt))) hS1 hl)
theorem e_charAt {κ : KT} {cc : ByteArray} {nL : Nat} {rm : Room} {ad : Nat → Nat} {N : Nat} {ph : Phs} {M : Mem} {pc : Nat} {ls : List (Option AV)} {st : List AV} {cs : Nat × Nat} {Q : State → Prop} {a t j : Nat} (h : Ok κ RX10 cc nL rm) (hs : StK κ a t) (h2 : ad 201 = a) (d : decode cc pc = .ok (.invokevirtual 90, 3)) (hst : (st.map ct).sum ≤ 8) (hrm : 4 ≤ rm.frames ∧ 85 ≤ rm.locals ∧ cs.1 ≤ rm.cells ∧ cs.2 ≤ rm.slots) (hj : j < 34) (k : E κ ad N ph M (pc + 3) ls (vi ((fsL.getD j 0 : Nat) : Int) :: st) cs Q) : E κ ad N ph M pc ls (vi (j : Int) :: vr 201 :: st) cs Q := by
  obtain ⟨p, l, e, R, s, m, args, below, meth, c, D, cy, A⟩ := κ
  obtain ⟨hx, hb, hml, hown, hts, hnw, hlk, hK, hR⟩ := h
  intro h1 h22 H locs Ls hP hS hl
  subst hR
  rw [List.map_cons, List.map_cons, show cv ad (vr 201) = .ref a by show Value.ref (ad 201) = _; rw [h2]]
  exact sw_callV (As := [.int (Int32.ofInt (j : Int))]) (rest := st.map (cv ad)) (n := 1) hx hb hml hown hts mv_J0_charAt_5068e lp_90 rfl (s_chr l hj) hs.1 hS rfl (by rw [hl.1, hml]) (by rw [ct_sum]; exact hst) ⟨hrm.1, hrm.2.1, rfl, rfl, hrm.2.2.1, hrm.2.2.2⟩ d (fun H1 locs1 hH hS1 => k h1 h22 H1 locs1 Ls (hP.kept (fun i q hq => hH _ ((hP i q hq).lt))) hS1 hl)
def fsB : TB := fun j => fsL.getD j 0
def S0 : SD := (rd fsB 34 301 0 (e0, e0)).2.1
def O0 : SD := (rd fsB 34 301 0 (e0, e0)).2.2
theorem fs_le : ∀ j, j < 34 → fsB j ≤ 255 := by decide +kernel
theorem rd_0 : (rd fsB 34 301 0 (e0, e0)).1 = -4 := by decide +kernel
theorem S0_L : sL S0 = 2 := by decide +kernel
theorem S0_T : sT S0 = 2 := by decide +kernel
theorem S0_B : sB S0 = 0 := by decide +kernel
theorem S0_H0 : sH S0 0 = 0 := by decide +kernel
theorem S0_H1 : sH S0 1 = 1 := by decide +kernel
theorem whole0 : whole S0 := by
  unfold whole
  rw [S0_T, S0_B, S0_L]
  refine ⟨fun i hi => ?_, fun k hk => absurd hk (by omega), by decide, by decide⟩
  match i, hi with
  | 0, _ => rw [S0_H0]; decide
  | 1, _ => rw [S0_H1]; decide
  | i + 2, hi => exact absurd hi (by omega)
def pN (n : Nat) : Phs := fun q _ => decide (q < n)
def zI : Nat → Int := fun _ => 0
def zK : Nat → SD := fun _ => e0
abbrev rmX10_init : Room := { frames := 5, cells := 109, slots := 3383, locals := 113 }
set_option maxRecDepth 100000 in
set_option maxHeartbeats 4000000 in
theorem c_X10_init {gg : GT} {ad : Nat → Nat} {ph : Phs} {M : Mem} {Post : (Nat → Nat) → Phs → Mem → Prop} {sz0 a t : Nat} (hz : Nw 1 ph M) (h00 : sz0 ≤ ad 0) (ha201 : ad 201 = a) (K : ∀ (ad2 : Nat → Nat) (M2 : Mem), RepC 82 96 0 fsB S0 O0 0 zI zI 0 zK M2 → (∀ p j, 110 ≤ p → M2 p j = 0) → Post ad2 (pN 110) M2) : SpI gg yX10_init cX10_init 2 rmX10_init [vr 0] ad 1 110 ph M (ExX sz0 a t) 109 3383 Post := by
  refine SpI.intro (ls := [some (vr 0), none]) (by decide +kernel) rfl rfl (Nat.le_of_ble_eq_true rfl) fun κ hgg h hr ha hf hin hex => ?_
  have h : Ok κ RX10 cX10_init 2 rmX10_init := h
  subst hgg
  have hst := StK_of hex ha h00
  have hz0 := hz
  have main : ∀ (ad9 : Nat → Nat) (Mi : Mem), (∀ q, q < 1 ∨ 110 ≤ q → ad9 q = ad q) → Mi 0 9 = 82 → Mi 0 10 = 96 → Mi 0 11 = 1 → Mi 61 0 = 62 → Mi 61 1 = 63 → Mi 64 0 = 65 → Mi 64 1 = 66 → (∀ p j, 1 ≤ p → p ≠ 61 → p ≠ 64 → Mi p j = 0) → E κ ad9 110 pT Mi 130 [some (vr 0), none] [] (109, 3383) (QI κ ad 1 110 109 3383 Post) := by
    intro ad9 Mi hag9 m9 m10 m11 m61 m61b m64 m64b hz
    have h201 : ad9 201 = a := (hag9 201 (by omega)).trans ha201
    have hN : 110 ≤ 110 := Nat.le_refl _
    have fin : ∀ M2 : Mem, RepC 82 96 0 fsB S0 O0 0 zI zI 0 zK M2 → (∀ p j, 110 ≤ p → M2 p j = 0) → E κ ad9 110 pT M2 183 [some (vr 0), none] [] (109, 3383) (QI κ ad 1 110 109 3383 Post) := by
      intro M2 hR hz2
      refine e_ph (ph2 := pN 110) (fun p j hp _ => decide_eq_true hp) ?_
      refine e_vretI h hr ha dX10_init_183 hag9 (by decide) ?_
      exact K _ _ hR hz2
    have exit : ∀ M1 : Mem, TX fsB 34 M1 → (∀ p, p ≠ 1 → p ≠ 2 → M1 p = Mi p) → E κ ad9 110 pT M1 160 [some (vr 0), none] [] (109, 3383) (QI κ ad 1 110 109 3383 Post) := by
      intro M1 hX hfr
      refine e_aload_n h dX10_init_160 rfl ?_
      refine e_getC h fl_X10_19 dX10_init_161 rfl (by decide) rfl rfl (r := 3) rfl ?_
      refine e_aload_n h dX10_init_164 rfl ?_
      refine e_getC h fl_X10_10 dX10_init_165 rfl (by decide) rfl rfl (r := 1) rfl ?_
      refine e_aload_n h dX10_init_168 rfl ?_
      refine e_getR h fl_X10_71 dX10_init_169 rfl (by decide) rfl rfl (r := 82) (by rw [hfr 0 (by decide) (by decide)]; exact m9) ?_
      refine e_callV2 lk_X10_98 mv_X6_read dX10_init_172 rfl (by decide) (by decide) (Nat.le_of_ble_eq_true rfl) (rmY := rmX6_read) (by decide) h ?_
      refine c_read (b := fsB) (n := 34) (so := 82) hN (isS_a hN) (by decide) hX (fun k hk => Or.inl (by rw [hfr 94 (by decide) (by decide)]; exact hz _ _ (by decide) (by decide) (by decide))) (fun M2 res c2 hrd hso hbo hf2 => ?_)
      have hc1 : c2.1 = S0 := by unfold S0; rw [hrd]
      have hc2 : c2.2 = O0 := by unfold O0; rw [hrd]
      have hres : res = -4 := by have z := rd_0; rw [hrd] at z; exact z
      obtain ⟨hSO, hPW⟩ := hso hres
      rw [hc1, hc2] at hSO hPW
      have hWW := whole_ws hPW whole0
      have g : ∀ p, p ≠ 1 → p ≠ 2 → p ≠ 3 → p ≠ 4 → (p < 82 ∨ 96 ≤ p) → M2 p = Mi p := fun p h1 h2 h3 h4 h5 => (hf2 p h3 h4 h5).trans (hfr p h1 h2)
      refine e_pop h dX10_init_175 rfl ?_
      refine e_aload_n h dX10_init_176 rfl ?_
      refine e_getC h fl_X10_10 dX10_init_177 rfl (by decide) rfl rfl (r := 1) rfl ?_
      refine e_callV0 lk_X10_102 mv_X9_clear dX10_init_180 rfl (by decide) (by decide) (Nat.le_of_ble_eq_true rfl) (rmY := rmX9_clear) (by decide) h ?_
      refine c_tclear hN ?_
      have g2 : ∀ p, p ≠ 1 → p ≠ 2 → p ≠ 3 → p ≠ 4 → (p < 82 ∨ 96 ≤ p) → up M2 1 1 0 p = Mi p := fun p h1 h2 h3 h4 h5 => (up_row h1).trans (g p h1 h2 h3 h4 h5)
      have z0 : ∀ p j, 5 ≤ p → p ≠ 61 → p ≠ 64 → (p < 82 ∨ 96 ≤ p) → up M2 1 1 0 p j = 0 := fun p j h1 h2 h3 h4 => by rw [g2 p (by omega) (by omega) (by omega) (by omega) h4]; exact hz p j (by omega) h2 h3
      refine fin _ ⟨Or.inl ⟨rfl, rfl⟩, ?_, ?_, ⟨up_eq _ _ _ _, by omega, fun k hk => absurd hk (by omega)⟩, hSO.to (fun p a b => up_row (by omega)), hWW.1, hWW.2, hbo.to (up_row (by decide)), fun k _ => Or.inl (z0 _ _ (by decide) (by decide) (by decide) (Or.inr (by decide))), ⟨z0 _ _ (by decide) (by decide) (by decide) (Or.inl (by decide)), fun k hk => absurd hk (by omega)⟩, by omega, HW_0, z0 _ _ (by decide) (by decide) (by decide) (Or.inl (by decide)), by omega, fun k hk => absurd hk (by omega), Or.inl ?_, Or.inl ⟨?_, ?_⟩, Or.inl ⟨?_, ?_⟩, fun c _ => ⟨0, z0 _ _ (by decide) (by decide) (by decide) (Or.inl (by decide)), by decide⟩, fun c _ => ⟨0, z0 _ _ (by decide) (by decide) (by decide) (Or.inl (by decide)), by decide⟩⟩ (fun p j hp => z0 p j (by omega) (by omega) (by omega) (by omega))
      · rw [g2 0 (by decide) (by decide) (by decide) (by decide) (by decide)]; exact m9
      · rw [g2 0 (by decide) (by decide) (by decide) (by decide) (by decide)]; exact m10
      · rw [g2 0 (by decide) (by decide) (by decide) (by decide) (by decide)]; exact m11
      · rw [g2 64 (by decide) (by decide) (by decide) (by decide) (by decide)]; exact m64
      · rw [g2 64 (by decide) (by decide) (by decide) (by decide) (by decide)]; exact m64b
      · rw [g2 61 (by decide) (by decide) (by decide) (by decide) (by decide)]; exact m61
      · rw [g2 61 (by decide) (by decide) (by decide) (by decide) (by decide)]; exact m61b
    have loop : ∀ (m k : Nat) (M1 : Mem), k ≤ 34 → 34 < k + m → TX fsB k M1 → (∀ p, p ≠ 1 → p ≠ 2 → M1 p = Mi p) → E κ ad9 110 pT M1 132 [some (vr 0), some (vi (k : Int))] [] (109, 3383) (QI κ ad 1 110 109 3383 Post) := by
      intro m
      induction m with
      | zero => intro k M1 h1 h2; exact absurd h2 (by omega)
      | succ m ih =>
        intro k M1 hk hm hX hfr
        have hx1 := hX.1
        refine e_iload_n h dX10_init_132 rfl ?_
        refine e_ldcS h hst h201 dX10_init_133 ?_
        refine e_strlen h hst h201 dX10_init_135 (Nat.le_of_ble_eq_true rfl) (by decide) ?_
        refine e_icmp_ge h (tgt := 160) dX10_init_138 (by decide) (by omega) (by decide) (fun hb => ?_) (fun hb => ?_)
        · obtain rfl : k = 34 := by omega
          refine e_fgt (ls2 := [some (vr 0), none]) ⟨Or.inr rfl, Or.inl rfl, trivial⟩ ?_
          exact exit M1 hX hfr
        · refine e_aload_n h dX10_init_141 rfl ?_
          refine e_getC h fl_X10_10 dX10_init_142 rfl (by decide) rfl rfl (r := 1) rfl ?_
          refine e_ldcS h hst h201 dX10_init_145 ?_
          refine e_iload_n h dX10_init_147 rfl ?_
          refine e_charAt (j := k) h hst h201 dX10_init_148 (Nat.le_of_ble_eq_true rfl) (by decide) (by omega) ?_
          refine e_callV1 lk_X10_94 mv_X9_append dX10_init_151 rfl (by decide) (by decide) (Nat.le_of_ble_eq_true rfl) (rmY := rmX9_append) (by decide) h ?_
          refine c_append (n := k) (x := fsL.getD k 0) rfl hN hX.1 (by omega) ?_
          refine e_iinc1 h dX10_init_154 (by decide) rfl ?_
          refine e_goto h dX10_init_157 (tgt := 132) (by decide) ?_
          rw [show (k : Int) + 1 = ((k + 1 : Nat) : Int) by omega]
          refine ih (k + 1) _ (by omega) (by omega) ⟨by rw [up_eq, hx1]; omega, by omega, fun q hq => ?_⟩ (fun p h1 h2 => by rw [up_row h1, up_row h2]; exact hfr p h1 h2)
          rw [up_ne (by omega)]
          by_cases e : q = k
          · subst e; rw [up_eq]; exact ⟨rfl, fs_le q (by omega)⟩
          · rw [up_ne (by omega)]; exact hX.2.2 q (by omega)
    refine e_iconst h dX10_init_130 ?_
    refine e_istore1 h dX10_init_131 (by decide) rfl ?_
    exact loop 35 0 Mi (by omega) (by omega) ⟨hz _ _ (by decide) (by decide) (by decide), by omega, fun k hk => absurd hk (by omega)⟩ (fun _ _ _ => rfl)
  have hag : ∀ q, q < 1 ∨ 1 ≤ q → ad q = ad q := fun _ _ => rfl
  have hU : ∀ q j, q < 1 → q ≠ 0 → ph q j = ph q j := fun _ _ _ _ => rfl
  have hB : Bp 0 0 1 ph := Bp.start
  refine e_aload_n h dX10_init_0 (pc := 0) rfl ?_
  refine e_objInit h lp_X10_1 dX10_init_1 (pc := 1) (by decide) ?_
  refine e_aload_n h dX10_init_4 (pc := 4) rfl ?_
  refine e_new h hf hz (show pcl 1 = 9 from rfl) (by decide) cl_X10_7 ia_X9 iz_X9 dX10_init_5 (pc := 5) (by decide) (rbL_some (rbA_r (Or.inl (by omega))) (rbL_none rbL_nil)) (rbS_cons (rbA_r (Or.inl (by omega))) rbS_nil) (fun ad1 hg1 => ?_)
  replace hag : ∀ q, q < 1 ∨ 2 ≤ q → ad1 q = ad q := fun q hq => (hg1 q (by omega)).trans (hag q (by omega))
  replace hz : Nw 2 _ _ := hz.new
  show E κ ad1 2 _ _ _ _ _ (1, 2) _
  refine e_dup h dX10_init_8 (pc := 8) rfl ?_
  refine e_callI (rmY := rmX9_init) (N2 := 3) (mc := 1) (ms := 300) lk_X10_9 mi_X9_init dX10_init_9 (pc := 9) (Nat.le_of_ble_eq_true rfl) (by decide) h hf ExOK.tr (rbL_some (rbA_r (Or.inl (by omega))) (rbL_none rbL_nil)) (rbS_cons (rbA_r (Or.inl (by omega))) (rbS_cons (rbA_r (Or.inl (by omega))) rbS_nil)) ?_
  refine c_X9_init hz (fun ad2 ph2 hu2 hb2 hz => ?_)
  intro hg2
  replace hU : ∀ q j, q < 1 → q ≠ 0 → ph2 q j = ph q j := fun q j h1 h2 => (hu2 q j (by omega) (by omega)).trans (hU q j h1 h2)
  replace hB : Bp 0 0 3 ph2 := hB.call hu2 hb2
  replace hag : ∀ q, q < 1 ∨ 3 ≤ q → ad2 q = ad q := fun q hq => (hg2 q (by omega)).trans (hag q (by omega))
  replace hz : Nw 3 _ _ := hz
  show E κ ad2 3 _ _ _ _ _ (2, 302) _
  refine e_putF h hin fl_X10_10 dX10_init_12 (pc := 12) (show pcl 0 = 10 from rfl) (by omega) rfl rfl (r := 1) rfl fp_X10_10 ?_
  replace hz := hz.setP (p := 0) (k := 0) (by omega) (by rw [tg_c (r := 1) (by rw [(show pcl 0 = 10 from rfl)]; decide) rfl]; omega)
  replace hU : ∀ q j, q < 1 → q ≠ 0 → (phs ph2 0 0) q j = ph q j := fun q j h1 h2 => (phs_ne (Or.inl h2)).trans (hU q j h1 h2)
  replace hB : Bp 0 1 3 (phs ph2 0 0) := hB.fld
  refine e_aload_n h dX10_init_15 (pc := 15) rfl ?_
  refine e_new h hf hz (show pcl 3 = 6 from rfl) (by decide) cl_X10_16 ia_X6 iz_X6 dX10_init_16 (pc := 16) (by decide) (rbL_some (rbA_r (Or.inl (by omega))) (rbL_none rbL_nil)) (rbS_cons (rbA_r (Or.inl (by omega))) rbS_nil) (fun ad3 hg3 => ?_)
  replace hag : ∀ q, q < 1 ∨ 4 ≤ q → ad3 q = ad q := fun q hq => (hg3 q (by omega)).trans (hag q (by omega))
  replace hz : Nw 4 _ _ := hz.new
  show E κ ad3 4 _ _ _ _ _ (3, 305) _
  refine e_dup h dX10_init_19 (pc := 19) rfl ?_
  refine e_callI (rmY := rmX6_init) (N2 := 5) (mc := 1) (ms := 5) lk_X10_18 mi_X6_init dX10_init_20 (pc := 20) (Nat.le_of_ble_eq_true rfl) (by decide) h hf ExOK.tr (rbL_some (rbA_r (Or.inl (by omega))) (rbL_none rbL_nil)) (rbS_cons (rbA_r (Or.inl (by omega))) (rbS_cons (rbA_r (Or.inl (by omega))) rbS_nil)) ?_
  refine c_X6_init hz (fun ad4 ph4 hu4 hb4 hz => ?_)
  intro hg4
  replace hU : ∀ q j, q < 1 → q ≠ 0 → ph4 q j = ph q j := fun q j h1 h2 => (hu4 q j (by omega) (by omega)).trans (hU q j h1 h2)
  replace hB : Bp 0 1 5 ph4 := hB.call hu4 hb4
  replace hag : ∀ q, q < 1 ∨ 5 ≤ q → ad4 q = ad q := fun q hq => (hg4 q (by omega)).trans (hag q (by omega))
  replace hz : Nw 5 _ _ := hz
  show E κ ad4 5 _ _ _ _ _ (4, 310) _
  refine e_putF h hin fl_X10_19 dX10_init_23 (pc := 23) (show pcl 0 = 10 from rfl) (by omega) rfl rfl (r := 3) rfl fp_X10_19 ?_
  replace hz := hz.setP (p := 0) (k := 1) (by omega) (by rw [tg_c (r := 3) (by rw [(show pcl 0 = 10 from rfl)]; decide) rfl]; omega)
  replace hU : ∀ q j, q < 1 → q ≠ 0 → (phs ph4 0 1) q j = ph q j := fun q j h1 h2 => (phs_ne (Or.inl h2)).trans (hU q j h1 h2)
  replace hB : Bp 0 2 5 (phs ph4 0 1) := hB.fld
  refine e_aload_n h dX10_init_26 (pc := 26) rfl ?_
  refine e_new h hf hz (show pcl 5 = 2 from rfl) (by decide) cl_X10_23 ia_X2 iz_X2 dX10_init_27 (pc := 27) (by decide) (rbL_some (rbA_r (Or.inl (by omega))) (rbL_none rbL_nil)) (rbS_cons (rbA_r (Or.inl (by omega))) rbS_nil) (fun ad5 hg5 => ?_)
  replace hag : ∀ q, q < 1 ∨ 6 ≤ q → ad5 q = ad q := fun q hq => (hg5 q (by omega)).trans (hag q (by omega))
  replace hz : Nw 6 _ _ := hz.new
  show E κ ad5 6 _ _ _ _ _ (5, 312) _
  refine e_dup h dX10_init_30 (pc := 30) rfl ?_
  refine e_callI (rmY := rmX2_init) (N2 := 31) (mc := 25) (ms := 1146) lk_X10_25 mi_X2_init dX10_init_31 (pc := 31) (Nat.le_of_ble_eq_true rfl) (by decide) h hf ExOK.tr (rbL_some (rbA_r (Or.inl (by omega))) (rbL_none rbL_nil)) (rbS_cons (rbA_r (Or.inl (by omega))) (rbS_cons (rbA_r (Or.inl (by omega))) rbS_nil)) ?_
  refine c_X2_init (o := 5) isF6_a hz (fun ad6 ph6 hu6 hb6 hz => ?_)
  intro hg6
  replace hU : ∀ q j, q < 1 → q ≠ 0 → ph6 q j = ph q j := fun q j h1 h2 => (hu6 q j (by omega) (by omega)).trans (hU q j h1 h2)
  replace hB : Bp 0 2 31 ph6 := hB.call hu6 hb6
  replace hag : ∀ q, q < 1 ∨ 31 ≤ q → ad6 q = ad q := fun q hq => (hg6 q (by omega)).trans (hag q (by omega))
  replace hz : Nw 31 _ _ := hz
  show E κ ad6 31 _ _ _ _ _ (30, 1458) _
  refine e_putF h hin fl_X10_26 dX10_init_34 (pc := 34) (show pcl 0 = 10 from rfl) (by omega) rfl rfl (r := 5) rfl fp_X10_26 ?_
  replace hz := hz.setP (p := 0) (k := 2) (by omega) (by rw [tg_c (r := 5) (by rw [(show pcl 0 = 10 from rfl)]; decide) rfl]; omega)
  replace hU : ∀ q j, q < 1 → q ≠ 0 → (phs ph6 0 2) q j = ph q j := fun q j h1 h2 => (phs_ne (Or.inl h2)).trans (hU q j h1 h2)
  replace hB : Bp 0 3 31 (phs ph6 0 2) := hB.fld
  refine e_aload_n h dX10_init_37 (pc := 37) rfl ?_
  refine e_new h hf hz (show pcl 31 = 2 from rfl) (by decide) cl_X10_23 ia_X2 iz_X2 dX10_init_38 (pc := 38) (by decide) (rbL_some (rbA_r (Or.inl (by omega))) (rbL_none rbL_nil)) (rbS_cons (rbA_r (Or.inl (by omega))) rbS_nil) (fun ad7 hg7 => ?_)
  replace hag : ∀ q, q < 1 ∨ 32 ≤ q → ad7 q = ad q := fun q hq => (hg7 q (by omega)).trans (hag q (by omega))
  replace hz : Nw 32 _ _ := hz.new
  show E κ ad7 32 _ _ _ _ _ (31, 1460) _
  refine e_dup h dX10_init_41 (pc := 41) rfl ?_
  refine e_callI (rmY := rmX2_init) (N2 := 57) (mc := 25) (ms := 1146) lk_X10_25 mi_X2_init dX10_init_42 (pc := 42) (Nat.le_of_ble_eq_true rfl) (by decide) h hf ExOK.tr (rbL_some (rbA_r (Or.inl (by omega))) (rbL_none rbL_nil)) (rbS_cons (rbA_r (Or.inl (by omega))) (rbS_cons (rbA_r (Or.inl (by omega))) rbS_nil)) ?_
  refine c_X2_init (o := 31) isF6_b hz (fun ad8 ph8 hu8 hb8 hz => ?_)
  intro hg8
  replace hU : ∀ q j, q < 1 → q ≠ 0 → ph8 q j = ph q j := fun q j h1 h2 => (hu8 q j (by omega) (by omega)).trans (hU q j h1 h2)
  replace hB : Bp 0 3 57 ph8 := hB.call hu8 hb8
  replace hag : ∀ q, q < 1 ∨ 57 ≤ q → ad8 q = ad q := fun q hq => (hg8 q (by omega)).trans (hag q (by omega))
  replace hz : Nw 57 _ _ := hz
  show E κ ad8 57 _ _ _ _ _ (56, 2606) _
  refine e_putF h hin fl_X10_30 dX10_init_45 (pc := 45) (show pcl 0 = 10 from rfl) (by omega) rfl rfl (r := 31) rfl fp_X10_30 ?_
  replace hz := hz.setP (p := 0) (k := 3) (by omega) (by rw [tg_c (r := 31) (by rw [(show pcl 0 = 10 from rfl)]; decide) rfl]; omega)
  replace hU : ∀ q j, q < 1 → q ≠ 0 → (phs ph8 0 3) q j = ph q j := fun q j h1 h2 => (phs_ne (Or.inl h2)).trans (hU q j h1 h2)
  replace hB : Bp 0 4 57 (phs ph8 0 3) := hB.fld
  refine e_aload_n h dX10_init_48 (pc := 48) rfl ?_
  refine e_new h hf hz (show pcl 57 = 1 from rfl) (by decide) cl_X10_33 ia_X1 iz_X1 dX10_init_49 (pc := 49) (by decide) (rbL_some (rbA_r (Or.inl (by omega))) (rbL_none rbL_nil)) (rbS_cons (rbA_r (Or.inl (by omega))) rbS_nil) (fun ad9 hg9 => ?_)
  replace hag : ∀ q, q < 1 ∨ 58 ≤ q → ad9 q = ad q := fun q hq => (hg9 q (by omega)).trans (hag q (by omega))
  replace hz : Nw 58 _ _ := hz.new
  show E κ ad9 58 _ _ _ _ _ (57, 2613) _
  refine e_dup h dX10_init_52 (pc := 52) rfl ?_
  refine e_callI (rmY := rmX1_init) (N2 := 61) (mc := 3) (ms := 183) lk_X10_35 mi_X1_init dX10_init_53 (pc := 53) (Nat.le_of_ble_eq_true rfl) (by decide) h hf ExOK.tr (rbL_some (rbA_r (Or.inl (by omega))) (rbL_none rbL_nil)) (rbS_cons (rbA_r (Or.inl (by omega))) (rbS_cons (rbA_r (Or.inl (by omega))) rbS_nil)) ?_
  refine c_X1_init (o := 57) (by unfold IsC; decide) hz (fun ad10 ph10 hu10 hb10 hz => ?_)
  intro hg10
  replace hU : ∀ q j, q < 1 → q ≠ 0 → ph10 q j = ph q j := fun q j h1 h2 => (hu10 q j (by omega) (by omega)).trans (hU q j h1 h2)
  replace hB : Bp 0 4 61 ph10 := hB.call hu10 hb10
  replace hag : ∀ q, q < 1 ∨ 61 ≤ q → ad10 q = ad q := fun q hq => (hg10 q (by omega)).trans (hag q (by omega))
  replace hz : Nw 61 _ _ := hz
  show E κ ad10 61 _ _ _ _ _ (60, 2796) _
  refine e_putF h hin fl_X10_36 dX10_init_56 (pc := 56) (show pcl 0 = 10 from rfl) (by omega) rfl rfl (r := 57) rfl fp_X10_36 ?_
  replace hz := hz.setP (p := 0) (k := 4) (by omega) (by rw [tg_c (r := 57) (by rw [(show pcl 0 = 10 from rfl)]; decide) rfl]; omega)
  replace hU : ∀ q j, q < 1 → q ≠ 0 → (phs ph10 0 4) q j = ph q j := fun q j h1 h2 => (phs_ne (Or.inl h2)).trans (hU q j h1 h2)
  replace hB : Bp 0 5 61 (phs ph10 0 4) := hB.fld
  refine e_aload_n h dX10_init_59 (pc := 59) rfl ?_
  refine e_new h hf hz (show pcl 61 = 0 from rfl) (by decide) cl_X10_40 ia_X0 iz_X0 dX10_init_60 (pc := 60) (by decide) (rbL_some (rbA_r (Or.inl (by omega))) (rbL_none rbL_nil)) (rbS_cons (rbA_r (Or.inl (by omega))) rbS_nil) (fun ad11 hg11 => ?_)
  replace hag : ∀ q, q < 1 ∨ 62 ≤ q → ad11 q = ad q := fun q hq => (hg11 q (by omega)).trans (hag q (by omega))
  replace hz : Nw 62 _ _ := hz.new
  show E κ ad11 62 _ _ _ _ _ (61, 2800) _
  refine e_dup h dX10_init_63 (pc := 63) rfl ?_
  refine e_callI (rmY := rmX0_init) (N2 := 64) (mc := 2) (ms := 288) lk_X10_42 mi_X0_init dX10_init_64 (pc := 64) (Nat.le_of_ble_eq_true rfl) (by decide) h hf ExOK.tr (rbL_some (rbA_r (Or.inl (by omega))) (rbL_none rbL_nil)) (rbS_cons (rbA_r (Or.inl (by omega))) (rbS_cons (rbA_r (Or.inl (by omega))) rbS_nil)) ?_
  refine c_X0_init hz (fun ad12 ph12 hu12 hb12 hz => ?_)
  intro hg12
  replace hU : ∀ q j, q < 1 → q ≠ 0 → ph12 q j = ph q j := fun q j h1 h2 => (hu12 q j (by omega) (by omega)).trans (hU q j h1 h2)
  replace hB : Bp 0 5 64 ph12 := hB.call hu12 hb12
  replace hag : ∀ q, q < 1 ∨ 64 ≤ q → ad12 q = ad q := fun q hq => (hg12 q (by omega)).trans (hag q (by omega))
  replace hz : Nw 64 _ _ := hz
  show E κ ad12 64 _ _ _ _ _ (63, 3088) _
  refine e_putF h hin fl_X10_43 dX10_init_67 (pc := 67) (show pcl 0 = 10 from rfl) (by omega) rfl rfl (r := 61) rfl fp_X10_43 ?_
  replace hz := hz.setP (p := 0) (k := 5) (by omega) (by rw [tg_c (r := 61) (by rw [(show pcl 0 = 10 from rfl)]; decide) rfl]; omega)
  replace hU : ∀ q j, q < 1 → q ≠ 0 → (phs ph12 0 5) q j = ph q j := fun q j h1 h2 => (phs_ne (Or.inl h2)).trans (hU q j h1 h2)
  replace hB : Bp 0 6 64 (phs ph12 0 5) := hB.fld
  refine e_aload_n h dX10_init_70 (pc := 70) rfl ?_
  refine e_new h hf hz (show pcl 64 = 4 from rfl) (by decide) cl_X10_47 ia_X4 iz_X4 dX10_init_71 (pc := 71) (by decide) (rbL_some (rbA_r (Or.inl (by omega))) (rbL_none rbL_nil)) (rbS_cons (rbA_r (Or.inl (by omega))) rbS_nil) (fun ad13 hg13 => ?_)
  replace hag : ∀ q, q < 1 ∨ 65 ≤ q → ad13 q = ad q := fun q hq => (hg13 q (by omega)).trans (hag q (by omega))
  replace hz : Nw 65 _ _ := hz.new
  show E κ ad13 65 _ _ _ _ _ (64, 3092) _
  refine e_dup h dX10_init_74 (pc := 74) rfl ?_
  refine e_callI (rmY := rmX4_init) (N2 := 67) (mc := 2) (ms := 12) lk_X10_49 mi_X4_init dX10_init_75 (pc := 75) (Nat.le_of_ble_eq_true rfl) (by decide) h hf ExOK.tr (rbL_some (rbA_r (Or.inl (by omega))) (rbL_none rbL_nil)) (rbS_cons (rbA_r (Or.inl (by omega))) (rbS_cons (rbA_r (Or.inl (by omega))) rbS_nil)) ?_
  refine c_X4_init hz (fun ad14 ph14 hu14 hb14 hz => ?_)
  intro hg14
  replace hU : ∀ q j, q < 1 → q ≠ 0 → ph14 q j = ph q j := fun q j h1 h2 => (hu14 q j (by omega) (by omega)).trans (hU q j h1 h2)
  replace hB : Bp 0 6 67 ph14 := hB.call hu14 hb14
  replace hag : ∀ q, q < 1 ∨ 67 ≤ q → ad14 q = ad q := fun q hq => (hg14 q (by omega)).trans (hag q (by omega))
  replace hz : Nw 67 _ _ := hz
  show E κ ad14 67 _ _ _ _ _ (66, 3104) _
  refine e_putF h hin fl_X10_50 dX10_init_78 (pc := 78) (show pcl 0 = 10 from rfl) (by omega) rfl rfl (r := 64) rfl fp_X10_50 ?_
  replace hz := hz.setP (p := 0) (k := 6) (by omega) (by rw [tg_c (r := 64) (by rw [(show pcl 0 = 10 from rfl)]; decide) rfl]; omega)
  replace hU : ∀ q j, q < 1 → q ≠ 0 → (phs ph14 0 6) q j = ph q j := fun q j h1 h2 => (phs_ne (Or.inl h2)).trans (hU q j h1 h2)
  replace hB : Bp 0 7 67 (phs ph14 0 6) := hB.fld
  refine e_aload_n h dX10_init_81 (pc := 81) rfl ?_
  refine e_new h hf hz (show pcl 67 = 3 from rfl) (by decide) cl_X10_54 ia_X3 iz_X3 dX10_init_82 (pc := 82) (by decide) (rbL_some (rbA_r (Or.inl (by omega))) (rbL_none rbL_nil)) (rbS_cons (rbA_r (Or.inl (by omega))) rbS_nil) (fun ad15 hg15 => ?_)
  replace hag : ∀ q, q < 1 ∨ 68 ≤ q → ad15 q = ad q := fun q hq => (hg15 q (by omega)).trans (hag q (by omega))
  replace hz : Nw 68 _ _ := hz.new
  show E κ ad15 68 _ _ _ _ _ (67, 3107) _
  refine e_dup h dX10_init_85 (pc := 85) rfl ?_
  refine e_callI (rmY := rmX3_init) (N2 := 70) (mc := 2) (ms := 16) lk_X10_56 mi_X3_init dX10_init_86 (pc := 86) (Nat.le_of_ble_eq_true rfl) (by decide) h hf ExOK.tr (rbL_some (rbA_r (Or.inl (by omega))) (rbL_none rbL_nil)) (rbS_cons (rbA_r (Or.inl (by omega))) (rbS_cons (rbA_r (Or.inl (by omega))) rbS_nil)) ?_
  refine c_X3_init hz (fun ad16 ph16 hu16 hb16 hz => ?_)
  intro hg16
  replace hU : ∀ q j, q < 1 → q ≠ 0 → ph16 q j = ph q j := fun q j h1 h2 => (hu16 q j (by omega) (by omega)).trans (hU q j h1 h2)
  replace hB : Bp 0 7 70 ph16 := hB.call hu16 hb16
  replace hag : ∀ q, q < 1 ∨ 70 ≤ q → ad16 q = ad q := fun q hq => (hg16 q (by omega)).trans (hag q (by omega))
  replace hz : Nw 70 _ _ := hz
  show E κ ad16 70 _ _ _ _ _ (69, 3123) _
  refine e_putF h hin fl_X10_57 dX10_init_89 (pc := 89) (show pcl 0 = 10 from rfl) (by omega) rfl rfl (r := 67) rfl fp_X10_57 ?_
  replace hz := hz.setP (p := 0) (k := 7) (by omega) (by rw [tg_c (r := 67) (by rw [(show pcl 0 = 10 from rfl)]; decide) rfl]; omega)
  replace hU : ∀ q j, q < 1 → q ≠ 0 → (phs ph16 0 7) q j = ph q j := fun q j h1 h2 => (phs_ne (Or.inl h2)).trans (hU q j h1 h2)
  replace hB : Bp 0 8 70 (phs ph16 0 7) := hB.fld
  refine e_aload_n h dX10_init_92 (pc := 92) rfl ?_
  refine e_new h hf hz (show pcl 70 = 7 from rfl) (by decide) cl_X10_61 ia_X7 iz_X7 dX10_init_93 (pc := 93) (by decide) (rbL_some (rbA_r (Or.inl (by omega))) (rbL_none rbL_nil)) (rbS_cons (rbA_r (Or.inl (by omega))) rbS_nil) (fun ad17 hg17 => ?_)
  replace hag : ∀ q, q < 1 ∨ 71 ≤ q → ad17 q = ad q := fun q hq => (hg17 q (by omega)).trans (hag q (by omega))
  replace hz : Nw 71 _ _ := hz.new
  show E κ ad17 71 _ _ _ _ _ (70, 3125) _
  refine e_dup h dX10_init_96 (pc := 96) rfl ?_
  refine e_callI (rmY := rmX7_init) (N2 := 82) (mc := 11) (ms := 72) lk_X10_63 mi_X7_init dX10_init_97 (pc := 97) (Nat.le_of_ble_eq_true rfl) (by decide) h hf ExOK.tr (rbL_some (rbA_r (Or.inl (by omega))) (rbL_none rbL_nil)) (rbS_cons (rbA_r (Or.inl (by omega))) (rbS_cons (rbA_r (Or.inl (by omega))) rbS_nil)) ?_
  refine c_X7_init hz (fun ad18 ph18 hu18 hb18 hz => ?_)
  intro hg18
  replace hU : ∀ q j, q < 1 → q ≠ 0 → ph18 q j = ph q j := fun q j h1 h2 => (hu18 q j (by omega) (by omega)).trans (hU q j h1 h2)
  replace hB : Bp 0 8 82 ph18 := hB.call hu18 hb18
  replace hag : ∀ q, q < 1 ∨ 82 ≤ q → ad18 q = ad q := fun q hq => (hg18 q (by omega)).trans (hag q (by omega))
  replace hz : Nw 82 _ _ := hz
  show E κ ad18 82 _ _ _ _ _ (81, 3197) _
  refine e_putF h hin fl_X10_64 dX10_init_100 (pc := 100) (show pcl 0 = 10 from rfl) (by omega) rfl rfl (r := 70) rfl fp_X10_64 ?_
  replace hz := hz.setP (p := 0) (k := 8) (by omega) (by rw [tg_c (r := 70) (by rw [(show pcl 0 = 10 from rfl)]; decide) rfl]; omega)
  replace hU : ∀ q j, q < 1 → q ≠ 0 → (phs ph18 0 8) q j = ph q j := fun q j h1 h2 => (phs_ne (Or.inl h2)).trans (hU q j h1 h2)
  replace hB : Bp 0 9 82 (phs ph18 0 8) := hB.fld
  refine e_aload_n h dX10_init_103 (pc := 103) rfl ?_
  refine e_new h hf hz (show pcl 82 = 8 from rfl) (by decide) cl_X10_68 ia_X8 iz_X8 dX10_init_104 (pc := 104) (by decide) (rbL_some (rbA_r (Or.inl (by omega))) (rbL_none rbL_nil)) (rbS_cons (rbA_r (Or.inl (by omega))) rbS_nil) (fun ad19 hg19 => ?_)
  replace hag : ∀ q, q < 1 ∨ 83 ≤ q → ad19 q = ad q := fun q hq => (hg19 q (by omega)).trans (hag q (by omega))
  replace hz : Nw 83 _ _ := hz.new
  show E κ ad19 83 _ _ _ _ _ (82, 3209) _
  refine e_dup h dX10_init_107 (pc := 107) rfl ?_
  refine e_callI (rmY := rmX8_init) (N2 := 96) (mc := 13) (ms := 81) lk_X10_70 mi_X8_init dX10_init_108 (pc := 108) (Nat.le_of_ble_eq_true rfl) (by decide) h hf ExOK.tr (rbL_some (rbA_r (Or.inl (by omega))) (rbL_none rbL_nil)) (rbS_cons (rbA_r (Or.inl (by omega))) (rbS_cons (rbA_r (Or.inl (by omega))) rbS_nil)) ?_
  refine c_X8_init (o := 82) (by unfold IsS; decide) hz (fun ad20 ph20 hu20 hb20 hz => ?_)
  intro hg20
  replace hU : ∀ q j, q < 1 → q ≠ 0 → ph20 q j = ph q j := fun q j h1 h2 => (hu20 q j (by omega) (by omega)).trans (hU q j h1 h2)
  replace hB : Bp 0 9 96 ph20 := hB.call hu20 hb20
  replace hag : ∀ q, q < 1 ∨ 96 ≤ q → ad20 q = ad q := fun q hq => (hg20 q (by omega)).trans (hag q (by omega))
  replace hz : Nw 96 _ _ := hz
  show E κ ad20 96 _ _ _ _ _ (95, 3290) _
  refine e_putR0 h fl_X10_71 dX10_init_111 (pc := 111) (show pcl 0 = 10 from rfl) (by omega) rfl ?_
  replace hz := hz.putR (p := 0) (k := 9) (x := 82) (by omega) (by rw [(show pcl 0 = 10 from rfl)]; rfl) (by omega)
  replace hU : ∀ q j, q < 1 → q ≠ 0 → (phs ph20 0 9) q j = ph q j := fun q j h1 h2 => (phs_ne (Or.inl h2)).trans (hU q j h1 h2)
  replace hB : Bp 0 10 96 (phs ph20 0 9) := hB.fld
  refine e_aload_n h dX10_init_114 (pc := 114) rfl ?_
  refine e_new h hf hz (show pcl 96 = 8 from rfl) (by decide) cl_X10_68 ia_X8 iz_X8 dX10_init_115 (pc := 115) (by decide) (rbL_some (rbA_r (Or.inl (by omega))) (rbL_none rbL_nil)) (rbS_cons (rbA_r (Or.inl (by omega))) rbS_nil) (fun ad21 hg21 => ?_)
  replace hag : ∀ q, q < 1 ∨ 97 ≤ q → ad21 q = ad q := fun q hq => (hg21 q (by omega)).trans (hag q (by omega))
  replace hz : Nw 97 _ _ := hz.new
  show E κ ad21 97 _ _ _ _ _ (96, 3302) _
  refine e_dup h dX10_init_118 (pc := 118) rfl ?_
  refine e_callI (rmY := rmX8_init) (N2 := 110) (mc := 13) (ms := 81) lk_X10_70 mi_X8_init dX10_init_119 (pc := 119) (Nat.le_of_ble_eq_true rfl) (by decide) h hf ExOK.tr (rbL_some (rbA_r (Or.inl (by omega))) (rbL_none rbL_nil)) (rbS_cons (rbA_r (Or.inl (by omega))) (rbS_cons (rbA_r (Or.inl (by omega))) rbS_nil)) ?_
  refine c_X8_init (o := 96) (by unfold IsS; decide) hz (fun ad22 ph22 hu22 hb22 hz => ?_)
  intro hg22
  replace hU : ∀ q j, q < 1 → q ≠ 0 → ph22 q j = ph q j := fun q j h1 h2 => (hu22 q j (by omega) (by omega)).trans (hU q j h1 h2)
  replace hB : Bp 0 10 110 ph22 := hB.call hu22 hb22
  replace hag : ∀ q, q < 1 ∨ 110 ≤ q → ad22 q = ad q := fun q hq => (hg22 q (by omega)).trans (hag q (by omega))
  replace hz : Nw 110 _ _ := hz
  show E κ ad22 110 _ _ _ _ _ (109, 3383) _
  refine e_putR0 h fl_X10_75 dX10_init_122 (pc := 122) (show pcl 0 = 10 from rfl) (by omega) rfl ?_
  replace hz := hz.putR (p := 0) (k := 10) (x := 96) (by omega) (by rw [(show pcl 0 = 10 from rfl)]; rfl) (by omega)
  replace hU : ∀ q j, q < 1 → q ≠ 0 → (phs ph22 0 10) q j = ph q j := fun q j h1 h2 => (phs_ne (Or.inl h2)).trans (hU q j h1 h2)
  replace hB : Bp 0 11 110 (phs ph22 0 10) := hB.fld
  refine e_aload_n h dX10_init_125 (pc := 125) rfl ?_
  refine e_iconst h dX10_init_126 (pc := 126) ?_
  refine e_putZ h fl_X10_78 dX10_init_127 (pc := 127) (show pcl 0 = 10 from rfl) (by omega) rfl (by decide) ?_
  replace hz := hz.put (p := 0) (k := 11) (x := 1) (by omega) (Or.inl (by rw [(show pcl 0 = 10 from rfl)]; decide))
  refine e_ph (ph2 := pT) (fun p j hp hj => ((hB.all (rf_lt rfl (by decide) (kd_lt rfl (by decide)))) p j (Nat.zero_le _) hp hj).symm) ?_
  refine main _ _ hag ?_ ?_ ?_ ?_ ?_ ?_ ?_ (fun p j h1 h2 h3 => ?_)
  · simp (disch := omega) only [up_eq, up_ne]; rfl
  · simp (disch := omega) only [up_eq, up_ne]; rfl
  · simp (disch := omega) only [up_eq, up_ne]
  · simp (disch := omega) only [up_eq, up_ne]
  · simp (disch := omega) only [up_eq, up_ne]
  · simp (disch := omega) only [up_eq, up_ne]
  · simp (disch := omega) only [up_eq, up_ne]
  · simp (disch := omega) only [up_ne]; exact (hz0.2 p j h1).2
