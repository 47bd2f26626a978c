/-- one step of the gust on what stands in then -/
theorem gs_step {L x k m : Nat} {w : Nat → Nat} {T : Nat → Int} {wk : Int} {v1 v2 : Int} (hk : k < L) (hx : x ≤ 10) (hwk : wk = (w k : Nat)) (hT : ∀ m, m < L → T m = (gs L x w k m : Nat)) (hm : m < L)
    (hv1 : v1 = T (min (k + 1) (L - 1)) + wk * x)
    (hv2 : v2 = (if k - 1 = min (k + 1) (L - 1) then v1 else T (k - 1)) + wk * (10 - x)) :
    (if m = k - 1 then v2 else if m = min (k + 1) (L - 1) then v1 else T m) = ((gs L x w (k + 1) m : Nat) : Int) := by
  have hA : wk * (x : Int) = ((w k * x : Nat) : Int) := by rw [hwk]; exact (Int.natCast_mul _ _).symm
  have hB : wk * (10 - (x : Int)) = ((w k * (10 - x) : Nat) : Int) := by
    rw [hwk, Int.natCast_mul, show ((10 - x : Nat) : Int) = 10 - (x : Int) by omega]
  rw [hA] at hv1
  rw [hB] at hv2
  have h1 := hT m hm
  have h2 := hT (k - 1) (by omega)
  have h3 := hT (min (k + 1) (L - 1)) (by omega)
  show _ = ((gs L x w k m + (if m = min (k + 1) (L - 1) then w k * x else 0) + (if m = k - 1 then w k * (10 - x) else 0) : Nat) : Int)
  generalize w k * x = A at hv1 ⊢
  generalize w k * (10 - x) = C at hv2 ⊢
  by_cases q1 : m = k - 1
  · subst q1
    rw [if_pos rfl, if_pos rfl, hv2]
    by_cases q2 : k - 1 = min (k + 1) (L - 1)
    · rw [if_pos q2, if_pos q2, hv1, h3, ← q2]; omega
    · rw [if_neg q2, if_neg q2, h2]; omega
  · rw [if_neg q1, if_neg q1]
    by_cases q2 : m = min (k + 1) (L - 1)
    · rw [if_pos q2, if_pos q2, hv1, q2, h3]; omega
    · rw [if_neg q2, if_neg q2, h1]; omega
theorem up_if {M : Mem} {p k j : Nat} {x : Int} : up M p k x p j = if j = k then x else M p j := by
  by_cases e : j = k
  · subst e; rw [up_eq, if_pos rfl]
  · rw [up_ne (Or.inr e), if_neg e]
set_option maxRecDepth 100000 in
set_option maxHeartbeats 4000000 in
theorem c_gust {gg : GT} {ad : Nat → Nat} {N : Nat} {M : Mem} {Post : Option AV → Mem → Prop} {nw th L x : Nat} {w : Nat → Nat}  {xL : Int} (hxL : xL = (L : Int)) {xx : Int} (hxx : xx = (x : Int))  (hN : 110 ≤ N) (hnw : IsJ6 nw N) (hth : IsJ6 th N) (hd : nw ≠ th) (n64 : nw ≠ 64) (t64 : th ≠ 64) (e0 : M 64 0 = nw) (e1 : M 64 1 = th) (hL : 1 ≤ L) (hL6 : L ≤ 6) (hx : x ≤ 10) (hw : ∀ k, k < L → M nw k = (w k : Nat)) (K : ∀ M2 : Mem, M2 64 0 = th → M2 64 1 = nw → (∀ m, m < L → M2 th m = ((gs L x w L m : Nat) : Int)) → (∀ q j, q ≠ th → (q ≠ 64 ∨ (j ≠ 0 ∧ j ≠ 1)) → M2 q j = M q j) → Post none M2) : Sp gg yX4_gust cX4_gust 4 none rmX4_gust [vr 64, vi xL, vi xx] ad N pT M Post := by
  refine Sp.intro (ls := [some (vr 64), some (vi xL), some (vi xx), none]) (by decide +kernel) rfl (Nat.le_of_ble_eq_true rfl) fun κ hgg h hr ha => ?_
  have h : Ok κ RX4 cX4_gust 4 rmX4_gust := h
  subst hgg
  subst hxL
  subst hxx
  have fin2 : ∀ (M1 : Mem), (∀ m, m < L → M1 th m = ((gs L x w L m : Nat) : Int)) → (∀ q j, q ≠ th → M1 q j = M q j) → E κ ad N pT M1 86 [some (vr 64), some (vi (L : Int)), some (vi (x : Int)), some (vi (L : Int))] [] (0, 0) (QR κ ad N pT Post) := by
    intro M1 hg hfr
    have e0 : M1 64 0 = nw := (hfr 64 0 (by omega)).trans e0
    have e1 : M1 64 1 = th := (hfr 64 1 (by omega)).trans e1
    refine e_aload_n h dX4_gust_86 (pc := 86) rfl ?_
    refine e_getR h fl_X4_9 dX4_gust_87 (pc := 87) rfl (Nat.lt_of_lt_of_le (by decide) hN) rfl rfl (r := nw) (by first | exact e0 | (simp (disch := omega) only [up_ne]; exact e0)) ?_
    refine e_astore3 h dX4_gust_90 (pc := 90) (by decide) rfl ?_
    refine e_aload_n h dX4_gust_91 (pc := 91) rfl ?_
    refine e_aload_n h dX4_gust_92 (pc := 92) rfl ?_
    refine e_getR h fl_X4_15 dX4_gust_93 (pc := 93) rfl (Nat.lt_of_lt_of_le (by decide) hN) rfl rfl (r := th) (by first | exact e1 | (simp (disch := omega) only [up_ne]; exact e1)) ?_
    refine e_putR h fl_X4_9 dX4_gust_96 (pc := 96) rfl (Nat.lt_of_lt_of_le (by decide) hN) rfl rfl ?_
    refine e_aload_n h dX4_gust_99 (pc := 99) rfl ?_
    refine e_aload_n h dX4_gust_100 (pc := 100) rfl ?_
    refine e_putR h fl_X4_15 dX4_gust_101 (pc := 101) rfl (Nat.lt_of_lt_of_le (by decide) hN) rfl rfl ?_
    refine e_vret h hr ha dX4_gust_104 (pc := 104) ?_
    exact K _ (by simp (disch := omega) only [up_eq, up_ne]) (by simp (disch := omega) only [up_eq, up_ne]) (fun m hm => by simp (disch := omega) only [up_eq, up_ne]; exact hg m hm) (fun q j hq hq2 => by simp (disch := omega) only [up_eq, up_ne]; exact hfr q j hq)
  have loop2 : ∀ (n k : Nat) (M1 : Mem), k ≤ L → L < k + n → M1 64 0 = nw → M1 64 1 = th → (∀ m, m < L → M1 th m = ((gs L x w k m : Nat) : Int)) → (∀ q j, q ≠ th → M1 q j = M q j) → E κ ad N pT M1 22 [some (vr 64), some (vi (L : Int)), some (vi (x : Int)), some (vi (k : Int))] [] (0, 0) (QR κ ad N pT Post) := by
    intro n
    induction n with
    | zero => intro k M1 h1 h2; exact absurd h2 (by omega)
    | succ n ih =>
      intro k M1 hk hn e0 e1 hg hfr
      refine e_iload_n h dX4_gust_22 (pc := 22) rfl ?_
      refine e_iload_n h dX4_gust_23 (pc := 23) rfl ?_
      refine e_icmp_ge h (tgt := 86) dX4_gust_24 (pc := 24) (by decide) (by omega) (by omega) (fun hb24 => ?_) (fun hb24 => ?_)
      · have hkL : k = L := by omega
        subst hkL
        exact fin2 M1 hg hfr
      · refine e_aload_n h dX4_gust_27 (pc := 27) rfl ?_
        refine e_getR h fl_X4_15 dX4_gust_28 (pc := 28) rfl (Nat.lt_of_lt_of_le (by decide) hN) rfl rfl (r := th) (by first | exact e1 | (simp (disch := omega) only [up_ne]; exact e1)) ?_
        refine e_iload_n h dX4_gust_31 (pc := 31) rfl ?_
        refine e_iconst h dX4_gust_32 (pc := 32)  ?_
        refine e_iadd h dX4_gust_33 (pc := 33)  ?_
        refine e_iload_n h dX4_gust_34 (pc := 34) rfl ?_
        refine e_iconst h dX4_gust_35 (pc := 35)  ?_
        refine e_isub h dX4_gust_36 (pc := 36)  ?_
        refine e_min lp_X4_35 dX4_gust_37 (pc := 37) (Nat.le_of_ble_eq_true rfl) (by decide) h (by omega) (by omega) ?_
        refine e_dup2 h dX4_gust_40 (pc := 40) rfl rfl ?_
        refine e_lald h dX4_gust_41 (pc := 41) hth.c0 hth.p0 (j := min (k + 1) (L - 1)) (by omega) (by rw [hth.l0]; omega) ?_
        refine e_aload_n h dX4_gust_42 (pc := 42) rfl ?_
        refine e_getR h fl_X4_9 dX4_gust_43 (pc := 43) rfl (Nat.lt_of_lt_of_le (by decide) hN) rfl rfl (r := nw) (by first | exact e0 | (simp (disch := omega) only [up_ne]; exact e0)) ?_
        refine e_iload_n h dX4_gust_46 (pc := 46) rfl ?_
        refine e_lald h dX4_gust_47 (pc := 47) hnw.c0 hnw.p0 rfl (by rw [hnw.l0]; omega) ?_
        refine e_iload_n h dX4_gust_48 (pc := 48) rfl ?_
        refine e_i2l h dX4_gust_49 (pc := 49) (by omega) ?_
        refine e_lmul h dX4_gust_50 (pc := 50)  ?_
        refine e_ladd h dX4_gust_51 (pc := 51)  ?_
        refine e_last h dX4_gust_52 (pc := 52) hth.c0 hth.p0 (j := min (k + 1) (L - 1)) (by omega) (by rw [hth.l0]; omega) ?_
        refine e_aload_n h dX4_gust_53 (pc := 53) rfl ?_
        refine e_getR h fl_X4_15 dX4_gust_54 (pc := 54) rfl (Nat.lt_of_lt_of_le (by decide) hN) rfl rfl (r := th) (by first | exact e1 | (simp (disch := omega) only [up_ne]; exact e1)) ?_
        refine e_iload_n h dX4_gust_57 (pc := 57) rfl ?_
        refine e_iconst h dX4_gust_58 (pc := 58)  ?_
        refine e_isub h dX4_gust_59 (pc := 59)  ?_
        refine e_iconst h dX4_gust_60 (pc := 60)  ?_
        refine e_max lp_X4_41 dX4_gust_61 (pc := 61) (Nat.le_of_ble_eq_true rfl) (by decide) h (by omega) (by decide) ?_
        refine e_dup2 h dX4_gust_64 (pc := 64) rfl rfl ?_
        refine e_lald h dX4_gust_65 (pc := 65) hth.c0 hth.p0 (j := (k - 1)) (by omega) (by rw [hth.l0]; omega) ?_
        try simp (disch := omega) only [up_ne]
        refine e_aload_n h dX4_gust_66 (pc := 66) rfl ?_
        refine e_getR h fl_X4_9 dX4_gust_67 (pc := 67) rfl (Nat.lt_of_lt_of_le (by decide) hN) rfl rfl (r := nw) (by first | exact e0 | (simp (disch := omega) only [up_ne]; exact e0)) ?_
        refine e_iload_n h dX4_gust_70 (pc := 70) rfl ?_
        refine e_lald h dX4_gust_71 (pc := 71) hnw.c0 hnw.p0 rfl (by rw [hnw.l0]; omega) ?_
        try simp (disch := omega) only [up_ne]
        refine e_bipush h dX4_gust_72 (pc := 72) (by decide +kernel) ?_
        refine e_iload_n h dX4_gust_74 (pc := 74) rfl ?_
        refine e_isub h dX4_gust_75 (pc := 75)  ?_
        refine e_i2l h dX4_gust_76 (pc := 76) (by omega) ?_
        refine e_lmul h dX4_gust_77 (pc := 77)  ?_
        refine e_ladd h dX4_gust_78 (pc := 78)  ?_
        refine e_last h dX4_gust_79 (pc := 79) hth.c0 hth.p0 (j := (k - 1)) (by omega) (by rw [hth.l0]; omega) ?_
        refine e_iinc3 h dX4_gust_80 (pc := 80) (by decide) rfl ?_
        refine e_goto h dX4_gust_83 (pc := 83) (tgt := 22) (by decide) ?_
        rw [show (k : Int) + 1 = ((k + 1 : Nat) : Int) by omega]
        refine ih (k + 1) _ (by omega) (by omega) (by simp (disch := omega) only [up_ne]; exact e0) (by simp (disch := omega) only [up_ne]; exact e1) (fun m hm => ?_) (fun q j hq => by rw [up_ne (Or.inl hq), up_ne (Or.inl hq)]; exact hfr q j hq)
        simp only [up_if]
        exact gs_step (w := w) (T := M1 th) (wk := M1 nw k) (v1 := M1 th (min (k + 1) (L - 1)) + M1 nw k * x) (by omega) hx (by rw [hfr nw k hd]; exact hw k (by omega)) (fun m hm => hg m hm) hm rfl rfl
  have fin : ∀ (M1 : Mem), (∀ j, j < L → M1 th j = 0) → (∀ q j, q ≠ th → M1 q j = M q j) → E κ ad N pT M1 20 [some (vr 64), some (vi (L : Int)), some (vi (x : Int)), some (vi (L : Int))] [] (0, 0) (QR κ ad N pT Post) := by
    intro M1 hz hfr
    refine e_iconst h dX4_gust_20 (pc := 20)  ?_
    refine e_istore3 h dX4_gust_21 (pc := 21) (by decide) rfl ?_
    exact loop2 (L + 1) 0 M1 (by omega) (by omega) ((hfr 64 0 (by omega)).trans e0) ((hfr 64 1 (by omega)).trans e1) (fun m hm => hz m hm) hfr
  have loop : ∀ (n k : Nat) (M1 : Mem), k ≤ L → L < k + n → M1 64 0 = nw → M1 64 1 = th → (∀ j, j < k → M1 th j = 0) → (∀ q j, q ≠ th → M1 q j = M q j) → E κ ad N pT M1 2 [some (vr 64), some (vi (L : Int)), some (vi (x : Int)), some (vi (k : Int))] [] (0, 0) (QR κ ad N pT Post) := by
    intro n
    induction n with
    | zero => intro k M1 h1 h2; exact absurd h2 (by omega)
    | succ n ih =>
      intro k M1 hk hn e0 e1 hz hfr
      refine e_iload_n h dX4_gust_2 (pc := 2) rfl ?_
      refine e_iload_n h dX4_gust_3 (pc := 3) rfl ?_
      refine e_icmp_ge h (tgt := 20) dX4_gust_4 (pc := 4) (by decide) (by omega) (by omega) (fun hb4 => ?_) (fun hb4 => ?_)
      · have hkL : k = L := by omega
        subst hkL
        exact fin M1 hz hfr
      · refine e_aload_n h dX4_gust_7 (pc := 7) rfl ?_
        refine e_getR h fl_X4_15 dX4_gust_8 (pc := 8) rfl (Nat.lt_of_lt_of_le (by decide) hN) rfl rfl (r := th) (by first | exact e1 | (simp (disch := omega) only [up_ne]; exact e1)) ?_
        refine e_iload_n h dX4_gust_11 (pc := 11) rfl ?_
        refine e_lconst h dX4_gust_12 (pc := 12) (x := 0) rfl ?_
        refine e_last h dX4_gust_13 (pc := 13) hth.c0 hth.p0 rfl (by rw [hth.l0]; omega) ?_
        refine e_iinc3 h dX4_gust_14 (pc := 14) (by decide) rfl ?_
        refine e_goto h dX4_gust_17 (pc := 17) (tgt := 2) (by decide) ?_
        rw [show (k : Int) + 1 = ((k + 1 : Nat) : Int) by omega]
        refine ih (k + 1) _ (by omega) (by omega) (by simp (disch := omega) only [up_ne]; exact e0) (by simp (disch := omega) only [up_ne]; exact e1) (fun j hj => ?_) (fun q j hq => by rw [up_ne (Or.inl hq)]; exact hfr q j hq)
        by_cases e : j = k
        · subst e; exact up_eq _ _ _ _
        · rw [up_ne (Or.inr e)]; exact hz j (by omega)
  refine e_iconst h dX4_gust_0 (pc := 0)  ?_
  refine e_istore3 h dX4_gust_1 (pc := 1) (by decide) rfl ?_
  exact loop (L + 1) 0 M (by omega) (by omega) e0 e1 (fun j hj => absurd hj (by omega)) (fun _ _ _ => rfl)
def OddsP (M : Mem) : Prop := (M 64 0 = 65 ∧ M 64 1 = 66) ∨ (M 64 0 = 66 ∧ M 64 1 = 65)
theorem isJ_65 {N : Nat} (hN : 110 ≤ N) : IsJ6 65 N := ⟨by omega, rfl, rfl⟩
theorem isJ_66 {N : Nat} (hN : 110 ≤ N) : IsJ6 66 N := ⟨by omega, rfl, rfl⟩
theorem OddsP.get {M : Mem} {N : Nat} (hN : 110 ≤ N) (h : OddsP M) : ∃ nw th : Nat, IsJ6 nw N ∧ IsJ6 th N ∧ nw ≠ th ∧ 65 ≤ nw ∧ nw ≤ 66 ∧ 65 ≤ th ∧ th ≤ 66 ∧ M 64 0 = (nw : Int) ∧ M 64 1 = (th : Int) := by
  rcases h with h | h
  · exact ⟨65, 66, isJ_65 hN, isJ_66 hN, by decide, by decide, by decide, by decide, by decide, h.1, h.2⟩
  · exact ⟨66, 65, isJ_66 hN, isJ_65 hN, by decide, by decide, by decide, by decide, by decide, h.1, h.2⟩
theorem OddsP.mk {M : Mem} {nw th : Nat} (hd : nw ≠ th) (h1 : 65 ≤ nw) (h2 : nw ≤ 66) (h3 : 65 ≤ th) (h4 : th ≤ 66) (e0 : M 64 0 = (nw : Int)) (e1 : M 64 1 = (th : Int)) : OddsP M := by
  unfold OddsP
  omega
set_option maxRecDepth 100000 in
set_option maxHeartbeats 4000000 in
theorem c_reckon {gg : GT} {ad : Nat → Nat} {N : Nat} {M : Mem} {Post : Option AV → Mem → Prop} {L l t x n : Nat}  {xL : Int} (hxL : xL = (L : Int)) {xl : Int} (hxl : xl = (l : Int)) {xt : Int} (hxt : xt = (t : Int)) {xx : Int} (hxx : xx = (x : Int)) {xn : Int} (hxn : xn = (n : Int))  (hN : 110 ≤ N) (ho : OddsP M) (hL : 1 ≤ L) (hL6 : L ≤ 6) (hl : l < L) (ht : t < L) (hx : x ≤ 10) (hn9 : n ≤ 9) (K : ∀ M2 : Mem, OddsP M2 → M2 64 2 = ((red n (gw L l x n t, pw n)).1 : Nat) → M2 64 3 = ((red n (gw L l x n t, pw n)).2 : Nat) → (∀ q j, (q ≠ 64 ∧ q ≠ 65 ∧ q ≠ 66) → M2 q j = M q j) → Post none M2) : Sp gg yX4_reckon cX4_reckon 7 none rmX4_reckon [vr 64, vi xL, vi xl, vi xt, vi xx, vi xn] ad N pT M Post := by
  refine Sp.intro (ls := [some (vr 64), some (vi xL), some (vi xl), some (vi xt), some (vi xx), some (vi xn), none]) (by decide +kernel) rfl (Nat.le_of_ble_eq_true rfl) fun κ hgg h hr ha => ?_
  have h : Ok κ RX4 cX4_reckon 7 rmX4_reckon := h
  subst hgg
  subst hxL
  subst hxl
  subst hxt
  subst hxx
  subst hxn
  obtain ⟨nw, th, hnw, hth, hd, hnw1, hnw2, hth1, hth2, e0, e1⟩ := ho.get hN
  have loop2 : ∀ (n1 k nw th : Nat) (M1 : Mem), k ≤ n → n < k + n1 → IsJ6 nw N → IsJ6 th N → nw ≠ th → 65 ≤ nw → nw ≤ 66 → 65 ≤ th → th ≤ 66 → M1 64 0 = nw → M1 64 1 = th → M1 64 3 = (pw k : Nat) → (∀ m, m < L → M1 nw m = ((gw L l x k m : Nat) : Int)) → (∀ q j, (q ≠ 64 ∧ q ≠ 65 ∧ q ≠ 66) → M1 q j = M q j) → E κ ad N pT M1 41 [some (vr 64), some (vi (L : Int)), some (vi (l : Int)), some (vi (t : Int)), some (vi (x : Int)), some (vi (n : Int)), some (vi (((k + 1 : Nat) : Int)))] [] (0, 0) (QR κ ad N pT Post) := by
    intro n1
    induction n1 with
    | zero => intro k nw th M1 h1 h2; exact absurd h2 (by omega)
    | succ n1 ih =>
      intro k nw th M1 hk hn1 hnw hth hd hnw1 hnw2 hth1 hth2 e0 e1 b3 hg hfr
      refine e_iload h dX4_reckon_41 (pc := 41) rfl ?_
      refine e_iload h dX4_reckon_43 (pc := 43) rfl ?_
      refine e_icmp_gt h (tgt := 73) dX4_reckon_45 (pc := 45) (by decide) (by omega) (by omega) (fun hb45 => ?_) (fun hb45 => ?_)
      · refine e_aload_n h dX4_reckon_73 (pc := 73) rfl ?_
        refine e_aload_n h dX4_reckon_74 (pc := 74) rfl ?_
        refine e_getR h fl_X4_9 dX4_reckon_75 (pc := 75) rfl (Nat.lt_of_lt_of_le (by decide) hN) rfl rfl (r := nw) (by first | exact e0 | (simp (disch := omega) only [up_ne]; exact e0)) ?_
        refine e_iload_n h dX4_reckon_78 (pc := 78) rfl ?_
        refine e_lald h dX4_reckon_79 (pc := 79) hnw.c0 hnw.p0 rfl (by rw [hnw.l0]; omega) ?_
        refine e_putJ h fl_X4_28 dX4_reckon_80 (pc := 80) rfl (Nat.lt_of_lt_of_le (by decide) hN) rfl ?_
        refine e_aload_n h dX4_reckon_83 (pc := 83) rfl ?_
        refine e_iload h dX4_reckon_84 (pc := 84) rfl ?_
        refine e_callV1 lk_X4_31 mv_X4_reduce dX4_reckon_86 (pc := 86) rfl (by decide) (Nat.lt_of_lt_of_le (by decide) hN) (Nat.le_of_ble_eq_true rfl) (rmY := rmX4_reduce) (by decide) h ?_
        have hkn : k = n := by omega
        subst hkn
        have hpb := p60_le k hn9
        have hgb := gw_le (l := l) hx hL6 k t
        refine c_reduce (a := gw L l x k t) (b := pw k) (n := k) rfl hN (by simp (disch := omega) only [up_eq, up_ne]; exact hg t ht) (by simp (disch := omega) only [up_eq, up_ne]; exact b3) (by omega) (by omega) hn9 (fun M3 g2 g3 gf => ?_)
        refine e_vret h hr ha dX4_reckon_89 (pc := 89) ?_
        exact K M3 (OddsP.mk hd hnw1 hnw2 hth1 hth2 (by rw [gf 64 0 (by omega)]; simp (disch := omega) only [up_eq, up_ne]; exact e0) (by rw [gf 64 1 (by omega)]; simp (disch := omega) only [up_eq, up_ne]; exact e1)) g2 g3 (fun q j hq => by rw [gf q j (by omega)]; simp (disch := omega) only [up_eq, up_ne]; exact hfr q j hq)
      · refine e_aload_n h dX4_reckon_48 (pc := 48) rfl ?_
        refine e_iload_n h dX4_reckon_49 (pc := 49) rfl ?_
        refine e_iload h dX4_reckon_50 (pc := 50) rfl ?_
        refine e_callV2 lk_X4_22 mv_X4_gust dX4_reckon_52 (pc := 52) rfl (by decide) (Nat.lt_of_lt_of_le (by decide) hN) (Nat.le_of_ble_eq_true rfl) (rmY := rmX4_gust) (by decide) h ?_
        refine c_gust (w := gw L l x k) rfl rfl hN hnw hth hd (by omega) (by omega) e0 e1 hL hL6 hx hg (fun M2 f0 f1 fg ff => ?_)
        have f3 : M2 64 3 = M1 64 3 := ff 64 3 (by omega) (by omega)
        rw [b3] at f3
        refine e_aload_n h dX4_reckon_55 (pc := 55) rfl ?_
        refine e_dup h dX4_reckon_56 (pc := 56) rfl ?_
        refine e_getJ h fl_X4_18 dX4_reckon_57 (pc := 57) rfl (Nat.lt_of_lt_of_le (by decide) hN) rfl ?_
        refine e_ldc2 h dX4_reckon_60 (pc := 60) (x := 10) kl_X4_26 rfl ?_
        refine e_lmul h dX4_reckon_63 (pc := 63)  ?_
        refine e_putJ h fl_X4_18 dX4_reckon_64 (pc := 64) rfl (Nat.lt_of_lt_of_le (by decide) hN) rfl ?_
        refine e_iinc6 h dX4_reckon_67 (pc := 67) (by decide) rfl ?_
        refine e_goto h dX4_reckon_70 (pc := 70) (tgt := 41) (by decide) ?_
        rw [show ((k + 1 : Nat) : Int) + 1 = ((k + 1 + 1 : Nat) : Int) by omega]
        refine ih (k + 1) th nw _ (by omega) (by omega) hth hnw (fun z => hd z.symm) hth1 hth2 hnw1 hnw2 (by simp (disch := omega) only [up_eq, up_ne]; exact f0) (by simp (disch := omega) only [up_eq, up_ne]; exact f1) (by simp (disch := omega) only [up_eq, up_ne]; rw [f3]; show _ = ((pw k * 10 : Nat) : Int); omega) (fun m hm => by simp (disch := omega) only [up_eq, up_ne]; exact fg m hm) (fun q j hq => by simp (disch := omega) only [up_eq, up_ne]; rw [ff q j (by omega) (by omega)]; exact hfr q j hq)
  have fin : ∀ (M1 : Mem), M1 64 0 = nw → M1 64 1 = th → (∀ m, m < L → M1 nw m = ((gw L l x 0 m : Nat) : Int)) → (∀ q j, (q ≠ 64 ∧ q ≠ 65 ∧ q ≠ 66) → M1 q j = M q j) → E κ ad N pT M1 33 [some (vr 64), some (vi (L : Int)), some (vi (l : Int)), some (vi (t : Int)), some (vi (x : Int)), some (vi (n : Int)), some (vi ((L : Int)))] [] (0, 0) (QR κ ad N pT Post) := by
    intro M1 e0 e1 hz hfr
    refine e_aload_n h dX4_reckon_33 (pc := 33) rfl ?_
    refine e_lconst h dX4_reckon_34 (pc := 34) (x := 1) rfl ?_
    refine e_putJ h fl_X4_18 dX4_reckon_35 (pc := 35) rfl (Nat.lt_of_lt_of_le (by decide) hN) rfl ?_
    refine e_iconst h dX4_reckon_38 (pc := 38)  ?_
    refine e_istore6 h dX4_reckon_39 (pc := 39) (by decide) rfl ?_
    exact loop2 (n + 1) 0 nw th _ (by omega) (by omega) hnw hth hd hnw1 hnw2 hth1 hth2 (by simp (disch := omega) only [up_eq, up_ne]; exact e0) (by simp (disch := omega) only [up_eq, up_ne]; exact e1) (by simp (disch := omega) only [up_eq, up_ne]; rfl) (fun m hm => by simp (disch := omega) only [up_eq, up_ne]; exact hz m hm) (fun q j hq => by simp (disch := omega) only [up_eq, up_ne]; exact hfr q j hq)
  have loop : ∀ (n1 k : Nat) (M1 : Mem), k ≤ L → L < k + n1 → M1 64 0 = nw → M1 64 1 = th → (∀ m, m < k → M1 nw m = ((gw L l x 0 m : Nat) : Int)) → (∀ q j, (q ≠ 64 ∧ q ≠ 65 ∧ q ≠ 66) → M1 q j = M q j) → E κ ad N pT M1 3 [some (vr 64), some (vi (L : Int)), some (vi (l : Int)), some (vi (t : Int)), some (vi (x : Int)), some (vi (n : Int)), some (vi ((k : Int)))] [] (0, 0) (QR κ ad N pT Post) := by
    intro n1
    induction n1 with
    | zero => intro k M1 h1 h2; exact absurd h2 (by omega)
    | succ n1 ih =>
      intro k M1 hk hn e0 e1 hz hfr
      refine e_iload h dX4_reckon_3 (pc := 3) rfl ?_
      refine e_iload_n h dX4_reckon_5 (pc := 5) rfl ?_
      refine e_icmp_ge h (tgt := 33) dX4_reckon_6 (pc := 6) (by decide) (by omega) (by omega) (fun hb6 => ?_) (fun hb6 => ?_)
      · have hkL : k = L := by omega
        subst hkL
        exact fin M1 e0 e1 hz hfr
      · refine e_aload_n h dX4_reckon_9 (pc := 9) rfl ?_
        refine e_getR h fl_X4_9 dX4_reckon_10 (pc := 10) rfl (Nat.lt_of_lt_of_le (by decide) hN) rfl rfl (r := nw) (by first | exact e0 | (simp (disch := omega) only [up_ne]; exact e0)) ?_
        refine e_iload h dX4_reckon_13 (pc := 13) rfl ?_
        refine e_iload h dX4_reckon_15 (pc := 15) rfl ?_
        refine e_iload_n h dX4_reckon_17 (pc := 17) rfl ?_
        refine e_icmp_ne h (tgt := 25) dX4_reckon_18 (pc := 18) (by decide) (by omega) (by omega) (fun hb18 => ?_) (fun hb18 => ?_)
        · have hkl : k ≠ l := by omega
          refine e_lconst h dX4_reckon_25 (pc := 25) (x := 0) rfl ?_
          refine e_last h dX4_reckon_26 (pc := 26) hnw.c0 hnw.p0 rfl (by rw [hnw.l0]; omega) ?_
          refine e_iinc6 h dX4_reckon_27 (pc := 27) (by decide) rfl ?_
          refine e_goto h dX4_reckon_30 (pc := 30) (tgt := 3) (by decide) ?_
          rw [show (k : Int) + 1 = ((k + 1 : Nat) : Int) by omega]
          refine ih (k + 1) _ (by omega) (by omega) (by simp (disch := omega) only [up_ne]; exact e0) (by simp (disch := omega) only [up_ne]; exact e1) (fun m hm => ?_) (fun q j hq => by rw [up_ne (by omega)]; exact hfr q j hq)
          rw [up_if]
          by_cases e : m = k
          · rw [if_pos e]; show _ = ((if m = l then 1 else 0 : Nat) : Int); rw [if_neg (by omega)]; rfl
          · rw [if_neg e]; exact hz m (by omega)
        · have hkl : k = l := by omega
          refine e_lconst h dX4_reckon_21 (pc := 21) (x := 1) rfl ?_
          refine e_goto h dX4_reckon_22 (pc := 22) (tgt := 26) (by decide) ?_
          refine e_last h dX4_reckon_26 (pc := 26) hnw.c0 hnw.p0 rfl (by rw [hnw.l0]; omega) ?_
          refine e_iinc6 h dX4_reckon_27 (pc := 27) (by decide) rfl ?_
          refine e_goto h dX4_reckon_30 (pc := 30) (tgt := 3) (by decide) ?_
          rw [show (k : Int) + 1 = ((k + 1 : Nat) : Int) by omega]
          refine ih (k + 1) _ (by omega) (by omega) (by simp (disch := omega) only [up_ne]; exact e0) (by simp (disch := omega) only [up_ne]; exact e1) (fun m hm => ?_) (fun q j hq => by rw [up_ne (by omega)]; exact hfr q j hq)
          rw [up_if]
          by_cases e : m = k
          · rw [if_pos e]; show _ = ((if m = l then 1 else 0 : Nat) : Int); rw [if_pos (by omega)]; rfl
          · rw [if_neg e]; exact hz m (by omega)
  refine e_iconst h dX4_reckon_0 (pc := 0)  ?_
  refine e_istore6 h dX4_reckon_1 (pc := 1) (by decide) rfl ?_
  exact loop (L + 1) 0 M (by omega) (by omega) e0 e1 (fun j hj => absurd hj (by omega)) (fun _ _ _ => rfl)
