/-- fewer locals known -/
def wk : List (Option AV) → List (Option AV) → Prop
  | [], [] => True
  | a :: t, b :: u => (a = none ∨ a = b) ∧ wk t u
  | _, _ => False
theorem wk_at : ∀ (l l2 : List (Option AV)), wk l l2 → ∀ (j : Nat) (v : AV), l[j]? = some (some v) → l2[j]? = some (some v)
  | [], [], _, j, v, h => by simp at h
  | [], _ :: _, h, _, _, _ => absurd h (by simp [wk])
  | _ :: _, [], h, _, _, _ => absurd h (by simp [wk])
  | a :: t, b :: u, hw, 0, v, h => by
    rw [List.getElem?_cons_zero] at h ⊢
    rcases hw.1 with q | q
    · rw [q] at h; cases h
    · rw [← q]; exact h
  | a :: t, b :: u, hw, j + 1, v, h => by
    rw [List.getElem?_cons_succ] at h ⊢
    exact wk_at t u hw.2 j v h
theorem e_fgt {κ : KT} {ad : Nat → Nat} {N : Nat} {ph : Phs} {M : Mem} {pc : Nat} {ls ls2 : List (Option AV)} {st : List AV} {cs : Nat × Nat} {Q : State → Prop} (hw : wk ls2 ls) (k : E κ ad N ph M pc ls2 st cs Q) : E κ ad N ph M pc ls st cs Q := by
  obtain ⟨p, l, e, R, s, m, args, below, meth, c, D, cy, A⟩ := κ
  intro h1 h2 H locs Ls hP hS hl
  refine k h1 h2 H locs Ls hP hS ⟨hl.1, hl.2.1, fun q hq => ?_⟩
  obtain ⟨i, v, g1, g2⟩ := lc_inv ls2 0 hq
  have := lc_of (ad := ad) ls i 0 (wk_at _ _ hw i v g1)
  rw [g2]
  exact hl.2.2 _ this
def IsF (f N : Nat) : Prop := f + 26 ≤ N ∧ pcl f = 2 ∧ pcl (f + 1) = 103 ∧ plen (f + 1) = 6 ∧ ∀ i, i < 6 → IsC (f + 2 + 4 * i) N
theorem IsF.p0 {f N : Nat} (h : IsF f N) : f < N := by have := h.1; omega
theorem IsF.p1 {f N : Nat} (h : IsF f N) : (f + 1) < N := by have := h.1; omega
theorem IsF.c0 {f N : Nat} (h : IsF f N) : pcl f = 2 := h.2.1
theorem IsF.c1 {f N : Nat} (h : IsF f N) : pcl (f + 1) = 103 := h.2.2.1
theorem IsF.l1 {f N : Nat} (h : IsF f N) : plen (f + 1) = 6 := h.2.2.2.1
theorem IsF.co {f N i : Nat} (h : IsF f N) (hi : i < 6) : IsC (f + 2 + 4 * i) N := h.2.2.2.2 i hi
theorem isF_a {N : Nat} (hN : 110 ≤ N) : IsF 5 N := ⟨by omega, by decide, by decide, by decide, fun i hi => isC_fleet hN hi⟩
theorem isF_y {N : Nat} (hN : 110 ≤ N) : IsF 31 N := ⟨by omega, by decide, by decide, by decide, fun i hi => isC_year hN hi⟩
/-! how often courses meet -/
abbrev TJ : Type := Nat → Nat × Nat × Nat
def meetB (c c2 : Nat × Nat × Nat) : Bool := c.1 != 9 && (c.1 == c2.1 && c.2.1 == c2.2.1)
def cnt (f : Nat → Bool) : Nat → Nat
  | 0 => 0
  | n + 1 => cnt f n + if f n = true then 1 else 0
theorem cnt_le (f : Nat → Bool) : ∀ n, cnt f n ≤ n
  | 0 => Nat.le_refl 0
  | n + 1 => by
    have := cnt_le f n
    unfold cnt
    split <;> omega
theorem cnt_cong {f g : Nat → Bool} : ∀ n, (∀ k, k < n → f k = g k) → cnt f n = cnt g n
  | 0, _ => rfl
  | n + 1, h => by
    unfold cnt
    rw [cnt_cong n (fun k hk => h k (by omega)), h n (by omega)]
/-- the days from 1 to n behind which A meets B -/
def dm (A B : TJ) (n : Nat) : Nat := cnt (fun t => meetB (A (t + 1)) (B (t + 1))) n
def mw (A : TJ) (B : Nat → TJ) (i n : Nat) : Nat → Nat
  | 0 => 0
  | j + 1 => mw A B i n j + if j = i then 0 else dm A (B j) n
theorem mw_le {A : TJ} {B : Nat → TJ} {i n : Nat} : ∀ j, mw A B i n j ≤ n * j
  | 0 => by simp [mw]
  | j + 1 => by
    have := mw_le (A := A) (B := B) (i := i) (n := n) j
    have h2 := cnt_le (fun t => meetB (A (t + 1)) (B j (t + 1))) n
    unfold mw dm
    rw [Nat.mul_succ]
    split <;> omega
def am (B : Nat → TJ) (n T : Nat) : Nat → Nat
  | 0 => 0
  | i + 1 => am B n T i + mw (B i) B i n T
theorem am_le {B : Nat → TJ} {n T : Nat} : ∀ i, am B n T i ≤ n * T * i
  | 0 => by simp [am]
  | i + 1 => by
    have := am_le (B := B) (n := n) (T := T) i
    have h2 := mw_le (A := B i) (B := B) (i := i) (n := n) T
    unfold am
    rw [Nat.mul_succ]
    omega
/-- the course at the place o goes as A -/
def TR (A : TJ) (M : Mem) (o : Nat) : Prop := ∀ t, t ≤ 60 → (M (o + 1) t = (A t).1 ∧ (A t).1 ≤ 9) ∧ (M (o + 2) t = (A t).2.1 ∧ (A t).2.1 ≤ 23) ∧ (M (o + 3) t = (A t).2.2 ∧ (A t).2.2 ≤ 60)
theorem TR.of {S O : SD} {i l0 x0 : Nat} {M : Mem} {o : Nat} (h : CR S O i l0 x0 M o) (hL : sL S ≤ 6) (hl0 : l0 < sL S) (hx : x0 ≤ 23) (hg : oG O i ≤ 60) : TR (crs S O i l0 x0) M o := fun t ht => by
  have cw := crs_wf (S := S) (O := O) (i := i) hl0 hx hg t
  have := h.2 t ht
  refine ⟨⟨this.1, by omega⟩, ⟨this.2.1, cw.2.1⟩, this.2.2, cw.2.2⟩
theorem TR.to {A : TJ} {M M' : Mem} {o : Nat} (h : TR A M o) (hM : ∀ p, o ≤ p → p < o + 4 → M' p = M p) : TR A M' o := by
  unfold TR
  rw [hM (o + 1) (by omega) (by omega), hM (o + 2) (by omega) (by omega), hM (o + 3) (by omega) (by omega)]
  exact h
theorem meetB_t {c c2 : Nat × Nat × Nat} (h1 : c.1 ≠ 9) (h2 : c.1 = c2.1) (h3 : c.2.1 = c2.2.1) : meetB c c2 = true := by
  unfold meetB
  rw [← h2, ← h3]
  simp [h1]
theorem meetB_f {c c2 : Nat × Nat × Nat} (h : ¬ (c.1 ≠ 9 ∧ c.1 = c2.1 ∧ c.2.1 = c2.2.1)) : meetB c c2 = false := by
  cases e : meetB c c2 with
  | false => rfl
  | true =>
    unfold meetB at e
    simp at e
    exact absurd e h
set_option maxRecDepth 100000 in
set_option maxHeartbeats 4000000 in
theorem c_followAsTold {gg : GT} {ad : Nat → Nat} {N : Nat} {M : Mem} {Post : Option AV → Mem → Prop} {S O : SD} {f so : Nat}   (hf : IsF f N) (hs : IsS so N) (hSO : SO S O M so) (hdis : so + 14 ≤ f ∨ f + 26 ≤ so) (hW : WS S) (hO : WO O (sT S)) (K : ∀ M2 : Mem, M2 f 1 = sT S → (∀ i, i < sT S → CR S O i (sH S i) (sF S i) M2 (f + 2 + 4 * i)) → (∀ q j, (q < f ∨ f + 26 ≤ q) → M2 q j = M q j) → Post none M2) : Sp gg yX2_followAsTold cX2_followAsTold 3 none rmX2_followAsTold [vr f, vr so] ad N pT M Post := by
  refine Sp.intro (ls := [some (vr f), some (vr so), none]) (by decide +kernel) rfl (Nat.le_of_ble_eq_true rfl) fun κ hgg h hr ha => ?_
  have h : Ok κ RX2 cX2_followAsTold 3 rmX2_followAsTold := h
  subst hgg
  have hW0 := hW
  obtain ⟨⟨w1a, w1b⟩, ⟨w2a, w2b⟩, w3, w4, w5, w6⟩ := hW0
  have loop : ∀ (n k : Nat) (M1 : Mem), k ≤ sT S → sT S < k + n → M1 f 1 = sT S → (∀ i, i < k → CR S O i (sH S i) (sF S i) M1 (f + 2 + 4 * i)) → (∀ q j, (q < f ∨ f + 26 ≤ q) → M1 q j = M q j) → E κ ad N pT M1 10 [some (vr f), some (vr so), some (vi (k : Int))] [] (0, 0) (QR κ ad N pT Post) := by
    intro n
    induction n with
    | zero => intro k M1 h1 h2; exact absurd h2 (by omega)
    | succ n ih =>
      intro k M1 hk hn hz hC hfr
      have hS1 : SO S O M1 so := hSO.to (fun p a b => funext fun j => hfr p j (by omega))
      have hS2 := hS1
      obtain ⟨⟨r1, r2, r3, r4, r5, r6⟩, -⟩ := hS2
      refine e_iload_n h dX2_followAsTold_10 (pc := 10) rfl ?_
      refine e_aload_n h dX2_followAsTold_11 (pc := 11) rfl ?_
      refine e_getI h fl_X2_24 dX2_followAsTold_12 (pc := 12) hf.c0 hf.p0 (by decide) ?_
      refine e_icmp_ge h (tgt := 47) dX2_followAsTold_15 (pc := 15) (by decide) (by omega) (by omega) (fun hb15 => ?_) (fun hb15 => ?_)
      · refine e_vret h hr ha dX2_followAsTold_47 (pc := 47) ?_
        have hk2 : k = sT S := by omega
        subst hk2
        exact K M1 hz hC hfr
      · obtain ⟨o, hoe⟩ : ∃ o, o = f + 2 + 4 * k := ⟨_, rfl⟩
        have ho : IsC o N := hoe ▸ hf.co (by omega)
        have g5 := r5 k (by omega)
        have gw := w5 k (by omega)
        refine e_aload_n h dX2_followAsTold_18 (pc := 18) rfl ?_
        refine e_getC h fl_X2_11 dX2_followAsTold_19 (pc := 19) hf.c0 hf.p0 rfl rfl (r := (f + 1)) (pcr_d (by rw [hf.c0]; decide) 0) ?_
        refine e_iload_n h dX2_followAsTold_22 (pc := 22) rfl ?_
        refine e_aald3 h dX2_followAsTold_23 (pc := 23) hf.c1 hf.p1 rfl (by rw [hf.l1]; omega) rfl (r := o) (by rw [pcr_103 hf.c1, hoe]) ?_
        refine e_aload_n h dX2_followAsTold_24 (pc := 24) rfl ?_
        refine e_iload_n h dX2_followAsTold_25 (pc := 25) rfl ?_
        refine e_aload_n h dX2_followAsTold_26 (pc := 26) rfl ?_
        refine e_getC h fl_X2_27 dX2_followAsTold_27 (pc := 27) hs.c0 hs.p0 rfl rfl (r := (so + 3)) (pcr_d (by rw [hs.c0]; decide) 2) ?_
        refine e_iload_n h dX2_followAsTold_30 (pc := 30) rfl ?_
        refine e_iald h dX2_followAsTold_31 (pc := 31) hs.c3 hs.p3 rfl (by rw [hs.l3]; omega) ?_
        refine e_aload_n h dX2_followAsTold_32 (pc := 32) rfl ?_
        refine e_getC h fl_X2_31 dX2_followAsTold_33 (pc := 33) hs.c0 hs.p0 rfl rfl (r := (so + 4)) (pcr_d (by rw [hs.c0]; decide) 3) ?_
        refine e_iload_n h dX2_followAsTold_36 (pc := 36) rfl ?_
        refine e_iald h dX2_followAsTold_37 (pc := 37) hs.c4 hs.p4 rfl (by rw [hs.l4]; omega) ?_
        refine e_callV4 lk_X2_34 mv_X1_follow dX2_followAsTold_38 (pc := 38) (by rw [ho.c0]; rfl) (by rw [ho.c0]; decide) ho.p0 (Nat.le_of_ble_eq_true rfl) (rmY := rmX1_follow) (by decide) h ?_
        refine c_follow (S := S) (O := O) (i := k) (l0 := sH S k) (x0 := sF S k) rfl g5.1 g5.2.1 ho hs hS1 (by omega) hW hO (by omega) gw.1 gw.2.1 (fun M2 a1 af => ?_)
        refine e_iinc2 h dX2_followAsTold_41 (pc := 41) (by decide) rfl ?_
        refine e_goto h dX2_followAsTold_44 (pc := 44) (tgt := 10) (by decide) ?_
        rw [show (k : Int) + 1 = ((k + 1 : Nat) : Int) by omega]
        refine ih (k + 1) M2 (by omega) (by omega) (by rw [af _ _ (by omega)]; exact hz) (fun i hi => ?_) (fun q j hq => by rw [af _ _ (by omega)]; exact hfr q j hq)
        by_cases hik : i = k
        · subst hik
          exact hoe ▸ a1
        · exact (hC i (by omega)).to (fun p a b => funext fun j => af p j (by omega))
  refine e_aload_n h dX2_followAsTold_0 (pc := 0) rfl ?_
  refine e_aload_n h dX2_followAsTold_1 (pc := 1) rfl ?_
  refine e_getI h fl_X2_18 dX2_followAsTold_2 (pc := 2) hs.c0 hs.p0 (by decide) ?_
  refine e_putI h fl_X2_24 dX2_followAsTold_5 (pc := 5) hf.c0 hf.p0 rfl ?_
  refine e_iconst h dX2_followAsTold_8 (pc := 8)  ?_
  refine e_istore2 h dX2_followAsTold_9 (pc := 9) (by decide) rfl ?_
  exact loop (sT S + 1) 0 _ (by omega) (by omega) (by rw [up_eq]; exact hSO.1.2.1) (fun i hi => absurd hi (by omega)) (fun q j hq => up_ne (by omega))
def yQ (z i : Nat) : Nat := 7919 * z + 6151 * i + 1
def yP (z i : Nat) : Nat := yQ z i * yQ z i % 65521 % 24
theorem yQ_le {z i : Nat} (hz : z ≤ 9999) (hi : i < 6) : yQ z i * yQ z i ≤ 6300000000000000 := by
  have h1 : yQ z i ≤ 79212837 := by unfold yQ; omega
  exact Nat.le_trans (Nat.mul_le_mul h1 h1) (by decide)
set_option maxRecDepth 100000 in
set_option maxHeartbeats 4000000 in
theorem c_followYear {gg : GT} {ad : Nat → Nat} {N : Nat} {M : Mem} {Post : Option AV → Mem → Prop} {S O : SD} {f so z : Nat}  {xz : Int} (hxz : xz = (z : Int))  (hf : IsF f N) (hs : IsS so N) (hSO : SO S O M so) (hdis : so + 14 ≤ f ∨ f + 26 ≤ so) (hW : WS S) (hO : WO O (sT S)) (hz0 : z ≤ 9999) (K : ∀ M2 : Mem, M2 f 1 = sT S → (∀ i, i < sT S → CR S O i (sH S i) (yP z i) M2 (f + 2 + 4 * i)) → (∀ q j, (q < f ∨ f + 26 ≤ q) → M2 q j = M q j) → Post none M2) : Sp gg yX2_followYear cX2_followYear 6 none rmX2_followYear [vr f, vr so, vi xz] ad N pT M Post := by
  refine Sp.intro (ls := [some (vr f), some (vr so), some (vi xz), none, none, none]) (by decide +kernel) rfl (Nat.le_of_ble_eq_true rfl) fun κ hgg h hr ha => ?_
  have h : Ok κ RX2 cX2_followYear 6 rmX2_followYear := h
  subst hgg
  subst hxz
  have hW0 := hW
  obtain ⟨⟨w1a, w1b⟩, ⟨w2a, w2b⟩, w3, w4, w5, w6⟩ := hW0
  have loop : ∀ (n k : Nat) (M1 : Mem), k ≤ sT S → sT S < k + n → M1 f 1 = sT S → (∀ i, i < k → CR S O i (sH S i) (yP z i) M1 (f + 2 + 4 * i)) → (∀ q j, (q < f ∨ f + 26 ≤ q) → M1 q j = M q j) → E κ ad N pT M1 10 [some (vr f), some (vr so), some (vi (z : Int)), some (vi (k : Int)), none, none] [] (0, 0) (QR κ ad N pT Post) := by
    intro n
    induction n with
    | zero => intro k M1 h1 h2; exact absurd h2 (by omega)
    | succ n ih =>
      intro k M1 hk hn hz hC hfr
      have hS1 : SO S O M1 so := hSO.to (fun p a b => funext fun j => hfr p j (by omega))
      have hS2 := hS1
      obtain ⟨⟨r1, r2, r3, r4, r5, r6⟩, -⟩ := hS2
      refine e_iload_n h dX2_followYear_10 (pc := 10) rfl ?_
      refine e_aload_n h dX2_followYear_11 (pc := 11) rfl ?_
      refine e_getI h fl_X2_24 dX2_followYear_12 (pc := 12) hf.c0 hf.p0 (by decide) ?_
      refine e_icmp_ge h (tgt := 72) dX2_followYear_15 (pc := 15) (by decide) (by omega) (by omega) (fun hb15 => ?_) (fun hb15 => ?_)
      · refine e_vret h hr ha dX2_followYear_72 (pc := 72) ?_
        have hk2 : k = sT S := by omega
        subst hk2
        exact K M1 hz hC hfr
      · obtain ⟨o, hoe⟩ : ∃ o, o = f + 2 + 4 * k := ⟨_, rfl⟩
        have ho : IsC o N := hoe ▸ hf.co (by omega)
        have g5 := r5 k (by omega)
        have gw := w5 k (by omega)
        have hyq := yQ_le (z := z) (i := k) hz0 (by omega)
        refine e_ldc2 h dX2_followYear_18 (pc := 18) (x := 7919) kl_X2_38 rfl ?_
        refine e_iload_n h dX2_followYear_21 (pc := 21) rfl ?_
        refine e_i2l h dX2_followYear_22 (pc := 22) (by omega) ?_
        refine e_lmul h dX2_followYear_23 (pc := 23)  ?_
        refine e_ldc2 h dX2_followYear_24 (pc := 24) (x := 6151) kl_X2_40 rfl ?_
        refine e_iload_n h dX2_followYear_27 (pc := 27) rfl ?_
        refine e_i2l h dX2_followYear_28 (pc := 28) (by omega) ?_
        refine e_lmul h dX2_followYear_29 (pc := 29)  ?_
        refine e_ladd h dX2_followYear_30 (pc := 30)  ?_
        refine e_lconst h dX2_followYear_31 (pc := 31) (x := 1) rfl ?_
        refine e_ladd h dX2_followYear_32 (pc := 32)  ?_
        rw [show (7919 : Int) * (z : Int) + 6151 * (k : Int) + 1 = ((yQ z k : Nat) : Int) by unfold yQ; omega]
        refine e_lstore4 h dX2_followYear_33 (pc := 33) (by decide) rfl ?_
        refine e_aload_n h dX2_followYear_35 (pc := 35) rfl ?_
        refine e_getC h fl_X2_11 dX2_followYear_36 (pc := 36) hf.c0 hf.p0 rfl rfl (r := (f + 1)) (pcr_d (by rw [hf.c0]; decide) 0) ?_
        refine e_iload_n h dX2_followYear_39 (pc := 39) rfl ?_
        refine e_aald3 h dX2_followYear_40 (pc := 40) hf.c1 hf.p1 rfl (by rw [hf.l1]; omega) rfl (r := o) (by rw [pcr_103 hf.c1, hoe]) ?_
        refine e_aload_n h dX2_followYear_41 (pc := 41) rfl ?_
        refine e_iload_n h dX2_followYear_42 (pc := 42) rfl ?_
        refine e_aload_n h dX2_followYear_43 (pc := 43) rfl ?_
        refine e_getC h fl_X2_27 dX2_followYear_44 (pc := 44) hs.c0 hs.p0 rfl rfl (r := (so + 3)) (pcr_d (by rw [hs.c0]; decide) 2) ?_
        refine e_iload_n h dX2_followYear_47 (pc := 47) rfl ?_
        refine e_iald h dX2_followYear_48 (pc := 48) hs.c3 hs.p3 rfl (by rw [hs.l3]; omega) ?_
        refine e_lload h dX2_followYear_49 (pc := 49) rfl ?_
        refine e_lload h dX2_followYear_51 (pc := 51) rfl ?_
        refine e_lmul h dX2_followYear_53 (pc := 53)  ?_
        rw [show ((yQ z k : Nat) : Int) * ((yQ z k : Nat) : Int) = ((yQ z k * yQ z k : Nat) : Int) by rw [Int.natCast_mul]]
        generalize hqm : yQ z k * yQ z k = qm at hyq
        refine e_ldc2 h dX2_followYear_54 (pc := 54) (x := 65521) kl_X2_42 rfl ?_
        refine e_lrem h dX2_followYear_57 (pc := 57) (by omega) (by decide) ?_
        rw [show ((qm : Nat) : Int).tmod 65521 = ((qm % 65521 : Nat) : Int) by rw [Int.tmod_eq_emod_of_nonneg (by omega)]; omega]
        refine e_ldc2 h dX2_followYear_58 (pc := 58) (x := 24) kl_X2_44 rfl ?_
        refine e_lrem h dX2_followYear_61 (pc := 61) (by omega) (by decide) ?_
        rw [show ((qm % 65521 : Nat) : Int).tmod 24 = ((qm % 65521 % 24 : Nat) : Int) by rw [Int.tmod_eq_emod_of_nonneg (by omega)]; omega]
        refine e_l2i h dX2_followYear_62 (pc := 62)  ?_
        refine e_callV4 lk_X2_34 mv_X1_follow dX2_followYear_63 (pc := 63) (by rw [ho.c0]; rfl) (by rw [ho.c0]; decide) ho.p0 (Nat.le_of_ble_eq_true rfl) (rmY := rmX1_follow) (by decide) h ?_
        refine c_follow (S := S) (O := O) (i := k) (l0 := sH S k) (x0 := yP z k) rfl g5.1 (by unfold yP; rw [hqm]) ho hs hS1 (by omega) hW hO (by omega) gw.1 (by unfold yP; omega) (fun M2 a1 af => ?_)
        refine e_iinc3 h dX2_followYear_66 (pc := 66) (by decide) rfl ?_
        refine e_goto h dX2_followYear_69 (pc := 69) (tgt := 10) (by decide) ?_
        rw [show (k : Int) + 1 = ((k + 1 : Nat) : Int) by omega]
        refine e_fgt (ls2 := [some (vr f), some (vr so), some (vi (z : Int)), some (vi ((k + 1 : Nat) : Int)), none, none]) ⟨Or.inr rfl, Or.inr rfl, Or.inr rfl, Or.inr rfl, Or.inl rfl, Or.inl rfl, trivial⟩ ?_
        refine ih (k + 1) M2 (by omega) (by omega) (by rw [af _ _ (by omega)]; exact hz) (fun i hi => ?_) (fun q j hq => by rw [af _ _ (by omega)]; exact hfr q j hq)
        by_cases hik : i = k
        · subst hik
          exact hoe ▸ a1
        · exact (hC i (by omega)).to (fun p a b => funext fun j => af p j (by omega))
  refine e_aload_n h dX2_followYear_0 (pc := 0) rfl ?_
  refine e_aload_n h dX2_followYear_1 (pc := 1) rfl ?_
  refine e_getI h fl_X2_18 dX2_followYear_2 (pc := 2) hs.c0 hs.p0 (by decide) ?_
  refine e_putI h fl_X2_24 dX2_followYear_5 (pc := 5) hf.c0 hf.p0 rfl ?_
  refine e_iconst h dX2_followYear_8 (pc := 8)  ?_
  refine e_istore3 h dX2_followYear_9 (pc := 9) (by decide) rfl ?_
  exact loop (sT S + 1) 0 _ (by omega) (by omega) (by rw [up_eq]; exact hSO.1.2.1) (fun i hi => absurd hi (by omega)) (fun q j hq => up_ne (by omega))
