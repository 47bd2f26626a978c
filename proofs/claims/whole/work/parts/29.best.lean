def gustV (S : SD) (l t x n : Nat) (w : Int) : Int := if w = 0 then ((red n (gw (sL S) l x n t, pw n)).1 : Nat) else ((red n (gw (sL S) l x n t, pw n)).2 : Nat)
/-- how soon, and with how much gas -/
def CV (S O : SD) (i j : Nat) (w v : Int) : Prop := (∃ d g : Nat, 1 ≤ d ∧ d ≤ 20 ∧ (∀ t, 1 ≤ t → t ≤ d → (cs S O j t).1 ≠ 9) ∧ (∀ t, 1 ≤ t → t < d → ∀ g, ¬ RC S O i t (24 * (cs S O j t).1 + (cs S O j t).2.1) g) ∧ RC S O i d (24 * (cs S O j d).1 + (cs S O j d).2.1) g ∧ (∀ k, RC S O i d (24 * (cs S O j d).1 + (cs S O j d).2.1) k → k ≤ g) ∧ v = if w = 0 then (d : Int) else (g : Int)) ∨ ((∀ t, 1 ≤ t → t ≤ 20 → (∀ u, 1 ≤ u → u ≤ t → (cs S O j u).1 ≠ 9) → ∀ g, ¬ RC S O i t (24 * (cs S O j t).1 + (cs S O j t).2.1) g) ∧ v = -4)
theorem CV_one {S O : SD} {i j : Nat} {w v v2 : Int} (h : CV S O i j w v) (k : CV S O i j w v2) : v = v2 := by
  rcases h with ⟨d, g, a1, a2, a3, a4, a5, a6, a7⟩ | ⟨a1, a2⟩
  · rcases k with ⟨d2, g2, b1, b2, b3, b4, b5, b6, b7⟩ | ⟨b1, b2⟩
    · have hd : d = d2 := by
        rcases Nat.lt_trichotomy d d2 with q | q | q
        · exact absurd a5 (b4 d a1 q g)
        · exact q
        · exact absurd b5 (a4 d2 b1 q g2)
      subst hd
      have hg : g = g2 := Nat.le_antisymm (b6 g a5) (a6 g2 b5)
      subst hg
      rw [a7, b7]
    · exact absurd a5 (b1 d a1 a2 a3 g)
  · rcases k with ⟨d2, g2, b1, b2, b3, b4, b5, b6, b7⟩ | ⟨b1, b2⟩
    · exact absurd b5 (a1 d2 b1 b2 b3 g2)
    · rw [a2, b2]
/-- the best of so many, and how much it is -/
def bm (val : Nat → Int) (start : Int) : Nat → Int × Int
  | 0 => (0, start)
  | k + 1 => if val k > (bm val start k).2 then ((k : Int), val k) else bm val start k
theorem bm_y {val : Nat → Int} {s : Int} {k : Nat} (h : val k > (bm val s k).2) : bm val s (k + 1) = ((k : Int), val k) := by show (if _ then _ else _) = _; rw [if_pos h]
theorem bm_n {val : Nat → Int} {s : Int} {k : Nat} (h : ¬ val k > (bm val s k).2) : bm val s (k + 1) = bm val s k := by show (if _ then _ else _) = _; rw [if_neg h]
theorem bm_rng {val : Nat → Int} {s B : Int} (hs : -4 ≤ s ∧ s ≤ B) (hB : 0 ≤ B) : ∀ k, (∀ j, j < k → 0 ≤ val j ∧ val j ≤ B) → -4 ≤ (bm val s k).2 ∧ (bm val s k).2 ≤ B ∧ 0 ≤ (bm val s k).1 ∧ (bm val s k).1 ≤ k
  | 0, _ => ⟨hs.1, hs.2, Int.le_refl _, by show (0 : Int) ≤ _; omega⟩
  | k + 1, h => by
    have ih := bm_rng hs hB k (fun j hj => h j (by omega))
    have hk := h k (by omega)
    unfold bm
    split
    · dsimp only; omega
    · omega
theorem bm_start {val : Nat → Int} {s t : Int} (hs : s < 0) (ht : t < 0) : ∀ k, (∀ j, j < k + 1 → 0 ≤ val j) → bm val s (k + 1) = bm val t (k + 1)
  | 0, h => by
    have := h 0 (by omega)
    rw [bm_y (by show val 0 > s; omega), bm_y (by show val 0 > t; omega)]
  | k + 1, h => by
    have ih := bm_start hs ht k (fun j hj => h j (by omega))
    show (if _ then _ else _) = (if _ then _ else _)
    rw [ih]
def keepV (S O : SD) (i n : Nat) (w : Int) : Int := if w = 0 then (bm (fun l => ((crs S O i l (sF S i) n).2.2 : Nat)) (-1) (sL S)).1 else (bm (fun l => ((crs S O i l (sF S i) n).2.2 : Nat)) (-1) (sL S)).2
def tradV (S O : SD) (i n : Nat) (w : Int) : Int := if w = 0 then (bm (fun l => (mw (crs S O i l (sF S i)) (fun j => cs S O j) i n (sT S) : Nat)) (-1) (sL S)).1 else (bm (fun l => (mw (crs S O i l (sF S i)) (fun j => cs S O j) i n (sT S) : Nat)) (-1) (sL S)).2
def yearV (S O : SD) (z : Nat) (w : Int) : Int := if w = 0 then ((am (fun i => crs S O i (sH S i) (yP z i)) 60 (sT S) (sT S) / 2 : Nat) : Int) else ((lostN (fun i => lst S O i (sH S i) (yP z i) 60) (sT S) : Nat) : Int)
set_option maxRecDepth 100000 in
set_option maxHeartbeats 4000000 in
theorem c_gusts {gg : GT} {ad : Nat → Nat} {N : Nat} {M : Mem} {Post : Option AV → Mem → Prop} {so dr n : Nat} {b : TB} {S O : SD} {h0 : Nat} {f g : Nat → Int} {z : Nat} {K : Nat → SD} {x y m k w : Int}   (hN : 110 ≤ N) (hR : RepC so dr n b S O h0 f g z K M) (hxx : (-2147483648 ≤ x ∧ x ≤ 2147483647)) (hxy : (-2147483648 ≤ y ∧ y ≤ 2147483647)) (hxm : (-2147483648 ≤ m ∧ m ≤ 2147483647)) (hxk : (-2147483648 ≤ k ∧ k ≤ 2147483647)) (hxw : (-2147483648 ≤ w ∧ w ≤ 2147483647)) (kb : ¬ (0 ≤ x ∧ x < sL S ∧ 0 ≤ y ∧ y < sL S ∧ 0 ≤ m ∧ m ≤ 10 ∧ 0 ≤ k ∧ k ≤ 9 ∧ 0 ≤ w ∧ w ≤ 1) → Post (some (vj (-1))) M) (kt : ∀ (l t x1 n1 : Nat) (M2 : Mem) (v : Int), x = (l : Int) → y = (t : Int) → m = (x1 : Int) → k = (n1 : Int) → l < sL S → t < sL S → x1 ≤ 10 → n1 ≤ 9 → 0 ≤ w ∧ w ≤ 1 → v = gustV S l t x1 n1 w → RepC so dr n b S O h0 f g z K M2 → (∀ p, 110 ≤ p → M2 p = M p) → Post (some (vj v)) M2) : Sp gg yX10_gusts cX10_gusts 6 (some .long) rmX10_gusts [vr 0, vi x, vi y, vi m, vi k, vi w] ad N pT M Post := by
  refine Sp.intro (ls := [some (vr 0), some (vi x), some (vi y), some (vi m), some (vi k), some (vi w)]) (by decide +kernel) rfl (Nat.le_of_ble_eq_true rfl) fun κ hgg h hr ha => ?_
  have h : Ok κ RX10 cX10_gusts 6 rmX10_gusts := h
  subst hgg
  obtain ⟨hs, hdr, hs82, hdr82, hsd, hs96, hd96⟩ := hR.isS hN
  have hm9 := hR.m9
  have hm10 := hR.m10
  have hwL := hR.ws.1
  have hwT := hR.ws.2.1
  have r9 := hR.so.1.1
  have r10 := hR.so.1.2.1
  have r11 := hR.so.1.2.2.1
  have w4 := hR.ws.2.2.2.1
  have w5 := hR.ws.2.2.2.2.1
  refine e_aload_n h dX10_gusts_0 (pc := 0) rfl ?_
  refine e_iload_n h dX10_gusts_1 (pc := 1) rfl ?_
  refine e_callV1 lk_X10_117 mv_X10_isLevel dX10_gusts_2 (pc := 2) rfl (by decide) (Nat.lt_of_lt_of_le (by decide) hN) (Nat.le_of_ble_eq_true rfl) (rmY := rmX10_isLevel) (by decide) h ?_
  refine c_isLevel hN hR hxx (fun l ex hil => ?_) (fun hzx => ?_)
  · subst ex
    refine e_if_eq h (tgt := 26) dX10_gusts_5 (pc := 5) (by decide) (by decide) (fun hz => absurd hz (by decide)) (fun _ => ?_)
    refine e_aload_n h dX10_gusts_8 (pc := 8) rfl ?_
    refine e_iload_n h dX10_gusts_9 (pc := 9) rfl ?_
    refine e_callV1 lk_X10_117 mv_X10_isLevel dX10_gusts_10 (pc := 10) rfl (by decide) (Nat.lt_of_lt_of_le (by decide) hN) (Nat.le_of_ble_eq_true rfl) (rmY := rmX10_isLevel) (by decide) h ?_
    refine c_isLevel hN hR hxy (fun t ey hit => ?_) (fun hzy => ?_)
    · subst ey
      refine e_if_eq h (tgt := 26) dX10_gusts_13 (pc := 13) (by decide) (by decide) (fun hz => absurd hz (by decide)) (fun _ => ?_)
      refine e_iload_n h dX10_gusts_16 (pc := 16) rfl ?_
      refine e_iconst h dX10_gusts_17 (pc := 17)  ?_
      refine e_bipush h dX10_gusts_18 (pc := 18) (by decide +kernel) ?_
      refine e_callS3 lk_X10_121 ms_X10_isWithin dX10_gusts_20 (pc := 20) (Nat.le_of_ble_eq_true rfl) (rmY := rmX10_isWithin) (by decide) h ?_
      refine c_isWithin hxm (by decide) (by decide) (fun hzm => ?_) (fun hzm => ?_)
      · obtain ⟨x1, rfl⟩ : ∃ kk : Nat, m = (kk : Int) := ⟨m.toNat, by omega⟩
        refine e_if_ne h (tgt := 30) dX10_gusts_23 (pc := 23) (by decide) (by decide) (fun _ => ?_) (fun hz => absurd hz (by decide))
        refine e_iload h dX10_gusts_30 (pc := 30) rfl ?_
        refine e_iconst h dX10_gusts_32 (pc := 32)  ?_
        refine e_bipush h dX10_gusts_33 (pc := 33) (by decide +kernel) ?_
        refine e_callS3 lk_X10_121 ms_X10_isWithin dX10_gusts_35 (pc := 35) (Nat.le_of_ble_eq_true rfl) (rmY := rmX10_isWithin) (by decide) h ?_
        refine c_isWithin hxk (by decide) (by decide) (fun hzk => ?_) (fun hzk => ?_)
        · obtain ⟨n1, rfl⟩ : ∃ kk : Nat, k = (kk : Int) := ⟨k.toNat, by omega⟩
          refine e_if_eq h (tgt := 51) dX10_gusts_38 (pc := 38) (by decide) (by decide) (fun hz => absurd hz (by decide)) (fun _ => ?_)
          refine e_iload h dX10_gusts_41 (pc := 41) rfl ?_
          refine e_iconst h dX10_gusts_43 (pc := 43)  ?_
          refine e_iconst h dX10_gusts_44 (pc := 44)  ?_
          refine e_callS3 lk_X10_121 ms_X10_isWithin dX10_gusts_45 (pc := 45) (Nat.le_of_ble_eq_true rfl) (rmY := rmX10_isWithin) (by decide) h ?_
          refine c_isWithin hxw (by decide) (by decide) (fun hzw => ?_) (fun hzw => ?_)
          · skip
            refine e_if_ne h (tgt := 55) dX10_gusts_48 (pc := 48) (by decide) (by decide) (fun _ => ?_) (fun hz => absurd hz (by decide))
            refine e_aload_n h dX10_gusts_55 (pc := 55) rfl ?_
            refine e_getC h fl_X10_50 dX10_gusts_56 (pc := 56) rfl (Nat.lt_of_lt_of_le (by decide) hN) rfl rfl (r := 64) rfl ?_
            refine e_aload_n h dX10_gusts_59 (pc := 59) rfl ?_
            refine e_getR h fl_X10_71 dX10_gusts_60 (pc := 60) rfl (Nat.lt_of_lt_of_le (by decide) hN) rfl rfl (r := so) (by first | exact hm92 | exact hm9 | (simp (disch := omega) only [up_ne]; exact hm9)) ?_
            refine e_getI h fl_X10_192 dX10_gusts_63 (pc := 63) hs.c0 hs.p0 (by decide) ?_
            refine e_iload_n h dX10_gusts_66 (pc := 66) rfl ?_
            refine e_iload_n h dX10_gusts_67 (pc := 67) rfl ?_
            refine e_iload_n h dX10_gusts_68 (pc := 68) rfl ?_
            refine e_iload h dX10_gusts_69 (pc := 69) rfl ?_
            refine e_callV5 lk_X10_211 mv_X4_reckon dX10_gusts_71 (pc := 71) rfl (by decide) (Nat.lt_of_lt_of_le (by decide) hN) (Nat.le_of_ble_eq_true rfl) (rmY := rmX4_reckon) (by decide) h ?_
            refine c_reckon (L := sL S) (l := l) (t := t) (x := x1) (n := n1) r9 rfl rfl rfl rfl hN hR.od hwL.1 hwL.2 hil hit (by omega) (by omega) (fun M2 ho2 f2 f3 ff => ?_)
            refine e_iload h dX10_gusts_74 (pc := 74) rfl ?_
            refine e_if_ne h (tgt := 89) dX10_gusts_76 (pc := 76) (by decide) (by omega) (fun hb76 => ?_) (fun hb76 => ?_)
            · refine e_aload_n h dX10_gusts_89 (pc := 89) rfl ?_
              refine e_getC h fl_X10_50 dX10_gusts_90 (pc := 90) rfl (Nat.lt_of_lt_of_le (by decide) hN) rfl rfl (r := 64) rfl ?_
              refine e_getJ h fl_X10_219 dX10_gusts_93 (pc := 93) rfl (Nat.lt_of_lt_of_le (by decide) hN) rfl ?_
              refine e_lret h hr ha dX10_gusts_96 (pc := 96) ?_
              exact kt l t x1 n1 M2 _ rfl rfl rfl rfl hil hit (by omega) (by omega) hzw (by unfold gustV; rw [if_neg (by omega)]; exact f3) ⟨hR.ds, ((congrFun (by funext j; exact ff 0 j (by omega)) 9).trans hR.m9), ((congrFun (by funext j; exact ff 0 j (by omega)) 10).trans hR.m10), (hR.tx.to (by funext j; exact ff 1 j (by omega)) (by funext j; exact ff 2 j (by omega))), (hR.so.to (fun p a b => (by funext j; exact ff p j (by omega)))), hR.ws, hR.wo, (hR.bs.to (by funext j; exact ff (so + 12) j (by omega))), (hR.bd.to (by funext j; exact ff (dr + 12) j (by omega))), (hR.hr.to (by funext j; exact ff 67 j (by omega)) (by funext j; exact ff 68 j (by omega)) (by funext j; exact ff 69 j (by omega))), hR.h8, hR.hw, ((congrFun (by funext j; exact ff 70 j (by omega)) 1).trans hR.m70), hR.z2, (hR.kp.to hR.z2 (fun p a b => (by funext j; exact ff p j (by omega)))), (hR.fc.to hR.ws.2.1.2 (congrFun (by funext j; exact ff 0 j (by omega)) 11) (fun p a b => (by funext j; exact ff p j (by omega)))), ho2, (hR.ch.to (by funext j; exact ff 61 j (by omega))), (hR.ja.to (by funext j; exact ff 62 j (by omega))), (hR.jb.to (by funext j; exact ff 63 j (by omega)))⟩ (fun p hp => by funext j; exact ff p j (by omega))
            · refine e_aload_n h dX10_gusts_79 (pc := 79) rfl ?_
              refine e_getC h fl_X10_50 dX10_gusts_80 (pc := 80) rfl (Nat.lt_of_lt_of_le (by decide) hN) rfl rfl (r := 64) rfl ?_
              refine e_getJ h fl_X10_215 dX10_gusts_83 (pc := 83) rfl (Nat.lt_of_lt_of_le (by decide) hN) rfl ?_
              refine e_goto h dX10_gusts_86 (pc := 86) (tgt := 96) (by decide) ?_
              refine e_lret h hr ha dX10_gusts_96 (pc := 96) ?_
              exact kt l t x1 n1 M2 _ rfl rfl rfl rfl hil hit (by omega) (by omega) hzw (by unfold gustV; rw [if_pos (by omega)]; exact f2) ⟨hR.ds, ((congrFun (by funext j; exact ff 0 j (by omega)) 9).trans hR.m9), ((congrFun (by funext j; exact ff 0 j (by omega)) 10).trans hR.m10), (hR.tx.to (by funext j; exact ff 1 j (by omega)) (by funext j; exact ff 2 j (by omega))), (hR.so.to (fun p a b => (by funext j; exact ff p j (by omega)))), hR.ws, hR.wo, (hR.bs.to (by funext j; exact ff (so + 12) j (by omega))), (hR.bd.to (by funext j; exact ff (dr + 12) j (by omega))), (hR.hr.to (by funext j; exact ff 67 j (by omega)) (by funext j; exact ff 68 j (by omega)) (by funext j; exact ff 69 j (by omega))), hR.h8, hR.hw, ((congrFun (by funext j; exact ff 70 j (by omega)) 1).trans hR.m70), hR.z2, (hR.kp.to hR.z2 (fun p a b => (by funext j; exact ff p j (by omega)))), (hR.fc.to hR.ws.2.1.2 (congrFun (by funext j; exact ff 0 j (by omega)) 11) (fun p a b => (by funext j; exact ff p j (by omega)))), ho2, (hR.ch.to (by funext j; exact ff 61 j (by omega))), (hR.ja.to (by funext j; exact ff 62 j (by omega))), (hR.jb.to (by funext j; exact ff 63 j (by omega)))⟩ (fun p hp => by funext j; exact ff p j (by omega))
          · skip
            refine e_if_ne h (tgt := 55) dX10_gusts_48 (pc := 48) (by decide) (by decide) (fun hz => absurd hz (by decide)) (fun _ => ?_)
            refine e_ldc2 h dX10_gusts_51 (pc := 51) (x := (-1)) kl_X10_209 rfl ?_
            refine e_lret h hr ha dX10_gusts_54 (pc := 54) ?_
            exact kb (by omega)
        · skip
          refine e_if_eq h (tgt := 51) dX10_gusts_38 (pc := 38) (by decide) (by decide) (fun _ => ?_) (fun hz => absurd hz (by decide))
          refine e_ldc2 h dX10_gusts_51 (pc := 51) (x := (-1)) kl_X10_209 rfl ?_
          refine e_lret h hr ha dX10_gusts_54 (pc := 54) ?_
          exact kb (by omega)
      · skip
        refine e_if_ne h (tgt := 30) dX10_gusts_23 (pc := 23) (by decide) (by decide) (fun hz => absurd hz (by decide)) (fun _ => ?_)
        refine e_ldc2 h dX10_gusts_26 (pc := 26) (x := (-1)) kl_X10_209 rfl ?_
        refine e_lret h hr ha dX10_gusts_29 (pc := 29) ?_
        exact kb (by omega)
    · skip
      refine e_if_eq h (tgt := 26) dX10_gusts_13 (pc := 13) (by decide) (by decide) (fun _ => ?_) (fun hz => absurd hz (by decide))
      refine e_ldc2 h dX10_gusts_26 (pc := 26) (x := (-1)) kl_X10_209 rfl ?_
      refine e_lret h hr ha dX10_gusts_29 (pc := 29) ?_
      exact kb (by omega)
  · skip
    refine e_if_eq h (tgt := 26) dX10_gusts_5 (pc := 5) (by decide) (by decide) (fun _ => ?_) (fun hz => absurd hz (by decide))
    refine e_ldc2 h dX10_gusts_26 (pc := 26) (x := (-1)) kl_X10_209 rfl ?_
    refine e_lret h hr ha dX10_gusts_29 (pc := 29) ?_
    exact kb (by omega)
set_option maxRecDepth 100000 in
set_option maxHeartbeats 4000000 in
theorem c_catches {gg : GT} {ad : Nat → Nat} {N : Nat} {M : Mem} {Post : Option AV → Mem → Prop} {so dr n : Nat} {b : TB} {S O : SD} {h0 : Nat} {f g : Nat → Int} {z : Nat} {K : Nat → SD} {x y w : Int}   (hN : 110 ≤ N) (hR : RepC so dr n b S O h0 f g z K M) (hxx : (-2147483648 ≤ x ∧ x ≤ 2147483647)) (hxy : (-2147483648 ≤ y ∧ y ≤ 2147483647)) (hxw : (-2147483648 ≤ w ∧ w ≤ 2147483647)) (kb : ¬ ((0 ≤ x ∧ x < sT S ∧ 0 ≤ y ∧ y < sT S ∧ x ≠ y) ∧ 0 ≤ w ∧ w ≤ 1) → Post (some (vi (-1))) M) (kt : ∀ (i j : Nat) (M2 : Mem) (v : Int), x = (i : Int) → y = (j : Int) → i < sT S → j < sT S → i ≠ j → 0 ≤ w ∧ w ≤ 1 → CV S O i j w v → RepC so dr n b S O h0 f g z K M2 → (∀ p, 110 ≤ p → M2 p = M p) → Post (some (vi v)) M2) : Sp gg yX10_catches cX10_catches 4 (some .int) rmX10_catches [vr 0, vi x, vi y, vi w] ad N pT M Post := by
  refine Sp.intro (ls := [some (vr 0), some (vi x), some (vi y), some (vi w)]) (by decide +kernel) rfl (Nat.le_of_ble_eq_true rfl) fun κ hgg h hr ha => ?_
  have h : Ok κ RX10 cX10_catches 4 rmX10_catches := h
  subst hgg
  obtain ⟨hs, hdr, hs82, hdr82, hsd, hs96, hd96⟩ := hR.isS hN
  have hm9 := hR.m9
  have hm10 := hR.m10
  have hwL := hR.ws.1
  have hwT := hR.ws.2.1
  have r9 := hR.so.1.1
  have r10 := hR.so.1.2.1
  have r11 := hR.so.1.2.2.1
  have w4 := hR.ws.2.2.2.1
  have w5 := hR.ws.2.2.2.2.1
  refine e_aload_n h dX10_catches_0 (pc := 0) rfl ?_
  refine e_iload_n h dX10_catches_1 (pc := 1) rfl ?_
  refine e_iload_n h dX10_catches_2 (pc := 2) rfl ?_
  refine e_callV2 lk_X10_158 mv_X10_areTwoTowns dX10_catches_3 (pc := 3) rfl (by decide) (Nat.lt_of_lt_of_le (by decide) hN) (Nat.le_of_ble_eq_true rfl) (rmY := rmX10_areTwoTowns) (by decide) h ?_
  refine c_areTwo hN hR hxx hxy (fun i j ex ey hii hij hne => ?_) (fun hz => ?_)
  · subst ex
    subst ey
    refine e_if_eq h (tgt := 18) dX10_catches_6 (pc := 6) (by decide) (by decide) (fun hz => absurd hz (by decide)) (fun _ => ?_)
    refine e_iload_n h dX10_catches_9 (pc := 9) rfl ?_
    refine e_iconst h dX10_catches_10 (pc := 10)  ?_
    refine e_iconst h dX10_catches_11 (pc := 11)  ?_
    refine e_callS3 lk_X10_121 ms_X10_isWithin dX10_catches_12 (pc := 12) (Nat.le_of_ble_eq_true rfl) (rmY := rmX10_isWithin) (by decide) h ?_
    refine c_isWithin hxw (by decide) (by decide) (fun hzw => ?_) (fun hzw => ?_)
    · skip
      refine e_if_ne h (tgt := 20) dX10_catches_15 (pc := 15) (by decide) (by decide) (fun _ => ?_) (fun hz => absurd hz (by decide))
      refine e_aload_n h dX10_catches_20 (pc := 20) rfl ?_
      refine e_getC h fl_X10_43 dX10_catches_21 (pc := 21) rfl (Nat.lt_of_lt_of_le (by decide) hN) rfl rfl (r := 61) rfl ?_
      refine e_aload_n h dX10_catches_24 (pc := 24) rfl ?_
      refine e_getR h fl_X10_71 dX10_catches_25 (pc := 25) rfl (Nat.lt_of_lt_of_le (by decide) hN) rfl rfl (r := so) (by first | exact hm92 | exact hm9 | (simp (disch := omega) only [up_ne]; exact hm9)) ?_
      refine e_iload_n h dX10_catches_28 (pc := 28) rfl ?_
      refine e_aload_n h dX10_catches_29 (pc := 29) rfl ?_
      refine e_callV0 lk_X10_135 mv_X10_followed dX10_catches_30 (pc := 30) rfl (by decide) (Nat.lt_of_lt_of_le (by decide) hN) (Nat.le_of_ble_eq_true rfl) (rmY := rmX10_followed) (by decide) h ?_
      refine c_followed hN hR (fun M2 hR2 hfl hfr => ?_)
      have hm92 := hR2.m9
      have hm102 := hR2.m10
      obtain ⟨o, hoe⟩ : ∃ o, o = 7 + 4 * j := ⟨_, rfl⟩
      have ho : IsC o N := hoe ▸ isC_fleet hN (by omega)
      have hocr : CR S O j (sH S j) (sF S j) M2 o := by rw [hoe]; exact hfl.2 j (by omega)
      have howf := crs_wf (S := S) (O := O) (i := j) (l0 := sH S j) (x0 := sF S j) (w5 j (by omega)).1 (w5 j (by omega)).2.1 (hR.wo.2.2 j (by omega))
      refine e_getC h fl_X10_139 dX10_catches_33 (pc := 33) rfl (Nat.lt_of_lt_of_le (by decide) hN) rfl rfl (r := 6) rfl ?_
      refine e_iload_n h dX10_catches_36 (pc := 36) rfl ?_
      refine e_aald3 h dX10_catches_37 (pc := 37) rfl (Nat.lt_of_lt_of_le (by decide) hN) rfl (by show _ < 6; omega) rfl (r := o) (by rw [pcr_103 (by decide)]; omega) ?_
      refine e_callV3 lk_X10_183 mv_X0_hunt dX10_catches_38 (pc := 38) rfl (by decide) (Nat.lt_of_lt_of_le (by decide) hN) (Nat.le_of_ble_eq_true rfl) (rmY := rmX0_hunt) (by decide) h ?_
      refine c_hunt (S := S) (O := O) (lv := fun t => (cs S O j t).1) (pl := fun t => (cs S O j t).2.1) rfl hN hs hs82 hR2.so.1 hR2.so.2 hR.ws hii (hR.wo.2.2 i hii) ho (by omega) hR2.ch ⟨hR2.ja, hR2.jb⟩ (fun t ht => ⟨(hocr.2 t (by omega)).1, (hocr.2 t (by omega)).2.1, by have := (howf t).1; show (crs S O j _ _ t).1 < 6 ∨ (crs S O j _ _ t).1 = 9; omega, (howf t).2.1⟩) (fun d1 g1 M3 c1 c2 c3 c4 c5 c6 c7 c8 c9 c10 c11 => ?_) (fun M3 c4 c9 c10 c11 => ?_)
      · skip
        refine e_if_ne h (tgt := 47) dX10_catches_41 (pc := 41) (by decide) (by decide) (fun _ => ?_) (fun hz => absurd hz (by decide))
        refine e_iload_n h dX10_catches_47 (pc := 47) rfl ?_
        refine e_if_ne h (tgt := 61) dX10_catches_48 (pc := 48) (by decide) (by omega) (fun hb48 => ?_) (fun hb48 => ?_)
        · refine e_aload_n h dX10_catches_61 (pc := 61) rfl ?_
          refine e_getC h fl_X10_43 dX10_catches_62 (pc := 62) rfl (Nat.lt_of_lt_of_le (by decide) hN) rfl rfl (r := 61) rfl ?_
          refine e_getI h fl_X10_190 dX10_catches_65 (pc := 65) rfl (Nat.lt_of_lt_of_le (by decide) hN) (by decide) ?_
          refine e_iret h hr ha dX10_catches_68 (pc := 68) ?_
          exact kt i j M3 _ rfl rfl hii hij hne hzw (Or.inl ⟨d1, g1, c1, c2, c3, c4, c5, c6, by rw [if_neg (by omega)]; exact c8⟩) ⟨hR2.ds, ((congrFun (c11 0 (by omega)) 9).trans hR2.m9), ((congrFun (c11 0 (by omega)) 10).trans hR2.m10), (hR2.tx.to (c11 1 (by omega)) (c11 2 (by omega))), (hR2.so.to (fun p a b => (c11 p (by omega)))), hR2.ws, hR2.wo, (hR2.bs.to (c11 (so + 12) (by omega))), (hR2.bd.to (c11 (dr + 12) (by omega))), (hR2.hr.to (c11 67 (by omega)) (c11 68 (by omega)) (c11 69 (by omega))), hR2.h8, hR2.hw, ((congrFun (c11 70 (by omega)) 1).trans hR2.m70), hR2.z2, (hR2.kp.to hR2.z2 (fun p a b => (c11 p (by omega)))), (hR2.fc.to hR2.ws.2.1.2 (congrFun (c11 0 (by omega)) 11) (fun p a b => (c11 p (by omega)))), (hR2.od.to (c11 64 (by omega))), c9, c10.1, c10.2⟩ (fun p hp => by rw [c11 p (by omega), hfr p (by omega) (by omega)])
        · refine e_aload_n h dX10_catches_51 (pc := 51) rfl ?_
          refine e_getC h fl_X10_43 dX10_catches_52 (pc := 52) rfl (Nat.lt_of_lt_of_le (by decide) hN) rfl rfl (r := 61) rfl ?_
          refine e_getI h fl_X10_187 dX10_catches_55 (pc := 55) rfl (Nat.lt_of_lt_of_le (by decide) hN) (by decide) ?_
          refine e_goto h dX10_catches_58 (pc := 58) (tgt := 68) (by decide) ?_
          refine e_iret h hr ha dX10_catches_68 (pc := 68) ?_
          exact kt i j M3 _ rfl rfl hii hij hne hzw (Or.inl ⟨d1, g1, c1, c2, c3, c4, c5, c6, by rw [if_pos (by omega)]; exact c7⟩) ⟨hR2.ds, ((congrFun (c11 0 (by omega)) 9).trans hR2.m9), ((congrFun (c11 0 (by omega)) 10).trans hR2.m10), (hR2.tx.to (c11 1 (by omega)) (c11 2 (by omega))), (hR2.so.to (fun p a b => (c11 p (by omega)))), hR2.ws, hR2.wo, (hR2.bs.to (c11 (so + 12) (by omega))), (hR2.bd.to (c11 (dr + 12) (by omega))), (hR2.hr.to (c11 67 (by omega)) (c11 68 (by omega)) (c11 69 (by omega))), hR2.h8, hR2.hw, ((congrFun (c11 70 (by omega)) 1).trans hR2.m70), hR2.z2, (hR2.kp.to hR2.z2 (fun p a b => (c11 p (by omega)))), (hR2.fc.to hR2.ws.2.1.2 (congrFun (c11 0 (by omega)) 11) (fun p a b => (c11 p (by omega)))), (hR2.od.to (c11 64 (by omega))), c9, c10.1, c10.2⟩ (fun p hp => by rw [c11 p (by omega), hfr p (by omega) (by omega)])
      · skip
        refine e_if_ne h (tgt := 47) dX10_catches_41 (pc := 41) (by decide) (by decide) (fun hz => absurd hz (by decide)) (fun _ => ?_)
        refine e_bipush h dX10_catches_44 (pc := 44) (by decide +kernel) ?_
        refine e_iret h hr ha dX10_catches_46 (pc := 46) ?_
        exact kt i j M3 _ rfl rfl hii hij hne hzw (Or.inr ⟨c4, rfl⟩) ⟨hR2.ds, ((congrFun (c11 0 (by omega)) 9).trans hR2.m9), ((congrFun (c11 0 (by omega)) 10).trans hR2.m10), (hR2.tx.to (c11 1 (by omega)) (c11 2 (by omega))), (hR2.so.to (fun p a b => (c11 p (by omega)))), hR2.ws, hR2.wo, (hR2.bs.to (c11 (so + 12) (by omega))), (hR2.bd.to (c11 (dr + 12) (by omega))), (hR2.hr.to (c11 67 (by omega)) (c11 68 (by omega)) (c11 69 (by omega))), hR2.h8, hR2.hw, ((congrFun (c11 70 (by omega)) 1).trans hR2.m70), hR2.z2, (hR2.kp.to hR2.z2 (fun p a b => (c11 p (by omega)))), (hR2.fc.to hR2.ws.2.1.2 (congrFun (c11 0 (by omega)) 11) (fun p a b => (c11 p (by omega)))), (hR2.od.to (c11 64 (by omega))), c9, c10.1, c10.2⟩ (fun p hp => by rw [c11 p (by omega), hfr p (by omega) (by omega)])
    · skip
      refine e_if_ne h (tgt := 20) dX10_catches_15 (pc := 15) (by decide) (by decide) (fun hz => absurd hz (by decide)) (fun _ => ?_)
      refine e_iconst h dX10_catches_18 (pc := 18)  ?_
      refine e_iret h hr ha dX10_catches_19 (pc := 19) ?_
      exact kb (by omega)
  · skip
    refine e_if_eq h (tgt := 18) dX10_catches_6 (pc := 6) (by decide) (by decide) (fun _ => ?_) (fun hz => absurd hz (by decide))
    refine e_iconst h dX10_catches_18 (pc := 18)  ?_
    refine e_iret h hr ha dX10_catches_19 (pc := 19) ?_
    exact kb (by omega)
set_option maxRecDepth 100000 in
set_option maxHeartbeats 4000000 in
theorem c_keeps {gg : GT} {ad : Nat → Nat} {N : Nat} {M : Mem} {Post : Option AV → Mem → Prop} {so dr n : Nat} {b : TB} {S O : SD} {h0 : Nat} {f g : Nat → Int} {z : Nat} {K : Nat → SD} {x y w : Int}   (hN : 110 ≤ N) (hR : RepC so dr n b S O h0 f g z K M) (hxx : (-2147483648 ≤ x ∧ x ≤ 2147483647)) (hxy : (-2147483648 ≤ y ∧ y ≤ 2147483647)) (hxw : (-2147483648 ≤ w ∧ w ≤ 2147483647)) (kb : ¬ (0 ≤ x ∧ x < sT S ∧ 0 ≤ y ∧ y ≤ 60 ∧ 0 ≤ w ∧ w ≤ 1) → Post (some (vi (-1))) M) (kt : ∀ (i n1 : Nat) (M2 : Mem) (v : Int), x = (i : Int) → y = (n1 : Int) → i < sT S → n1 ≤ 60 → 0 ≤ w ∧ w ≤ 1 → v = keepV S O i n1 w → RepC so dr n b S O h0 f g z K M2 → (∀ p, 110 ≤ p → M2 p = M p) → Post (some (vi v)) M2) : Sp gg yX10_keeps cX10_keeps 7 (some .int) rmX10_keeps [vr 0, vi x, vi y, vi w] ad N pT M Post := by
  refine Sp.intro (ls := [some (vr 0), some (vi x), some (vi y), some (vi w), none, none, none]) (by decide +kernel) rfl (Nat.le_of_ble_eq_true rfl) fun κ hgg h hr ha => ?_
  have h : Ok κ RX10 cX10_keeps 7 rmX10_keeps := h
  subst hgg
  obtain ⟨hs, hdr, hs82, hdr82, hsd, hs96, hd96⟩ := hR.isS hN
  have hm9 := hR.m9
  have hm10 := hR.m10
  have hwL := hR.ws.1
  have hwT := hR.ws.2.1
  have r9 := hR.so.1.1
  have r10 := hR.so.1.2.1
  have r11 := hR.so.1.2.2.1
  have w4 := hR.ws.2.2.2.1
  have w5 := hR.ws.2.2.2.2.1
  refine e_aload_n h dX10_keeps_0 (pc := 0) rfl ?_
  refine e_iload_n h dX10_keeps_1 (pc := 1) rfl ?_
  refine e_callV1 lk_X10_132 mv_X10_isTown dX10_keeps_2 (pc := 2) rfl (by decide) (Nat.lt_of_lt_of_le (by decide) hN) (Nat.le_of_ble_eq_true rfl) (rmY := rmX10_isTown) (by decide) h ?_
  refine c_isTown hN hR hxx (fun i ex hii => ?_) (fun hzx => ?_)
  · subst ex
    refine e_if_eq h (tgt := 27) dX10_keeps_5 (pc := 5) (by decide) (by decide) (fun hz => absurd hz (by decide)) (fun _ => ?_)
    refine e_iload_n h dX10_keeps_8 (pc := 8) rfl ?_
    refine e_iconst h dX10_keeps_9 (pc := 9)  ?_
    refine e_bipush h dX10_keeps_10 (pc := 10) (by decide +kernel) ?_
    refine e_callS3 lk_X10_121 ms_X10_isWithin dX10_keeps_12 (pc := 12) (Nat.le_of_ble_eq_true rfl) (rmY := rmX10_isWithin) (by decide) h ?_
    refine c_isWithin hxy (by decide) (by decide) (fun hzy => ?_) (fun hzy => ?_)
    · obtain ⟨n1, rfl⟩ : ∃ kk : Nat, y = (kk : Int) := ⟨y.toNat, by omega⟩
      refine e_if_eq h (tgt := 27) dX10_keeps_15 (pc := 15) (by decide) (by decide) (fun hz => absurd hz (by decide)) (fun _ => ?_)
      refine e_iload_n h dX10_keeps_18 (pc := 18) rfl ?_
      refine e_iconst h dX10_keeps_19 (pc := 19)  ?_
      refine e_iconst h dX10_keeps_20 (pc := 20)  ?_
      refine e_callS3 lk_X10_121 ms_X10_isWithin dX10_keeps_21 (pc := 21) (Nat.le_of_ble_eq_true rfl) (rmY := rmX10_isWithin) (by decide) h ?_
      refine c_isWithin hxw (by decide) (by decide) (fun hzw => ?_) (fun hzw => ?_)
      · skip
        refine e_if_ne h (tgt := 29) dX10_keeps_24 (pc := 24) (by decide) (by decide) (fun _ => ?_) (fun hz => absurd hz (by decide))
        refine e_iconst h dX10_keeps_29 (pc := 29)  ?_
        refine e_istore4 h dX10_keeps_30 (pc := 30) (by decide) rfl ?_
        refine e_iconst h dX10_keeps_32 (pc := 32)  ?_
        refine e_istore5 h dX10_keeps_33 (pc := 33) (by decide) rfl ?_
        refine e_iconst h dX10_keeps_35 (pc := 35)  ?_
        refine e_istore6 h dX10_keeps_36 (pc := 36) (by decide) rfl ?_
        have loop : ∀ (m k : Nat) (M1 : Mem), k ≤ sL S → sL S < k + m → RepC so dr n b S O h0 f g z K M1 → (∀ p, (p < 57 ∨ 61 ≤ p) → 0 ≤ p → M1 p = M p) → E κ ad N pT M1 38 [some (vr 0), some (vi (i : Int)), some (vi (n1 : Int)), some (vi w), some (vi (bm (fun l => ((crs S O i l (sF S i) n1).2.2 : Nat)) (-1) k).1), some (vi (bm (fun l => ((crs S O i l (sF S i) n1).2.2 : Nat)) (-1) k).2), some (vi (k : Int))] [] (0, 0) (QR κ ad N pT Post) := by
          intro m
          induction m with
          | zero => intro k M1 h1 h2; exact absurd h2 (by omega)
          | succ m ih =>
            intro k M1 hk hm0 hR1 hfr1
            have p9 := hR1.m9
            have pL := hR1.so.1.1
            refine e_iload h dX10_keeps_38 (pc := 38) rfl ?_
            refine e_aload_n h dX10_keeps_40 (pc := 40) rfl ?_
            refine e_getR h fl_X10_71 dX10_keeps_41 (pc := 41) rfl (Nat.lt_of_lt_of_le (by decide) hN) rfl rfl (r := so) (by first | exact q9 | exact p9 | exact p9b) ?_
            refine e_getI h fl_X10_192 dX10_keeps_44 (pc := 44) hs.c0 hs.p0 (by decide) ?_
            refine e_icmp_ge h (tgt := 108) dX10_keeps_47 (pc := 47) (by decide) (by omega) (by omega) (fun hb47 => ?_) (fun hb47 => ?_)
            · refine e_iload_n h dX10_keeps_108 (pc := 108) rfl ?_
              refine e_if_ne h (tgt := 117) dX10_keeps_109 (pc := 109) (by decide) (by omega) (fun hb109 => ?_) (fun hb109 => ?_)
              · refine e_iload h dX10_keeps_117 (pc := 117) rfl ?_
                refine e_iret h hr ha dX10_keeps_119 (pc := 119) ?_
                have hkL : k = sL S := by omega
                rw [hkL]
                exact kt i n1 M1 _ rfl rfl hii (by omega) hzw (by unfold keepV; rw [if_neg (by omega)]) hR1 (fun p hp => hfr1 p (by omega) (by omega))
              · refine e_iload h dX10_keeps_112 (pc := 112) rfl ?_
                refine e_goto h dX10_keeps_114 (pc := 114) (tgt := 119) (by decide) ?_
                refine e_iret h hr ha dX10_keeps_119 (pc := 119) ?_
                have hkL : k = sL S := by omega
                rw [hkL]
                exact kt i n1 M1 _ rfl rfl hii (by omega) hzw (by unfold keepV; rw [if_pos (by omega)]) hR1 (fun p hp => hfr1 p (by omega) (by omega))
            · have hkl : k < sL S := by omega
              refine e_aload_n h dX10_keeps_50 (pc := 50) rfl ?_
              refine e_getC h fl_X10_36 dX10_keeps_51 (pc := 51) rfl (Nat.lt_of_lt_of_le (by decide) hN) rfl rfl (r := 57) rfl ?_
              refine e_aload_n h dX10_keeps_54 (pc := 54) rfl ?_
              refine e_getR h fl_X10_71 dX10_keeps_55 (pc := 55) rfl (Nat.lt_of_lt_of_le (by decide) hN) rfl rfl (r := so) (by first | exact q9 | exact p9 | exact p9b) ?_
              refine e_iload_n h dX10_keeps_58 (pc := 58) rfl ?_
              refine e_iload h dX10_keeps_59 (pc := 59) rfl ?_
              refine e_aload_n h dX10_keeps_61 (pc := 61) rfl ?_
              refine e_getR h fl_X10_71 dX10_keeps_62 (pc := 62) rfl (Nat.lt_of_lt_of_le (by decide) hN) rfl rfl (r := so) (by first | exact q9 | exact p9 | exact p9b) ?_
              refine e_getC h fl_X10_170 dX10_keeps_65 (pc := 65) hs.c0 hs.p0 rfl rfl (r := (so + 4)) (pcr_d (by rw [hs.c0]; decide) 3) ?_
              refine e_iload_n h dX10_keeps_68 (pc := 68) rfl ?_
              refine e_iald h dX10_keeps_69 (pc := 69) hs.c4 hs.p4 rfl (by rw [hs.l4]; omega) ?_
              refine e_callV4 lk_X10_195 mv_X1_follow dX10_keeps_70 (pc := 70) rfl (by decide) (Nat.lt_of_lt_of_le (by decide) hN) (Nat.le_of_ble_eq_true rfl) (rmY := rmX1_follow) (by decide) h ?_
              refine c_follow (S := S) (O := O) (i := i) (l0 := k) (x0 := sF S i) rfl rfl (hR1.so.1.2.2.2.2.1 i hii).2.1 (isC_trial hN) hs hR1.so (by omega) hR.ws hR.wo hii (by omega) (w5 i hii).2.1 (fun M3 hcr hf3 => ?_)
              have q9 : M3 0 9 = so := by rw [hf3 0 9 (by omega)]; exact p9
              have hwf := crs_wf (S := S) (O := O) (i := i) (l0 := k) (x0 := sF S i) (by omega) (w5 i hii).2.1 (hR.wo.2.2 i hii)
              have hv : M3 60 n1 = ((crs S O i k (sF S i) n1).2.2 : Nat) := (hcr.2 n1 (by omega)).2.2
              have hv2 := (hwf n1).2.2
              have hbr := bm_rng (val := (fun l => ((crs S O i l (sF S i) n1).2.2 : Nat))) (s := -1) (B := 60) (by omega) (by omega) k (fun j hj => by
                have := (crs_wf (S := S) (O := O) (i := i) (l0 := j) (x0 := sF S i) (by omega) (w5 i hii).2.1 (hR.wo.2.2 i hii) n1).2.2
                show (0 : Int) ≤ ((crs S O i j (sF S i) n1).2.2 : Nat) ∧ (((crs S O i j (sF S i) n1).2.2 : Nat) : Int) ≤ 60
                omega)
              refine e_aload_n h dX10_keeps_73 (pc := 73) rfl ?_
              refine e_getC h fl_X10_36 dX10_keeps_74 (pc := 74) rfl (Nat.lt_of_lt_of_le (by decide) hN) rfl rfl (r := 57) rfl ?_
              refine e_getC h fl_X10_152 dX10_keeps_77 (pc := 77) rfl (Nat.lt_of_lt_of_le (by decide) hN) rfl rfl (r := 60) rfl ?_
              refine e_iload_n h dX10_keeps_80 (pc := 80) rfl ?_
              refine e_iald h dX10_keeps_81 (pc := 81) rfl (Nat.lt_of_lt_of_le (by decide) hN) rfl (by show _ < 61; omega) ?_
              refine e_iload h dX10_keeps_82 (pc := 82) rfl ?_
              refine e_icmp_le h (tgt := 102) dX10_keeps_84 (pc := 84) (by decide) (by omega) (by omega) (fun hb84 => ?_) (fun hb84 => ?_)
              · refine e_iinc6 h dX10_keeps_102 (pc := 102) (by decide) rfl ?_
                refine e_goto h dX10_keeps_105 (pc := 105) (tgt := 38) (by decide) ?_
                rw [show (k : Int) + 1 = ((k + 1 : Nat) : Int) by omega]
                have e : bm (fun l => ((crs S O i l (sF S i) n1).2.2 : Nat)) (-1) (k + 1) = _ := bm_n (by show ¬ (((crs S O i k (sF S i) n1).2.2 : Nat) : Int) > _; omega)
                exact cast (by rw [e]; rfl) (ih (k + 1) M3 (by omega) (by omega) ⟨hR1.ds, ((congrFun (by funext j; exact hf3 0 j (by omega)) 9).trans hR1.m9), ((congrFun (by funext j; exact hf3 0 j (by omega)) 10).trans hR1.m10), (hR1.tx.to (by funext j; exact hf3 1 j (by omega)) (by funext j; exact hf3 2 j (by omega))), (hR1.so.to (fun p a b => (by funext j; exact hf3 p j (by omega)))), hR1.ws, hR1.wo, (hR1.bs.to (by funext j; exact hf3 (so + 12) j (by omega))), (hR1.bd.to (by funext j; exact hf3 (dr + 12) j (by omega))), (hR1.hr.to (by funext j; exact hf3 67 j (by omega)) (by funext j; exact hf3 68 j (by omega)) (by funext j; exact hf3 69 j (by omega))), hR1.h8, hR1.hw, ((congrFun (by funext j; exact hf3 70 j (by omega)) 1).trans hR1.m70), hR1.z2, (hR1.kp.to hR1.z2 (fun p a b => (by funext j; exact hf3 p j (by omega)))), (hR1.fc.to hR1.ws.2.1.2 (congrFun (by funext j; exact hf3 0 j (by omega)) 11) (fun p a b => (by funext j; exact hf3 p j (by omega)))), (hR1.od.to (by funext j; exact hf3 64 j (by omega))), (hR1.ch.to (by funext j; exact hf3 61 j (by omega))), (hR1.ja.to (by funext j; exact hf3 62 j (by omega))), (hR1.jb.to (by funext j; exact hf3 63 j (by omega)))⟩ (fun p hp hp2 => by funext j; rw [hf3 p j (by omega), hfr1 p hp hp2]))
              · refine e_aload_n h dX10_keeps_87 (pc := 87) rfl ?_
                refine e_getC h fl_X10_36 dX10_keeps_88 (pc := 88) rfl (Nat.lt_of_lt_of_le (by decide) hN) rfl rfl (r := 57) rfl ?_
                refine e_getC h fl_X10_152 dX10_keeps_91 (pc := 91) rfl (Nat.lt_of_lt_of_le (by decide) hN) rfl rfl (r := 60) rfl ?_
                refine e_iload_n h dX10_keeps_94 (pc := 94) rfl ?_
                refine e_iald h dX10_keeps_95 (pc := 95) rfl (Nat.lt_of_lt_of_le (by decide) hN) rfl (by show _ < 61; omega) ?_
                refine e_istore5 h dX10_keeps_96 (pc := 96) (by decide) rfl ?_
                refine e_iload h dX10_keeps_98 (pc := 98) rfl ?_
                refine e_istore4 h dX10_keeps_100 (pc := 100) (by decide) rfl ?_
                refine e_iinc6 h dX10_keeps_102 (pc := 102) (by decide) rfl ?_
                refine e_goto h dX10_keeps_105 (pc := 105) (tgt := 38) (by decide) ?_
                rw [show (k : Int) + 1 = ((k + 1 : Nat) : Int) by omega]
                have e : bm (fun l => ((crs S O i l (sF S i) n1).2.2 : Nat)) (-1) (k + 1) = _ := bm_y (by show (((crs S O i k (sF S i) n1).2.2 : Nat) : Int) > _; omega)
                exact cast (by rw [e]; rw [hv]; rfl) (ih (k + 1) M3 (by omega) (by omega) ⟨hR1.ds, ((congrFun (by funext j; exact hf3 0 j (by omega)) 9).trans hR1.m9), ((congrFun (by funext j; exact hf3 0 j (by omega)) 10).trans hR1.m10), (hR1.tx.to (by funext j; exact hf3 1 j (by omega)) (by funext j; exact hf3 2 j (by omega))), (hR1.so.to (fun p a b => (by funext j; exact hf3 p j (by omega)))), hR1.ws, hR1.wo, (hR1.bs.to (by funext j; exact hf3 (so + 12) j (by omega))), (hR1.bd.to (by funext j; exact hf3 (dr + 12) j (by omega))), (hR1.hr.to (by funext j; exact hf3 67 j (by omega)) (by funext j; exact hf3 68 j (by omega)) (by funext j; exact hf3 69 j (by omega))), hR1.h8, hR1.hw, ((congrFun (by funext j; exact hf3 70 j (by omega)) 1).trans hR1.m70), hR1.z2, (hR1.kp.to hR1.z2 (fun p a b => (by funext j; exact hf3 p j (by omega)))), (hR1.fc.to hR1.ws.2.1.2 (congrFun (by funext j; exact hf3 0 j (by omega)) 11) (fun p a b => (by funext j; exact hf3 p j (by omega)))), (hR1.od.to (by funext j; exact hf3 64 j (by omega))), (hR1.ch.to (by funext j; exact hf3 61 j (by omega))), (hR1.ja.to (by funext j; exact hf3 62 j (by omega))), (hR1.jb.to (by funext j; exact hf3 63 j (by omega)))⟩ (fun p hp hp2 => by funext j; rw [hf3 p j (by omega), hfr1 p hp hp2]))
        exact loop (sL S + 1) 0 M (by omega) (by omega) hR (fun _ _ _ => rfl)
      · skip
        refine e_if_ne h (tgt := 29) dX10_keeps_24 (pc := 24) (by decide) (by decide) (fun hz => absurd hz (by decide)) (fun _ => ?_)
        refine e_iconst h dX10_keeps_27 (pc := 27)  ?_
        refine e_iret h hr ha dX10_keeps_28 (pc := 28) ?_
        exact kb (by omega)
    · skip
      refine e_if_eq h (tgt := 27) dX10_keeps_15 (pc := 15) (by decide) (by decide) (fun _ => ?_) (fun hz => absurd hz (by decide))
      refine e_iconst h dX10_keeps_27 (pc := 27)  ?_
      refine e_iret h hr ha dX10_keeps_28 (pc := 28) ?_
      exact kb (by omega)
  · skip
    refine e_if_eq h (tgt := 27) dX10_keeps_5 (pc := 5) (by decide) (by decide) (fun _ => ?_) (fun hz => absurd hz (by decide))
    refine e_iconst h dX10_keeps_27 (pc := 27)  ?_
    refine e_iret h hr ha dX10_keeps_28 (pc := 28) ?_
    exact kb (by omega)
