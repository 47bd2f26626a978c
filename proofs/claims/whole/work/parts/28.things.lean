set_option maxRecDepth 100000 in
set_option maxHeartbeats 4000000 in
theorem c_fitting {gg : GT} {ad : Nat → Nat} {N : Nat} {M : Mem} {Post : Option AV → Mem → Prop} {so dr n : Nat} {b : TB} {S O : SD} {h0 : Nat} {f g : Nat → Int} {z : Nat} {K : Nat → SD} {x1 y1 n1 : Nat}  {xx1 : Int} (hxx1 : xx1 = (x1 : Int)) {xy1 : Int} (hxy1 : xy1 = (y1 : Int)) {xn1 : Int} (hxn1 : xn1 = (n1 : Int))  (hN : 110 ≤ N) (hR : RepC so dr n b S O h0 f g z K M) (hx1 : x1 ≤ 23) (hy1 : y1 ≤ 23) (hn1 : n1 ≤ 99) (Kf : Post (some (vi ((fit S x1 y1 n1 (sL S) : Nat) : Int))) M) : Sp gg yX10_fitting cX10_fitting 6 (some .int) rmX10_fitting [vr 0, vi xx1, vi xy1, vi xn1] ad N pT M Post := by
  refine Sp.intro (ls := [some (vr 0), some (vi xx1), some (vi xy1), some (vi xn1), none, none]) (by decide +kernel) rfl (Nat.le_of_ble_eq_true rfl) fun κ hgg h hr ha => ?_
  have h : Ok κ RX10 cX10_fitting 6 rmX10_fitting := h
  subst hgg
  subst hxx1
  subst hxy1
  subst hxn1
  obtain ⟨hs, hdr, hs82, hdr82, hsd, hs96, hd96⟩ := hR.isS hN
  have hm9 := hR.m9
  have hm10 := hR.m10
  have hwL := hR.ws.1
  have hwT := hR.ws.2.1
  have r9 := hR.so.1.1
  have r10 := hR.so.1.2.1
  have r11 := hR.so.1.2.2.1
  have w4 := hR.ws.2.2.2.1
  have w5 := hR.ws.2.2.2.2.1
  have loop : ∀ (m k : Nat), k ≤ sL S → sL S < k + m → E κ ad N pT M 6 [some (vr 0), some (vi (x1 : Int)), some (vi (y1 : Int)), some (vi (n1 : Int)), some (vi ((fit S x1 y1 n1 k : Nat) : Int)), some (vi (k : Int))] [] (0, 0) (QR κ ad N pT Post) := by
    intro m
    induction m with
    | zero => intro k h1 h2; exact absurd h2 (by omega)
    | succ m ih =>
      intro k hk hm0
      refine e_iload h dX10_fitting_6 (pc := 6) rfl ?_
      refine e_aload_n h dX10_fitting_8 (pc := 8) rfl ?_
      refine e_getR h fl_X10_71 dX10_fitting_9 (pc := 9) rfl (Nat.lt_of_lt_of_le (by decide) hN) rfl rfl (r := so) (by first | exact hm92 | exact hm9 | (simp (disch := omega) only [up_ne]; exact hm9)) ?_
      refine e_getI h fl_X10_192 dX10_fitting_12 (pc := 12) hs.c0 hs.p0 (by decide) ?_
      refine e_icmp_ge h (tgt := 54) dX10_fitting_15 (pc := 15) (by decide) (by omega) (by omega) (fun hb15 => ?_) (fun hb15 => ?_)
      · refine e_iload h dX10_fitting_54 (pc := 54) rfl ?_
        refine e_iret h hr ha dX10_fitting_56 (pc := 56) ?_
        exact cast (by rw [show sL S = k by omega]) Kf
      · refine e_iload_n h dX10_fitting_18 (pc := 18) rfl ?_
        refine e_iload_n h dX10_fitting_19 (pc := 19) rfl ?_
        refine e_aload_n h dX10_fitting_20 (pc := 20) rfl ?_
        refine e_getR h fl_X10_71 dX10_fitting_21 (pc := 21) rfl (Nat.lt_of_lt_of_le (by decide) hN) rfl rfl (r := so) (by first | exact hm92 | exact hm9 | (simp (disch := omega) only [up_ne]; exact hm9)) ?_
        refine e_getC h fl_X10_125 dX10_fitting_24 (pc := 24) hs.c0 hs.p0 rfl rfl (r := (so + 1)) (pcr_d (by rw [hs.c0]; decide) 0) ?_
        refine e_iload h dX10_fitting_27 (pc := 27) rfl ?_
        refine e_iald h dX10_fitting_29 (pc := 29) hs.c1 hs.p1 rfl (by rw [hs.l1]; omega) ?_
        rw [(hR.so.1.2.2.2.1 k (by omega)).1]
        refine e_imul h dX10_fitting_30 (pc := 30)  ?_
        have hpk := (w4 k (by omega)).1
        have hm := Nat.mul_le_mul hn1 hpk
        rw [show (n1 : Int) * (sP S k : Int) = ((n1 * sP S k : Nat) : Int) from (Int.natCast_mul _ _).symm]
        refine e_iadd h dX10_fitting_31 (pc := 31)  ?_
        refine e_callS1 lk_X10_173 ms_X10_round dX10_fitting_32 (pc := 32) (Nat.le_of_ble_eq_true rfl) (rmY := rmX10_round) (by decide) h ?_
        refine c_round (by omega) ?_
        refine e_iload_n h dX10_fitting_35 (pc := 35) rfl ?_
        refine e_icmp_ne h (tgt := 48) dX10_fitting_36 (pc := 36) (by decide) (by omega) (by omega) (fun hb36 => ?_) (fun hb36 => ?_)
        · refine e_iinc5 h dX10_fitting_48 (pc := 48) (by decide) rfl ?_
          refine e_goto h dX10_fitting_51 (pc := 51) (tgt := 6) (by decide) ?_
          rw [show (k : Int) + 1 = ((k + 1 : Nat) : Int) by omega]
          exact cast (by rw [show fit S x1 y1 n1 (k + 1) = fit S x1 y1 n1 k by show (if _ then _ else _) = _; rw [if_neg (by omega)]]; rfl) (ih (k + 1) (by omega) (by omega))
        · refine e_iload h dX10_fitting_39 (pc := 39) rfl ?_
          refine e_iconst h dX10_fitting_41 (pc := 41)  ?_
          refine e_iload h dX10_fitting_42 (pc := 42) rfl ?_
          refine e_ishl h dX10_fitting_44 (pc := 44) (L32_shl1 k (by omega)) ?_
          refine e_ior h dX10_fitting_45 (pc := 45) (L32_or (fit S x1 y1 n1 k) (1 <<< k)) ?_
          refine e_istore4 h dX10_fitting_46 (pc := 46) (by decide) rfl ?_
          refine e_iinc5 h dX10_fitting_48 (pc := 48) (by decide) rfl ?_
          refine e_goto h dX10_fitting_51 (pc := 51) (tgt := 6) (by decide) ?_
          rw [show (k : Int) + 1 = ((k + 1 : Nat) : Int) by omega]
          exact cast (by rw [show fit S x1 y1 n1 (k + 1) = fit S x1 y1 n1 k ||| (1 <<< k) by show (if _ then _ else _) = _; rw [if_pos (by omega)]]; rfl) (ih (k + 1) (by omega) (by omega))
  refine e_iconst h dX10_fitting_0 (pc := 0)  ?_
  refine e_istore4 h dX10_fitting_1 (pc := 1) (by decide) rfl ?_
  refine e_iconst h dX10_fitting_3 (pc := 3)  ?_
  refine e_istore5 h dX10_fitting_4 (pc := 4) (by decide) rfl ?_
  exact loop (sL S + 1) 0 (by omega) (by omega)
set_option maxRecDepth 100000 in
set_option maxHeartbeats 4000000 in
theorem c_seen {gg : GT} {ad : Nat → Nat} {N : Nat} {M : Mem} {Post : Option AV → Mem → Prop} {so dr n : Nat} {b : TB} {S O : SD} {h0 : Nat} {f g : Nat → Int} {z : Nat} {K : Nat → SD} {x y m : Int}   (hN : 110 ≤ N) (hR : RepC so dr n b S O h0 f g z K M) (hxx : (-2147483648 ≤ x ∧ x ≤ 2147483647)) (hxy : (-2147483648 ≤ y ∧ y ≤ 2147483647)) (hxm : (-2147483648 ≤ m ∧ m ≤ 2147483647)) (kb : ¬ (0 ≤ x ∧ x ≤ 23 ∧ 0 ≤ y ∧ y ≤ 23 ∧ 1 ≤ m ∧ m ≤ 99) → Post (some (vi (-1))) M) (kt : ∀ (x1 y1 n1 : Nat) (v : Int), x = (x1 : Int) → y = (y1 : Int) → m = (n1 : Int) → x1 ≤ 23 → y1 ≤ 23 → (1 ≤ n1 ∧ n1 ≤ 99) → v = ((fit S x1 y1 n1 (sL S) : Nat) : Int) → Post (some (vi v)) M) : Sp gg yX10_seen cX10_seen 4 (some .int) rmX10_seen [vr 0, vi x, vi y, vi m] ad N pT M Post := by
  refine Sp.intro (ls := [some (vr 0), some (vi x), some (vi y), some (vi m)]) (by decide +kernel) rfl (Nat.le_of_ble_eq_true rfl) fun κ hgg h hr ha => ?_
  have h : Ok κ RX10 cX10_seen 4 rmX10_seen := h
  subst hgg
  obtain ⟨hs, hdr, hs82, hdr82, hsd, hs96, hd96⟩ := hR.isS hN
  have hm9 := hR.m9
  have hm10 := hR.m10
  have hwL := hR.ws.1
  have hwT := hR.ws.2.1
  have r9 := hR.so.1.1
  have r10 := hR.so.1.2.1
  have r11 := hR.so.1.2.2.1
  have w4 := hR.ws.2.2.2.1
  have w5 := hR.ws.2.2.2.2.1
  refine e_iload_n h dX10_seen_0 (pc := 0) rfl ?_
  refine e_callS1 lk_X10_203 ms_X10_isPlace dX10_seen_1 (pc := 1) (Nat.le_of_ble_eq_true rfl) (rmY := rmX10_isPlace) (by decide) h ?_
  refine c_isPlace hxx (fun hzx => ?_) (fun hzx => ?_)
  · obtain ⟨x1, rfl⟩ : ∃ kk : Nat, x = (kk : Int) := ⟨x.toNat, by omega⟩
    refine e_if_eq h (tgt := 24) dX10_seen_4 (pc := 4) (by decide) (by decide) (fun hz => absurd hz (by decide)) (fun _ => ?_)
    refine e_iload_n h dX10_seen_7 (pc := 7) rfl ?_
    refine e_callS1 lk_X10_203 ms_X10_isPlace dX10_seen_8 (pc := 8) (Nat.le_of_ble_eq_true rfl) (rmY := rmX10_isPlace) (by decide) h ?_
    refine c_isPlace hxy (fun hzy => ?_) (fun hzy => ?_)
    · obtain ⟨y1, rfl⟩ : ∃ kk : Nat, y = (kk : Int) := ⟨y.toNat, by omega⟩
      refine e_if_eq h (tgt := 24) dX10_seen_11 (pc := 11) (by decide) (by decide) (fun hz => absurd hz (by decide)) (fun _ => ?_)
      refine e_iload_n h dX10_seen_14 (pc := 14) rfl ?_
      refine e_iconst h dX10_seen_15 (pc := 15)  ?_
      refine e_bipush h dX10_seen_16 (pc := 16) (by decide +kernel) ?_
      refine e_callS3 lk_X10_121 ms_X10_isWithin dX10_seen_18 (pc := 18) (Nat.le_of_ble_eq_true rfl) (rmY := rmX10_isWithin) (by decide) h ?_
      refine c_isWithin hxm (by decide) (by decide) (fun hzm => ?_) (fun hzm => ?_)
      · obtain ⟨n1, rfl⟩ : ∃ kk : Nat, m = (kk : Int) := ⟨m.toNat, by omega⟩
        refine e_if_ne h (tgt := 26) dX10_seen_21 (pc := 21) (by decide) (by decide) (fun _ => ?_) (fun hz => absurd hz (by decide))
        refine e_aload_n h dX10_seen_26 (pc := 26) rfl ?_
        refine e_iload_n h dX10_seen_27 (pc := 27) rfl ?_
        refine e_iload_n h dX10_seen_28 (pc := 28) rfl ?_
        refine e_iload_n h dX10_seen_29 (pc := 29) rfl ?_
        refine e_callV3 lk_X10_206 mv_X10_fitting dX10_seen_30 (pc := 30) rfl (by decide) (Nat.lt_of_lt_of_le (by decide) hN) (Nat.le_of_ble_eq_true rfl) (rmY := rmX10_fitting) (by decide) h ?_
        refine c_fitting rfl rfl rfl hN hR (by omega) (by omega) (by omega) ?_
        refine e_iret h hr ha dX10_seen_33 (pc := 33) ?_
        exact kt x1 y1 n1 _ rfl rfl rfl (by omega) (by omega) (by omega) rfl
      · skip
        refine e_if_ne h (tgt := 26) dX10_seen_21 (pc := 21) (by decide) (by decide) (fun hz => absurd hz (by decide)) (fun _ => ?_)
        refine e_iconst h dX10_seen_24 (pc := 24)  ?_
        refine e_iret h hr ha dX10_seen_25 (pc := 25) ?_
        exact kb (by omega)
    · skip
      refine e_if_eq h (tgt := 24) dX10_seen_11 (pc := 11) (by decide) (by decide) (fun _ => ?_) (fun hz => absurd hz (by decide))
      refine e_iconst h dX10_seen_24 (pc := 24)  ?_
      refine e_iret h hr ha dX10_seen_25 (pc := 25) ?_
      exact kb (by omega)
  · skip
    refine e_if_eq h (tgt := 24) dX10_seen_4 (pc := 4) (by decide) (by decide) (fun _ => ?_) (fun hz => absurd hz (by decide))
    refine e_iconst h dX10_seen_24 (pc := 24)  ?_
    refine e_iret h hr ha dX10_seen_25 (pc := 25) ?_
    exact kb (by omega)
set_option maxRecDepth 100000 in
set_option maxHeartbeats 4000000 in
theorem c_seenTwice {gg : GT} {ad : Nat → Nat} {N : Nat} {M : Mem} {Post : Option AV → Mem → Prop} {so dr n : Nat} {b : TB} {S O : SD} {h0 : Nat} {f g : Nat → Int} {z : Nat} {K : Nat → SD} {x y m u v : Int}   (hN : 110 ≤ N) (hR : RepC so dr n b S O h0 f g z K M) (hxx : (-2147483648 ≤ x ∧ x ≤ 2147483647)) (hxy : (-2147483648 ≤ y ∧ y ≤ 2147483647)) (hxm : (-2147483648 ≤ m ∧ m ≤ 2147483647)) (hxu : (-2147483648 ≤ u ∧ u ≤ 2147483647)) (hxv : (-2147483648 ≤ v ∧ v ≤ 2147483647)) (kb : ¬ (0 ≤ x ∧ x ≤ 23 ∧ 0 ≤ y ∧ y ≤ 23 ∧ 1 ≤ m ∧ m ≤ 99 ∧ 0 ≤ u ∧ u ≤ 23 ∧ 1 ≤ v ∧ v ≤ 99) → Post (some (vi (-1))) M) (kt : ∀ (x1 y1 n1 y2 n2 : Nat) (a : Int), x = (x1 : Int) → y = (y1 : Int) → m = (n1 : Int) → u = (y2 : Int) → v = (n2 : Int) → x1 ≤ 23 → y1 ≤ 23 → (1 ≤ n1 ∧ n1 ≤ 99) → y2 ≤ 23 → (1 ≤ n2 ∧ n2 ≤ 99) → a = ((fit S x1 y1 n1 (sL S) &&& fit S y1 y2 n2 (sL S) : Nat) : Int) → Post (some (vi a)) M) : Sp gg yX10_seenTwice cX10_seenTwice 6 (some .int) rmX10_seenTwice [vr 0, vi x, vi y, vi m, vi u, vi v] ad N pT M Post := by
  refine Sp.intro (ls := [some (vr 0), some (vi x), some (vi y), some (vi m), some (vi u), some (vi v)]) (by decide +kernel) rfl (Nat.le_of_ble_eq_true rfl) fun κ hgg h hr ha => ?_
  have h : Ok κ RX10 cX10_seenTwice 6 rmX10_seenTwice := h
  subst hgg
  obtain ⟨hs, hdr, hs82, hdr82, hsd, hs96, hd96⟩ := hR.isS hN
  have hm9 := hR.m9
  have hm10 := hR.m10
  have hwL := hR.ws.1
  have hwT := hR.ws.2.1
  have r9 := hR.so.1.1
  have r10 := hR.so.1.2.1
  have r11 := hR.so.1.2.2.1
  have w4 := hR.ws.2.2.2.1
  have w5 := hR.ws.2.2.2.2.1
  refine e_iload_n h dX10_seenTwice_0 (pc := 0) rfl ?_
  refine e_callS1 lk_X10_203 ms_X10_isPlace dX10_seenTwice_1 (pc := 1) (Nat.le_of_ble_eq_true rfl) (rmY := rmX10_isPlace) (by decide) h ?_
  refine c_isPlace hxx (fun hzx => ?_) (fun hzx => ?_)
  · obtain ⟨x1, rfl⟩ : ∃ kk : Nat, x = (kk : Int) := ⟨x.toNat, by omega⟩
    refine e_if_eq h (tgt := 24) dX10_seenTwice_4 (pc := 4) (by decide) (by decide) (fun hz => absurd hz (by decide)) (fun _ => ?_)
    refine e_iload_n h dX10_seenTwice_7 (pc := 7) rfl ?_
    refine e_callS1 lk_X10_203 ms_X10_isPlace dX10_seenTwice_8 (pc := 8) (Nat.le_of_ble_eq_true rfl) (rmY := rmX10_isPlace) (by decide) h ?_
    refine c_isPlace hxy (fun hzy => ?_) (fun hzy => ?_)
    · obtain ⟨y1, rfl⟩ : ∃ kk : Nat, y = (kk : Int) := ⟨y.toNat, by omega⟩
      refine e_if_eq h (tgt := 24) dX10_seenTwice_11 (pc := 11) (by decide) (by decide) (fun hz => absurd hz (by decide)) (fun _ => ?_)
      refine e_iload_n h dX10_seenTwice_14 (pc := 14) rfl ?_
      refine e_iconst h dX10_seenTwice_15 (pc := 15)  ?_
      refine e_bipush h dX10_seenTwice_16 (pc := 16) (by decide +kernel) ?_
      refine e_callS3 lk_X10_121 ms_X10_isWithin dX10_seenTwice_18 (pc := 18) (Nat.le_of_ble_eq_true rfl) (rmY := rmX10_isWithin) (by decide) h ?_
      refine c_isWithin hxm (by decide) (by decide) (fun hzm => ?_) (fun hzm => ?_)
      · obtain ⟨n1, rfl⟩ : ∃ kk : Nat, m = (kk : Int) := ⟨m.toNat, by omega⟩
        refine e_if_ne h (tgt := 26) dX10_seenTwice_21 (pc := 21) (by decide) (by decide) (fun _ => ?_) (fun hz => absurd hz (by decide))
        refine e_iload h dX10_seenTwice_26 (pc := 26) rfl ?_
        refine e_callS1 lk_X10_203 ms_X10_isPlace dX10_seenTwice_28 (pc := 28) (Nat.le_of_ble_eq_true rfl) (rmY := rmX10_isPlace) (by decide) h ?_
        refine c_isPlace hxu (fun hzu => ?_) (fun hzu => ?_)
        · obtain ⟨y2, rfl⟩ : ∃ kk : Nat, u = (kk : Int) := ⟨u.toNat, by omega⟩
          refine e_if_eq h (tgt := 45) dX10_seenTwice_31 (pc := 31) (by decide) (by decide) (fun hz => absurd hz (by decide)) (fun _ => ?_)
          refine e_iload h dX10_seenTwice_34 (pc := 34) rfl ?_
          refine e_iconst h dX10_seenTwice_36 (pc := 36)  ?_
          refine e_bipush h dX10_seenTwice_37 (pc := 37) (by decide +kernel) ?_
          refine e_callS3 lk_X10_121 ms_X10_isWithin dX10_seenTwice_39 (pc := 39) (Nat.le_of_ble_eq_true rfl) (rmY := rmX10_isWithin) (by decide) h ?_
          refine c_isWithin hxv (by decide) (by decide) (fun hzv => ?_) (fun hzv => ?_)
          · obtain ⟨n2, rfl⟩ : ∃ kk : Nat, v = (kk : Int) := ⟨v.toNat, by omega⟩
            refine e_if_ne h (tgt := 47) dX10_seenTwice_42 (pc := 42) (by decide) (by decide) (fun _ => ?_) (fun hz => absurd hz (by decide))
            refine e_aload_n h dX10_seenTwice_47 (pc := 47) rfl ?_
            refine e_iload_n h dX10_seenTwice_48 (pc := 48) rfl ?_
            refine e_iload_n h dX10_seenTwice_49 (pc := 49) rfl ?_
            refine e_iload_n h dX10_seenTwice_50 (pc := 50) rfl ?_
            refine e_callV3 lk_X10_206 mv_X10_fitting dX10_seenTwice_51 (pc := 51) rfl (by decide) (Nat.lt_of_lt_of_le (by decide) hN) (Nat.le_of_ble_eq_true rfl) (rmY := rmX10_fitting) (by decide) h ?_
            refine c_fitting rfl rfl rfl hN hR (by omega) (by omega) (by omega) ?_
            refine e_aload_n h dX10_seenTwice_54 (pc := 54) rfl ?_
            refine e_iload_n h dX10_seenTwice_55 (pc := 55) rfl ?_
            refine e_iload h dX10_seenTwice_56 (pc := 56) rfl ?_
            refine e_iload h dX10_seenTwice_58 (pc := 58) rfl ?_
            refine e_callV3 lk_X10_206 mv_X10_fitting dX10_seenTwice_60 (pc := 60) rfl (by decide) (Nat.lt_of_lt_of_le (by decide) hN) (Nat.le_of_ble_eq_true rfl) (rmY := rmX10_fitting) (by decide) h ?_
            refine c_fitting rfl rfl rfl hN hR (by omega) (by omega) (by omega) ?_
            refine e_iand h dX10_seenTwice_63 (pc := 63) (L32_and (fit S x1 y1 n1 (sL S)) (fit S y1 y2 n2 (sL S))) ?_
            refine e_iret h hr ha dX10_seenTwice_64 (pc := 64) ?_
            exact kt x1 y1 n1 y2 n2 _ rfl rfl rfl rfl rfl (by omega) (by omega) (by omega) (by omega) (by omega) rfl
          · skip
            refine e_if_ne h (tgt := 47) dX10_seenTwice_42 (pc := 42) (by decide) (by decide) (fun hz => absurd hz (by decide)) (fun _ => ?_)
            refine e_iconst h dX10_seenTwice_45 (pc := 45)  ?_
            refine e_iret h hr ha dX10_seenTwice_46 (pc := 46) ?_
            exact kb (by omega)
        · skip
          refine e_if_eq h (tgt := 45) dX10_seenTwice_31 (pc := 31) (by decide) (by decide) (fun _ => ?_) (fun hz => absurd hz (by decide))
          refine e_iconst h dX10_seenTwice_45 (pc := 45)  ?_
          refine e_iret h hr ha dX10_seenTwice_46 (pc := 46) ?_
          exact kb (by omega)
      · skip
        refine e_if_ne h (tgt := 26) dX10_seenTwice_21 (pc := 21) (by decide) (by decide) (fun hz => absurd hz (by decide)) (fun _ => ?_)
        refine e_iconst h dX10_seenTwice_24 (pc := 24)  ?_
        refine e_iret h hr ha dX10_seenTwice_25 (pc := 25) ?_
        exact kb (by omega)
    · skip
      refine e_if_eq h (tgt := 24) dX10_seenTwice_11 (pc := 11) (by decide) (by decide) (fun _ => ?_) (fun hz => absurd hz (by decide))
      refine e_iconst h dX10_seenTwice_24 (pc := 24)  ?_
      refine e_iret h hr ha dX10_seenTwice_25 (pc := 25) ?_
      exact kb (by omega)
  · skip
    refine e_if_eq h (tgt := 24) dX10_seenTwice_4 (pc := 4) (by decide) (by decide) (fun _ => ?_) (fun hz => absurd hz (by decide))
    refine e_iconst h dX10_seenTwice_24 (pc := 24)  ?_
    refine e_iret h hr ha dX10_seenTwice_25 (pc := 25) ?_
    exact kb (by omega)
set_option maxRecDepth 100000 in
set_option maxHeartbeats 4000000 in
theorem c_dropped {gg : GT} {ad : Nat → Nat} {N : Nat} {M : Mem} {Post : Option AV → Mem → Prop} {so dr n : Nat} {b : TB} {S O : SD} {h0 : Nat} {f g : Nat → Int} {z : Nat} {K : Nat → SD} {x y m w : Int}   (hN : 110 ≤ N) (hR : RepC so dr n b S O h0 f g z K M) (hxx : (-2147483648 ≤ x ∧ x ≤ 2147483647)) (hxy : (-2147483648 ≤ y ∧ y ≤ 2147483647)) (hxm : (-2147483648 ≤ m ∧ m ≤ 2147483647)) (hxw : (-2147483648 ≤ w ∧ w ≤ 2147483647)) (kb : ¬ (0 ≤ x ∧ x < sL S ∧ 0 ≤ y ∧ y ≤ 23 ∧ 0 ≤ m ∧ m ≤ 60 ∧ 0 ≤ w ∧ w ≤ 1) → Post (some (vi (-1))) M) (kt : ∀ (l x1 n1 : Nat) (v : Int), x = (l : Int) → y = (x1 : Int) → m = (n1 : Int) → l < sL S → x1 ≤ 23 → n1 ≤ 60 → 0 ≤ w ∧ w ≤ 1 → v = dropV S l x1 n1 w → Post (some (vi v)) M) : Sp gg yX10_dropped cX10_dropped 8 (some .int) rmX10_dropped [vr 0, vi x, vi y, vi m, vi w] ad N pT M Post := by
  refine Sp.intro (ls := [some (vr 0), some (vi x), some (vi y), some (vi m), some (vi w), none, none, none]) (by decide +kernel) rfl (Nat.le_of_ble_eq_true rfl) fun κ hgg h hr ha => ?_
  have h : Ok κ RX10 cX10_dropped 8 rmX10_dropped := h
  subst hgg
  obtain ⟨hs, hdr, hs82, hdr82, hsd, hs96, hd96⟩ := hR.isS hN
  have hm9 := hR.m9
  have hm10 := hR.m10
  have hwL := hR.ws.1
  have hwT := hR.ws.2.1
  have r9 := hR.so.1.1
  have r10 := hR.so.1.2.1
  have r11 := hR.so.1.2.2.1
  have w4 := hR.ws.2.2.2.1
  have w5 := hR.ws.2.2.2.2.1
  refine e_aload_n h dX10_dropped_0 (pc := 0) rfl ?_
  refine e_iload_n h dX10_dropped_1 (pc := 1) rfl ?_
  refine e_callV1 lk_X10_117 mv_X10_isLevel dX10_dropped_2 (pc := 2) rfl (by decide) (Nat.lt_of_lt_of_le (by decide) hN) (Nat.le_of_ble_eq_true rfl) (rmY := rmX10_isLevel) (by decide) h ?_
  refine c_isLevel hN hR hxx (fun l ex hil => ?_) (fun hzx => ?_)
  · subst ex
    refine e_if_eq h (tgt := 35) dX10_dropped_5 (pc := 5) (by decide) (by decide) (fun hz => absurd hz (by decide)) (fun _ => ?_)
    refine e_iload_n h dX10_dropped_8 (pc := 8) rfl ?_
    refine e_callS1 lk_X10_203 ms_X10_isPlace dX10_dropped_9 (pc := 9) (Nat.le_of_ble_eq_true rfl) (rmY := rmX10_isPlace) (by decide) h ?_
    refine c_isPlace hxy (fun hzy => ?_) (fun hzy => ?_)
    · obtain ⟨x1, rfl⟩ : ∃ kk : Nat, y = (kk : Int) := ⟨y.toNat, by omega⟩
      refine e_if_eq h (tgt := 35) dX10_dropped_12 (pc := 12) (by decide) (by decide) (fun hz => absurd hz (by decide)) (fun _ => ?_)
      refine e_iload_n h dX10_dropped_15 (pc := 15) rfl ?_
      refine e_iconst h dX10_dropped_16 (pc := 16)  ?_
      refine e_bipush h dX10_dropped_17 (pc := 17) (by decide +kernel) ?_
      refine e_callS3 lk_X10_121 ms_X10_isWithin dX10_dropped_19 (pc := 19) (Nat.le_of_ble_eq_true rfl) (rmY := rmX10_isWithin) (by decide) h ?_
      refine c_isWithin hxm (by decide) (by decide) (fun hzm => ?_) (fun hzm => ?_)
      · obtain ⟨n1, rfl⟩ : ∃ kk : Nat, m = (kk : Int) := ⟨m.toNat, by omega⟩
        refine e_if_eq h (tgt := 35) dX10_dropped_22 (pc := 22) (by decide) (by decide) (fun hz => absurd hz (by decide)) (fun _ => ?_)
        refine e_iload h dX10_dropped_25 (pc := 25) rfl ?_
        refine e_iconst h dX10_dropped_27 (pc := 27)  ?_
        refine e_iconst h dX10_dropped_28 (pc := 28)  ?_
        refine e_callS3 lk_X10_121 ms_X10_isWithin dX10_dropped_29 (pc := 29) (Nat.le_of_ble_eq_true rfl) (rmY := rmX10_isWithin) (by decide) h ?_
        refine c_isWithin hxw (by decide) (by decide) (fun hzw => ?_) (fun hzw => ?_)
        · skip
          refine e_if_ne h (tgt := 37) dX10_dropped_32 (pc := 32) (by decide) (by decide) (fun _ => ?_) (fun hz => absurd hz (by decide))
          refine e_iload_n h dX10_dropped_37 (pc := 37) rfl ?_
          refine e_iload_n h dX10_dropped_38 (pc := 38) rfl ?_
          refine e_isub h dX10_dropped_39 (pc := 39)  ?_
          refine e_istore5 h dX10_dropped_40 (pc := 40) (by decide) rfl ?_
          refine e_iload_n h dX10_dropped_42 (pc := 42) rfl ?_
          refine e_istore6 h dX10_dropped_43 (pc := 43) (by decide) rfl ?_
          refine e_iload_n h dX10_dropped_45 (pc := 45) rfl ?_
          refine e_istore7 h dX10_dropped_46 (pc := 46) (by decide) rfl ?_
          have loop : ∀ (m k : Nat), k + m = min n1 (l + 1) → E κ ad N pT M 48 [some (vr 0), some (vi (l : Int)), some (vi (x1 : Int)), some (vi (n1 : Int)), some (vi w), some (vi ((l : Int) - (n1 : Int))), some (vi ((dp S l x1 k : Nat) : Int)), some (vi ((l : Int) - (k : Int)))] [] (0, 0) (QR κ ad N pT Post) := by
            intro m
            induction m with
            | zero =>
              intro k hk
              refine e_iload h dX10_dropped_48 (pc := 48) rfl ?_
              refine e_if_lt h (tgt := 84) dX10_dropped_50 (pc := 50) (by decide) (by omega) (fun hb50 => ?_) (fun hb50 => ?_)
              · refine e_iload h dX10_dropped_84 (pc := 84) rfl ?_
                refine e_iconst h dX10_dropped_86 (pc := 86)  ?_
                refine e_icmp_ne h (tgt := 93) dX10_dropped_87 (pc := 87) (by decide) (by omega) (by decide) (fun hb87 => ?_) (fun hb87 => ?_)
                · refine e_iload h dX10_dropped_93 (pc := 93) rfl ?_
                  refine e_if_lt h (tgt := 103) dX10_dropped_95 (pc := 95) (by decide) (by omega) (fun hb95 => ?_) (fun hb95 => ?_)
                  · refine e_bipush h dX10_dropped_103 (pc := 103) (by decide +kernel) ?_
                    refine e_iret h hr ha dX10_dropped_105 (pc := 105) ?_
                    exact kt l x1 n1 _ rfl rfl rfl hil (by omega) (by omega) hzw (by unfold dropV; rw [if_neg (by omega), if_neg (by omega)])
                  · refine e_iload h dX10_dropped_98 (pc := 98) rfl ?_
                    refine e_goto h dX10_dropped_100 (pc := 100) (tgt := 105) (by decide) ?_
                    refine e_iret h hr ha dX10_dropped_105 (pc := 105) ?_
                    exact kt l x1 n1 _ rfl rfl rfl hil (by omega) (by omega) hzw (by unfold dropV; rw [if_neg (by omega), if_pos (by omega)]; omega)
                · refine e_iload h dX10_dropped_90 (pc := 90) rfl ?_
                  refine e_iret h hr ha dX10_dropped_92 (pc := 92) ?_
                  exact kt l x1 n1 _ rfl rfl rfl hil (by omega) (by omega) hzw (by unfold dropV; rw [if_pos (by omega), show min n1 (l + 1) = k by omega])
              · refine e_iload h dX10_dropped_53 (pc := 53) rfl ?_
                refine e_iload h dX10_dropped_55 (pc := 55) rfl ?_
                refine e_icmp_le h (tgt := 84) dX10_dropped_57 (pc := 57) (by decide) (by omega) (by omega) (fun hb57 => ?_) (fun hb57 => absurd hb57 (by omega))
                refine e_iload h dX10_dropped_84 (pc := 84) rfl ?_
                refine e_iconst h dX10_dropped_86 (pc := 86)  ?_
                refine e_icmp_ne h (tgt := 93) dX10_dropped_87 (pc := 87) (by decide) (by omega) (by decide) (fun hb87 => ?_) (fun hb87 => ?_)
                · refine e_iload h dX10_dropped_93 (pc := 93) rfl ?_
                  refine e_if_lt h (tgt := 103) dX10_dropped_95 (pc := 95) (by decide) (by omega) (fun hb95 => ?_) (fun hb95 => ?_)
                  · refine e_bipush h dX10_dropped_103 (pc := 103) (by decide +kernel) ?_
                    refine e_iret h hr ha dX10_dropped_105 (pc := 105) ?_
                    exact kt l x1 n1 _ rfl rfl rfl hil (by omega) (by omega) hzw (by unfold dropV; rw [if_neg (by omega), if_neg (by omega)])
                  · refine e_iload h dX10_dropped_98 (pc := 98) rfl ?_
                    refine e_goto h dX10_dropped_100 (pc := 100) (tgt := 105) (by decide) ?_
                    refine e_iret h hr ha dX10_dropped_105 (pc := 105) ?_
                    exact kt l x1 n1 _ rfl rfl rfl hil (by omega) (by omega) hzw (by unfold dropV; rw [if_neg (by omega), if_pos (by omega)]; omega)
                · refine e_iload h dX10_dropped_90 (pc := 90) rfl ?_
                  refine e_iret h hr ha dX10_dropped_92 (pc := 92) ?_
                  exact kt l x1 n1 _ rfl rfl rfl hil (by omega) (by omega) hzw (by unfold dropV; rw [if_pos (by omega), show min n1 (l + 1) = k by omega])
            | succ m ih =>
              intro k hk
              refine e_iload h dX10_dropped_48 (pc := 48) rfl ?_
              refine e_if_lt h (tgt := 84) dX10_dropped_50 (pc := 50) (by decide) (by omega) (fun hb50 => absurd hb50 (by omega)) (fun hb50 => ?_)
              refine e_iload h dX10_dropped_53 (pc := 53) rfl ?_
              refine e_iload h dX10_dropped_55 (pc := 55) rfl ?_
              refine e_icmp_le h (tgt := 84) dX10_dropped_57 (pc := 57) (by decide) (by omega) (by omega) (fun hb57 => absurd hb57 (by omega)) (fun hb57 => ?_)
              refine e_iload h dX10_dropped_60 (pc := 60) rfl ?_
              refine e_aload_n h dX10_dropped_62 (pc := 62) rfl ?_
              refine e_getR h fl_X10_71 dX10_dropped_63 (pc := 63) rfl (Nat.lt_of_lt_of_le (by decide) hN) rfl rfl (r := so) (by first | exact hm92 | exact hm9 | (simp (disch := omega) only [up_ne]; exact hm9)) ?_
              refine e_getC h fl_X10_125 dX10_dropped_66 (pc := 66) hs.c0 hs.p0 rfl rfl (r := (so + 1)) (pcr_d (by rw [hs.c0]; decide) 0) ?_
              refine e_iload h dX10_dropped_69 (pc := 69) rfl ?_
              refine e_iald h dX10_dropped_71 (pc := 71) hs.c1 hs.p1 (j := (l - k)) (by omega) (by rw [hs.l1]; omega) ?_
              rw [(hR.so.1.2.2.2.1 (l - k) (by omega)).1]
              have hpk := (w4 (l - k) (by omega)).1
              have hdp := dp_lt (S := S) (l := l) (x := x1) (by omega) k
              refine e_iadd h dX10_dropped_72 (pc := 72)  ?_
              refine e_callS1 lk_X10_173 ms_X10_round dX10_dropped_73 (pc := 73) (Nat.le_of_ble_eq_true rfl) (rmY := rmX10_round) (by decide) h ?_
              refine c_round (by omega) ?_
              rw [show ((dp S l x1 k : Nat) + (sP S (l - k) : Nat) : Int) % 24 = ((dp S l x1 (k + 1) : Nat) : Int) by show _ = (((dp S l x1 k + sP S (l - k)) % 24 : Nat) : Int); omega]
              refine e_istore6 h dX10_dropped_76 (pc := 76) (by decide) rfl ?_
              refine e_iinc7 h dX10_dropped_78 (pc := 78) (by decide) rfl ?_
              refine e_goto h dX10_dropped_81 (pc := 81) (tgt := 48) (by decide) ?_
              rw [show (l : Int) - (k : Int) + -1 = (l : Int) - ((k + 1 : Nat) : Int) by omega]
              exact ih (k + 1) (by omega)
          exact cast (by congr 3) (loop (min n1 (l + 1)) 0 (by omega))
        · skip
          refine e_if_ne h (tgt := 37) dX10_dropped_32 (pc := 32) (by decide) (by decide) (fun hz => absurd hz (by decide)) (fun _ => ?_)
          refine e_iconst h dX10_dropped_35 (pc := 35)  ?_
          refine e_iret h hr ha dX10_dropped_36 (pc := 36) ?_
          exact kb (by omega)
      · skip
        refine e_if_eq h (tgt := 35) dX10_dropped_22 (pc := 22) (by decide) (by decide) (fun _ => ?_) (fun hz => absurd hz (by decide))
        refine e_iconst h dX10_dropped_35 (pc := 35)  ?_
        refine e_iret h hr ha dX10_dropped_36 (pc := 36) ?_
        exact kb (by omega)
    · skip
      refine e_if_eq h (tgt := 35) dX10_dropped_12 (pc := 12) (by decide) (by decide) (fun _ => ?_) (fun hz => absurd hz (by decide))
      refine e_iconst h dX10_dropped_35 (pc := 35)  ?_
      refine e_iret h hr ha dX10_dropped_36 (pc := 36) ?_
      exact kb (by omega)
  · skip
    refine e_if_eq h (tgt := 35) dX10_dropped_5 (pc := 5) (by decide) (by decide) (fun _ => ?_) (fun hz => absurd hz (by decide))
    refine e_iconst h dX10_dropped_35 (pc := 35)  ?_
    refine e_iret h hr ha dX10_dropped_36 (pc := 36) ?_
    exact kb (by omega)
