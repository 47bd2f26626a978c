theorem OR_cp {O : SD} {T q s : Nat} {M M2 : Mem} (h : OR O T M s (s + 1) (s + 2) (s + 3) (s + 4)) (hc : CP M M2 q s) (h8 : oE O ≤ 8) (hT : T ≤ 6) : OR O T M2 q (q + 1) (q + 2) (q + 3) (q + 4) := by
  obtain ⟨a, b, c⟩ := h
  obtain ⟨d, e, f⟩ := hc
  refine ⟨by rw [d]; exact a, fun k hk => ?_, fun i hi => by rw [f i (by omega)]; exact c i hi⟩
  have z := e k (by omega)
  rw [z.1, z.2.1, z.2.2]
  exact b k hk
theorem BO_cp {q s : Nat} {M M2 : Mem} (h : BO M (s + 3)) (hc : CP M M2 q s) : BO M2 (q + 3) := fun k hk => by rw [(hc.2.1 k hk).2.2]; exact h k hk
def putK (K : Nat → SD) (z : Nat) (O : SD) : Nat → SD := fun k => if k = z then O else K k
theorem tellO_E {O : SD} {t d u : Nat} : oE (tellO O t d u) = oE O + 1 := rfl
theorem OR_tell {O : SD} {T q q1 q2 q3 q4 t d u : Nat} {M : Mem} (h : OR O T M q q1 q2 q3 q4) (h1 : q < q1) (h2 : q1 < q2) (h3 : q2 < q3) (h4 : q3 < q4) : OR (tellO O t d u) T (up (up (up (up M q1 (oE O) t) q2 (oE O) d) q3 (oE O) u) q 4 (M q 4 + 1)) q q1 q2 q3 q4 := by
  obtain ⟨a, b, c⟩ := h
  refine ⟨by rw [up_eq, a, tellO_E]; omega, fun k hk => ?_, fun i hi => by simp (disch := omega) only [up_ne]; exact c i hi⟩
  rw [tellO_E] at hk
  by_cases e : k = oE O
  · subst e
    refine ⟨?_, ?_, ?_⟩
    · simp (disch := omega) only [up_eq, up_ne]; simp [tellO, upS, oW]
    · simp (disch := omega) only [up_eq, up_ne]; simp [tellO, upS, oD]
    · simp (disch := omega) only [up_eq, up_ne]; simp [tellO, upS, oU]
  · have z := b k (by omega)
    refine ⟨?_, ?_, ?_⟩
    · simp (disch := omega) only [up_eq, up_ne]; rw [z.1]; simp [tellO, upS, oW, e]
    · simp (disch := omega) only [up_eq, up_ne]; rw [z.2.1]; simp [tellO, upS, oD, e]
    · simp (disch := omega) only [up_eq, up_ne]; rw [z.2.2]; simp [tellO, upS, oU, e]
theorem WO_tell {O : SD} {T t d u : Nat} (h : WO O T) (h8 : oE O < 8) (ht : t < T) (hd : 1 ≤ d ∧ d ≤ 60) (hu : u ≤ 1) : WO (tellO O t d u) T := by
  obtain ⟨a, b, c⟩ := h
  refine ⟨by rw [tellO_E]; omega, fun k hk => ?_, fun i hi => by have := c i hi; simpa [tellO, upS, oG] using this⟩
  rw [tellO_E] at hk
  by_cases e : k = oE O
  · subst e
    simp [tellO, upS, oW, oD, oU]
    exact ⟨ht, hd.1, hd.2, hu⟩
  · have z := b k (by omega)
    simpa [tellO, upS, oW, oD, oU, e] using z
theorem OR_gas {O : SD} {T q q1 q2 q3 q4 i x : Nat} {M : Mem} (h : OR O T M q q1 q2 q3 q4) (h1 : q < q1) (h2 : q1 < q2) (h3 : q2 < q3) (h4 : q3 < q4) : OR (upS O 4 i x) T (up M q4 i (x : Int)) q q1 q2 q3 q4 := by
  obtain ⟨a, b, c⟩ := h
  refine ⟨by rw [up_ne (by omega), a]; rfl, fun k hk => ?_, fun j hj => ?_⟩
  · have z := b k hk
    simp (disch := omega) only [up_ne]
    exact z
  · by_cases e : j = i
    · subst e; rw [up_eq]; simp [upS, oG]
    · rw [up_ne (by omega), c j hj]; simp [upS, oG, e]
theorem WO_gas {O : SD} {T i x : Nat} (h : WO O T) (hx : x ≤ 60) : WO (upS O 4 i x) T := by
  obtain ⟨a, b, c⟩ := h
  refine ⟨a, b, fun j hj => ?_⟩
  by_cases e : j = i
  · subst e; simp [upS, oG]; exact hx
  · have := c j hj; simpa [upS, oG, e] using this
theorem OR_drop {O : SD} {T q q1 q2 q3 q4 : Nat} {M : Mem} {v : Int} (h : OR O T M q q1 q2 q3 q4) (h1 : q < q1) (h2 : q1 < q2) (h3 : q2 < q3) (h4 : q3 < q4) (he : 0 < oE O) (hv : v = M q 4 - 1) : OR (upS O 0 0 (oE O - 1)) T (up M q 4 v) q q1 q2 q3 q4 := by
  obtain ⟨a, b, c⟩ := h
  have e : oE (upS O 0 0 (oE O - 1)) = oE O - 1 := rfl
  refine ⟨by rw [up_eq, hv, a, e]; omega, fun k hk => ?_, fun j hj => by rw [up_ne (by omega)]; exact c j hj⟩
  rw [e] at hk
  have z := b k (by omega)
  simp (disch := omega) only [up_ne]
  exact z
theorem WO_drop {O : SD} {T : Nat} (h : WO O T) : WO (upS O 0 0 (oE O - 1)) T := by
  obtain ⟨a, b, c⟩ := h
  have e : oE (upS O 0 0 (oE O - 1)) = oE O - 1 := rfl
  exact ⟨by omega, fun k hk => b k (by omega), c⟩
theorem HW_0 {O : SD} {T : Nat} {f g : Nat → Int} : HW O T 0 f g := ⟨Nat.zero_le _, fun k hk => absurd hk (by omega)⟩
theorem HW_back {O O2 : SD} {T h0 : Nat} {f g : Nat → Int} (h : HW O T (h0 + 1) f g) (hO : oE O ≤ oE O2 + if g h0 = -1 then 1 else 0) : HW O2 T h0 f g := by
  refine ⟨?_, fun k hk => h.2 k (by omega)⟩
  have z : cE g h0 + (if g h0 = -1 then 1 else 0) ≤ oE O := h.1
  omega
def undoO (O : SD) (h0 : Nat) (f g : Nat → Int) : SD := if g (h0 - 1) = -1 then upS O 0 0 (oE O - 1) else upS O 4 (f (h0 - 1)).toNat (g (h0 - 1)).toNat
set_option maxRecDepth 100000 in
set_option maxHeartbeats 4000000 in
theorem c_wipe {gg : GT} {ad : Nat → Nat} {N : Nat} {M : Mem} {Post : Option AV → Mem → Prop} {so dr n : Nat} {b : TB} {S O : SD} {h0 : Nat} {f g : Nat → Int} {z : Nat} {K : Nat → SD}   (hN : 110 ≤ N) (hR : RepC so dr n b S O h0 f g z K M) (kt : ∀ (M2 : Mem) (v : Int), v = (n : Int) → RepC so dr 0 b S O h0 f g z K M2 → (∀ p, 110 ≤ p → M2 p = M p) → Post (some (vi v)) M2) : Sp gg yX10_wipe cX10_wipe 2 (some .int) rmX10_wipe [vr 0] ad N pT M Post := by
  refine Sp.intro (ls := [some (vr 0), none]) (by decide +kernel) rfl (Nat.le_of_ble_eq_true rfl) fun κ hgg h hr ha => ?_
  have h : Ok κ RX10 cX10_wipe 2 rmX10_wipe := h
  subst hgg
  obtain ⟨hs, hdr, hs82, hdr82, hsd, hs96, hd96⟩ := hR.isS hN
  have hm9 := hR.m9
  have hm10 := hR.m10
  have hwL := hR.ws.1
  have hwT := hR.ws.2.1
  have r9 := hR.so.1.1
  have r10 := hR.so.1.2.1
  have r11 := hR.so.1.2.2.1
  have w4 := hR.ws.2.2.2.1
  have w5 := hR.ws.2.2.2.2.1
  refine e_aload_n h dX10_wipe_0 (pc := 0) rfl ?_
  refine e_getC h fl_X10_10 dX10_wipe_1 (pc := 1) rfl (Nat.lt_of_lt_of_le (by decide) hN) rfl rfl (r := 1) rfl ?_
  refine e_getI h fl_X10_105 dX10_wipe_4 (pc := 4) rfl (Nat.lt_of_lt_of_le (by decide) hN) (by decide) ?_
  refine e_istore1 h dX10_wipe_7 (pc := 7) (by decide) rfl ?_
  refine e_aload_n h dX10_wipe_8 (pc := 8) rfl ?_
  refine e_getC h fl_X10_10 dX10_wipe_9 (pc := 9) rfl (Nat.lt_of_lt_of_le (by decide) hN) rfl rfl (r := 1) rfl ?_
  refine e_callV0 lk_X10_102 mv_X9_clear dX10_wipe_12 (pc := 12) rfl (by decide) (Nat.lt_of_lt_of_le (by decide) hN) (Nat.le_of_ble_eq_true rfl) (rmY := rmX9_clear) (by decide) h ?_
  refine c_tclear hN ?_
  refine e_iload_n h dX10_wipe_15 (pc := 15) rfl ?_
  refine e_iret h hr ha dX10_wipe_16 (pc := 16) ?_
  exact kt _ _ hR.tx.1 ⟨hR.ds, ((congrFun (up_row (by omega)) 9).trans hR.m9), ((congrFun (up_row (by omega)) 10).trans hR.m10), ⟨up_eq _ _ _ _, by omega, fun k hk => absurd hk (by omega)⟩, (hR.so.to (fun p a b => (up_row (by omega)))), hR.ws, hR.wo, (hR.bs.to (up_row (by omega))), (hR.bd.to (up_row (by omega))), (hR.hr.to (up_row (by omega)) (up_row (by omega)) (up_row (by omega))), hR.h8, hR.hw, ((congrFun (up_row (by omega)) 1).trans hR.m70), hR.z2, (hR.kp.to hR.z2 (fun p a b => (up_row (by omega)))), (hR.fc.to hR.ws.2.1.2 (congrFun (up_row (by omega)) 11) (fun p a b => (up_row (by omega)))), (hR.od.to (up_row (by omega))), (hR.ch.to (up_row (by omega))), (hR.ja.to (up_row (by omega))), (hR.jb.to (up_row (by omega)))⟩ (fun p hp => up_row (by omega))
set_option maxRecDepth 100000 in
set_option maxHeartbeats 4000000 in
theorem c_fault {gg : GT} {ad : Nat → Nat} {N : Nat} {M : Mem} {Post : Option AV → Mem → Prop} {so dr n : Nat} {b : TB} {S O : SD} {h0 : Nat} {f g : Nat → Int} {z : Nat} {K : Nat → SD}   (hN : 110 ≤ N) (hR : RepC so dr n b S O h0 f g z K M) (kt : ∀ (M2 : Mem) (v : Int), v = (rd b n 301 0 (e0, e0)).1 → RepC so dr n b S O h0 f g z K M2 → (∀ p, 110 ≤ p → M2 p = M p) → Post (some (vi v)) M2) : Sp gg yX10_fault cX10_fault 1 (some .int) rmX10_fault [vr 0] ad N pT M Post := by
  refine Sp.intro (ls := [some (vr 0)]) (by decide +kernel) rfl (Nat.le_of_ble_eq_true rfl) fun κ hgg h hr ha => ?_
  have h : Ok κ RX10 cX10_fault 1 rmX10_fault := h
  subst hgg
  obtain ⟨hs, hdr, hs82, hdr82, hsd, hs96, hd96⟩ := hR.isS hN
  have hm9 := hR.m9
  have hm10 := hR.m10
  have hwL := hR.ws.1
  have hwT := hR.ws.2.1
  have r9 := hR.so.1.1
  have r10 := hR.so.1.2.1
  have r11 := hR.so.1.2.2.1
  have w4 := hR.ws.2.2.2.1
  have w5 := hR.ws.2.2.2.2.1
  refine e_aload_n h dX10_fault_0 (pc := 0) rfl ?_
  refine e_getC h fl_X10_19 dX10_fault_1 (pc := 1) rfl (Nat.lt_of_lt_of_le (by decide) hN) rfl rfl (r := 3) rfl ?_
  refine e_aload_n h dX10_fault_4 (pc := 4) rfl ?_
  refine e_getC h fl_X10_10 dX10_fault_5 (pc := 5) rfl (Nat.lt_of_lt_of_le (by decide) hN) rfl rfl (r := 1) rfl ?_
  refine e_aload_n h dX10_fault_8 (pc := 8) rfl ?_
  refine e_getR h fl_X10_75 dX10_fault_9 (pc := 9) rfl (Nat.lt_of_lt_of_le (by decide) hN) rfl rfl (r := dr) (by first | exact hm102 | exact hm10 | (simp (disch := omega) only [up_ne]; exact hm10)) ?_
  refine e_callV2 lk_X10_98 mv_X6_read dX10_fault_12 (pc := 12) rfl (by decide) (Nat.lt_of_lt_of_le (by decide) hN) (Nat.le_of_ble_eq_true rfl) (rmY := rmX6_read) (by decide) h ?_
  refine c_read hN hdr (by omega) hR.tx hR.bd (fun M2 res c2 hrd hso hbo hfr => ?_)
  refine e_iret h hr ha dX10_fault_15 (pc := 15) ?_
  exact kt M2 res (by rw [hrd]) ⟨hR.ds, ((congrFun (hfr 0 (by omega) (by omega) (by omega)) 9).trans hR.m9), ((congrFun (hfr 0 (by omega) (by omega) (by omega)) 10).trans hR.m10), (hR.tx.to (hfr 1 (by omega) (by omega) (by omega)) (hfr 2 (by omega) (by omega) (by omega))), (hR.so.to (fun p a b => (hfr p (by omega) (by omega) (by omega)))), hR.ws, hR.wo, (hR.bs.to (hfr (so + 12) (by omega) (by omega) (by omega))), hbo, (hR.hr.to (hfr 67 (by omega) (by omega) (by omega)) (hfr 68 (by omega) (by omega) (by omega)) (hfr 69 (by omega) (by omega) (by omega))), hR.h8, hR.hw, ((congrFun (hfr 70 (by omega) (by omega) (by omega)) 1).trans hR.m70), hR.z2, (hR.kp.to hR.z2 (fun p a b => (hfr p (by omega) (by omega) (by omega)))), (hR.fc.to hR.ws.2.1.2 (congrFun (hfr 0 (by omega) (by omega) (by omega)) 11) (fun p a b => (hfr p (by omega) (by omega) (by omega)))), (hR.od.to (hfr 64 (by omega) (by omega) (by omega))), (hR.ch.to (hfr 61 (by omega) (by omega) (by omega))), (hR.ja.to (hfr 62 (by omega) (by omega) (by omega))), (hR.jb.to (hfr 63 (by omega) (by omega) (by omega)))⟩ (fun p hp => hfr p (by omega) (by omega) (by omega))
set_option maxRecDepth 100000 in
set_option maxHeartbeats 4000000 in
theorem c_keep {gg : GT} {ad : Nat → Nat} {N : Nat} {M : Mem} {Post : Option AV → Mem → Prop} {so dr n : Nat} {b : TB} {S O : SD} {h0 : Nat} {f g : Nat → Int} {z : Nat} {K : Nat → SD}   (hN : 110 ≤ N) (hR : RepC so dr n b S O h0 f g z K M) (kb : z = 2 → Post (some (vi (-3))) M) (kt : z < 2 → ∀ (M2 : Mem) (v : Int), v = ((z + 1 : Nat) : Int) → RepC so dr n b S O h0 f g (z + 1) (putK K z O) M2 → (∀ p, 110 ≤ p → M2 p = M p) → Post (some (vi v)) M2) : Sp gg yX10_keep cX10_keep 1 (some .int) rmX10_keep [vr 0] ad N pT M Post := by
  refine Sp.intro (ls := [some (vr 0)]) (by decide +kernel) rfl (Nat.le_of_ble_eq_true rfl) fun κ hgg h hr ha => ?_
  have h : Ok κ RX10 cX10_keep 1 rmX10_keep := h
  subst hgg
  obtain ⟨hs, hdr, hs82, hdr82, hsd, hs96, hd96⟩ := hR.isS hN
  have hm9 := hR.m9
  have hm10 := hR.m10
  have hwL := hR.ws.1
  have hwT := hR.ws.2.1
  have r9 := hR.so.1.1
  have r10 := hR.so.1.2.1
  have r11 := hR.so.1.2.2.1
  have w4 := hR.ws.2.2.2.1
  have w5 := hR.ws.2.2.2.2.1
  refine e_aload_n h dX10_keep_0 (pc := 0) rfl ?_
  refine e_getC h fl_X10_64 dX10_keep_1 (pc := 1) rfl (Nat.lt_of_lt_of_le (by decide) hN) rfl rfl (r := 70) rfl ?_
  refine e_aload_n h dX10_keep_4 (pc := 4) rfl ?_
  refine e_getR h fl_X10_71 dX10_keep_5 (pc := 5) rfl (Nat.lt_of_lt_of_le (by decide) hN) rfl rfl (r := so) (by first | exact hm92 | exact hm9 | (simp (disch := omega) only [up_ne]; exact hm9)) ?_
  refine e_getC h fl_X10_222 dX10_keep_8 (pc := 8) hs.c0 hs.p0 rfl rfl (r := (so + 9)) (pcr_d (by rw [hs.c0]; decide) 8) ?_
  refine e_callV1 lk_X10_254 mv_X7_put dX10_keep_11 (pc := 11) rfl (by decide) (Nat.lt_of_lt_of_le (by decide) hN) (Nat.le_of_ble_eq_true rfl) (rmY := rmX7_put) (by decide) h ?_
  have z2 := hR.z2
  refine c_put (s := so + 9) (z := z) hN hs.o (by omega) hR.m70 hR.z2 hR.bs (fun hz M2 g1 g2 g3 => ?_) (fun hz => ?_)
  · skip
    refine e_if_ne h (tgt := 20) dX10_keep_14 (pc := 14) (by decide) (by decide) (fun _ => ?_) (fun hz => absurd hz (by decide))
    refine e_aload_n h dX10_keep_20 (pc := 20) rfl ?_
    refine e_getC h fl_X10_64 dX10_keep_21 (pc := 21) rfl (Nat.lt_of_lt_of_le (by decide) hN) rfl rfl (r := 70) rfl ?_
    refine e_getI h fl_X10_257 dX10_keep_24 (pc := 24) rfl (Nat.lt_of_lt_of_le (by decide) hN) (by decide) ?_
    refine e_iret h hr ha dX10_keep_27 (pc := 27) ?_
    exact kt hz M2 _ g1 ⟨hR.ds, ((congrFun (g3 0 (by omega)) 9).trans hR.m9), ((congrFun (g3 0 (by omega)) 10).trans hR.m10), (hR.tx.to (g3 1 (by omega)) (g3 2 (by omega))), (hR.so.to (fun p a b => (g3 p (by omega)))), hR.ws, hR.wo, (hR.bs.to (g3 (so + 12) (by omega))), (hR.bd.to (g3 (dr + 12) (by omega))), (hR.hr.to (g3 67 (by omega)) (g3 68 (by omega)) (g3 69 (by omega))), hR.h8, hR.hw, g1, (by omega), (fun k hk => by
      by_cases e : k = z
      · subst e
        have hx : putK K k O k = O := if_pos rfl
        rw [hx]
        exact ⟨OR_cp hR.so.2 g2 hR.wo.1 hwT.2, hR.wo, BO_cp hR.bs g2⟩
      · have hx : putK K z O k = K k := if_neg e
        rw [hx]
        have q := hR.kp k (by omega)
        exact ⟨q.1.to (g3 _ (by omega)) (g3 _ (by omega)) (g3 _ (by omega)) (g3 _ (by omega)) (g3 _ (by omega)), q.2.1, q.2.2.to (g3 _ (by omega))⟩), (hR.fc.to hR.ws.2.1.2 (congrFun (g3 0 (by omega)) 11) (fun p a b => (g3 p (by omega)))), (hR.od.to (g3 64 (by omega))), (hR.ch.to (g3 61 (by omega))), (hR.ja.to (g3 62 (by omega))), (hR.jb.to (g3 63 (by omega)))⟩ (fun p hp => g3 p (by omega))
  · skip
    refine e_if_ne h (tgt := 20) dX10_keep_14 (pc := 14) (by decide) (by decide) (fun hz => absurd hz (by decide)) (fun _ => ?_)
    refine e_bipush h dX10_keep_17 (pc := 17) (by decide +kernel) ?_
    refine e_iret h hr ha dX10_keep_19 (pc := 19) ?_
    exact kb hz
set_option maxRecDepth 100000 in
set_option maxHeartbeats 4000000 in
theorem c_back {gg : GT} {ad : Nat → Nat} {N : Nat} {M : Mem} {Post : Option AV → Mem → Prop} {so dr n : Nat} {b : TB} {S O : SD} {h0 : Nat} {f g : Nat → Int} {z : Nat} {K : Nat → SD}   (hN : 110 ≤ N) (hR : RepC so dr n b S O h0 f g z K M) (kb : z = 0 → Post (some (vi (-2))) M) (kt : 0 < z → ∀ (M2 : Mem) (v : Int), v = ((z - 1 : Nat) : Int) → RepC so dr n b S (K (z - 1)) 0 f g (z - 1) K M2 → (∀ p, 110 ≤ p → M2 p = M p) → Post (some (vi v)) M2) : Sp gg yX10_back cX10_back 1 (some .int) rmX10_back [vr 0] ad N pT M Post := by
  refine Sp.intro (ls := [some (vr 0)]) (by decide +kernel) rfl (Nat.le_of_ble_eq_true rfl) fun κ hgg h hr ha => ?_
  have h : Ok κ RX10 cX10_back 1 rmX10_back := h
  subst hgg
  obtain ⟨hs, hdr, hs82, hdr82, hsd, hs96, hd96⟩ := hR.isS hN
  have hm9 := hR.m9
  have hm10 := hR.m10
  have hwL := hR.ws.1
  have hwT := hR.ws.2.1
  have r9 := hR.so.1.1
  have r10 := hR.so.1.2.1
  have r11 := hR.so.1.2.2.1
  have w4 := hR.ws.2.2.2.1
  have w5 := hR.ws.2.2.2.2.1
  refine e_aload_n h dX10_back_0 (pc := 0) rfl ?_
  refine e_getC h fl_X10_64 dX10_back_1 (pc := 1) rfl (Nat.lt_of_lt_of_le (by decide) hN) rfl rfl (r := 70) rfl ?_
  refine e_aload_n h dX10_back_4 (pc := 4) rfl ?_
  refine e_getR h fl_X10_71 dX10_back_5 (pc := 5) rfl (Nat.lt_of_lt_of_le (by decide) hN) rfl rfl (r := so) (by first | exact hm92 | exact hm9 | (simp (disch := omega) only [up_ne]; exact hm9)) ?_
  refine e_getC h fl_X10_222 dX10_back_8 (pc := 8) hs.c0 hs.p0 rfl rfl (r := (so + 9)) (pcr_d (by rw [hs.c0]; decide) 8) ?_
  refine e_callV1 lk_X10_258 mv_X7_take dX10_back_11 (pc := 11) rfl (by decide) (Nat.lt_of_lt_of_le (by decide) hN) (Nat.le_of_ble_eq_true rfl) (rmY := rmX7_take) (by decide) h ?_
  have z2 := hR.z2
  refine c_take (q := so + 9) (z := z) hN hs.o (by omega) hR.m70 hR.z2 (fun hz => (hR.kp (z - 1) (by omega)).2.2) (fun hz M2 g1 g2 g3 => ?_) (fun hz => ?_)
  · have hkz := hR.kp (z - 1) (by omega)
    refine e_if_ne h (tgt := 20) dX10_back_14 (pc := 14) (by decide) (by decide) (fun _ => ?_) (fun hz => absurd hz (by decide))
    refine e_aload_n h dX10_back_20 (pc := 20) rfl ?_
    refine e_getC h fl_X10_57 dX10_back_21 (pc := 21) rfl (Nat.lt_of_lt_of_le (by decide) hN) rfl rfl (r := 67) rfl ?_
    refine e_callV0 lk_X10_112 mv_X3_clear dX10_back_24 (pc := 24) rfl (by decide) (Nat.lt_of_lt_of_le (by decide) hN) (Nat.le_of_ble_eq_true rfl) (rmY := rmX3_clear) (by decide) h ?_
    refine c_hclear hN ?_
    refine e_aload_n h dX10_back_27 (pc := 27) rfl ?_
    refine e_iconst h dX10_back_28 (pc := 28)  ?_
    refine e_putZ h fl_X10_78 dX10_back_29 (pc := 29) rfl (Nat.lt_of_lt_of_le (by decide) hN) rfl (by decide) ?_
    refine e_aload_n h dX10_back_32 (pc := 32) rfl ?_
    refine e_getC h fl_X10_64 dX10_back_33 (pc := 33) rfl (Nat.lt_of_lt_of_le (by decide) hN) rfl rfl (r := 70) rfl ?_
    refine e_getI h fl_X10_257 dX10_back_36 (pc := 36) rfl (Nat.lt_of_lt_of_le (by decide) hN) (by decide) ?_
    try simp (disch := omega) only [up_eq, up_ne]
    refine e_iret h hr ha dX10_back_39 (pc := 39) ?_
    exact kt hz _ _ (by first | exact g1 | simp (disch := omega) only [up_ne]; exact g1) ⟨hR.ds, (by simp (disch := omega) only [up_eq, up_ne]; rw [g3 0 (by omega)]; exact hR.m9), (by simp (disch := omega) only [up_eq, up_ne]; rw [g3 0 (by omega)]; exact hR.m10), (hR.tx.to (by rw [up_row (by omega), up_row (by omega)]; exact g3 1 (by omega)) (by rw [up_row (by omega), up_row (by omega)]; exact g3 2 (by omega))), ⟨hR.so.1.to (fun p a b => by rw [up_row (by omega), up_row (by omega)]; exact g3 p (by omega)), (OR_cp hkz.1 g2 hkz.2.1.1 hwT.2).to (by rw [up_row (by omega), up_row (by omega)]) (by rw [up_row (by omega), up_row (by omega)]) (by rw [up_row (by omega), up_row (by omega)]) (by rw [up_row (by omega), up_row (by omega)]) (by rw [up_row (by omega), up_row (by omega)])⟩, hR.ws, hkz.2.1, ((BO_cp hkz.2.2 g2).to (by rw [up_row (by omega), up_row (by omega)])), (hR.bd.to (by rw [up_row (by omega), up_row (by omega)]; exact g3 (dr + 12) (by omega))), ⟨by simp (disch := omega) only [up_eq, up_ne]; rfl, fun k hk => absurd hk (by omega)⟩, (by omega), HW_0, (by simp (disch := omega) only [up_eq, up_ne]; exact g1), (by omega), (fun k hk => by
      have q := hR.kp k (by omega)
      have e : ∀ p, 72 ≤ p → p < 82 → up (up M2 67 2 0) 0 11 1 p = M p := fun p h1 h2 => by rw [up_row (by omega), up_row (by omega)]; exact g3 p (by omega)
      exact ⟨q.1.to (e _ (by omega) (by omega)) (e _ (by omega) (by omega)) (e _ (by omega) (by omega)) (e _ (by omega) (by omega)) (e _ (by omega) (by omega)), q.2.1, q.2.2.to (e _ (by omega) (by omega))⟩), (Or.inl (up_eq _ _ _ _)), (hR.od.to (by rw [up_row (by omega), up_row (by omega)]; exact g3 64 (by omega))), (hR.ch.to (by rw [up_row (by omega), up_row (by omega)]; exact g3 61 (by omega))), (hR.ja.to (by rw [up_row (by omega), up_row (by omega)]; exact g3 62 (by omega))), (hR.jb.to (by rw [up_row (by omega), up_row (by omega)]; exact g3 63 (by omega)))⟩ (fun p hp => by rw [up_row (by omega), up_row (by omega)]; exact g3 p (by omega))
  · skip
    refine e_if_ne h (tgt := 20) dX10_back_14 (pc := 14) (by decide) (by decide) (fun hz => absurd hz (by decide)) (fun _ => ?_)
    refine e_bipush h dX10_back_17 (pc := 17) (by decide +kernel) ?_
    refine e_iret h hr ha dX10_back_19 (pc := 19) ?_
    exact kb hz
