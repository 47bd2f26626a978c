theorem e_lstore12 {κ : KT} {own : String} {cc : ByteArray} {nL : Nat} {rm : Room} {ad : Nat → Nat} {N : Nat} {ph : Phs} {M : Mem} {pc : Nat} {st : List AV} {cs : Nat × Nat} {Q : State → Prop} {a b c d0 e0 f0 g0 h0 i0 j0 k1 l0 z y : Option AV} {t : List (Option AV)} (h : Ok κ own cc nL rm) (d : decode cc pc = .ok (.lstore 12, 2)) {x : Int} (hi : 13 < nL) (hnl : nl l0 = true) (k : E κ ad N ph M (pc + 2) (a :: b :: c :: d0 :: e0 :: f0 :: g0 :: h0 :: i0 :: j0 :: k1 :: l0 :: some (vj x) :: none :: t) st cs Q) : E κ ad N ph M pc (a :: b :: c :: d0 :: e0 :: f0 :: g0 :: h0 :: i0 :: j0 :: k1 :: l0 :: z :: y :: t) (vj x :: st) cs Q :=
  e_lstore_g h (i := 12) d hi (fun j w hj => by
    match j, hj with
    | 0, hj => exact Or.inr ⟨by decide, by decide, hj, fun q => absurd q (by decide)⟩
    | 1, hj => exact Or.inr ⟨by decide, by decide, hj, fun q => absurd q (by decide)⟩
    | 2, hj => exact Or.inr ⟨by decide, by decide, hj, fun q => absurd q (by decide)⟩
    | 3, hj => exact Or.inr ⟨by decide, by decide, hj, fun q => absurd q (by decide)⟩
    | 4, hj => exact Or.inr ⟨by decide, by decide, hj, fun q => absurd q (by decide)⟩
    | 5, hj => exact Or.inr ⟨by decide, by decide, hj, fun q => absurd q (by decide)⟩
    | 6, hj => exact Or.inr ⟨by decide, by decide, hj, fun q => absurd q (by decide)⟩
    | 7, hj => exact Or.inr ⟨by decide, by decide, hj, fun q => absurd q (by decide)⟩
    | 8, hj => exact Or.inr ⟨by decide, by decide, hj, fun q => absurd q (by decide)⟩
    | 9, hj => exact Or.inr ⟨by decide, by decide, hj, fun q => absurd q (by decide)⟩
    | 10, hj => exact Or.inr ⟨by decide, by decide, hj, fun q => absurd q (by decide)⟩
    | 11, hj => exact Or.inr ⟨by decide, by decide, hj, fun _ => by have e := Option.some.inj hj; rw [← e]; exact hnl⟩
    | 12, hj => exact Or.inl ⟨rfl, (Option.some.inj (Option.some.inj hj)).symm⟩
    | 13, hj => exact absurd (Option.some.inj hj) (fun q => by cases q)
    | q + 14, hj => exact Or.inr ⟨by omega, by omega, hj, fun z => absurd z (by omega)⟩) k
set_option maxRecDepth 100000 in
set_option maxHeartbeats 4000000 in
theorem m_gusts {gg : GT} {ad : Nat → Nat} {N : Nat} {M : Mem} {Post : Option AV → Mem → Prop} {n : Nat} {b : TB} {S O : SD} {h0 : Nat} {f g : Nat → Int} {z : Nat} {K : Nat → SD} {x y m k w : Int}   (hN : 139 ≤ N) (hR : RepM n b S O h0 f g z K M) (hxx : (-2147483648 ≤ x ∧ x ≤ 2147483647)) (hxy : (-2147483648 ≤ y ∧ y ≤ 2147483647)) (hxm : (-2147483648 ≤ m ∧ m ≤ 2147483647)) (hxk : (-2147483648 ≤ k ∧ k ≤ 2147483647)) (hxw : (-2147483648 ≤ w ∧ w ≤ 2147483647)) (kb : ¬ (0 ≤ x ∧ x < sL S ∧ 0 ≤ y ∧ y < sL S ∧ 0 ≤ m ∧ m ≤ 10 ∧ 0 ≤ k ∧ k ≤ 9 ∧ 0 ≤ w ∧ w ≤ 1) → Post (some (vj (-1))) M) (kt : ∀ (l t x1 n1 : Nat) (M2 : Mem) (v : Int), x = (l : Int) → y = (t : Int) → m = (x1 : Int) → k = (n1 : Int) → l < sL S → t < sL S → x1 ≤ 10 → n1 ≤ 9 → 0 ≤ w ∧ w ≤ 1 → v = gustV S l t x1 n1 w → RepM n b S O h0 f g z K M2 → (∀ p, p < 110 → M2 p = M p) → Post (some (vj v)) M2) : Sp gg yX11_gusts cX11_gusts 14 (some .long) rmX11_gusts [vr 110, vi x, vi y, vi m, vi k, vi w] ad N pT M Post := by
  refine Sp.intro (ls := [some (vr 110), some (vi x), some (vi y), some (vi m), some (vi k), some (vi w), none, none, none, none, none, none, none, none]) (by decide +kernel) rfl (Nat.le_of_ble_eq_true rfl) fun κ hgg h hr ha => ?_
  have h : Ok κ RX11 cX11_gusts 14 rmX11_gusts := h
  subst hgg
  have hwL := hR.ws.1
  have hwT := hR.ws.2.1
  have hwB := hR.ws.2.2.1
  have w4 := hR.ws.2.2.2.1
  have w5 := hR.ws.2.2.2.2.1
  have r9 := hR.ms.1
  have r10 := hR.ms.2.1
  have r11 := hR.ms.2.2.1
  refine e_aload_n h dX11_gusts_0 (pc := 0) rfl ?_
  refine e_iload_n h dX11_gusts_1 (pc := 1) rfl ?_
  refine e_callV1 lk_X11_156 mv_X11_isLevel dX11_gusts_2 (pc := 2) rfl (by decide) (Nat.lt_of_lt_of_le (by decide) hN) (Nat.le_of_ble_eq_true rfl) (rmY := rmX11_isLevel) (by decide) h ?_
  refine m_isLevel hN hR hxx (fun l ex hil => ?_) (fun hzx => ?_)
  · subst ex
    refine e_if_eq h (tgt := 52) dX11_gusts_5 (pc := 5) (by decide) (by decide) (fun hz => absurd hz (by decide)) (fun _ => ?_)
    refine e_aload_n h dX11_gusts_8 (pc := 8) rfl ?_
    refine e_iload_n h dX11_gusts_9 (pc := 9) rfl ?_
    refine e_callV1 lk_X11_156 mv_X11_isLevel dX11_gusts_10 (pc := 10) rfl (by decide) (Nat.lt_of_lt_of_le (by decide) hN) (Nat.le_of_ble_eq_true rfl) (rmY := rmX11_isLevel) (by decide) h ?_
    refine m_isLevel hN hR hxy (fun t ey hit => ?_) (fun hzy => ?_)
    · subst ey
      refine e_if_eq h (tgt := 52) dX11_gusts_13 (pc := 13) (by decide) (by decide) (fun hz => absurd hz (by decide)) (fun _ => ?_)
      refine e_iload_n h dX11_gusts_16 (pc := 16) rfl ?_
      refine e_i2l h dX11_gusts_17 (pc := 17) (by omega) ?_
      refine e_lconst h dX11_gusts_18 (pc := 18) (x := 0) rfl ?_
      refine e_ldc2 h dX11_gusts_19 (pc := 19) (x := 10) kl_X11_222 rfl ?_
      refine e_callS3 lk_X11_97 ms_X11_in dX11_gusts_22 (pc := 22) (Nat.le_of_ble_eq_true rfl) (rmY := rmX11_in) (by decide) h ?_
      refine c_in (by omega) (by omega) (by omega) (fun hzm => ?_) (fun hzm => ?_)
      · obtain ⟨x1, rfl⟩ : ∃ kk : Nat, m = (kk : Int) := ⟨m.toNat, by omega⟩
        refine e_if_eq h (tgt := 52) dX11_gusts_25 (pc := 25) (by decide) (by decide) (fun hz => absurd hz (by decide)) (fun _ => ?_)
        refine e_iload h dX11_gusts_28 (pc := 28) rfl ?_
        refine e_i2l h dX11_gusts_30 (pc := 30) (by omega) ?_
        refine e_lconst h dX11_gusts_31 (pc := 31) (x := 0) rfl ?_
        refine e_ldc2 h dX11_gusts_32 (pc := 32) (x := 9) kl_X11_120 rfl ?_
        refine e_callS3 lk_X11_97 ms_X11_in dX11_gusts_35 (pc := 35) (Nat.le_of_ble_eq_true rfl) (rmY := rmX11_in) (by decide) h ?_
        refine c_in (by omega) (by omega) (by omega) (fun hzk => ?_) (fun hzk => ?_)
        · obtain ⟨n1, rfl⟩ : ∃ kk : Nat, k = (kk : Int) := ⟨k.toNat, by omega⟩
          refine e_if_eq h (tgt := 52) dX11_gusts_38 (pc := 38) (by decide) (by decide) (fun hz => absurd hz (by decide)) (fun _ => ?_)
          refine e_iload h dX11_gusts_41 (pc := 41) rfl ?_
          refine e_i2l h dX11_gusts_43 (pc := 43) (by omega) ?_
          refine e_lconst h dX11_gusts_44 (pc := 44) (x := 0) rfl ?_
          refine e_lconst h dX11_gusts_45 (pc := 45) (x := 1) rfl ?_
          refine e_callS3 lk_X11_97 ms_X11_in dX11_gusts_46 (pc := 46) (Nat.le_of_ble_eq_true rfl) (rmY := rmX11_in) (by decide) h ?_
          refine c_in (by omega) (by omega) (by omega) (fun hzw => ?_) (fun hzw => ?_)
          · skip
            refine e_if_ne h (tgt := 56) dX11_gusts_49 (pc := 49) (by decide) (by decide) (fun _ => ?_) (fun hz => absurd hz (by decide))
            refine e_iconst h dX11_gusts_56 (pc := 56)  ?_
            refine e_istore6 h dX11_gusts_57 (pc := 57) (by decide) rfl ?_
            have hx10 : x1 ≤ 10 := by omega
            have hn9 : n1 ≤ 9 := by omega
            have finE : ∀ (M1 : Mem), (∀ j, j < sL S → M1 136 j = ((gw (sL S) l x1 n1 j : Nat) : Int)) → (∀ q, q ≠ 136 → q ≠ 137 → M1 q = M q) → E κ ad N pT M1 265 [some (vr 110), some (vi (l : Int)), some (vi (t : Int)), some (vi (x1 : Int)), some (vi (n1 : Int)), some (vi w), some (vj ((pw n1 : Nat) : Int)), none, none, none, none, none, none, none] [] (0, 0) (QR κ ad N pT Post) := by
              intro M1 hg0 hfr
              have hpb := p60_le n1 hn9
              have hgb := gw_le (l := l) hx10 (show sL S ≤ 6 by omega) n1 t
              have hpp : 0 < pw n1 := by rw [pw_eq]; exact Nat.mul_pos (Nat.pow_pos (by decide)) (Nat.pow_pos (by decide))
              have hgt := hg0 t hit
              have loopE : ∀ (m a b0 : Nat), b0 < m → a ≤ 10077696000000000 → b0 ≤ 10077696000000000 → Nat.gcd a b0 = Nat.gcd (gw (sL S) l x1 n1 t) (pw n1) → E κ ad N pT M1 277 [some (vr 110), some (vi (l : Int)), some (vi (t : Int)), some (vi (x1 : Int)), some (vi (n1 : Int)), some (vi w), some (vj ((pw n1 : Nat) : Int)), none, some (vj ((a : Nat) : Int)), none, some (vj ((b0 : Nat) : Int)), none, none, none] [] (0, 0) (QR κ ad N pT Post) := by
                intro m
                induction m with
                | zero => intro a b0 h1; exact absurd h1 (by omega)
                | succ m ihE =>
                  intro a b0 hbm hab hbb hGc
                  refine e_lload h dX11_gusts_277 (pc := 277) rfl ?_
                  refine e_lconst h dX11_gusts_279 (pc := 279) (x := 0) rfl ?_
                  refine e_lcmp h dX11_gusts_280 (pc := 280) (by omega) (by decide) ?_
                  generalize hlc280 : lcmp _ _ = lc280
                  have hlr280 := lcmp_spec hlc280
                  refine e_if_eq h (tgt := 302) dX11_gusts_281 (pc := 281) (by decide) (by omega) (fun hb281 => ?_) (fun hb281 => ?_)
                  · have hb0 : b0 = 0 := by omega
                    have hG0 : Nat.gcd (gw (sL S) l x1 n1 t) (pw n1) = a := by rw [← hGc, hb0, Nat.gcd_zero_right]
                    have hap : 0 < a := by rw [← hG0]; exact Nat.gcd_pos_of_pos_right _ hpp
                    refine e_iload h dX11_gusts_302 (pc := 302) rfl ?_
                    refine e_if_ne h (tgt := 319) dX11_gusts_304 (pc := 304) (by decide) (by omega) (fun hb304 => ?_) (fun hb304 => ?_)
                    · refine e_lload h dX11_gusts_319 (pc := 319) rfl ?_
                      refine e_lload h dX11_gusts_321 (pc := 321) rfl ?_
                      refine e_ldiv h dX11_gusts_323 (pc := 323) (by omega) (by omega) ?_
                      rw [show ((pw n1 : Nat) : Int).tdiv ((a : Nat) : Int) = ((pw n1 / a : Nat) : Int) from rfl]
                      refine e_lret h hr ha dX11_gusts_324 (pc := 324) ?_
                      exact kt l t x1 n1 M1 _ rfl rfl rfl rfl hil hit hx10 hn9 hzw (by unfold gustV; rw [if_neg (by omega), red_gcd, hG0]) ⟨(hR.tx.to (congrFun (hfr 110 (by omega) (by omega)) 0) (hfr 111 (by omega) (by omega))), (hR.ms.to (hfr 112 (by omega) (by omega)) (hfr 113 (by omega) (by omega)) (hfr 114 (by omega) (by omega)) (hfr 115 (by omega) (by omega)) (hfr 116 (by omega) (by omega)) (hfr 117 (by omega) (by omega)) (hfr 118 (by omega) (by omega)) (hfr 119 (by omega) (by omega)) (hfr 120 (by omega) (by omega)) (hfr 121 (by omega) (by omega)) (hfr 122 (by omega) (by omega))), (hR.mo.to (hfr 123 (by omega) (by omega)) (hfr 124 (by omega) (by omega)) (hfr 125 (by omega) (by omega)) (hfr 126 (by omega) (by omega)) (hfr 127 (by omega) (by omega))), hR.ws, hR.wo, (hR.un.to (congrFun (hfr 110 (by omega) (by omega)) 19) (hfr 128 (by omega) (by omega))), hR.h8, hR.hw, (Eq.trans (congrFun (hfr 110 (by omega) (by omega)) 18) hR.m18), hR.z2, (hR.kp.to (hfr 123 (by omega) (by omega)) (hfr 124 (by omega) (by omega)) (hfr 125 (by omega) (by omega)) (hfr 126 (by omega) (by omega)) (hfr 127 (by omega) (by omega)))⟩ (fun p hp => hfr p (by omega) (by omega))
                    · refine e_aload_n h dX11_gusts_307 (pc := 307) rfl ?_
                      refine e_getC h fl_X11_86 dX11_gusts_308 (pc := 308) rfl (Nat.lt_of_lt_of_le (by decide) hN) rfl rfl (r := 136) rfl ?_
                      refine e_iload_n h dX11_gusts_311 (pc := 311) rfl ?_
                      refine e_lald h dX11_gusts_312 (pc := 312) rfl (Nat.lt_of_lt_of_le (by decide) hN) rfl (by show _ < 6; omega) ?_
                      rw [hgt]
                      refine e_lload h dX11_gusts_313 (pc := 313) rfl ?_
                      refine e_ldiv h dX11_gusts_315 (pc := 315) (by omega) (by omega) ?_
                      rw [show ((gw (sL S) l x1 n1 t : Nat) : Int).tdiv ((a : Nat) : Int) = ((gw (sL S) l x1 n1 t / a : Nat) : Int) from rfl]
                      refine e_goto h dX11_gusts_316 (pc := 316) (tgt := 324) (by decide) ?_
                      refine e_lret h hr ha dX11_gusts_324 (pc := 324) ?_
                      exact kt l t x1 n1 M1 _ rfl rfl rfl rfl hil hit hx10 hn9 hzw (by unfold gustV; rw [if_pos (by omega), red_gcd, hG0]) ⟨(hR.tx.to (congrFun (hfr 110 (by omega) (by omega)) 0) (hfr 111 (by omega) (by omega))), (hR.ms.to (hfr 112 (by omega) (by omega)) (hfr 113 (by omega) (by omega)) (hfr 114 (by omega) (by omega)) (hfr 115 (by omega) (by omega)) (hfr 116 (by omega) (by omega)) (hfr 117 (by omega) (by omega)) (hfr 118 (by omega) (by omega)) (hfr 119 (by omega) (by omega)) (hfr 120 (by omega) (by omega)) (hfr 121 (by omega) (by omega)) (hfr 122 (by omega) (by omega))), (hR.mo.to (hfr 123 (by omega) (by omega)) (hfr 124 (by omega) (by omega)) (hfr 125 (by omega) (by omega)) (hfr 126 (by omega) (by omega)) (hfr 127 (by omega) (by omega))), hR.ws, hR.wo, (hR.un.to (congrFun (hfr 110 (by omega) (by omega)) 19) (hfr 128 (by omega) (by omega))), hR.h8, hR.hw, (Eq.trans (congrFun (hfr 110 (by omega) (by omega)) 18) hR.m18), hR.z2, (hR.kp.to (hfr 123 (by omega) (by omega)) (hfr 124 (by omega) (by omega)) (hfr 125 (by omega) (by omega)) (hfr 126 (by omega) (by omega)) (hfr 127 (by omega) (by omega)))⟩ (fun p hp => hfr p (by omega) (by omega))
                  · have hbp : 0 < b0 := by omega
                    refine e_lload h dX11_gusts_284 (pc := 284) rfl ?_
                    refine e_lload h dX11_gusts_286 (pc := 286) rfl ?_
                    refine e_lrem h dX11_gusts_288 (pc := 288) (by omega) (by omega) ?_
                    rw [show ((a : Nat) : Int).tmod ((b0 : Nat) : Int) = ((a % b0 : Nat) : Int) by rw [Int.tmod_eq_emod_of_nonneg (by omega)]; rfl]
                    refine e_lstore12 h dX11_gusts_289 (pc := 289) (by decide) rfl ?_
                    refine e_lload h dX11_gusts_291 (pc := 291) rfl ?_
                    refine e_lstore8 h dX11_gusts_293 (pc := 293) (by decide) rfl ?_
                    refine e_lload h dX11_gusts_295 (pc := 295) rfl ?_
                    refine e_lstore10 h dX11_gusts_297 (pc := 297) (by decide) rfl ?_
                    refine e_goto h dX11_gusts_299 (pc := 299) (tgt := 277) (by decide) ?_
                    have hlt := Nat.mod_lt a hbp
                    refine e_fgt (ls2 := [some (vr 110), some (vi (l : Int)), some (vi (t : Int)), some (vi (x1 : Int)), some (vi (n1 : Int)), some (vi w), some (vj ((pw n1 : Nat) : Int)), none, some (vj ((b0 : Nat) : Int)), none, some (vj ((a % b0 : Nat) : Int)), none, none, none]) ⟨Or.inr rfl, Or.inr rfl, Or.inr rfl, Or.inr rfl, Or.inr rfl, Or.inr rfl, Or.inr rfl, Or.inr rfl, Or.inr rfl, Or.inr rfl, Or.inr rfl, Or.inr rfl, Or.inl rfl, Or.inr rfl, trivial⟩ ?_
                    exact ihE b0 (a % b0) (by omega) hbb (by omega) (by rw [Nat.gcd_comm, ← Nat.gcd_rec, Nat.gcd_comm]; exact hGc)
              refine e_aload_n h dX11_gusts_265 (pc := 265) rfl ?_
              refine e_getC h fl_X11_86 dX11_gusts_266 (pc := 266) rfl (Nat.lt_of_lt_of_le (by decide) hN) rfl rfl (r := 136) rfl ?_
              refine e_iload_n h dX11_gusts_269 (pc := 269) rfl ?_
              refine e_lald h dX11_gusts_270 (pc := 270) rfl (Nat.lt_of_lt_of_le (by decide) hN) rfl (by show _ < 6; omega) ?_
              rw [hgt]
              refine e_lstore8 h dX11_gusts_271 (pc := 271) (by decide) rfl ?_
              refine e_lload h dX11_gusts_273 (pc := 273) rfl ?_
              refine e_lstore10 h dX11_gusts_275 (pc := 275) (by decide) rfl ?_
              exact loopE (pw n1 + 1) _ (pw n1) (by omega) (by omega) (by omega) rfl
            have loopT : ∀ (m d : Nat) (M1 : Mem), d ≤ n1 → n1 < d + m → (∀ j, j < sL S → M1 136 j = ((gw (sL S) l x1 d j : Nat) : Int)) → (∀ q, q ≠ 136 → q ≠ 137 → M1 q = M q) → E κ ad N pT M1 96 [some (vr 110), some (vi (l : Int)), some (vi (t : Int)), some (vi (x1 : Int)), some (vi (n1 : Int)), some (vi w), some (vj ((pw d : Nat) : Int)), none, some (vi (d : Int)), none, none, none, none, none] [] (0, 0) (QR κ ad N pT Post) := by
              intro m
              induction m with
              | zero => intro d M1 h1 h2; exact absurd h2 (by omega)
              | succ m ih =>
                intro d M1 hd hm0 hg0 hfr
                refine e_iload h dX11_gusts_96 (pc := 96) rfl ?_
                refine e_iload h dX11_gusts_98 (pc := 98) rfl ?_
                refine e_icmp_ge h (tgt := 265) dX11_gusts_100 (pc := 100) (by decide) (by omega) (by omega) (fun hb100 => ?_) (fun hb100 => ?_)
                · have hd0 : d = n1 := by omega
                  rw [hd0] at hg0 ⊢
                  refine e_fgt (ls2 := [some (vr 110), some (vi (l : Int)), some (vi (t : Int)), some (vi (x1 : Int)), some (vi (n1 : Int)), some (vi w), some (vj ((pw n1 : Nat) : Int)), none, none, none, none, none, none, none]) ⟨Or.inr rfl, Or.inr rfl, Or.inr rfl, Or.inr rfl, Or.inr rfl, Or.inr rfl, Or.inr rfl, Or.inr rfl, Or.inl rfl, Or.inr rfl, Or.inr rfl, Or.inr rfl, Or.inr rfl, Or.inr rfl, trivial⟩ ?_
                  exact finE M1 hg0 hfr
                · refine e_iconst h dX11_gusts_103 (pc := 103)  ?_
                  refine e_istore9 h dX11_gusts_104 (pc := 104) (by decide) rfl ?_
                  have finC : ∀ (M3 : Mem), (∀ m, m < sL S → M3 137 m = ((gs (sL S) x1 (gw (sL S) l x1 d) (sL S) m : Nat) : Int)) → (∀ q, q ≠ 137 → M3 q = M1 q) → E κ ad N pT M3 221 [some (vr 110), some (vi (l : Int)), some (vi (t : Int)), some (vi (x1 : Int)), some (vi (n1 : Int)), some (vi w), some (vj ((pw d : Nat) : Int)), none, some (vi (d : Int)), none, none, none, none, none] [] (0, 0) (QR κ ad N pT Post) := by
                    intro M3 hg hfr3
                    have finD : ∀ (m k : Nat) (M4 : Mem), k ≤ 6 → 6 < k + m → (∀ j, j < k → M4 136 j = M3 137 j) → (∀ q, q ≠ 136 → M4 q = M3 q) → E κ ad N pT M4 224 [some (vr 110), some (vi (l : Int)), some (vi (t : Int)), some (vi (x1 : Int)), some (vi (n1 : Int)), some (vi w), some (vj ((pw d : Nat) : Int)), none, some (vi (d : Int)), some (vi (k : Int)), none, none, none, none] [] (0, 0) (QR κ ad N pT Post) := by
                      intro m
                      induction m with
                      | zero => intro k M4 h1 h2; exact absurd h2 (by omega)
                      | succ m ihD =>
                        intro k M4 hk hm0 hz4 hfr4
                        refine e_iload h dX11_gusts_224 (pc := 224) rfl ?_
                        refine e_bipush h dX11_gusts_226 (pc := 226) (by decide +kernel) ?_
                        refine e_icmp_ge h (tgt := 251) dX11_gusts_228 (pc := 228) (by decide) (by omega) (by decide) (fun hb228 => ?_) (fun hb228 => ?_)
                        · refine e_lload h dX11_gusts_251 (pc := 251) rfl ?_
                          refine e_ldc2 h dX11_gusts_253 (pc := 253) (x := 10) kl_X11_222 rfl ?_
                          refine e_lmul h dX11_gusts_256 (pc := 256)  ?_
                          rw [show ((pw d : Nat) : Int) * 10 = ((pw (d + 1) : Nat) : Int) by show _ = ((pw d * 10 : Nat) : Int); omega]
                          refine e_lstore6 h dX11_gusts_257 (pc := 257) (by decide) rfl ?_
                          refine e_iinc8 h dX11_gusts_259 (pc := 259) (by decide) rfl ?_
                          refine e_goto h dX11_gusts_262 (pc := 262) (tgt := 96) (by decide) ?_
                          rw [show (d : Int) + 1 = ((d + 1 : Nat) : Int) by omega]
                          refine e_fgt (ls2 := [some (vr 110), some (vi (l : Int)), some (vi (t : Int)), some (vi (x1 : Int)), some (vi (n1 : Int)), some (vi w), some (vj ((pw (d + 1) : Nat) : Int)), none, some (vi ((d + 1 : Nat) : Int)), none, none, none, none, none]) ⟨Or.inr rfl, Or.inr rfl, Or.inr rfl, Or.inr rfl, Or.inr rfl, Or.inr rfl, Or.inr rfl, Or.inr rfl, Or.inr rfl, Or.inl rfl, Or.inr rfl, Or.inr rfl, Or.inr rfl, Or.inr rfl, trivial⟩ ?_
                          exact ih (d + 1) M4 (by omega) (by omega) (fun j hj => by rw [hz4 j (by omega)]; exact hg j hj) (fun q h1 h2 => by rw [hfr4 q h1, hfr3 q h2]; exact hfr q h1 h2)
                        · refine e_aload_n h dX11_gusts_231 (pc := 231) rfl ?_
                          refine e_getC h fl_X11_86 dX11_gusts_232 (pc := 232) rfl (Nat.lt_of_lt_of_le (by decide) hN) rfl rfl (r := 136) rfl ?_
                          refine e_iload h dX11_gusts_235 (pc := 235) rfl ?_
                          refine e_aload_n h dX11_gusts_237 (pc := 237) rfl ?_
                          refine e_getC h fl_X11_89 dX11_gusts_238 (pc := 238) rfl (Nat.lt_of_lt_of_le (by decide) hN) rfl rfl (r := 137) rfl ?_
                          refine e_iload h dX11_gusts_241 (pc := 241) rfl ?_
                          refine e_lald h dX11_gusts_243 (pc := 243) rfl (Nat.lt_of_lt_of_le (by decide) hN) rfl (by show _ < 6; omega) ?_
                          refine e_last h dX11_gusts_244 (pc := 244) rfl (Nat.lt_of_lt_of_le (by decide) hN) rfl (by show _ < 6; omega) ?_
                          refine e_iinc9 h dX11_gusts_245 (pc := 245) (by decide) rfl ?_
                          refine e_goto h dX11_gusts_248 (pc := 248) (tgt := 224) (by decide) ?_
                          rw [show (k : Int) + 1 = ((k + 1 : Nat) : Int) by omega]
                          refine ihD (k + 1) _ (by omega) (by omega) (fun m hm => ?_) (fun q hq => by rw [up_row hq]; exact hfr4 q hq)
                          rw [up_if]
                          by_cases e : m = k
                          · rw [if_pos e, e, hfr4 137 (by omega)]
                          · rw [if_neg e]; exact hz4 m (by omega)
                    refine e_iconst h dX11_gusts_221 (pc := 221)  ?_
                    refine e_istore9 h dX11_gusts_222 (pc := 222) (by decide) rfl ?_
                    exact finD 7 0 M3 (by omega) (by omega) (fun j hj => absurd hj (by omega)) (fun _ _ => rfl)
                  have loopC : ∀ (m k : Nat) (M3 : Mem), k ≤ sL S → sL S < k + m → (∀ m, m < sL S → M3 137 m = ((gs (sL S) x1 (gw (sL S) l x1 d) k m : Nat) : Int)) → (∀ q, q ≠ 137 → M3 q = M1 q) → E κ ad N pT M3 130 [some (vr 110), some (vi (l : Int)), some (vi (t : Int)), some (vi (x1 : Int)), some (vi (n1 : Int)), some (vi w), some (vj ((pw d : Nat) : Int)), none, some (vi (d : Int)), some (vi (k : Int)), none, none, none, none] [] (0, 0) (QR κ ad N pT Post) := by
                    intro m
                    induction m with
                    | zero => intro k M3 h1 h2; exact absurd h2 (by omega)
                    | succ m ihC =>
                      intro k M3 hk hm0 hg hfr3
                      have e112 : M3 112 0 = (sL S : Nat) := by rw [hfr3 112 (by omega), hfr 112 (by omega) (by omega)]; exact r9
                      refine e_iload h dX11_gusts_130 (pc := 130) rfl ?_
                      refine e_aload_n h dX11_gusts_132 (pc := 132) rfl ?_
                      refine e_getC h fl_X11_13 dX11_gusts_133 (pc := 133) rfl (Nat.lt_of_lt_of_le (by decide) hN) rfl rfl (r := 112) rfl ?_
                      refine e_iconst h dX11_gusts_136 (pc := 136)  ?_
                      refine e_iald h dX11_gusts_137 (pc := 137) rfl (Nat.lt_of_lt_of_le (by decide) hN) (j := 0) rfl (by decide) ?_
                      rw [e112]
                      refine e_icmp_ge h (tgt := 221) dX11_gusts_138 (pc := 138) (by decide) (by omega) (by omega) (fun hb138 => ?_) (fun hb138 => ?_)
                      · have hkL : k = sL S := by omega
                        rw [hkL] at hg
                        refine e_fgt (ls2 := [some (vr 110), some (vi (l : Int)), some (vi (t : Int)), some (vi (x1 : Int)), some (vi (n1 : Int)), some (vi w), some (vj ((pw d : Nat) : Int)), none, some (vi (d : Int)), none, none, none, none, none]) ⟨Or.inr rfl, Or.inr rfl, Or.inr rfl, Or.inr rfl, Or.inr rfl, Or.inr rfl, Or.inr rfl, Or.inr rfl, Or.inr rfl, Or.inl rfl, Or.inr rfl, Or.inr rfl, Or.inr rfl, Or.inr rfl, trivial⟩ ?_
                        exact finC M3 hg hfr3
                      · refine e_aload_n h dX11_gusts_141 (pc := 141) rfl ?_
                        refine e_getC h fl_X11_89 dX11_gusts_142 (pc := 142) rfl (Nat.lt_of_lt_of_le (by decide) hN) rfl rfl (r := 137) rfl ?_
                        refine e_iload h dX11_gusts_145 (pc := 145) rfl ?_
                        refine e_iconst h dX11_gusts_147 (pc := 147)  ?_
                        refine e_iadd h dX11_gusts_148 (pc := 148)  ?_
                        refine e_aload_n h dX11_gusts_149 (pc := 149) rfl ?_
                        refine e_getC h fl_X11_13 dX11_gusts_150 (pc := 150) rfl (Nat.lt_of_lt_of_le (by decide) hN) rfl rfl (r := 112) rfl ?_
                        refine e_iconst h dX11_gusts_153 (pc := 153)  ?_
                        refine e_iald h dX11_gusts_154 (pc := 154) rfl (Nat.lt_of_lt_of_le (by decide) hN) (j := 0) rfl (by decide) ?_
                        rw [e112]
                        refine e_icmp_ge h (tgt := 165) dX11_gusts_155 (pc := 155) (by decide) (by omega) (by omega) (fun hb155 => ?_) (fun hb155 => ?_)
                        · refine e_iload h dX11_gusts_165 (pc := 165) rfl ?_
                          refine e_dup2 h dX11_gusts_167 (pc := 167) rfl rfl ?_
                          refine e_lald h dX11_gusts_168 (pc := 168) rfl (Nat.lt_of_lt_of_le (by decide) hN) (j := min (k + 1) (sL S - 1)) (by omega) (by show _ < 6; omega) ?_
                          refine e_aload_n h dX11_gusts_169 (pc := 169) rfl ?_
                          refine e_getC h fl_X11_86 dX11_gusts_170 (pc := 170) rfl (Nat.lt_of_lt_of_le (by decide) hN) rfl rfl (r := 136) rfl ?_
                          refine e_iload h dX11_gusts_173 (pc := 173) rfl ?_
                          refine e_lald h dX11_gusts_175 (pc := 175) rfl (Nat.lt_of_lt_of_le (by decide) hN) rfl (by show _ < 6; omega) ?_
                          refine e_iload_n h dX11_gusts_176 (pc := 176) rfl ?_
                          refine e_i2l h dX11_gusts_177 (pc := 177) (by omega) ?_
                          refine e_lmul h dX11_gusts_178 (pc := 178)  ?_
                          refine e_ladd h dX11_gusts_179 (pc := 179)  ?_
                          refine e_last h dX11_gusts_180 (pc := 180) rfl (Nat.lt_of_lt_of_le (by decide) hN) (j := min (k + 1) (sL S - 1)) (by omega) (by show _ < 6; omega) ?_
                          refine e_aload_n h dX11_gusts_181 (pc := 181) rfl ?_
                          refine e_getC h fl_X11_89 dX11_gusts_182 (pc := 182) rfl (Nat.lt_of_lt_of_le (by decide) hN) rfl rfl (r := 137) rfl ?_
                          refine e_iload h dX11_gusts_185 (pc := 185) rfl ?_
                          refine e_if_le h (tgt := 197) dX11_gusts_187 (pc := 187) (by decide) (by omega) (fun hb187 => ?_) (fun hb187 => ?_)
                          · refine e_iconst h dX11_gusts_197 (pc := 197)  ?_
                            refine e_dup2 h dX11_gusts_198 (pc := 198) rfl rfl ?_
                            refine e_lald h dX11_gusts_199 (pc := 199) rfl (Nat.lt_of_lt_of_le (by decide) hN) (j := (k - 1)) (by omega) (by show _ < 6; omega) ?_
                            try simp (disch := omega) only [up_ne]
                            refine e_aload_n h dX11_gusts_200 (pc := 200) rfl ?_
                            refine e_getC h fl_X11_86 dX11_gusts_201 (pc := 201) rfl (Nat.lt_of_lt_of_le (by decide) hN) rfl rfl (r := 136) rfl ?_
                            refine e_iload h dX11_gusts_204 (pc := 204) rfl ?_
                            refine e_lald h dX11_gusts_206 (pc := 206) rfl (Nat.lt_of_lt_of_le (by decide) hN) rfl (by show _ < 6; omega) ?_
                            try simp (disch := omega) only [up_ne]
                            refine e_bipush h dX11_gusts_207 (pc := 207) (by decide +kernel) ?_
                            refine e_iload_n h dX11_gusts_209 (pc := 209) rfl ?_
                            refine e_isub h dX11_gusts_210 (pc := 210)  ?_
                            refine e_i2l h dX11_gusts_211 (pc := 211) (by omega) ?_
                            refine e_lmul h dX11_gusts_212 (pc := 212)  ?_
                            refine e_ladd h dX11_gusts_213 (pc := 213)  ?_
                            refine e_last h dX11_gusts_214 (pc := 214) rfl (Nat.lt_of_lt_of_le (by decide) hN) (j := (k - 1)) (by omega) (by show _ < 6; omega) ?_
                            refine e_iinc9 h dX11_gusts_215 (pc := 215) (by decide) rfl ?_
                            refine e_goto h dX11_gusts_218 (pc := 218) (tgt := 130) (by decide) ?_
                            rw [show (k : Int) + 1 = ((k + 1 : Nat) : Int) by omega]
                            refine ihC (k + 1) _ (by omega) (by omega) (fun m hm => ?_) (fun q hq => by rw [up_row hq, up_row hq]; exact hfr3 q hq)
                            simp only [up_if]
                            exact gs_step (w := gw (sL S) l x1 d) (T := M3 137) (wk := M3 136 k) (v1 := M3 137 (min (k + 1) (sL S - 1)) + M3 136 k * x1) (by omega) hx10 (by rw [hfr3 136 (by omega)]; exact hg0 k (by omega)) (fun m hm => hg m hm) hm rfl (by first | rfl | (rw [if_neg (by omega)]))
                          · refine e_iload h dX11_gusts_190 (pc := 190) rfl ?_
                            refine e_iconst h dX11_gusts_192 (pc := 192)  ?_
                            refine e_isub h dX11_gusts_193 (pc := 193)  ?_
                            refine e_goto h dX11_gusts_194 (pc := 194) (tgt := 198) (by decide) ?_
                            refine e_dup2 h dX11_gusts_198 (pc := 198) rfl rfl ?_
                            refine e_lald h dX11_gusts_199 (pc := 199) rfl (Nat.lt_of_lt_of_le (by decide) hN) (j := (k - 1)) (by omega) (by show _ < 6; omega) ?_
                            try simp (disch := omega) only [up_ne]
                            refine e_aload_n h dX11_gusts_200 (pc := 200) rfl ?_
                            refine e_getC h fl_X11_86 dX11_gusts_201 (pc := 201) rfl (Nat.lt_of_lt_of_le (by decide) hN) rfl rfl (r := 136) rfl ?_
                            refine e_iload h dX11_gusts_204 (pc := 204) rfl ?_
                            refine e_lald h dX11_gusts_206 (pc := 206) rfl (Nat.lt_of_lt_of_le (by decide) hN) rfl (by show _ < 6; omega) ?_
                            try simp (disch := omega) only [up_ne]
                            refine e_bipush h dX11_gusts_207 (pc := 207) (by decide +kernel) ?_
                            refine e_iload_n h dX11_gusts_209 (pc := 209) rfl ?_
                            refine e_isub h dX11_gusts_210 (pc := 210)  ?_
                            refine e_i2l h dX11_gusts_211 (pc := 211) (by omega) ?_
                            refine e_lmul h dX11_gusts_212 (pc := 212)  ?_
                            refine e_ladd h dX11_gusts_213 (pc := 213)  ?_
                            refine e_last h dX11_gusts_214 (pc := 214) rfl (Nat.lt_of_lt_of_le (by decide) hN) (j := (k - 1)) (by omega) (by show _ < 6; omega) ?_
                            refine e_iinc9 h dX11_gusts_215 (pc := 215) (by decide) rfl ?_
                            refine e_goto h dX11_gusts_218 (pc := 218) (tgt := 130) (by decide) ?_
                            rw [show (k : Int) + 1 = ((k + 1 : Nat) : Int) by omega]
                            refine ihC (k + 1) _ (by omega) (by omega) (fun m hm => ?_) (fun q hq => by rw [up_row hq, up_row hq]; exact hfr3 q hq)
                            simp only [up_if]
                            exact gs_step (w := gw (sL S) l x1 d) (T := M3 137) (wk := M3 136 k) (v1 := M3 137 (min (k + 1) (sL S - 1)) + M3 136 k * x1) (by omega) hx10 (by rw [hfr3 136 (by omega)]; exact hg0 k (by omega)) (fun m hm => hg m hm) hm rfl (by first | rfl | (rw [if_neg (by omega)]))
                        · refine e_iload h dX11_gusts_158 (pc := 158) rfl ?_
                          refine e_iconst h dX11_gusts_160 (pc := 160)  ?_
                          refine e_iadd h dX11_gusts_161 (pc := 161)  ?_
                          refine e_goto h dX11_gusts_162 (pc := 162) (tgt := 167) (by decide) ?_
                          refine e_dup2 h dX11_gusts_167 (pc := 167) rfl rfl ?_
                          refine e_lald h dX11_gusts_168 (pc := 168) rfl (Nat.lt_of_lt_of_le (by decide) hN) (j := min (k + 1) (sL S - 1)) (by omega) (by show _ < 6; omega) ?_
                          refine e_aload_n h dX11_gusts_169 (pc := 169) rfl ?_
                          refine e_getC h fl_X11_86 dX11_gusts_170 (pc := 170) rfl (Nat.lt_of_lt_of_le (by decide) hN) rfl rfl (r := 136) rfl ?_
                          refine e_iload h dX11_gusts_173 (pc := 173) rfl ?_
                          refine e_lald h dX11_gusts_175 (pc := 175) rfl (Nat.lt_of_lt_of_le (by decide) hN) rfl (by show _ < 6; omega) ?_
                          refine e_iload_n h dX11_gusts_176 (pc := 176) rfl ?_
                          refine e_i2l h dX11_gusts_177 (pc := 177) (by omega) ?_
                          refine e_lmul h dX11_gusts_178 (pc := 178)  ?_
                          refine e_ladd h dX11_gusts_179 (pc := 179)  ?_
                          refine e_last h dX11_gusts_180 (pc := 180) rfl (Nat.lt_of_lt_of_le (by decide) hN) (j := min (k + 1) (sL S - 1)) (by omega) (by show _ < 6; omega) ?_
                          refine e_aload_n h dX11_gusts_181 (pc := 181) rfl ?_
                          refine e_getC h fl_X11_89 dX11_gusts_182 (pc := 182) rfl (Nat.lt_of_lt_of_le (by decide) hN) rfl rfl (r := 137) rfl ?_
                          refine e_iload h dX11_gusts_185 (pc := 185) rfl ?_
                          refine e_if_le h (tgt := 197) dX11_gusts_187 (pc := 187) (by decide) (by omega) (fun hb187 => ?_) (fun hb187 => ?_)
                          · refine e_iconst h dX11_gusts_197 (pc := 197)  ?_
                            refine e_dup2 h dX11_gusts_198 (pc := 198) rfl rfl ?_
                            refine e_lald h dX11_gusts_199 (pc := 199) rfl (Nat.lt_of_lt_of_le (by decide) hN) (j := (k - 1)) (by omega) (by show _ < 6; omega) ?_
                            try simp (disch := omega) only [up_ne]
                            refine e_aload_n h dX11_gusts_200 (pc := 200) rfl ?_
                            refine e_getC h fl_X11_86 dX11_gusts_201 (pc := 201) rfl (Nat.lt_of_lt_of_le (by decide) hN) rfl rfl (r := 136) rfl ?_
                            refine e_iload h dX11_gusts_204 (pc := 204) rfl ?_
                            refine e_lald h dX11_gusts_206 (pc := 206) rfl (Nat.lt_of_lt_of_le (by decide) hN) rfl (by show _ < 6; omega) ?_
                            try simp (disch := omega) only [up_ne]
                            refine e_bipush h dX11_gusts_207 (pc := 207) (by decide +kernel) ?_
                            refine e_iload_n h dX11_gusts_209 (pc := 209) rfl ?_
                            refine e_isub h dX11_gusts_210 (pc := 210)  ?_
                            refine e_i2l h dX11_gusts_211 (pc := 211) (by omega) ?_
                            refine e_lmul h dX11_gusts_212 (pc := 212)  ?_
                            refine e_ladd h dX11_gusts_213 (pc := 213)  ?_
                            refine e_last h dX11_gusts_214 (pc := 214) rfl (Nat.lt_of_lt_of_le (by decide) hN) (j := (k - 1)) (by omega) (by show _ < 6; omega) ?_
                            refine e_iinc9 h dX11_gusts_215 (pc := 215) (by decide) rfl ?_
                            refine e_goto h dX11_gusts_218 (pc := 218) (tgt := 130) (by decide) ?_
                            rw [show (k : Int) + 1 = ((k + 1 : Nat) : Int) by omega]
                            refine ihC (k + 1) _ (by omega) (by omega) (fun m hm => ?_) (fun q hq => by rw [up_row hq, up_row hq]; exact hfr3 q hq)
                            simp only [up_if]
                            exact gs_step (w := gw (sL S) l x1 d) (T := M3 137) (wk := M3 136 k) (v1 := M3 137 (min (k + 1) (sL S - 1)) + M3 136 k * x1) (by omega) hx10 (by rw [hfr3 136 (by omega)]; exact hg0 k (by omega)) (fun m hm => hg m hm) hm rfl (by first | rfl | (rw [if_neg (by omega)]))
                          · refine e_iload h dX11_gusts_190 (pc := 190) rfl ?_
                            refine e_iconst h dX11_gusts_192 (pc := 192)  ?_
                            refine e_isub h dX11_gusts_193 (pc := 193)  ?_
                            refine e_goto h dX11_gusts_194 (pc := 194) (tgt := 198) (by decide) ?_
                            refine e_dup2 h dX11_gusts_198 (pc := 198) rfl rfl ?_
                            refine e_lald h dX11_gusts_199 (pc := 199) rfl (Nat.lt_of_lt_of_le (by decide) hN) (j := (k - 1)) (by omega) (by show _ < 6; omega) ?_
                            try simp (disch := omega) only [up_ne]
                            refine e_aload_n h dX11_gusts_200 (pc := 200) rfl ?_
                            refine e_getC h fl_X11_86 dX11_gusts_201 (pc := 201) rfl (Nat.lt_of_lt_of_le (by decide) hN) rfl rfl (r := 136) rfl ?_
                            refine e_iload h dX11_gusts_204 (pc := 204) rfl ?_
                            refine e_lald h dX11_gusts_206 (pc := 206) rfl (Nat.lt_of_lt_of_le (by decide) hN) rfl (by show _ < 6; omega) ?_
                            try simp (disch := omega) only [up_ne]
                            refine e_bipush h dX11_gusts_207 (pc := 207) (by decide +kernel) ?_
                            refine e_iload_n h dX11_gusts_209 (pc := 209) rfl ?_
                            refine e_isub h dX11_gusts_210 (pc := 210)  ?_
                            refine e_i2l h dX11_gusts_211 (pc := 211) (by omega) ?_
                            refine e_lmul h dX11_gusts_212 (pc := 212)  ?_
                            refine e_ladd h dX11_gusts_213 (pc := 213)  ?_
                            refine e_last h dX11_gusts_214 (pc := 214) rfl (Nat.lt_of_lt_of_le (by decide) hN) (j := (k - 1)) (by omega) (by show _ < 6; omega) ?_
                            refine e_iinc9 h dX11_gusts_215 (pc := 215) (by decide) rfl ?_
                            refine e_goto h dX11_gusts_218 (pc := 218) (tgt := 130) (by decide) ?_
                            rw [show (k : Int) + 1 = ((k + 1 : Nat) : Int) by omega]
                            refine ihC (k + 1) _ (by omega) (by omega) (fun m hm => ?_) (fun q hq => by rw [up_row hq, up_row hq]; exact hfr3 q hq)
                            simp only [up_if]
                            exact gs_step (w := gw (sL S) l x1 d) (T := M3 137) (wk := M3 136 k) (v1 := M3 137 (min (k + 1) (sL S - 1)) + M3 136 k * x1) (by omega) hx10 (by rw [hfr3 136 (by omega)]; exact hg0 k (by omega)) (fun m hm => hg m hm) hm rfl (by first | rfl | (rw [if_neg (by omega)]))
                  have finB : ∀ (M2 : Mem), (∀ j, j < 6 → M2 137 j = 0) → (∀ q, q ≠ 137 → M2 q = M1 q) → E κ ad N pT M2 127 [some (vr 110), some (vi (l : Int)), some (vi (t : Int)), some (vi (x1 : Int)), some (vi (n1 : Int)), some (vi w), some (vj ((pw d : Nat) : Int)), none, some (vi (d : Int)), none, none, none, none, none] [] (0, 0) (QR κ ad N pT Post) := by
                    intro M2 hz2 hfr2
                    refine e_iconst h dX11_gusts_127 (pc := 127)  ?_
                    refine e_istore9 h dX11_gusts_128 (pc := 128) (by decide) rfl ?_
                    exact loopC (sL S + 1) 0 M2 (by omega) (by omega) (fun m hm => hz2 m (by omega)) hfr2
                  have loopB : ∀ (m k : Nat) (M2 : Mem), k ≤ 6 → 6 < k + m → (∀ j, j < k → M2 137 j = 0) → (∀ q, q ≠ 137 → M2 q = M1 q) → E κ ad N pT M2 106 [some (vr 110), some (vi (l : Int)), some (vi (t : Int)), some (vi (x1 : Int)), some (vi (n1 : Int)), some (vi w), some (vj ((pw d : Nat) : Int)), none, some (vi (d : Int)), some (vi (k : Int)), none, none, none, none] [] (0, 0) (QR κ ad N pT Post) := by
                    intro m
                    induction m with
                    | zero => intro k M2 h1 h2; exact absurd h2 (by omega)
                    | succ m ihB =>
                      intro k M2 hk hm0 hz2 hfr2
                      refine e_iload h dX11_gusts_106 (pc := 106) rfl ?_
                      refine e_bipush h dX11_gusts_108 (pc := 108) (by decide +kernel) ?_
                      refine e_icmp_ge h (tgt := 127) dX11_gusts_110 (pc := 110) (by decide) (by omega) (by decide) (fun hb110 => ?_) (fun hb110 => ?_)
                      · refine e_fgt (ls2 := [some (vr 110), some (vi (l : Int)), some (vi (t : Int)), some (vi (x1 : Int)), some (vi (n1 : Int)), some (vi w), some (vj ((pw d : Nat) : Int)), none, some (vi (d : Int)), none, none, none, none, none]) ⟨Or.inr rfl, Or.inr rfl, Or.inr rfl, Or.inr rfl, Or.inr rfl, Or.inr rfl, Or.inr rfl, Or.inr rfl, Or.inr rfl, Or.inl rfl, Or.inr rfl, Or.inr rfl, Or.inr rfl, Or.inr rfl, trivial⟩ ?_
                        exact finB M2 (fun j hj => hz2 j (by omega)) hfr2
                      · refine e_aload_n h dX11_gusts_113 (pc := 113) rfl ?_
                        refine e_getC h fl_X11_89 dX11_gusts_114 (pc := 114) rfl (Nat.lt_of_lt_of_le (by decide) hN) rfl rfl (r := 137) rfl ?_
                        refine e_iload h dX11_gusts_117 (pc := 117) rfl ?_
                        refine e_lconst h dX11_gusts_119 (pc := 119) (x := 0) rfl ?_
                        refine e_last h dX11_gusts_120 (pc := 120) rfl (Nat.lt_of_lt_of_le (by decide) hN) rfl (by show _ < 6; omega) ?_
                        refine e_iinc9 h dX11_gusts_121 (pc := 121) (by decide) rfl ?_
                        refine e_goto h dX11_gusts_124 (pc := 124) (tgt := 106) (by decide) ?_
                        rw [show (k : Int) + 1 = ((k + 1 : Nat) : Int) by omega]
                        refine ihB (k + 1) _ (by omega) (by omega) (fun j hj => ?_) (fun q hq => by rw [up_row hq]; exact hfr2 q hq)
                        rw [up_if]
                        by_cases e : j = k
                        · rw [if_pos e]
                        · rw [if_neg e]; exact hz2 j (by omega)
                  exact loopB 7 0 M1 (by omega) (by omega) (fun j hj => absurd hj (by omega)) (fun _ _ => rfl)
            have finA : ∀ (M1 : Mem), (∀ j, j < 6 → M1 136 j = ((gw (sL S) l x1 0 j : Nat) : Int)) → (∀ q, q ≠ 136 → M1 q = M q) → E κ ad N pT M1 90 [some (vr 110), some (vi (l : Int)), some (vi (t : Int)), some (vi (x1 : Int)), some (vi (n1 : Int)), some (vi w), none, none, none, none, none, none, none, none] [] (0, 0) (QR κ ad N pT Post) := by
              intro M1 hz hfr
              refine e_lconst h dX11_gusts_90 (pc := 90) (x := 1) rfl ?_
              refine e_lstore6 h dX11_gusts_91 (pc := 91) (by decide) rfl ?_
              refine e_iconst h dX11_gusts_93 (pc := 93)  ?_
              refine e_istore8 h dX11_gusts_94 (pc := 94) (by decide) rfl ?_
              exact loopT (n1 + 1) 0 M1 (by omega) (by omega) (fun j hj => hz j (by omega)) (fun q h1 _ => hfr q h1)
            have loopA : ∀ (m k : Nat) (M1 : Mem), k ≤ 6 → 6 < k + m → (∀ j, j < k → M1 136 j = ((gw (sL S) l x1 0 j : Nat) : Int)) → (∀ q, q ≠ 136 → M1 q = M q) → E κ ad N pT M1 59 [some (vr 110), some (vi (l : Int)), some (vi (t : Int)), some (vi (x1 : Int)), some (vi (n1 : Int)), some (vi w), some (vi (k : Int)), none, none, none, none, none, none, none] [] (0, 0) (QR κ ad N pT Post) := by
              intro m
              induction m with
              | zero => intro k M1 h1 h2; exact absurd h2 (by omega)
              | succ m ihA =>
                intro k M1 hk hm0 hz hfr
                refine e_iload h dX11_gusts_59 (pc := 59) rfl ?_
                refine e_bipush h dX11_gusts_61 (pc := 61) (by decide +kernel) ?_
                refine e_icmp_ge h (tgt := 90) dX11_gusts_63 (pc := 63) (by decide) (by omega) (by decide) (fun hb63 => ?_) (fun hb63 => ?_)
                · refine e_fgt (ls2 := [some (vr 110), some (vi (l : Int)), some (vi (t : Int)), some (vi (x1 : Int)), some (vi (n1 : Int)), some (vi w), none, none, none, none, none, none, none, none]) ⟨Or.inr rfl, Or.inr rfl, Or.inr rfl, Or.inr rfl, Or.inr rfl, Or.inr rfl, Or.inl rfl, Or.inr rfl, Or.inr rfl, Or.inr rfl, Or.inr rfl, Or.inr rfl, Or.inr rfl, Or.inr rfl, trivial⟩ ?_
                  exact finA M1 (fun j hj => hz j (by omega)) hfr
                · refine e_aload_n h dX11_gusts_66 (pc := 66) rfl ?_
                  refine e_getC h fl_X11_86 dX11_gusts_67 (pc := 67) rfl (Nat.lt_of_lt_of_le (by decide) hN) rfl rfl (r := 136) rfl ?_
                  refine e_iload h dX11_gusts_70 (pc := 70) rfl ?_
                  refine e_iload h dX11_gusts_72 (pc := 72) rfl ?_
                  refine e_iload_n h dX11_gusts_74 (pc := 74) rfl ?_
                  refine e_icmp_ne h (tgt := 82) dX11_gusts_75 (pc := 75) (by decide) (by omega) (by omega) (fun hb75 => ?_) (fun hb75 => ?_)
                  · have hkl : k ≠ l := by omega
                    refine e_lconst h dX11_gusts_82 (pc := 82) (x := 0) rfl ?_
                    refine e_last h dX11_gusts_83 (pc := 83) rfl (Nat.lt_of_lt_of_le (by decide) hN) rfl (by show _ < 6; omega) ?_
                    refine e_iinc6 h dX11_gusts_84 (pc := 84) (by decide) rfl ?_
                    refine e_goto h dX11_gusts_87 (pc := 87) (tgt := 59) (by decide) ?_
                    rw [show (k : Int) + 1 = ((k + 1 : Nat) : Int) by omega]
                    refine ihA (k + 1) _ (by omega) (by omega) (fun m hm => ?_) (fun q hq => by rw [up_row hq]; exact hfr q hq)
                    rw [up_if]
                    by_cases e : m = k
                    · rw [if_pos e]; show _ = ((if m = l then 1 else 0 : Nat) : Int); rw [if_neg (by omega)]; rfl
                    · rw [if_neg e]; exact hz m (by omega)
                  · have hkl : k = l := by omega
                    refine e_lconst h dX11_gusts_78 (pc := 78) (x := 1) rfl ?_
                    refine e_goto h dX11_gusts_79 (pc := 79) (tgt := 83) (by decide) ?_
                    refine e_last h dX11_gusts_83 (pc := 83) rfl (Nat.lt_of_lt_of_le (by decide) hN) rfl (by show _ < 6; omega) ?_
                    refine e_iinc6 h dX11_gusts_84 (pc := 84) (by decide) rfl ?_
                    refine e_goto h dX11_gusts_87 (pc := 87) (tgt := 59) (by decide) ?_
                    rw [show (k : Int) + 1 = ((k + 1 : Nat) : Int) by omega]
                    refine ihA (k + 1) _ (by omega) (by omega) (fun m hm => ?_) (fun q hq => by rw [up_row hq]; exact hfr q hq)
                    rw [up_if]
                    by_cases e : m = k
                    · rw [if_pos e]; show _ = ((if m = l then 1 else 0 : Nat) : Int); rw [if_pos (by omega)]; rfl
                    · rw [if_neg e]; exact hz m (by omega)
            exact loopA 7 0 M (by omega) (by omega) (fun j hj => absurd hj (by omega)) (fun _ _ => rfl)
          · skip
            refine e_if_ne h (tgt := 56) dX11_gusts_49 (pc := 49) (by decide) (by decide) (fun hz => absurd hz (by decide)) (fun _ => ?_)
            refine e_ldc2 h dX11_gusts_52 (pc := 52) (x := (-1)) kl_X11_224 rfl ?_
            refine e_lret h hr ha dX11_gusts_55 (pc := 55) ?_
            exact kb (by omega)
        · skip
          refine e_if_eq h (tgt := 52) dX11_gusts_38 (pc := 38) (by decide) (by decide) (fun _ => ?_) (fun hz => absurd hz (by decide))
          refine e_ldc2 h dX11_gusts_52 (pc := 52) (x := (-1)) kl_X11_224 rfl ?_
          refine e_lret h hr ha dX11_gusts_55 (pc := 55) ?_
          exact kb (by omega)
      · skip
        refine e_if_eq h (tgt := 52) dX11_gusts_25 (pc := 25) (by decide) (by decide) (fun _ => ?_) (fun hz => absurd hz (by decide))
        refine e_ldc2 h dX11_gusts_52 (pc := 52) (x := (-1)) kl_X11_224 rfl ?_
        refine e_lret h hr ha dX11_gusts_55 (pc := 55) ?_
        exact kb (by omega)
    · skip
      refine e_if_eq h (tgt := 52) dX11_gusts_13 (pc := 13) (by decide) (by decide) (fun _ => ?_) (fun hz => absurd hz (by decide))
      refine e_ldc2 h dX11_gusts_52 (pc := 52) (x := (-1)) kl_X11_224 rfl ?_
      refine e_lret h hr ha dX11_gusts_55 (pc := 55) ?_
      exact kb (by omega)
  · skip
    refine e_if_eq h (tgt := 52) dX11_gusts_5 (pc := 5) (by decide) (by decide) (fun _ => ?_) (fun hz => absurd hz (by decide))
    refine e_ldc2 h dX11_gusts_52 (pc := 52) (x := (-1)) kl_X11_224 rfl ?_
    refine e_lret h hr ha dX11_gusts_55 (pc := 55) ?_
    exact kb (by omega)
