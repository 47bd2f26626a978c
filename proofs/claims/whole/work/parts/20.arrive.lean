def CH (S : SD) (so i d th N : Nat) (M : Mem) : Prop := 110 ≤ N ∧ IsS so N ∧ 82 ≤ so ∧ SR S M so ∧ WS S ∧ i < sT S ∧ M 61 2 = (d : Int) ∧ d ≤ 60 ∧ M 61 1 = (th : Int) ∧ IsJL th N ∧ 62 ≤ th ∧ th ≤ 63 ∧ JB M th
theorem CH.hN {S : SD} {so i d th N : Nat} {M : Mem} (h : CH S so i d th N M) : 110 ≤ N := h.1
theorem CH.hs {S : SD} {so i d th N : Nat} {M : Mem} (h : CH S so i d th N M) : IsS so N := h.2.1
theorem CH.s82 {S : SD} {so i d th N : Nat} {M : Mem} (h : CH S so i d th N M) : 82 ≤ so := h.2.2.1
theorem CH.sr {S : SD} {so i d th N : Nat} {M : Mem} (h : CH S so i d th N M) : SR S M so := h.2.2.2.1
theorem CH.ws {S : SD} {so i d th N : Nat} {M : Mem} (h : CH S so i d th N M) : WS S := h.2.2.2.2.1
theorem CH.hi {S : SD} {so i d th N : Nat} {M : Mem} (h : CH S so i d th N M) : i < sT S := h.2.2.2.2.2.1
theorem CH.day {S : SD} {so i d th N : Nat} {M : Mem} (h : CH S so i d th N M) : M 61 2 = (d : Int) := h.2.2.2.2.2.2.1
theorem CH.d60 {S : SD} {so i d th N : Nat} {M : Mem} (h : CH S so i d th N M) : d ≤ 60 := h.2.2.2.2.2.2.2.1
theorem CH.e1 {S : SD} {so i d th N : Nat} {M : Mem} (h : CH S so i d th N M) : M 61 1 = (th : Int) := h.2.2.2.2.2.2.2.2.1
theorem CH.hth {S : SD} {so i d th N : Nat} {M : Mem} (h : CH S so i d th N M) : IsJL th N := h.2.2.2.2.2.2.2.2.2.1
theorem CH.t62 {S : SD} {so i d th N : Nat} {M : Mem} (h : CH S so i d th N M) : 62 ≤ th := h.2.2.2.2.2.2.2.2.2.2.1
theorem CH.t63 {S : SD} {so i d th N : Nat} {M : Mem} (h : CH S so i d th N M) : th ≤ 63 := h.2.2.2.2.2.2.2.2.2.2.2.1
theorem CH.jb {S : SD} {so i d th N : Nat} {M : Mem} (h : CH S so i d th N M) : JB M th := h.2.2.2.2.2.2.2.2.2.2.2.2
theorem CH.add {S : SD} {so i d th N : Nat} {M M2 : Mem} {P : Nat → Nat → Prop} (h : CH S so i d th N M) (k : ADD M M2 th P) : CH S so i d th N M2 := by
  have z1 := h.t62
  have z2 := h.t63
  have z3 := h.s82
  have e : M2 61 = M 61 := k.2.2 61 (by omega)
  exact ⟨h.hN, h.hs, h.s82, h.sr.to (fun p a b => k.2.2 p (by omega)), h.ws, h.hi, by rw [e]; exact h.day, h.d60, by rw [e]; exact h.e1, h.hth, h.t62, h.t63, k.1⟩
/-- where a town of some gas comes to on the way through a level -/
def TO (S : SD) (i d l x k c g : Nat) : Prop := c = 24 * l + (x + sP S l) % 24 ∧ g = gasL S i l d k
def SK (l k l2 : Nat) : Prop := (0 < k ∧ l2 = l) ∨ (k = 0 ∧ l2 + 1 = l)
theorem shl_sub (k : Nat) : ((1 <<< k : Nat) : Int) - (1 : Int) = ((1 <<< k - 1 : Nat) : Int) := by
  have : 0 < 1 <<< k := by rw [Nat.one_shiftLeft]; exact Nat.pow_pos (by decide)
  generalize 1 <<< k = w at this ⊢
  omega
def MVE (S : SD) (i l k l1 k1 : Nat) : Prop := (l1 = l ∧ k1 = k) ∨ (l1 + 1 = l ∧ k1 = k) ∨ (l1 = l + 1 ∧ l1 < sL S ∧ k = k1 + sX S i)
set_option maxRecDepth 100000 in
set_option maxHeartbeats 4000000 in
theorem c_arrive {gg : GT} {ad : Nat → Nat} {N : Nat} {M : Mem} {Post : Option AV → Mem → Prop} {S : SD} {so i l x d th a : Nat}  {xi : Int} (hxi : xi = (i : Int)) {xl : Int} (hxl : xl = (l : Int)) {xx : Int} (hxx : xx = (x : Int)) {xa : Int} (hxa : xa = ((a : Nat) : Int))  (hC : CH S so i d th N M) (hl : l < sL S) (hx : x < 24) (ha61 : a < 2 ^ 61) (K : ∀ M2 : Mem, ADD M M2 th (fun c g => ∃ k, a.testBit k = true ∧ TO S i d l x k c g) → Post none M2) : Sp gg yX0_arrive cX0_arrive 12 none rmX0_arrive [vr 61, vr so, vi xi, vi xl, vi xx, vj xa] ad N pT M Post := by
  refine Sp.intro (ls := [some (vr 61), some (vr so), some (vi xi), some (vi xl), some (vi xx), some (vj xa), none, none, none, none, none, none]) (by decide +kernel) rfl (Nat.le_of_ble_eq_true rfl) fun κ hgg h hr ha => ?_
  have h : Ok κ RX0 cX0_arrive 12 rmX0_arrive := h
  subst hgg
  subst hxi
  subst hxl
  subst hxx
  subst hxa
  have hs := hC.hs
  have hth := hC.hth
  have e1 := hC.e1
  have hN := hC.hN
  have t62 := hC.t62
  have t63 := hC.t63
  have s82 := hC.s82
  obtain ⟨hL, hT, hB, hW4, hW5, hW6⟩ := hC.ws
  have hi := hC.hi
  have hd := hC.d60
  have hp2 := hC.sr.2.2.2.1 l hl
  have hp3 := hW4 l hl
  have hX := hC.sr.2.2.2.2.1 i hC.hi
  obtain ⟨n, hn1, hn2⟩ := hC.jb (24 * l + (x + sP S l) % 24) (by omega)
  have rest : ∀ b : Nat, b < 2 ^ 61 → (∀ g, b.testBit g = true ↔ ∃ k, a.testBit k = true ∧ (if hit S l d = true then k / 2 else k) = g) → E κ ad N pT M 22 [some (vr 61), some (vr so), some (vi (i : Int)), some (vi (l : Int)), some (vi (x : Int)), some (vj (a : Int)), none, none, none, none, none, none] [vj (b : Int)] (0, 0) (QR κ ad N pT Post) := by
    intro b hb61 hb
    refine e_lstore7 h dX0_arrive_22 (pc := 22) (by decide) rfl ?_
    refine e_aload_n h dX0_arrive_24 (pc := 24) rfl ?_
    refine e_iload_n h dX0_arrive_25 (pc := 25) rfl ?_
    refine e_iload_n h dX0_arrive_26 (pc := 26) rfl ?_
    refine e_aload_n h dX0_arrive_27 (pc := 27) rfl ?_
    refine e_getI h fl_X0_50 dX0_arrive_28 (pc := 28) rfl (Nat.lt_of_lt_of_le (by decide) hN) (by decide) ?_
    refine e_callV3 lk_X0_96 mv_X8_dailyLoss dX0_arrive_31 (pc := 31) (by rw [hs.c0]; rfl) (by rw [hs.c0]; decide) hs.p0 (Nat.le_of_ble_eq_true rfl) (rmY := rmX8_dailyLoss) (by decide) h ?_
    refine c_dailyLoss (S := S) (i := i) (l := l) (d := d) rfl rfl hC.day hs (by omega) hX.2.2.2 (hW5 i hC.hi).2.2.2.2 (by omega) hp2.2 (hW4 l hl).2 hC.d60 ?_
    have hls := loss_le (S := S) (i := i) (l := l) (d := d)
    refine e_istore9 h dX0_arrive_34 (pc := 34) (by decide) rfl ?_
    refine e_lload h dX0_arrive_36 (pc := 36) rfl ?_
    refine e_lconst h dX0_arrive_38 (pc := 38) (x := 1) rfl ?_
    refine e_iload h dX0_arrive_39 (pc := 39) rfl ?_
    refine e_lshl h dX0_arrive_41 (pc := 41) (L_shl 1 (k := loss S i l d) (by omega)) ?_
    refine e_lconst h dX0_arrive_42 (pc := 42) (x := 1) rfl ?_
    refine e_lsub h dX0_arrive_43 (pc := 43)  ?_
    rw [shl_sub (loss S i l d)]
    refine e_land h dX0_arrive_44 (pc := 44) (L_and b (1 <<< loss S i l d - 1)) ?_
    have hlow : b &&& (1 <<< loss S i l d - 1) < 2 ^ 61 := Nat.lt_of_le_of_lt Nat.and_le_left hb61
    generalize hgw : b &&& (1 <<< loss S i l d - 1) = w at hlow ⊢
    refine e_lstore10 h dX0_arrive_45 (pc := 45) (by decide) rfl ?_
    refine e_aload_n h dX0_arrive_47 (pc := 47) rfl ?_
    refine e_getR h fl_X0_15 dX0_arrive_48 (pc := 48) rfl (Nat.lt_of_lt_of_le (by decide) hN) rfl rfl (r := th) (by first | exact e1 | (simp (disch := omega) only [up_ne]; exact e1)) ?_
    refine e_iload_n h dX0_arrive_51 (pc := 51) rfl ?_
    refine e_iload h dX0_arrive_52 (pc := 52) rfl ?_
    refine e_aload_n h dX0_arrive_54 (pc := 54) rfl ?_
    refine e_getC h fl_X0_100 dX0_arrive_55 (pc := 55) hs.c0 hs.p0 rfl rfl (r := (so + 1)) (pcr_d (by rw [hs.c0]; decide) 0) ?_
    refine e_iload_n h dX0_arrive_58 (pc := 58) rfl ?_
    refine e_iald h dX0_arrive_59 (pc := 59) hs.c1 hs.p1 (j := l) (by omega) (by rw [hs.l1]; omega) ?_
    rw [hp2.1]
    refine e_iadd h dX0_arrive_60 (pc := 60)  ?_
    refine e_callS1 lk_X0_103 ms_X10_round dX0_arrive_61 (pc := 61) (Nat.le_of_ble_eq_true rfl) (rmY := rmX10_round) (by decide) h ?_
    refine c_round (by omega) ?_
    refine e_callS2 lk_X0_31 ms_X0_cell dX0_arrive_64 (pc := 64) (Nat.le_of_ble_eq_true rfl) (rmY := rmX0_cell) (by decide) h ?_
    refine c_cell (l := l) (x := (x + sP S l) % 24) rfl (by omega) (by omega) (by omega) ?_
    refine e_dup2 h dX0_arrive_67 (pc := 67) rfl rfl ?_
    refine e_lald h dX0_arrive_68 (pc := 68) hth.c0 hth.p0 rfl (by rw [hth.l0]; omega) ?_
    rw [hn1]
    refine e_lload h dX0_arrive_69 (pc := 69) rfl ?_
    refine e_iload h dX0_arrive_71 (pc := 71) rfl ?_
    refine e_lushr h dX0_arrive_73 (pc := 73) (L_ushr (a := b) (by omega) (k := loss S i l d) (by omega)) ?_
    refine e_lload h dX0_arrive_74 (pc := 74) rfl ?_
    refine e_lconst h dX0_arrive_76 (pc := 76) (x := 0) rfl ?_
    refine e_lcmp h dX0_arrive_77 (pc := 77) (by omega) (by decide) ?_
    generalize hlc77 : lcmp _ _ = lc77
    have hlr77 := lcmp_spec hlc77
    refine e_if_eq h (tgt := 85) dX0_arrive_78 (pc := 78) (by decide) (by omega) (fun hb78 => ?_) (fun hb78 => ?_)
    · refine e_lconst h dX0_arrive_85 (pc := 85) (x := 0) rfl ?_
      refine e_lor h dX0_arrive_86 (pc := 86) (L_or (b >>> loss S i l d) 0) ?_
      refine e_lor h dX0_arrive_87 (pc := 87) (L_or n (b >>> loss S i l d ||| 0)) ?_
      refine e_last h dX0_arrive_88 (pc := 88) hth.c0 hth.p0 rfl (by rw [hth.l0]; omega) ?_
      refine e_vret h hr ha dX0_arrive_89 (pc := 89) ?_
      subst hgw
      have hz : ADD M (up M th (24 * l + (x + sP S l) % 24) ((n ||| (b >>> loss S i l d ||| 0) : Nat) : Int)) th (fun c g => ∃ k, a.testBit k = true ∧ TO S i d l x k c g) := by
        refine ADD.up hC.jb hn1 (fun g => ?_) (fun c1 g z => ?_) hn2
        · rw [Nat.testBit_or, Bool.or_eq_true, arr_bits (Or.inr ⟨rfl, by omega⟩)]
          constructor
          · rintro (z | ⟨k1, z1, z2⟩)
            · exact Or.inl z
            · obtain ⟨k, z3, z4⟩ := (hb k1).1 z1
              exact Or.inr ⟨k, z3, rfl, by unfold gasL; omega⟩
          · rintro (z | ⟨k, z1, z2, z3⟩)
            · exact Or.inl z
            · exact Or.inr ⟨_, (hb _).2 ⟨k, z1, rfl⟩, by unfold gasL at z3; omega⟩
        · obtain ⟨k, z1, z2, z3⟩ := z
          have z4 := tb_lt ha61 z1
          have z5 := gasL_le (S := S) (i := i) (l := l) (d := d) (g := k)
          exact ⟨z2, by omega⟩
      exact K _ hz
    · refine e_lconst h dX0_arrive_81 (pc := 81) (x := 1) rfl ?_
      refine e_goto h dX0_arrive_82 (pc := 82) (tgt := 86) (by decide) ?_
      refine e_lor h dX0_arrive_86 (pc := 86) (L_or (b >>> loss S i l d) 1) ?_
      refine e_lor h dX0_arrive_87 (pc := 87) (L_or n (b >>> loss S i l d ||| 1)) ?_
      refine e_last h dX0_arrive_88 (pc := 88) hth.c0 hth.p0 rfl (by rw [hth.l0]; omega) ?_
      refine e_vret h hr ha dX0_arrive_89 (pc := 89) ?_
      subst hgw
      have hz : ADD M (up M th (24 * l + (x + sP S l) % 24) ((n ||| (b >>> loss S i l d ||| 1) : Nat) : Int)) th (fun c g => ∃ k, a.testBit k = true ∧ TO S i d l x k c g) := by
        refine ADD.up hC.jb hn1 (fun g => ?_) (fun c1 g z => ?_) hn2
        · rw [Nat.testBit_or, Bool.or_eq_true, arr_bits (Or.inl ⟨rfl, by omega⟩)]
          constructor
          · rintro (z | ⟨k1, z1, z2⟩)
            · exact Or.inl z
            · obtain ⟨k, z3, z4⟩ := (hb k1).1 z1
              exact Or.inr ⟨k, z3, rfl, by unfold gasL; omega⟩
          · rintro (z | ⟨k, z1, z2, z3⟩)
            · exact Or.inl z
            · exact Or.inr ⟨_, (hb _).2 ⟨k, z1, rfl⟩, by unfold gasL at z3; omega⟩
        · obtain ⟨k, z1, z2, z3⟩ := z
          have z4 := tb_lt ha61 z1
          have z5 := gasL_le (S := S) (i := i) (l := l) (d := d) (g := k)
          exact ⟨z2, by omega⟩
      exact K _ hz
  refine e_aload_n h dX0_arrive_0 (pc := 0) rfl ?_
  refine e_iload_n h dX0_arrive_1 (pc := 1) rfl ?_
  refine e_aload_n h dX0_arrive_2 (pc := 2) rfl ?_
  refine e_getI h fl_X0_50 dX0_arrive_3 (pc := 3) rfl (Nat.lt_of_lt_of_le (by decide) hN) (by decide) ?_
  refine e_callV2 lk_X0_88 mv_X8_isStruck dX0_arrive_6 (pc := 6) (by rw [hs.c0]; rfl) (by rw [hs.c0]; decide) hs.p0 (Nat.le_of_ble_eq_true rfl) (rmY := rmX8_isStruck) (by decide) h ?_
  refine c_isStruck (S := S) (l := l) (d := d) rfl hC.day hs hC.sr hB (by omega) hC.d60 (fun k hk => by have := hW6 k hk; omega) (fun hh => ?_) (fun hh => ?_)
  · skip
    refine e_if_eq h (tgt := 20) dX0_arrive_9 (pc := 9) (by decide) (by decide) (fun hz => absurd hz (by decide)) (fun _ => ?_)
    refine e_lload h dX0_arrive_12 (pc := 12) rfl ?_
    refine e_callS1 lk_X0_92 ms_X0_halved dX0_arrive_14 (pc := 14) (Nat.le_of_ble_eq_true rfl) (rmY := rmX0_halved) (by decide) h ?_
    refine c_halved (a := a) rfl ha61 (fun v hv => ?_)
    refine e_goto h dX0_arrive_17 (pc := 17) (tgt := 22) (by decide) ?_
    exact rest v (lt_pow_of (fun g hg => by obtain ⟨k, z1, z2⟩ := (hv g).1 hg; have := tb_lt ha61 z1; omega)) (fun g => by simp only [hh, ↓reduceIte]; exact hv g)
  · skip
    refine e_if_eq h (tgt := 20) dX0_arrive_9 (pc := 9) (by decide) (by decide) (fun _ => ?_) (fun hz => absurd hz (by decide))
    refine e_lload h dX0_arrive_20 (pc := 20) rfl ?_
    exact rest a ha61 (fun g => by simp only [hh, Bool.false_eq_true, ↓reduceIte]; exact ⟨fun z => ⟨g, z, rfl⟩, fun ⟨k, z1, z2⟩ => z2 ▸ z1⟩)
