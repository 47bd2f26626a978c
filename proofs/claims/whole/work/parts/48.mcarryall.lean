theorem RepM.row {n : Nat} {b : TB} {S O : SD} {h0 : Nat} {f g : Nat → Int} {z : Nat} {K : Nat → SD} {M M2 : Mem} (h : RepM n b S O h0 f g z K M) (hf : ∀ q, q ≠ 134 → q ≠ 135 → M2 q = M q) : RepM n b S O h0 f g z K M2 := ⟨(h.tx.to (congrFun (hf 110 (by omega) (by omega)) 0) (hf 111 (by omega) (by omega))), (h.ms.to (hf 112 (by omega) (by omega)) (hf 113 (by omega) (by omega)) (hf 114 (by omega) (by omega)) (hf 115 (by omega) (by omega)) (hf 116 (by omega) (by omega)) (hf 117 (by omega) (by omega)) (hf 118 (by omega) (by omega)) (hf 119 (by omega) (by omega)) (hf 120 (by omega) (by omega)) (hf 121 (by omega) (by omega)) (hf 122 (by omega) (by omega))), (h.mo.to (hf 123 (by omega) (by omega)) (hf 124 (by omega) (by omega)) (hf 125 (by omega) (by omega)) (hf 126 (by omega) (by omega)) (hf 127 (by omega) (by omega))), h.ws, h.wo, (h.un.to (congrFun (hf 110 (by omega) (by omega)) 19) (hf 128 (by omega) (by omega))), h.h8, h.hw, (Eq.trans (congrFun (hf 110 (by omega) (by omega)) 18) h.m18), h.z2, (h.kp.to (hf 123 (by omega) (by omega)) (hf 124 (by omega) (by omega)) (hf 125 (by omega) (by omega)) (hf 126 (by omega) (by omega)) (hf 127 (by omega) (by omega)))⟩
theorem LV_iff2 {S : SD} {i d l x j c g : Nat} : (((∃ l2, SK l j l2 ∧ TO S i d l2 x j c g) ∨ (0 < l ∧ ∃ l2, SK (l - 1) j l2 ∧ TO S i d l2 x j c g)) ∨ ((l + 1 < sL S ∧ sX S i ≤ j) ∧ ∃ l2, SK (l + 1) (j - sX S i) l2 ∧ TO S i d l2 x (j - sX S i) c g)) ↔ LV S i d l x j c g := by
  constructor
  · rintro ((⟨l2, h2, h3⟩ | ⟨h0, l2, h2, h3⟩) | ⟨h0, l2, h2, h3⟩)
    · exact ⟨l, j, l2, Or.inl ⟨rfl, rfl⟩, h2, h3⟩
    · exact ⟨l - 1, j, l2, Or.inr (Or.inl ⟨by omega, rfl⟩), h2, h3⟩
    · exact ⟨l + 1, j - sX S i, l2, Or.inr (Or.inr ⟨rfl, h0.1, by omega⟩), h2, h3⟩
  · rintro ⟨l1, k1, l2, h2, h3, h4⟩
    rcases h2 with ⟨rfl, rfl⟩ | ⟨h2, rfl⟩ | ⟨rfl, h0, h2⟩
    · exact Or.inl (Or.inl ⟨l2, h3, h4⟩)
    · exact Or.inl (Or.inr ⟨by omega, l2, by rw [show l - 1 = l1 by omega]; exact h3, h4⟩)
    · exact Or.inr ⟨⟨h0, by omega⟩, l2, by rw [show j - sX S i = k1 by omega]; exact h3, by rw [show j - sX S i = k1 by omega]; exact h4⟩
/-- what has been carried: the cells ahead of k, and of cell k the gases below g0 -/
def PG (S : SD) (i d : Nat) (M : Mem) (k g0 c g : Nat) : Prop := PD S i d M 134 k c g ∨ ∃ j, j < g0 ∧ bt M 134 k j ∧ LV S i d (k / 24) (k % 24) j c g
theorem PG_no {S : SD} {i d k g0 c g : Nat} {M : Mem} (h : ¬ bt M 134 k g0) : PG S i d M k g0 c g ↔ PG S i d M k (g0 + 1) c g := by
  constructor
  · rintro (z | ⟨j, z1, z2, z3⟩)
    · exact Or.inl z
    · exact Or.inr ⟨j, by omega, z2, z3⟩
  · rintro (z | ⟨j, z1, z2, z3⟩)
    · exact Or.inl z
    · refine Or.inr ⟨j, ?_, z2, z3⟩
      by_cases e : j = g0
      · subst e; exact absurd z2 h
      · omega
theorem PG_yes {S : SD} {i d k g0 c g : Nat} {M : Mem} (h : bt M 134 k g0) : (PG S i d M k g0 c g ∨ LV S i d (k / 24) (k % 24) g0 c g) ↔ PG S i d M k (g0 + 1) c g := by
  constructor
  · rintro ((z | ⟨j, z1, z2, z3⟩) | z)
    · exact Or.inl z
    · exact Or.inr ⟨j, by omega, z2, z3⟩
    · exact Or.inr ⟨g0, by omega, h, z⟩
  · rintro (z | ⟨j, z1, z2, z3⟩)
    · exact Or.inl (Or.inl z)
    · by_cases e : j = g0
      · subst e; exact Or.inr z3
      · exact Or.inl (Or.inr ⟨j, by omega, z2, z3⟩)
theorem PG_end {S : SD} {i d k g0 c g : Nat} {M : Mem} (h : ∀ j, bt M 134 k j → j < g0) : PG S i d M k g0 c g ↔ PD S i d M 134 (k + 1) c g := by
  constructor
  · rintro (⟨m, j, z1, z2, z3⟩ | ⟨j, z1, z2, z3⟩)
    · exact ⟨m, j, by omega, z2, z3⟩
    · exact ⟨k, j, by omega, z2, z3⟩
  · rintro ⟨m, j, z1, z2, z3⟩
    by_cases e : m = k
    · subst e; exact Or.inr ⟨j, h j z2, z2, z3⟩
    · exact Or.inl ⟨m, j, by omega, z2, z3⟩
set_option maxRecDepth 100000 in
set_option maxHeartbeats 4000000 in
theorem m_carryAll {gg : GT} {ad : Nat → Nat} {N : Nat} {M : Mem} {Post : Option AV → Mem → Prop} {n : Nat} {b : TB} {S O : SD} {h0 : Nat} {f g : Nat → Int} {z : Nat} {K : Nat → SD} {i d : Nat}  {xi : Int} (hxi : xi = (i : Int))  (hN : 139 ≤ N) (hR : RepM n b S O h0 f g z K M) (hi : i < sT S) (h27 : M 110 27 = (d : Int)) (hd : d < 60) (hjn : JB M 134) (hlim : ∀ c g, c < 144 → bt M 134 c g → c < 24 * sL S) (Kc : ∀ M2 : Mem, JB M2 134 → (∀ c g, c < 144 → (bt M2 134 c g ↔ PD S i (d + 1) M 134 (24 * sL S) c g)) → (∀ q, q ≠ 134 → q ≠ 135 → M2 q = M q) → Post none M2) : Sp gg yX11_carryAll cX11_carryAll 5 none rmX11_carryAll [vr 110, vi xi] ad N pT M Post := by
  refine Sp.intro (ls := [some (vr 110), some (vi xi), none, none, none]) (by decide +kernel) rfl (Nat.le_of_ble_eq_true rfl) fun κ hgg h hr ha => ?_
  have h : Ok κ RX11 cX11_carryAll 5 rmX11_carryAll := h
  subst hgg
  subst hxi
  have hwL := hR.ws.1
  have hwT := hR.ws.2.1
  have hwB := hR.ws.2.2.1
  have w4 := hR.ws.2.2.2.1
  have w5 := hR.ws.2.2.2.2.1
  have r9 := hR.ms.1
  have r10 := hR.ms.2.1
  have r11 := hR.ms.2.2.1
  have hX9 := (w5 i hi).2.2.2.1
  have fin : ∀ (M0 M1 : Mem), (∀ c, c < 144 → M0 135 c = 0) → (∀ q, q ≠ 135 → M0 q = M q) → ADD M0 M1 135 (PD S i (d + 1) M 134 144) → E κ ad N pT M1 159 [some (vr 110), some (vi (i : Int)), none, none, none] [] (0, 0) (QR κ ad N pT Post) := by
    intro M0 M1 hz0 hf0 hAd
    have loop3 : ∀ (m k : Nat) (M2 : Mem), k ≤ 144 → 144 < k + m → (∀ j, j < k → M2 134 j = M1 135 j) → (∀ q, q ≠ 134 → M2 q = M1 q) → E κ ad N pT M2 161 [some (vr 110), some (vi (i : Int)), some (vi (k : Int)), none, none] [] (0, 0) (QR κ ad N pT Post) := by
      intro m
      induction m with
      | zero => intro k M2 h1 h2; exact absurd h2 (by omega)
      | succ m ih =>
        intro k M2 hk hm hS hfr
        refine e_iload_n h dX11_carryAll_161 (pc := 161) rfl ?_
        refine e_sipush h dX11_carryAll_162 (pc := 162) (by decide +kernel) ?_
        refine e_icmp_ge h (tgt := 186) dX11_carryAll_165 (pc := 165) (by decide) (by omega) (by decide) (fun hb165 => ?_) (fun hb165 => ?_)
        · refine e_vret h hr ha dX11_carryAll_186 (pc := 186) ?_
          exact Kc M2 (fun c hc => by rw [hS c (by omega)]; exact hAd.1 c hc) (fun c g hc => by
            unfold bt
            rw [hS c (by omega)]
            have z := hAd.2.1 c g hc
            unfold bt at z
            rw [z]
            refine ⟨fun q => q.elim (fun q => absurd q (bt_0 (hz0 c hc))) (fun ⟨m, j, z1, z2, z3⟩ => ?_), fun ⟨m, j, z1, z2, z3⟩ => Or.inr ⟨m, j, by omega, z2, z3⟩⟩
            exact ⟨m, j, hlim m j z1 z2, z2, z3⟩) (fun q h1 h2 => by rw [hfr q h1, hAd.2.2 q h2, hf0 q h2])
        · refine e_aload_n h dX11_carryAll_168 (pc := 168) rfl ?_
          refine e_getC h fl_X11_79 dX11_carryAll_169 (pc := 169) rfl (Nat.lt_of_lt_of_le (by decide) hN) rfl rfl (r := 134) rfl ?_
          refine e_iload_n h dX11_carryAll_172 (pc := 172) rfl ?_
          refine e_aload_n h dX11_carryAll_173 (pc := 173) rfl ?_
          refine e_getC h fl_X11_83 dX11_carryAll_174 (pc := 174) rfl (Nat.lt_of_lt_of_le (by decide) hN) rfl rfl (r := 135) rfl ?_
          refine e_iload_n h dX11_carryAll_177 (pc := 177) rfl ?_
          refine e_lald h dX11_carryAll_178 (pc := 178) rfl (Nat.lt_of_lt_of_le (by decide) hN) rfl (by show _ < 144; omega) ?_
          refine e_last h dX11_carryAll_179 (pc := 179) rfl (Nat.lt_of_lt_of_le (by decide) hN) rfl (by show _ < 144; omega) ?_
          refine e_iinc2 h dX11_carryAll_180 (pc := 180) (by decide) rfl ?_
          refine e_goto h dX11_carryAll_183 (pc := 183) (tgt := 161) (by decide) ?_
          rw [show (k : Int) + 1 = ((k + 1 : Nat) : Int) by omega]
          exact ih (k + 1) _ (by omega) (by omega) (fun j hj => by
            by_cases e : j = k
            · subst e; rw [up_eq]; rw [hfr 135 (by omega)]
            · rw [up_ne (Or.inr e)]; exact hS j (by omega)) (fun q hq => by rw [up_row hq]; exact hfr q hq)
    refine e_iconst h dX11_carryAll_159 (pc := 159)  ?_
    refine e_istore2 h dX11_carryAll_160 (pc := 160) (by decide) rfl ?_
    exact loop3 145 0 M1 (by omega) (by omega) (fun j hj => absurd hj (by omega)) (fun _ _ => rfl)
  have mid : ∀ (M0 : Mem), (∀ c, c < 144 → M0 135 c = 0) → (∀ q, q ≠ 135 → M0 q = M q) → ∀ (m k : Nat) (M1 : Mem), k ≤ 144 → 144 < k + m → RepM n b S O h0 f g z K M1 → M1 110 27 = (d : Int) → ADD M0 M1 135 (PD S i (d + 1) M 134 k) → E κ ad N pT M1 24 [some (vr 110), some (vi (i : Int)), some (vi (k : Int)), none, none] [] (0, 0) (QR κ ad N pT Post) := by
    intro M0 hz0 hf0 m
    have fin := fun M1 => fin M0 M1 hz0 hf0
    induction m with
    | zero => intro k M1 h1 h2; exact absurd h2 (by omega)
    | succ m ih =>
      intro k M1 hk hm hR1 h271 hAd
      refine e_iload_n h dX11_carryAll_24 (pc := 24) rfl ?_
      refine e_sipush h dX11_carryAll_25 (pc := 25) (by decide +kernel) ?_
      refine e_icmp_ge h (tgt := 159) dX11_carryAll_28 (pc := 28) (by decide) (by omega) (by decide) (fun hb28 => ?_) (fun hb28 => ?_)
      · have hk1 : k = 144 := by omega
        refine e_fgt (ls2 := [some (vr 110), some (vi (i : Int)), none, none, none]) ⟨Or.inr rfl, Or.inr rfl, Or.inl rfl, Or.inr rfl, Or.inr rfl, trivial⟩ ?_
        exact fin M1 (by rw [← hk1]; exact hAd)
      · have hk144 : k < 144 := by omega
        obtain ⟨a, ha1, ha2⟩ := hjn k hk144
        refine e_iload_n h dX11_carryAll_31 (pc := 31) rfl ?_
        refine e_bipush h dX11_carryAll_32 (pc := 32) (by decide +kernel) ?_
        refine e_idiv h dX11_carryAll_34 (pc := 34) (by omega) (by decide) ?_
        rw [show ((k : Int)).tdiv 24 = ((k / 24 : Nat) : Int) by rw [Int.tdiv_eq_ediv_of_nonneg (by omega)]; omega]
        refine e_istore3 h dX11_carryAll_35 (pc := 35) (by decide) rfl ?_
        refine e_iconst h dX11_carryAll_36 (pc := 36)  ?_
        refine e_istore4 h dX11_carryAll_37 (pc := 37) (by decide) rfl ?_
        have inner : ∀ (m2 g0 : Nat) (M1 : Mem), g0 ≤ 61 → 61 < g0 + m2 → RepM n b S O h0 f g z K M1 → M1 110 27 = (d : Int) → ADD M0 M1 135 (PG S i (d + 1) M k g0) → E κ ad N pT M1 39 [some (vr 110), some (vi (i : Int)), some (vi (k : Int)), some (vi ((k / 24 : Nat) : Int)), some (vi (g0 : Int))] [] (0, 0) (QR κ ad N pT Post) := by
          intro m2
          induction m2 with
          | zero => intro g0 M1 h1 h2; exact absurd h2 (by omega)
          | succ m2 ih2 =>
            intro g0 M1 hg0 hm2 hR1 h271 hAd
            have hak : M1 134 k = (a : Int) := by rw [hAd.2.2 134 (by omega), hf0 134 (by omega)]; exact ha1
            refine e_iload h dX11_carryAll_39 (pc := 39) rfl ?_
            refine e_bipush h dX11_carryAll_41 (pc := 41) (by decide +kernel) ?_
            refine e_icmp_gt h (tgt := 153) dX11_carryAll_43 (pc := 43) (by decide) (by omega) (by decide) (fun hb43 => ?_) (fun hb43 => ?_)
            · have hend : ∀ j, bt M 134 k j → j < g0 := fun j hj => by
                unfold bt at hj
                rw [ha1] at hj
                have := tb_lt ha2 (show a.testBit j = true from hj)
                omega
              refine e_iinc2 h dX11_carryAll_153 (pc := 153) (by decide) rfl ?_
              refine e_goto h dX11_carryAll_156 (pc := 156) (tgt := 24) (by decide) ?_
              rw [show (k : Int) + 1 = ((k + 1 : Nat) : Int) by omega]
              refine e_fgt (ls2 := [some (vr 110), some (vi (i : Int)), some (vi ((k + 1 : Nat) : Int)), none, none]) ⟨Or.inr rfl, Or.inr rfl, Or.inr rfl, Or.inl rfl, Or.inl rfl, trivial⟩ ?_
              exact ih (k + 1) M1 (by omega) (by omega) hR1 h271 (hAd.iff (fun c g => PG_end hend))
            · refine e_aload_n h dX11_carryAll_46 (pc := 46) rfl ?_
              refine e_getC h fl_X11_79 dX11_carryAll_47 (pc := 47) rfl (Nat.lt_of_lt_of_le (by decide) hN) rfl rfl (r := 134) rfl ?_
              refine e_iload_n h dX11_carryAll_50 (pc := 50) rfl ?_
              refine e_lald h dX11_carryAll_51 (pc := 51) rfl (Nat.lt_of_lt_of_le (by decide) hN) rfl (by show _ < 144; omega) ?_
              rw [hak]
              refine e_lconst h dX11_carryAll_52 (pc := 52) (x := 0) rfl ?_
              refine e_lcmp h dX11_carryAll_53 (pc := 53) (by omega) (by decide) ?_
              generalize hlc53 : lcmp _ _ = lc53
              have hlr53 := lcmp_spec hlc53
              refine e_if_eq h (tgt := 153) dX11_carryAll_54 (pc := 54) (by decide) (by omega) (fun hb54 => ?_) (fun hb54 => ?_)
              · have hend : ∀ j, bt M 134 k j → j < g0 := fun j hj => by
                  unfold bt at hj
                  rw [ha1, show a = 0 by omega] at hj
                  exact absurd hj (by show ¬ Nat.testBit 0 j = true; simp)
                refine e_iinc2 h dX11_carryAll_153 (pc := 153) (by decide) rfl ?_
                refine e_goto h dX11_carryAll_156 (pc := 156) (tgt := 24) (by decide) ?_
                rw [show (k : Int) + 1 = ((k + 1 : Nat) : Int) by omega]
                refine e_fgt (ls2 := [some (vr 110), some (vi (i : Int)), some (vi ((k + 1 : Nat) : Int)), none, none]) ⟨Or.inr rfl, Or.inr rfl, Or.inr rfl, Or.inl rfl, Or.inl rfl, trivial⟩ ?_
                exact ih (k + 1) M1 (by omega) (by omega) hR1 h271 (hAd.iff (fun c g => PG_end hend))
              · refine e_aload_n h dX11_carryAll_57 (pc := 57) rfl ?_
                refine e_getC h fl_X11_79 dX11_carryAll_58 (pc := 58) rfl (Nat.lt_of_lt_of_le (by decide) hN) rfl rfl (r := 134) rfl ?_
                refine e_iload_n h dX11_carryAll_61 (pc := 61) rfl ?_
                refine e_lald h dX11_carryAll_62 (pc := 62) rfl (Nat.lt_of_lt_of_le (by decide) hN) rfl (by show _ < 144; omega) ?_
                rw [hak]
                refine e_iload h dX11_carryAll_63 (pc := 63) rfl ?_
                refine e_lshr h dX11_carryAll_65 (pc := 65) (L_shr (a := a) (by omega) (k := g0) (by omega)) ?_
                refine e_lconst h dX11_carryAll_66 (pc := 66) (x := 1) rfl ?_
                refine e_land h dX11_carryAll_67 (pc := 67) (L_and (a >>> g0) 1) ?_
                have hod := tb_odd a g0
                have hle := odd_le a g0
                generalize (a >>> g0 &&& 1) = w at hod hle ⊢
                have hbit : bt M 134 k g0 ↔ w ≠ 0 := by unfold bt; rw [ha1]; exact hod.symm
                refine e_lconst h dX11_carryAll_68 (pc := 68) (x := 1) rfl ?_
                refine e_lcmp h dX11_carryAll_69 (pc := 69) (by omega) (by decide) ?_
                generalize hlc69 : lcmp _ _ = lc69
                have hlr69 := lcmp_spec hlc69
                refine e_if_ne h (tgt := 147) dX11_carryAll_70 (pc := 70) (by decide) (by omega) (fun hb70 => ?_) (fun hb70 => ?_)
                · refine e_iinc4 h dX11_carryAll_147 (pc := 147) (by decide) rfl ?_
                  refine e_goto h dX11_carryAll_150 (pc := 150) (tgt := 39) (by decide) ?_
                  rw [show (g0 : Int) + 1 = ((g0 + 1 : Nat) : Int) by omega]
                  exact ih2 (g0 + 1) M1 (by omega) (by omega) hR1 h271 (hAd.iff (fun c g => PG_no (fun z => absurd (hbit.1 z) (by omega))))
                · have hb1 : bt M 134 k g0 := hbit.2 (by omega)
                  have hkL := hlim k g0 hk144 hb1
                  refine e_aload_n h dX11_carryAll_73 (pc := 73) rfl ?_
                  refine e_iload_n h dX11_carryAll_74 (pc := 74) rfl ?_
                  refine e_iload_n h dX11_carryAll_75 (pc := 75) rfl ?_
                  refine e_iload_n h dX11_carryAll_76 (pc := 76) rfl ?_
                  refine e_bipush h dX11_carryAll_77 (pc := 77) (by decide +kernel) ?_
                  refine e_irem h dX11_carryAll_79 (pc := 79) (by omega) (by decide) ?_
                  rw [show ((k : Int)).tmod 24 = ((k % 24 : Nat) : Int) by rw [Int.tmod_eq_emod_of_nonneg (by omega)]; omega]
                  refine e_iload h dX11_carryAll_80 (pc := 80) rfl ?_
                  refine e_callV4 lk_X11_193 mv_X11_carry dX11_carryAll_82 (pc := 82) rfl (by decide) (Nat.lt_of_lt_of_le (by decide) hN) (Nat.le_of_ble_eq_true rfl) (rmY := rmX11_carry) (by decide) h ?_
                  refine m_carry (i := i) (l := k / 24) (x := k % 24) (g1 := g0) (d := d) rfl rfl rfl rfl hN hR1 hi (by omega) (by omega) (by omega) h271 hd hAd.1 (fun M2 hz1 => ?_)
                  have hR2 := hR1.row (M2 := M2) (fun q h1 h2 => hz1.2.2 q (by omega))
                  have h272 : M2 110 27 = (d : Int) := by rw [hz1.2.2 110 (by omega)]; exact h271
                  have p9 : M2 112 0 = (sL S : Nat) := hR2.ms.1
                  have p8 : M2 118 i = (sX S i : Nat) := (hR2.ms.2.2.2.2.1 i hi).2.2.1
                  refine e_iload_n h dX11_carryAll_85 (pc := 85) rfl ?_
                  refine e_if_le h (tgt := 103) dX11_carryAll_86 (pc := 86) (by decide) (by omega) (fun hb86 => ?_) (fun hb86 => ?_)
                  · have hy2 : ADD M2 M2 135 (fun c g => 0 < k / 24 ∧ ∃ l2, SK (k / 24 - 1) g0 l2 ∧ TO S i (d + 1) l2 (k % 24) g0 c g) := ADD.none hz1.1 (fun c g z => absurd z.1 (by omega))
                    refine e_iload_n h dX11_carryAll_103 (pc := 103) rfl ?_
                    refine e_iconst h dX11_carryAll_104 (pc := 104)  ?_
                    refine e_iadd h dX11_carryAll_105 (pc := 105)  ?_
                    refine e_aload_n h dX11_carryAll_106 (pc := 106) rfl ?_
                    refine e_getC h fl_X11_13 dX11_carryAll_107 (pc := 107) rfl (Nat.lt_of_lt_of_le (by decide) hN) rfl rfl (r := 112) rfl ?_
                    refine e_iconst h dX11_carryAll_110 (pc := 110)  ?_
                    refine e_iald h dX11_carryAll_111 (pc := 111) rfl (Nat.lt_of_lt_of_le (by decide) hN) (j := 0) rfl (by decide) ?_
                    refine e_icmp_ge h (tgt := 147) dX11_carryAll_112 (pc := 112) (by decide) (by omega) (by omega) (fun hb112 => ?_) (fun hb112 => ?_)
                    · have hy3 : ADD M2 M2 135 (fun c g => (k / 24 + 1 < sL S ∧ sX S i ≤ g0) ∧ ∃ l2, SK (k / 24 + 1) (g0 - sX S i) l2 ∧ TO S i (d + 1) l2 (k % 24) (g0 - sX S i) c g) := ADD.none (by first | exact hz1.1 | exact hz2.1) (fun c g z => absurd z.1 (by omega))
                      refine e_iinc4 h dX11_carryAll_147 (pc := 147) (by decide) rfl ?_
                      refine e_goto h dX11_carryAll_150 (pc := 150) (tgt := 39) (by decide) ?_
                      rw [show (g0 : Int) + 1 = ((g0 + 1 : Nat) : Int) by omega]
                      exact ih2 (g0 + 1) M2 (by omega) (by omega) hR2 h272 ((hAd.trans (((hz1.trans hy2).trans hy3).iff (fun c g => LV_iff2))).iff (fun c g => PG_yes hb1))
                    · refine e_iload h dX11_carryAll_115 (pc := 115) rfl ?_
                      refine e_aload_n h dX11_carryAll_117 (pc := 117) rfl ?_
                      refine e_getC h fl_X11_31 dX11_carryAll_118 (pc := 118) rfl (Nat.lt_of_lt_of_le (by decide) hN) rfl rfl (r := 118) rfl ?_
                      refine e_iload_n h dX11_carryAll_121 (pc := 121) rfl ?_
                      refine e_iald h dX11_carryAll_122 (pc := 122) rfl (Nat.lt_of_lt_of_le (by decide) hN) rfl (by show _ < 12; omega) ?_
                      refine e_icmp_lt h (tgt := 147) dX11_carryAll_123 (pc := 123) (by decide) (by omega) (by omega) (fun hb123 => ?_) (fun hb123 => ?_)
                      · have hy3 : ADD M2 M2 135 (fun c g => (k / 24 + 1 < sL S ∧ sX S i ≤ g0) ∧ ∃ l2, SK (k / 24 + 1) (g0 - sX S i) l2 ∧ TO S i (d + 1) l2 (k % 24) (g0 - sX S i) c g) := ADD.none (by first | exact hz1.1 | exact hz2.1) (fun c g z => absurd z.1 (by omega))
                        refine e_iinc4 h dX11_carryAll_147 (pc := 147) (by decide) rfl ?_
                        refine e_goto h dX11_carryAll_150 (pc := 150) (tgt := 39) (by decide) ?_
                        rw [show (g0 : Int) + 1 = ((g0 + 1 : Nat) : Int) by omega]
                        exact ih2 (g0 + 1) M2 (by omega) (by omega) hR2 h272 ((hAd.trans (((hz1.trans hy2).trans hy3).iff (fun c g => LV_iff2))).iff (fun c g => PG_yes hb1))
                      · refine e_aload_n h dX11_carryAll_126 (pc := 126) rfl ?_
                        refine e_iload_n h dX11_carryAll_127 (pc := 127) rfl ?_
                        refine e_iload_n h dX11_carryAll_128 (pc := 128) rfl ?_
                        refine e_iconst h dX11_carryAll_129 (pc := 129)  ?_
                        refine e_iadd h dX11_carryAll_130 (pc := 130)  ?_
                        refine e_iload_n h dX11_carryAll_131 (pc := 131) rfl ?_
                        refine e_bipush h dX11_carryAll_132 (pc := 132) (by decide +kernel) ?_
                        refine e_irem h dX11_carryAll_134 (pc := 134) (by omega) (by decide) ?_
                        rw [show ((k : Int)).tmod 24 = ((k % 24 : Nat) : Int) by rw [Int.tmod_eq_emod_of_nonneg (by omega)]; omega]
                        refine e_iload h dX11_carryAll_135 (pc := 135) rfl ?_
                        refine e_aload_n h dX11_carryAll_137 (pc := 137) rfl ?_
                        refine e_getC h fl_X11_31 dX11_carryAll_138 (pc := 138) rfl (Nat.lt_of_lt_of_le (by decide) hN) rfl rfl (r := 118) rfl ?_
                        refine e_iload_n h dX11_carryAll_141 (pc := 141) rfl ?_
                        refine e_iald h dX11_carryAll_142 (pc := 142) rfl (Nat.lt_of_lt_of_le (by decide) hN) rfl (by show _ < 12; omega) ?_
                        refine e_isub h dX11_carryAll_143 (pc := 143)  ?_
                        refine e_callV4 lk_X11_193 mv_X11_carry dX11_carryAll_144 (pc := 144) rfl (by decide) (Nat.lt_of_lt_of_le (by decide) hN) (Nat.le_of_ble_eq_true rfl) (rmY := rmX11_carry) (by decide) h ?_
                        refine m_carry (i := i) (l := k / 24 + 1) (x := k % 24) (g1 := g0 - sX S i) (d := d) rfl (by omega) rfl (by omega) hN hR2 hi (by omega) (by omega) (by omega) h272 hd hz1.1 (fun M4 hz3 => ?_)
                        have hy3 : ADD M2 M4 135 (fun c g => (k / 24 + 1 < sL S ∧ sX S i ≤ g0) ∧ ∃ l2, SK (k / 24 + 1) (g0 - sX S i) l2 ∧ TO S i (d + 1) l2 (k % 24) (g0 - sX S i) c g) := hz3.iff (fun c g => ⟨fun z => ⟨by omega, z⟩, fun z => z.2⟩)
                        have hR4 := hR2.row (M2 := M4) (fun q h1 h2 => hz3.2.2 q (by omega))
                        have h274 : M4 110 27 = (d : Int) := by rw [hz3.2.2 110 (by omega)]; exact h272
                        have p9 : M4 112 0 = (sL S : Nat) := hR4.ms.1
                        have p8 : M4 118 i = (sX S i : Nat) := (hR4.ms.2.2.2.2.1 i hi).2.2.1
                        refine e_iinc4 h dX11_carryAll_147 (pc := 147) (by decide) rfl ?_
                        refine e_goto h dX11_carryAll_150 (pc := 150) (tgt := 39) (by decide) ?_
                        rw [show (g0 : Int) + 1 = ((g0 + 1 : Nat) : Int) by omega]
                        exact ih2 (g0 + 1) M4 (by omega) (by omega) hR4 h274 ((hAd.trans (((hz1.trans hy2).trans hy3).iff (fun c g => LV_iff2))).iff (fun c g => PG_yes hb1))
                  · refine e_aload_n h dX11_carryAll_89 (pc := 89) rfl ?_
                    refine e_iload_n h dX11_carryAll_90 (pc := 90) rfl ?_
                    refine e_iload_n h dX11_carryAll_91 (pc := 91) rfl ?_
                    refine e_iconst h dX11_carryAll_92 (pc := 92)  ?_
                    refine e_isub h dX11_carryAll_93 (pc := 93)  ?_
                    refine e_iload_n h dX11_carryAll_94 (pc := 94) rfl ?_
                    refine e_bipush h dX11_carryAll_95 (pc := 95) (by decide +kernel) ?_
                    refine e_irem h dX11_carryAll_97 (pc := 97) (by omega) (by decide) ?_
                    rw [show ((k : Int)).tmod 24 = ((k % 24 : Nat) : Int) by rw [Int.tmod_eq_emod_of_nonneg (by omega)]; omega]
                    refine e_iload h dX11_carryAll_98 (pc := 98) rfl ?_
                    refine e_callV4 lk_X11_193 mv_X11_carry dX11_carryAll_100 (pc := 100) rfl (by decide) (Nat.lt_of_lt_of_le (by decide) hN) (Nat.le_of_ble_eq_true rfl) (rmY := rmX11_carry) (by decide) h ?_
                    refine m_carry (i := i) (l := k / 24 - 1) (x := k % 24) (g1 := g0) (d := d) rfl (by omega) rfl rfl hN hR2 hi (by omega) (by omega) (by omega) h272 hd hz1.1 (fun M3 hz2 => ?_)
                    have hy2 : ADD M2 M3 135 (fun c g => 0 < k / 24 ∧ ∃ l2, SK (k / 24 - 1) g0 l2 ∧ TO S i (d + 1) l2 (k % 24) g0 c g) := hz2.iff (fun c g => ⟨fun z => ⟨by omega, z⟩, fun z => z.2⟩)
                    have hR3 := hR2.row (M2 := M3) (fun q h1 h2 => hz2.2.2 q (by omega))
                    have h273 : M3 110 27 = (d : Int) := by rw [hz2.2.2 110 (by omega)]; exact h272
                    have p9 : M3 112 0 = (sL S : Nat) := hR3.ms.1
                    have p8 : M3 118 i = (sX S i : Nat) := (hR3.ms.2.2.2.2.1 i hi).2.2.1
                    refine e_iload_n h dX11_carryAll_103 (pc := 103) rfl ?_
                    refine e_iconst h dX11_carryAll_104 (pc := 104)  ?_
                    refine e_iadd h dX11_carryAll_105 (pc := 105)  ?_
                    refine e_aload_n h dX11_carryAll_106 (pc := 106) rfl ?_
                    refine e_getC h fl_X11_13 dX11_carryAll_107 (pc := 107) rfl (Nat.lt_of_lt_of_le (by decide) hN) rfl rfl (r := 112) rfl ?_
                    refine e_iconst h dX11_carryAll_110 (pc := 110)  ?_
                    refine e_iald h dX11_carryAll_111 (pc := 111) rfl (Nat.lt_of_lt_of_le (by decide) hN) (j := 0) rfl (by decide) ?_
                    refine e_icmp_ge h (tgt := 147) dX11_carryAll_112 (pc := 112) (by decide) (by omega) (by omega) (fun hb112 => ?_) (fun hb112 => ?_)
                    · have hy3 : ADD M3 M3 135 (fun c g => (k / 24 + 1 < sL S ∧ sX S i ≤ g0) ∧ ∃ l2, SK (k / 24 + 1) (g0 - sX S i) l2 ∧ TO S i (d + 1) l2 (k % 24) (g0 - sX S i) c g) := ADD.none (by first | exact hz1.1 | exact hz2.1) (fun c g z => absurd z.1 (by omega))
                      refine e_iinc4 h dX11_carryAll_147 (pc := 147) (by decide) rfl ?_
                      refine e_goto h dX11_carryAll_150 (pc := 150) (tgt := 39) (by decide) ?_
                      rw [show (g0 : Int) + 1 = ((g0 + 1 : Nat) : Int) by omega]
                      exact ih2 (g0 + 1) M3 (by omega) (by omega) hR3 h273 ((hAd.trans (((hz1.trans hy2).trans hy3).iff (fun c g => LV_iff2))).iff (fun c g => PG_yes hb1))
                    · refine e_iload h dX11_carryAll_115 (pc := 115) rfl ?_
                      refine e_aload_n h dX11_carryAll_117 (pc := 117) rfl ?_
                      refine e_getC h fl_X11_31 dX11_carryAll_118 (pc := 118) rfl (Nat.lt_of_lt_of_le (by decide) hN) rfl rfl (r := 118) rfl ?_
                      refine e_iload_n h dX11_carryAll_121 (pc := 121) rfl ?_
                      refine e_iald h dX11_carryAll_122 (pc := 122) rfl (Nat.lt_of_lt_of_le (by decide) hN) rfl (by show _ < 12; omega) ?_
                      refine e_icmp_lt h (tgt := 147) dX11_carryAll_123 (pc := 123) (by decide) (by omega) (by omega) (fun hb123 => ?_) (fun hb123 => ?_)
                      · have hy3 : ADD M3 M3 135 (fun c g => (k / 24 + 1 < sL S ∧ sX S i ≤ g0) ∧ ∃ l2, SK (k / 24 + 1) (g0 - sX S i) l2 ∧ TO S i (d + 1) l2 (k % 24) (g0 - sX S i) c g) := ADD.none (by first | exact hz1.1 | exact hz2.1) (fun c g z => absurd z.1 (by omega))
                        refine e_iinc4 h dX11_carryAll_147 (pc := 147) (by decide) rfl ?_
                        refine e_goto h dX11_carryAll_150 (pc := 150) (tgt := 39) (by decide) ?_
                        rw [show (g0 : Int) + 1 = ((g0 + 1 : Nat) : Int) by omega]
                        exact ih2 (g0 + 1) M3 (by omega) (by omega) hR3 h273 ((hAd.trans (((hz1.trans hy2).trans hy3).iff (fun c g => LV_iff2))).iff (fun c g => PG_yes hb1))
                      · refine e_aload_n h dX11_carryAll_126 (pc := 126) rfl ?_
                        refine e_iload_n h dX11_carryAll_127 (pc := 127) rfl ?_
                        refine e_iload_n h dX11_carryAll_128 (pc := 128) rfl ?_
                        refine e_iconst h dX11_carryAll_129 (pc := 129)  ?_
                        refine e_iadd h dX11_carryAll_130 (pc := 130)  ?_
                        refine e_iload_n h dX11_carryAll_131 (pc := 131) rfl ?_
                        refine e_bipush h dX11_carryAll_132 (pc := 132) (by decide +kernel) ?_
                        refine e_irem h dX11_carryAll_134 (pc := 134) (by omega) (by decide) ?_
                        rw [show ((k : Int)).tmod 24 = ((k % 24 : Nat) : Int) by rw [Int.tmod_eq_emod_of_nonneg (by omega)]; omega]
                        refine e_iload h dX11_carryAll_135 (pc := 135) rfl ?_
                        refine e_aload_n h dX11_carryAll_137 (pc := 137) rfl ?_
                        refine e_getC h fl_X11_31 dX11_carryAll_138 (pc := 138) rfl (Nat.lt_of_lt_of_le (by decide) hN) rfl rfl (r := 118) rfl ?_
                        refine e_iload_n h dX11_carryAll_141 (pc := 141) rfl ?_
                        refine e_iald h dX11_carryAll_142 (pc := 142) rfl (Nat.lt_of_lt_of_le (by decide) hN) rfl (by show _ < 12; omega) ?_
                        refine e_isub h dX11_carryAll_143 (pc := 143)  ?_
                        refine e_callV4 lk_X11_193 mv_X11_carry dX11_carryAll_144 (pc := 144) rfl (by decide) (Nat.lt_of_lt_of_le (by decide) hN) (Nat.le_of_ble_eq_true rfl) (rmY := rmX11_carry) (by decide) h ?_
                        refine m_carry (i := i) (l := k / 24 + 1) (x := k % 24) (g1 := g0 - sX S i) (d := d) rfl (by omega) rfl (by omega) hN hR3 hi (by omega) (by omega) (by omega) h273 hd hz2.1 (fun M4 hz3 => ?_)
                        have hy3 : ADD M3 M4 135 (fun c g => (k / 24 + 1 < sL S ∧ sX S i ≤ g0) ∧ ∃ l2, SK (k / 24 + 1) (g0 - sX S i) l2 ∧ TO S i (d + 1) l2 (k % 24) (g0 - sX S i) c g) := hz3.iff (fun c g => ⟨fun z => ⟨by omega, z⟩, fun z => z.2⟩)
                        have hR4 := hR3.row (M2 := M4) (fun q h1 h2 => hz3.2.2 q (by omega))
                        have h274 : M4 110 27 = (d : Int) := by rw [hz3.2.2 110 (by omega)]; exact h273
                        have p9 : M4 112 0 = (sL S : Nat) := hR4.ms.1
                        have p8 : M4 118 i = (sX S i : Nat) := (hR4.ms.2.2.2.2.1 i hi).2.2.1
                        refine e_iinc4 h dX11_carryAll_147 (pc := 147) (by decide) rfl ?_
                        refine e_goto h dX11_carryAll_150 (pc := 150) (tgt := 39) (by decide) ?_
                        rw [show (g0 : Int) + 1 = ((g0 + 1 : Nat) : Int) by omega]
                        exact ih2 (g0 + 1) M4 (by omega) (by omega) hR4 h274 ((hAd.trans (((hz1.trans hy2).trans hy3).iff (fun c g => LV_iff2))).iff (fun c g => PG_yes hb1))
        refine inner 62 0 M1 (by omega) (by omega) hR1 h271 (hAd.iff (fun c g => ⟨fun z => Or.inl z, fun z => z.elim (fun z => z) (fun ⟨j, z1, _⟩ => absurd z1 (by omega))⟩))
  have loop : ∀ (m k : Nat) (M1 : Mem), k ≤ 144 → 144 < k + m → (∀ j, j < k → M1 135 j = 0) → (∀ q, q ≠ 135 → M1 q = M q) → E κ ad N pT M1 2 [some (vr 110), some (vi (i : Int)), some (vi (k : Int)), none, none] [] (0, 0) (QR κ ad N pT Post) := by
    intro m
    induction m with
    | zero => intro k M1 h1 h2; exact absurd h2 (by omega)
    | succ m ih =>
      intro k M1 hk hm hS hfr
      refine e_iload_n h dX11_carryAll_2 (pc := 2) rfl ?_
      refine e_sipush h dX11_carryAll_3 (pc := 3) (by decide +kernel) ?_
      refine e_icmp_ge h (tgt := 22) dX11_carryAll_6 (pc := 6) (by decide) (by omega) (by decide) (fun hb6 => ?_) (fun hb6 => ?_)
      · refine e_fgt (ls2 := [some (vr 110), some (vi (i : Int)), none, none, none]) ⟨Or.inr rfl, Or.inr rfl, Or.inl rfl, Or.inr rfl, Or.inr rfl, trivial⟩ ?_
        refine e_iconst h dX11_carryAll_22 (pc := 22)  ?_
        refine e_istore2 h dX11_carryAll_23 (pc := 23) (by decide) rfl ?_
        exact mid M1 (fun c hc => hS c (by omega)) hfr 145 0 M1 (by omega) (by omega) (hR.row (fun q h1 h2 => hfr q h2)) (by rw [hfr 110 (by omega)]; exact h27) (ADD.none (jb_0 (fun c hc => hS c (by omega))) (fun c g z => by obtain ⟨m, j, z1, z2⟩ := z; omega))
      · refine e_aload_n h dX11_carryAll_9 (pc := 9) rfl ?_
        refine e_getC h fl_X11_83 dX11_carryAll_10 (pc := 10) rfl (Nat.lt_of_lt_of_le (by decide) hN) rfl rfl (r := 135) rfl ?_
        refine e_iload_n h dX11_carryAll_13 (pc := 13) rfl ?_
        refine e_lconst h dX11_carryAll_14 (pc := 14) (x := 0) rfl ?_
        refine e_last h dX11_carryAll_15 (pc := 15) rfl (Nat.lt_of_lt_of_le (by decide) hN) rfl (by show _ < 144; omega) ?_
        refine e_iinc2 h dX11_carryAll_16 (pc := 16) (by decide) rfl ?_
        refine e_goto h dX11_carryAll_19 (pc := 19) (tgt := 2) (by decide) ?_
        rw [show (k : Int) + 1 = ((k + 1 : Nat) : Int) by omega]
        exact ih (k + 1) _ (by omega) (by omega) (fun j hj => by
          by_cases e : j = k
          · subst e; exact up_eq _ _ _ _
          · rw [up_ne (Or.inr e)]; exact hS j (by omega)) (fun q hq => by rw [up_row hq]; exact hfr q hq)
  refine e_iconst h dX11_carryAll_0 (pc := 0)  ?_
  refine e_istore2 h dX11_carryAll_1 (pc := 1) (by decide) rfl ?_
  exact loop 145 0 M (by omega) (by omega) (fun j hj => absurd hj (by omega)) (fun _ _ => rfl)
