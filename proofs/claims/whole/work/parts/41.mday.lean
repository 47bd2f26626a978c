theorem RepM.go {n : Nat} {b : TB} {S O : SD} {h0 : Nat} {f g : Nat → Int} {z : Nat} {K : Nat → SD} {M M2 : Mem} (h : RepM n b S O h0 f g z K M) (hf : (∀ q j, (q ≠ 130 ∧ q ≠ 131 ∧ q ≠ 132 ∧ q ≠ 133 ∧ (q ≠ 110 ∨ j ≠ 27)) → M2 q j = M q j)) : RepM n b S O h0 f g z K M2 := ⟨(h.tx.to (hf 110 0 (by omega)) (by funext j; exact hf 111 j (by omega))), (h.ms.to (by funext j; exact hf 112 j (by omega)) (by funext j; exact hf 113 j (by omega)) (by funext j; exact hf 114 j (by omega)) (by funext j; exact hf 115 j (by omega)) (by funext j; exact hf 116 j (by omega)) (by funext j; exact hf 117 j (by omega)) (by funext j; exact hf 118 j (by omega)) (by funext j; exact hf 119 j (by omega)) (by funext j; exact hf 120 j (by omega)) (by funext j; exact hf 121 j (by omega)) (by funext j; exact hf 122 j (by omega))), (h.mo.to (by funext j; exact hf 123 j (by omega)) (by funext j; exact hf 124 j (by omega)) (by funext j; exact hf 125 j (by omega)) (by funext j; exact hf 126 j (by omega)) (by funext j; exact hf 127 j (by omega))), h.ws, h.wo, (h.un.to (hf 110 19 (by omega)) (by funext j; exact hf 128 j (by omega))), h.h8, h.hw, (Eq.trans (hf 110 18 (by omega)) h.m18), h.z2, (h.kp.to (by funext j; exact hf 123 j (by omega)) (by funext j; exact hf 124 j (by omega)) (by funext j; exact hf 125 j (by omega)) (by funext j; exact hf 126 j (by omega)) (by funext j; exact hf 127 j (by omega)))⟩
def MG (S O : SD) (d : Nat) (M : Mem) : Prop := M 110 27 = (d : Int) ∧ ∀ i, i < sT S → M 130 i = ((cs S O i d).1 : Nat) ∧ M 131 i = ((cs S O i d).2.1 : Nat) ∧ M 132 i = ((cs S O i d).2.2 : Nat) ∧ M 133 i = lst S O i (sH S i) (sF S i) d
/-- a town's level and gas behind the first k errands of the next day -/
def ek (S O : SD) (i d k : Nat) : Nat × Nat := if (cs S O i d).1 = 9 then ((cs S O i d).1, (cs S O i d).2.2) else er S O i (d + 1) k ((cs S O i d).1, (cs S O i d).2.2)
theorem ek_0 {S O : SD} {i d : Nat} : ek S O i d 0 = ((cs S O i d).1, (cs S O i d).2.2) := by unfold ek; split <;> rfl
theorem ek_wf {S O : SD} {i d k : Nat} (h : (cs S O i d).1 < sL S ∨ (cs S O i d).1 = 9) (h2 : (cs S O i d).2.2 ≤ 60) : ((ek S O i d k).1 < sL S ∨ (ek S O i d k).1 = 9) ∧ (ek S O i d k).2 ≤ 60 ∧ ((ek S O i d k).1 = 9 → (sL S ≤ 6 → (cs S O i d).1 = 9)) := by
  unfold ek
  by_cases e : (cs S O i d).1 = 9
  · rw [if_pos e]; exact ⟨Or.inr e, h2, fun _ _ => e⟩
  · rw [if_neg e]
    have z := er_wf (S := S) (O := O) (i := i) (d := d + 1) (c := ((cs S O i d).1, (cs S O i d).2.2)) (by dsimp only; omega) k
    dsimp only at z
    exact ⟨Or.inl z.1, by omega, fun q q2 => by omega⟩
theorem ek_no {S O : SD} {i d k : Nat} (hL6 : sL S ≤ 6) (hc : (cs S O i d).1 < sL S ∨ (cs S O i d).1 = 9) (h : ¬ (oW O k = i ∧ oD O k = d + 1 ∧ (ek S O i d k).1 ≠ 9)) : ek S O i d (k + 1) = ek S O i d k := by
  by_cases e : (cs S O i d).1 = 9
  · unfold ek; rw [if_pos e, if_pos e]
  · have e2 : ∀ k, ek S O i d k = er S O i (d + 1) k ((cs S O i d).1, (cs S O i d).2.2) := fun k => by unfold ek; rw [if_neg e]
    by_cases q : oW O k = i ∧ oD O k = d + 1
    · have z := er_wf (S := S) (O := O) (i := i) (d := d + 1) (c := ((cs S O i d).1, (cs S O i d).2.2)) (by dsimp only; omega) k
      have h9 : (ek S O i d k).1 ≠ 9 := by rw [e2]; omega
      exact absurd ⟨q.1, q.2, h9⟩ h
    · rw [e2, e2]; exact er_no q
theorem ek_go {S O : SD} {i d k : Nat} (h : oW O k = i ∧ oD O k = d + 1) (h9 : (ek S O i d k).1 ≠ 9) : ek S O i d (k + 1) = (if oU O k = 0 then (ek S O i d k).1 - 1 else if (ek S O i d k).1 + 1 < sL S ∧ sX S i ≤ (ek S O i d k).2 then (ek S O i d k).1 + 1 else (ek S O i d k).1, if oU O k = 0 then (ek S O i d k).2 else if (ek S O i d k).1 + 1 < sL S ∧ sX S i ≤ (ek S O i d k).2 then (ek S O i d k).2 - sX S i else (ek S O i d k).2) := by
  have e : (cs S O i d).1 ≠ 9 := by
    intro z
    apply h9
    unfold ek
    rw [if_pos z]
    exact z
  have e2 : ∀ k, ek S O i d k = er S O i (d + 1) k ((cs S O i d).1, (cs S O i d).2.2) := fun k => by unfold ek; rw [if_neg e]
  rw [e2, e2]
  by_cases u : oU O k = 0
  · rw [er_down h u, if_pos u, if_pos u]
  · by_cases v : (er S O i (d + 1) k ((cs S O i d).1, (cs S O i d).2.2)).1 + 1 < sL S ∧ sX S i ≤ (er S O i (d + 1) k ((cs S O i d).1, (cs S O i d).2.2)).2
    · rw [er_up h u v, if_neg u, if_neg u, if_pos v, if_pos v]
    · rw [er_stay h u v, if_neg u, if_neg u, if_neg v, if_neg v]
theorem lst_float {S O : SD} {i l0 x0 : Nat} : ∀ d, (crs S O i l0 x0 d).1 ≠ 9 → lst S O i l0 x0 d = -4
  | 0, _ => rfl
  | d + 1, h => by
    have h0 : (crs S O i l0 x0 d).1 ≠ 9 := fun z => h (by rw [(crs_lost z).1]; exact z)
    show (if _ then _ else _) = _
    rw [if_neg (fun q => h q.2)]
    exact lst_float d h0
/-- what the next day makes of a town -/
theorem day_A {S O : SD} {i d : Nat} (h : (cs S O i d).1 = 9) : cs S O i (d + 1) = cs S O i d ∧ lst S O i (sH S i) (sF S i) (d + 1) = lst S O i (sH S i) (sF S i) d := crs_lost h
theorem day_B {S O : SD} {i d lv : Nat} (h : (cs S O i d).1 ≠ 9) (hs : sink (ek S O i d (oE O)) = lv) (h9 : lv ≠ 9) : cs S O i (d + 1) = (lv, ((cs S O i d).2.1 + sP S lv) % 24, gasL S i lv (d + 1) (ek S O i d (oE O)).2) ∧ lst S O i (sH S i) (sF S i) (d + 1) = -4 := by
  have e2 : ek S O i d (oE O) = er S O i (d + 1) (oE O) ((cs S O i d).1, (cs S O i d).2.2) := by unfold ek; rw [if_neg h]
  have e3 : cs S O i (d + 1) = (lv, ((cs S O i d).2.1 + sP S lv) % 24, gasL S i lv (d + 1) (ek S O i d (oE O)).2) := by
    rw [e2] at hs ⊢
    show stepC S O i (d + 1) (cs S O i d) = _
    unfold stepC
    rw [if_neg h, hs, if_neg h9]
  exact ⟨e3, lst_float (d + 1) (by show (cs S O i (d + 1)).1 ≠ 9; rw [e3]; exact h9)⟩
theorem day_C {S O : SD} {i d : Nat} (h : (cs S O i d).1 ≠ 9) (hs : sink (ek S O i d (oE O)) = 9) : cs S O i (d + 1) = (9, (cs S O i d).2.1, (ek S O i d (oE O)).2) ∧ lst S O i (sH S i) (sF S i) (d + 1) = ((d + 1 : Nat) : Int) := by
  have e2 : ek S O i d (oE O) = er S O i (d + 1) (oE O) ((cs S O i d).1, (cs S O i d).2.2) := by unfold ek; rw [if_neg h]
  have e3 : cs S O i (d + 1) = (9, (cs S O i d).2.1, (ek S O i d (oE O)).2) := by
    rw [e2] at hs ⊢
    show stepC S O i (d + 1) (cs S O i d) = _
    unfold stepC
    rw [if_neg h, hs, if_pos rfl]
  refine ⟨e3, ?_⟩
  show (if _ then _ else _) = _
  rw [if_pos ⟨h, by show (cs S O i (d + 1)).1 = 9; rw [e3]⟩]
set_option maxRecDepth 100000 in
set_option maxHeartbeats 4000000 in
theorem m_goDay {gg : GT} {ad : Nat → Nat} {N : Nat} {M : Mem} {Post : Option AV → Mem → Prop} {n : Nat} {b : TB} {S O : SD} {h0 : Nat} {f g : Nat → Int} {z : Nat} {K : Nat → SD} {d : Nat}   (hN : 139 ≤ N) (hR : RepM n b S O h0 f g z K M) (hG : MG S O d M) (hd : d < 60) (K : ∀ M2 : Mem, MG S O (d + 1) M2 → RepM n b S O h0 f g z K M2 → (∀ q j, (q ≠ 130 ∧ q ≠ 131 ∧ q ≠ 132 ∧ q ≠ 133 ∧ (q ≠ 110 ∨ j ≠ 27)) → M2 q j = M q j) → Post none M2) : Sp gg yX11_goDay cX11_goDay 2 none rmX11_goDay [vr 110] ad N pT M Post := by
  refine Sp.intro (ls := [some (vr 110), none]) (by decide +kernel) rfl (Nat.le_of_ble_eq_true rfl) fun κ hgg h hr ha => ?_
  have h : Ok κ RX11 cX11_goDay 2 rmX11_goDay := h
  subst hgg
  have hwL := hR.ws.1
  have hwT := hR.ws.2.1
  have hwB := hR.ws.2.2.1
  have w4 := hR.ws.2.2.2.1
  have w5 := hR.ws.2.2.2.2.1
  have r9 := hR.ms.1
  have r10 := hR.ms.2.1
  have r11 := hR.ms.2.2.1
  have hL6 := hR.ws.1.2
  have hwo8 := hR.wo.1
  have hcw : ∀ i, i < sT S → ((cs S O i d).1 < sL S ∨ (cs S O i d).1 = 9) ∧ (cs S O i d).2.1 ≤ 23 ∧ (cs S O i d).2.2 ≤ 60 := fun i hi => crs_wf (w5 i hi).1 (w5 i hi).2.1 (hR.wo.2.2 i hi) d
  have loop2 : ∀ (n k : Nat) (M1 : Mem), k ≤ sT S → sT S < k + n → (∀ j, j < sT S → j < k → (M1 130 j = ((cs S O j (d + 1)).1 : Nat) ∧ M1 131 j = ((cs S O j (d + 1)).2.1 : Nat) ∧ M1 132 j = ((cs S O j (d + 1)).2.2 : Nat) ∧ M1 133 j = lst S O j (sH S j) (sF S j) (d + 1))) → (∀ j, j < sT S → k ≤ j → (M1 130 j = ((ek S O j d (oE O)).1 : Nat) ∧ M1 132 j = ((ek S O j d (oE O)).2 : Nat) ∧ M1 131 j = ((cs S O j d).2.1 : Nat) ∧ M1 133 j = lst S O j (sH S j) (sF S j) d)) → M1 110 27 = ((d + 1 : Nat) : Int) → (∀ q j, (q ≠ 130 ∧ q ≠ 131 ∧ q ≠ 132 ∧ q ≠ 133 ∧ (q ≠ 110 ∨ j ≠ 27)) → M1 q j = M q j) → E κ ad N pT M1 84 [some (vr 110), some (vi (k : Int))] [] (0, 0) (QR κ ad N pT Post) := by
    intro n
    induction n with
    | zero => intro k M1 h1 h2; exact absurd h2 (by omega)
    | succ n ih =>
      intro k M1 hk hn hF hP h27 hfr
      have e115 : M1 115 0 = (sT S : Nat) := by rw [hfr 115 0 (by omega)]; exact r10
      refine e_iload_n h dX11_goDay_84 (pc := 84) rfl ?_
      refine e_aload_n h dX11_goDay_85 (pc := 85) rfl ?_
      refine e_getC h fl_X11_22 dX11_goDay_86 (pc := 86) rfl (Nat.lt_of_lt_of_le (by decide) hN) rfl rfl (r := 115) rfl ?_
      refine e_iconst h dX11_goDay_89 (pc := 89)  ?_
      refine e_iald h dX11_goDay_90 (pc := 90) rfl (Nat.lt_of_lt_of_le (by decide) hN) (j := 0) rfl (by decide) ?_
      refine e_icmp_ge h (tgt := 242) dX11_goDay_91 (pc := 91) (by decide) (by omega) (by omega) (fun hb91 => ?_) (fun hb91 => ?_)
      · have hkT : k = sT S := by omega
        refine e_vret h hr ha dX11_goDay_242 (pc := 242) ?_
        exact K M1 ⟨h27, fun i hi => hF i hi (by omega)⟩ (hR.go hfr) hfr
      · have hPk := hP k (by omega) (Nat.le_refl k)
        have hkT : k < sT S := by omega
        have hew := ek_wf (k := oE O) (hcw k hkT).1 (hcw k hkT).2.2
        have hcs := hcw k hkT
        have hek9 : (cs S O k d).1 = 9 → ek S O k d (oE O) = ((cs S O k d).1, (cs S O k d).2.2) := fun q => by unfold ek; rw [if_pos q]
        refine e_aload_n h dX11_goDay_94 (pc := 94) rfl ?_
        refine e_getC h fl_X11_67 dX11_goDay_95 (pc := 95) rfl (Nat.lt_of_lt_of_le (by decide) hN) rfl rfl (r := 130) rfl ?_
        refine e_iload_n h dX11_goDay_98 (pc := 98) rfl ?_
        refine e_iald h dX11_goDay_99 (pc := 99) rfl (Nat.lt_of_lt_of_le (by decide) hN) rfl (by show _ < 6; omega) ?_
        refine e_bipush h dX11_goDay_100 (pc := 100) (by decide +kernel) ?_
        refine e_icmp_eq h (tgt := 166) dX11_goDay_102 (pc := 102) (by decide) (by omega) (by decide) (fun hb102 => ?_) (fun hb102 => ?_)
        · have hc9 : (cs S O k d).1 = 9 := hew.2.2 (by omega) hL6
          refine e_aload_n h dX11_goDay_166 (pc := 166) rfl ?_
          refine e_getC h fl_X11_67 dX11_goDay_167 (pc := 167) rfl (Nat.lt_of_lt_of_le (by decide) hN) rfl rfl (r := 130) rfl ?_
          refine e_iload_n h dX11_goDay_170 (pc := 170) rfl ?_
          refine e_iald h dX11_goDay_171 (pc := 171) rfl (Nat.lt_of_lt_of_le (by decide) hN) rfl (by show _ < 6; omega) ?_
          refine e_bipush h dX11_goDay_172 (pc := 172) (by decide +kernel) ?_
          refine e_icmp_eq h (tgt := 236) dX11_goDay_174 (pc := 174) (by decide) (by omega) (by decide) (fun hb174 => ?_) (fun hb174 => absurd hb174 (by omega))
          refine e_iinc1 h dX11_goDay_236 (pc := 236) (by decide) rfl ?_
          refine e_goto h dX11_goDay_239 (pc := 239) (tgt := 84) (by decide) ?_
          rw [show (k : Int) + 1 = ((k + 1 : Nat) : Int) by omega]
          refine ih (k + 1) _ (by omega) (by omega) (fun j hj hjk => ?_) (fun j hj hjk => by skip; exact hP j hj (by omega)) (by skip; exact h27) (fun q j hq => by skip; exact hfr q j hq)
          by_cases e : j = k
          · subst e
            rw [(day_A hc9).1, (day_A hc9).2]
            have z := hek9 hc9
            exact ⟨by rw [hPk.1, z], hPk.2.2.1, by rw [hPk.2.1, z], hPk.2.2.2⟩
          · skip
            exact hF j hj (by omega)
        · have hc9 : (cs S O k d).1 ≠ 9 := fun q => by have z := hek9 q; rw [z] at hPk; dsimp only at hPk; omega
          refine e_aload_n h dX11_goDay_105 (pc := 105) rfl ?_
          refine e_getC h fl_X11_73 dX11_goDay_106 (pc := 106) rfl (Nat.lt_of_lt_of_le (by decide) hN) rfl rfl (r := 132) rfl ?_
          refine e_iload_n h dX11_goDay_109 (pc := 109) rfl ?_
          refine e_iald h dX11_goDay_110 (pc := 110) rfl (Nat.lt_of_lt_of_le (by decide) hN) rfl (by show _ < 6; omega) ?_
          refine e_if_ne h (tgt := 166) dX11_goDay_111 (pc := 111) (by decide) (by omega) (fun hb111 => ?_) (fun hb111 => ?_)
          · obtain ⟨lv, hlv⟩ : ∃ lv, lv = (ek S O k d (oE O)).1 := ⟨_, rfl⟩
            have hsk : sink (ek S O k d (oE O)) = lv := by unfold sink; rw [if_pos (by omega)]; exact hlv.symm
            refine e_aload_n h dX11_goDay_166 (pc := 166) rfl ?_
            refine e_getC h fl_X11_67 dX11_goDay_167 (pc := 167) rfl (Nat.lt_of_lt_of_le (by decide) hN) rfl rfl (r := 130) rfl ?_
            refine e_iload_n h dX11_goDay_170 (pc := 170) rfl ?_
            refine e_iald h dX11_goDay_171 (pc := 171) rfl (Nat.lt_of_lt_of_le (by decide) hN) rfl (by show _ < 6; omega) ?_
            refine e_bipush h dX11_goDay_172 (pc := 172) (by decide +kernel) ?_
            refine e_icmp_eq h (tgt := 236) dX11_goDay_174 (pc := 174) (by decide) (by omega) (by decide) (fun hb174 => absurd hb174 (by omega)) (fun hb174 => ?_)
            refine e_aload_n h dX11_goDay_177 (pc := 177) rfl ?_
            refine e_getC h fl_X11_70 dX11_goDay_178 (pc := 178) rfl (Nat.lt_of_lt_of_le (by decide) hN) rfl rfl (r := 131) rfl ?_
            refine e_iload_n h dX11_goDay_181 (pc := 181) rfl ?_
            refine e_aload_n h dX11_goDay_182 (pc := 182) rfl ?_
            refine e_getC h fl_X11_70 dX11_goDay_183 (pc := 183) rfl (Nat.lt_of_lt_of_le (by decide) hN) rfl rfl (r := 131) rfl ?_
            refine e_iload_n h dX11_goDay_186 (pc := 186) rfl ?_
            refine e_iald h dX11_goDay_187 (pc := 187) rfl (Nat.lt_of_lt_of_le (by decide) hN) rfl (by show _ < 6; omega) ?_
            refine e_aload_n h dX11_goDay_188 (pc := 188) rfl ?_
            refine e_getC h fl_X11_16 dX11_goDay_189 (pc := 189) rfl (Nat.lt_of_lt_of_le (by decide) hN) rfl rfl (r := 113) rfl ?_
            refine e_aload_n h dX11_goDay_192 (pc := 192) rfl ?_
            refine e_getC h fl_X11_67 dX11_goDay_193 (pc := 193) rfl (Nat.lt_of_lt_of_le (by decide) hN) rfl rfl (r := 130) rfl ?_
            refine e_iload_n h dX11_goDay_196 (pc := 196) rfl ?_
            refine e_iald h dX11_goDay_197 (pc := 197) rfl (Nat.lt_of_lt_of_le (by decide) hN) rfl (by show _ < 6; omega) ?_
            refine e_iald h dX11_goDay_198 (pc := 198) rfl (Nat.lt_of_lt_of_le (by decide) hN) (j := lv) (by omega) (by show _ < 12; omega) ?_
            have hpl : M1 113 lv = (sP S lv : Nat) := by rw [hfr 113 lv (by omega)]; exact (hR.ms.2.2.2.1 lv (by omega)).1
            have hpl2 := (w4 lv (by omega)).1
            refine e_iadd h dX11_goDay_199 (pc := 199)  ?_
            refine e_bipush h dX11_goDay_200 (pc := 200) (by decide +kernel) ?_
            refine e_irem h dX11_goDay_202 (pc := 202) (by omega) (by decide) ?_
            refine e_iast h dX11_goDay_203 (pc := 203) rfl (Nat.lt_of_lt_of_le (by decide) hN) rfl (by show _ < 6; omega) ?_
            refine e_aload_n h dX11_goDay_204 (pc := 204) rfl ?_
            refine e_getC h fl_X11_73 dX11_goDay_205 (pc := 205) rfl (Nat.lt_of_lt_of_le (by decide) hN) rfl rfl (r := 132) rfl ?_
            refine e_iload_n h dX11_goDay_208 (pc := 208) rfl ?_
            refine e_aload_n h dX11_goDay_209 (pc := 209) rfl ?_
            refine e_aload_n h dX11_goDay_210 (pc := 210) rfl ?_
            refine e_getC h fl_X11_34 dX11_goDay_211 (pc := 211) rfl (Nat.lt_of_lt_of_le (by decide) hN) rfl rfl (r := 119) rfl ?_
            refine e_iload_n h dX11_goDay_214 (pc := 214) rfl ?_
            refine e_iald h dX11_goDay_215 (pc := 215) rfl (Nat.lt_of_lt_of_le (by decide) hN) rfl (by show _ < 12; omega) ?_
            try simp (disch := omega) only [up_eq, up_ne]
            refine e_aload_n h dX11_goDay_216 (pc := 216) rfl ?_
            refine e_getC h fl_X11_73 dX11_goDay_217 (pc := 217) rfl (Nat.lt_of_lt_of_le (by decide) hN) rfl rfl (r := 132) rfl ?_
            refine e_iload_n h dX11_goDay_220 (pc := 220) rfl ?_
            refine e_iald h dX11_goDay_221 (pc := 221) rfl (Nat.lt_of_lt_of_le (by decide) hN) rfl (by show _ < 6; omega) ?_
            try simp (disch := omega) only [up_eq, up_ne]
            refine e_aload_n h dX11_goDay_222 (pc := 222) rfl ?_
            refine e_getC h fl_X11_67 dX11_goDay_223 (pc := 223) rfl (Nat.lt_of_lt_of_le (by decide) hN) rfl rfl (r := 130) rfl ?_
            refine e_iload_n h dX11_goDay_226 (pc := 226) rfl ?_
            refine e_iald h dX11_goDay_227 (pc := 227) rfl (Nat.lt_of_lt_of_le (by decide) hN) rfl (by show _ < 6; omega) ?_
            try simp (disch := omega) only [up_eq, up_ne]
            refine e_aload_n h dX11_goDay_228 (pc := 228) rfl ?_
            refine e_getI h fl_X11_159 dX11_goDay_229 (pc := 229) rfl (Nat.lt_of_lt_of_le (by decide) hN) (by decide) ?_
            try simp (disch := omega) only [up_eq, up_ne]
            refine e_callV4 lk_X11_166 mv_X11_leftOf dX11_goDay_232 (pc := 232) rfl (by decide) (Nat.lt_of_lt_of_le (by decide) hN) (Nat.le_of_ble_eq_true rfl) (rmY := rmX11_leftOf) (by decide) h ?_
            have hkk := w5 k hkT
            refine m_leftOf (kd := sK S k) (g1 := (ek S O k d (oE O)).2) (l := lv) (t := d + 1) (i := k) (by rw [hfr 119 k (by omega)]; exact (hR.ms.2.2.2.2.1 k hkT).2.2.2) (by omega) (by omega) (by omega) hN (hR.go (fun q j hq => by simp (disch := omega) only [up_eq, up_ne]; exact hfr q j hq)) rfl hkk.2.2.2.2 (by omega) (by omega) (by omega) ?_
            refine e_iast h dX11_goDay_235 (pc := 235) rfl (Nat.lt_of_lt_of_le (by decide) hN) rfl (by show _ < 6; omega) ?_
            refine e_iinc1 h dX11_goDay_236 (pc := 236) (by decide) rfl ?_
            refine e_goto h dX11_goDay_239 (pc := 239) (tgt := 84) (by decide) ?_
            rw [show (k : Int) + 1 = ((k + 1 : Nat) : Int) by omega]
            refine ih (k + 1) _ (by omega) (by omega) (fun j hj hjk => ?_) (fun j hj hjk => by simp (disch := omega) only [up_eq, up_ne]; exact hP j hj (by omega)) (by simp (disch := omega) only [up_eq, up_ne]; exact h27) (fun q j hq => by simp (disch := omega) only [up_eq, up_ne]; exact hfr q j hq)
            by_cases e : j = k
            · subst e
              rw [(day_B hc9 hsk (by omega)).1, (day_B hc9 hsk (by omega)).2]
              simp (disch := omega) only [up_eq, up_ne]
              exact ⟨by rw [hPk.1, hlv], by rw [hPk.2.2.1, hpl]; rw [Int.tmod_eq_emod_of_nonneg (by omega)]; (try dsimp only); omega, trivial, by rw [hPk.2.2.2]; exact lst_float d hc9⟩
            · simp (disch := omega) only [up_eq, up_ne]
              exact hF j hj (by omega)
          · refine e_aload_n h dX11_goDay_114 (pc := 114) rfl ?_
            refine e_getC h fl_X11_76 dX11_goDay_115 (pc := 115) rfl (Nat.lt_of_lt_of_le (by decide) hN) rfl rfl (r := 133) rfl ?_
            refine e_iload_n h dX11_goDay_118 (pc := 118) rfl ?_
            refine e_aload_n h dX11_goDay_119 (pc := 119) rfl ?_
            refine e_getC h fl_X11_67 dX11_goDay_120 (pc := 120) rfl (Nat.lt_of_lt_of_le (by decide) hN) rfl rfl (r := 130) rfl ?_
            refine e_iload_n h dX11_goDay_123 (pc := 123) rfl ?_
            refine e_iald h dX11_goDay_124 (pc := 124) rfl (Nat.lt_of_lt_of_le (by decide) hN) rfl (by show _ < 6; omega) ?_
            refine e_if_ne h (tgt := 135) dX11_goDay_125 (pc := 125) (by decide) (by omega) (fun hb125 => ?_) (fun hb125 => ?_)
            · obtain ⟨lv, hlv⟩ : ∃ lv, lv = (ek S O k d (oE O)).1 - 1 := ⟨_, rfl⟩
              have hsk : sink (ek S O k d (oE O)) = lv := by unfold sink; rw [if_neg (by omega), if_pos (by omega)]; exact hlv.symm
              refine e_bipush h dX11_goDay_135 (pc := 135) (by decide +kernel) ?_
              refine e_iast h dX11_goDay_137 (pc := 137) rfl (Nat.lt_of_lt_of_le (by decide) hN) rfl (by show _ < 6; omega) ?_
              refine e_aload_n h dX11_goDay_138 (pc := 138) rfl ?_
              refine e_getC h fl_X11_67 dX11_goDay_139 (pc := 139) rfl (Nat.lt_of_lt_of_le (by decide) hN) rfl rfl (r := 130) rfl ?_
              refine e_iload_n h dX11_goDay_142 (pc := 142) rfl ?_
              refine e_aload_n h dX11_goDay_143 (pc := 143) rfl ?_
              refine e_getC h fl_X11_67 dX11_goDay_144 (pc := 144) rfl (Nat.lt_of_lt_of_le (by decide) hN) rfl rfl (r := 130) rfl ?_
              refine e_iload_n h dX11_goDay_147 (pc := 147) rfl ?_
              refine e_iald h dX11_goDay_148 (pc := 148) rfl (Nat.lt_of_lt_of_le (by decide) hN) rfl (by show _ < 6; omega) ?_
              try simp (disch := omega) only [up_eq, up_ne]
              refine e_if_ne h (tgt := 157) dX11_goDay_149 (pc := 149) (by decide) (by omega) (fun hb149 => ?_) (fun hb149 => absurd hb149 (by omega))
              refine e_aload_n h dX11_goDay_157 (pc := 157) rfl ?_
              refine e_getC h fl_X11_67 dX11_goDay_158 (pc := 158) rfl (Nat.lt_of_lt_of_le (by decide) hN) rfl rfl (r := 130) rfl ?_
              refine e_iload_n h dX11_goDay_161 (pc := 161) rfl ?_
              refine e_iald h dX11_goDay_162 (pc := 162) rfl (Nat.lt_of_lt_of_le (by decide) hN) rfl (by show _ < 6; omega) ?_
              try simp (disch := omega) only [up_eq, up_ne]
              refine e_iconst h dX11_goDay_163 (pc := 163)  ?_
              refine e_isub h dX11_goDay_164 (pc := 164)  ?_
              refine e_iast h dX11_goDay_165 (pc := 165) rfl (Nat.lt_of_lt_of_le (by decide) hN) rfl (by show _ < 6; omega) ?_
              refine e_aload_n h dX11_goDay_166 (pc := 166) rfl ?_
              refine e_getC h fl_X11_67 dX11_goDay_167 (pc := 167) rfl (Nat.lt_of_lt_of_le (by decide) hN) rfl rfl (r := 130) rfl ?_
              refine e_iload_n h dX11_goDay_170 (pc := 170) rfl ?_
              refine e_iald h dX11_goDay_171 (pc := 171) rfl (Nat.lt_of_lt_of_le (by decide) hN) rfl (by show _ < 6; omega) ?_
              try simp (disch := omega) only [up_eq, up_ne]
              refine e_bipush h dX11_goDay_172 (pc := 172) (by decide +kernel) ?_
              refine e_icmp_eq h (tgt := 236) dX11_goDay_174 (pc := 174) (by decide) (by omega) (by decide) (fun hb174 => absurd hb174 (by omega)) (fun hb174 => ?_)
              refine e_aload_n h dX11_goDay_177 (pc := 177) rfl ?_
              refine e_getC h fl_X11_70 dX11_goDay_178 (pc := 178) rfl (Nat.lt_of_lt_of_le (by decide) hN) rfl rfl (r := 131) rfl ?_
              refine e_iload_n h dX11_goDay_181 (pc := 181) rfl ?_
              refine e_aload_n h dX11_goDay_182 (pc := 182) rfl ?_
              refine e_getC h fl_X11_70 dX11_goDay_183 (pc := 183) rfl (Nat.lt_of_lt_of_le (by decide) hN) rfl rfl (r := 131) rfl ?_
              refine e_iload_n h dX11_goDay_186 (pc := 186) rfl ?_
              refine e_iald h dX11_goDay_187 (pc := 187) rfl (Nat.lt_of_lt_of_le (by decide) hN) rfl (by show _ < 6; omega) ?_
              try simp (disch := omega) only [up_eq, up_ne]
              refine e_aload_n h dX11_goDay_188 (pc := 188) rfl ?_
              refine e_getC h fl_X11_16 dX11_goDay_189 (pc := 189) rfl (Nat.lt_of_lt_of_le (by decide) hN) rfl rfl (r := 113) rfl ?_
              refine e_aload_n h dX11_goDay_192 (pc := 192) rfl ?_
              refine e_getC h fl_X11_67 dX11_goDay_193 (pc := 193) rfl (Nat.lt_of_lt_of_le (by decide) hN) rfl rfl (r := 130) rfl ?_
              refine e_iload_n h dX11_goDay_196 (pc := 196) rfl ?_
              refine e_iald h dX11_goDay_197 (pc := 197) rfl (Nat.lt_of_lt_of_le (by decide) hN) rfl (by show _ < 6; omega) ?_
              try simp (disch := omega) only [up_eq, up_ne]
              refine e_iald h dX11_goDay_198 (pc := 198) rfl (Nat.lt_of_lt_of_le (by decide) hN) (j := lv) (by omega) (by show _ < 12; omega) ?_
              try simp (disch := omega) only [up_eq, up_ne]
              have hpl : M1 113 lv = (sP S lv : Nat) := by rw [hfr 113 lv (by omega)]; exact (hR.ms.2.2.2.1 lv (by omega)).1
              have hpl2 := (w4 lv (by omega)).1
              refine e_iadd h dX11_goDay_199 (pc := 199)  ?_
              refine e_bipush h dX11_goDay_200 (pc := 200) (by decide +kernel) ?_
              refine e_irem h dX11_goDay_202 (pc := 202) (by omega) (by decide) ?_
              refine e_iast h dX11_goDay_203 (pc := 203) rfl (Nat.lt_of_lt_of_le (by decide) hN) rfl (by show _ < 6; omega) ?_
              refine e_aload_n h dX11_goDay_204 (pc := 204) rfl ?_
              refine e_getC h fl_X11_73 dX11_goDay_205 (pc := 205) rfl (Nat.lt_of_lt_of_le (by decide) hN) rfl rfl (r := 132) rfl ?_
              refine e_iload_n h dX11_goDay_208 (pc := 208) rfl ?_
              refine e_aload_n h dX11_goDay_209 (pc := 209) rfl ?_
              refine e_aload_n h dX11_goDay_210 (pc := 210) rfl ?_
              refine e_getC h fl_X11_34 dX11_goDay_211 (pc := 211) rfl (Nat.lt_of_lt_of_le (by decide) hN) rfl rfl (r := 119) rfl ?_
              refine e_iload_n h dX11_goDay_214 (pc := 214) rfl ?_
              refine e_iald h dX11_goDay_215 (pc := 215) rfl (Nat.lt_of_lt_of_le (by decide) hN) rfl (by show _ < 12; omega) ?_
              try simp (disch := omega) only [up_eq, up_ne]
              refine e_aload_n h dX11_goDay_216 (pc := 216) rfl ?_
              refine e_getC h fl_X11_73 dX11_goDay_217 (pc := 217) rfl (Nat.lt_of_lt_of_le (by decide) hN) rfl rfl (r := 132) rfl ?_
              refine e_iload_n h dX11_goDay_220 (pc := 220) rfl ?_
              refine e_iald h dX11_goDay_221 (pc := 221) rfl (Nat.lt_of_lt_of_le (by decide) hN) rfl (by show _ < 6; omega) ?_
              try simp (disch := omega) only [up_eq, up_ne]
              refine e_aload_n h dX11_goDay_222 (pc := 222) rfl ?_
              refine e_getC h fl_X11_67 dX11_goDay_223 (pc := 223) rfl (Nat.lt_of_lt_of_le (by decide) hN) rfl rfl (r := 130) rfl ?_
              refine e_iload_n h dX11_goDay_226 (pc := 226) rfl ?_
              refine e_iald h dX11_goDay_227 (pc := 227) rfl (Nat.lt_of_lt_of_le (by decide) hN) rfl (by show _ < 6; omega) ?_
              try simp (disch := omega) only [up_eq, up_ne]
              refine e_aload_n h dX11_goDay_228 (pc := 228) rfl ?_
              refine e_getI h fl_X11_159 dX11_goDay_229 (pc := 229) rfl (Nat.lt_of_lt_of_le (by decide) hN) (by decide) ?_
              try simp (disch := omega) only [up_eq, up_ne]
              refine e_callV4 lk_X11_166 mv_X11_leftOf dX11_goDay_232 (pc := 232) rfl (by decide) (Nat.lt_of_lt_of_le (by decide) hN) (Nat.le_of_ble_eq_true rfl) (rmY := rmX11_leftOf) (by decide) h ?_
              have hkk := w5 k hkT
              refine m_leftOf (kd := sK S k) (g1 := (ek S O k d (oE O)).2) (l := lv) (t := d + 1) (i := k) (by rw [hfr 119 k (by omega)]; exact (hR.ms.2.2.2.2.1 k hkT).2.2.2) (by omega) (by omega) (by omega) hN (hR.go (fun q j hq => by simp (disch := omega) only [up_eq, up_ne]; exact hfr q j hq)) rfl hkk.2.2.2.2 (by omega) (by omega) (by omega) ?_
              refine e_iast h dX11_goDay_235 (pc := 235) rfl (Nat.lt_of_lt_of_le (by decide) hN) rfl (by show _ < 6; omega) ?_
              refine e_iinc1 h dX11_goDay_236 (pc := 236) (by decide) rfl ?_
              refine e_goto h dX11_goDay_239 (pc := 239) (tgt := 84) (by decide) ?_
              rw [show (k : Int) + 1 = ((k + 1 : Nat) : Int) by omega]
              refine ih (k + 1) _ (by omega) (by omega) (fun j hj hjk => ?_) (fun j hj hjk => by simp (disch := omega) only [up_eq, up_ne]; exact hP j hj (by omega)) (by simp (disch := omega) only [up_eq, up_ne]; exact h27) (fun q j hq => by simp (disch := omega) only [up_eq, up_ne]; exact hfr q j hq)
              by_cases e : j = k
              · subst e
                rw [(day_B hc9 hsk (by omega)).1, (day_B hc9 hsk (by omega)).2]
                simp (disch := omega) only [up_eq, up_ne]
                exact ⟨by rw [hPk.1, hlv]; (try dsimp only); omega, by rw [hPk.2.2.1, hpl]; rw [Int.tmod_eq_emod_of_nonneg (by omega)]; (try dsimp only); omega, trivial, trivial⟩
              · simp (disch := omega) only [up_eq, up_ne]
                exact hF j hj (by omega)
            · have hsk : sink (ek S O k d (oE O)) = 9 := by unfold sink; rw [if_neg (by omega), if_neg (by omega)]
              refine e_aload_n h dX11_goDay_128 (pc := 128) rfl ?_
              refine e_getI h fl_X11_159 dX11_goDay_129 (pc := 129) rfl (Nat.lt_of_lt_of_le (by decide) hN) (by decide) ?_
              refine e_goto h dX11_goDay_132 (pc := 132) (tgt := 137) (by decide) ?_
              refine e_iast h dX11_goDay_137 (pc := 137) rfl (Nat.lt_of_lt_of_le (by decide) hN) rfl (by show _ < 6; omega) ?_
              refine e_aload_n h dX11_goDay_138 (pc := 138) rfl ?_
              refine e_getC h fl_X11_67 dX11_goDay_139 (pc := 139) rfl (Nat.lt_of_lt_of_le (by decide) hN) rfl rfl (r := 130) rfl ?_
              refine e_iload_n h dX11_goDay_142 (pc := 142) rfl ?_
              refine e_aload_n h dX11_goDay_143 (pc := 143) rfl ?_
              refine e_getC h fl_X11_67 dX11_goDay_144 (pc := 144) rfl (Nat.lt_of_lt_of_le (by decide) hN) rfl rfl (r := 130) rfl ?_
              refine e_iload_n h dX11_goDay_147 (pc := 147) rfl ?_
              refine e_iald h dX11_goDay_148 (pc := 148) rfl (Nat.lt_of_lt_of_le (by decide) hN) rfl (by show _ < 6; omega) ?_
              try simp (disch := omega) only [up_eq, up_ne]
              refine e_if_ne h (tgt := 157) dX11_goDay_149 (pc := 149) (by decide) (by omega) (fun hb149 => absurd hb149 (by omega)) (fun hb149 => ?_)
              refine e_bipush h dX11_goDay_152 (pc := 152) (by decide +kernel) ?_
              refine e_goto h dX11_goDay_154 (pc := 154) (tgt := 165) (by decide) ?_
              refine e_iast h dX11_goDay_165 (pc := 165) rfl (Nat.lt_of_lt_of_le (by decide) hN) rfl (by show _ < 6; omega) ?_
              refine e_aload_n h dX11_goDay_166 (pc := 166) rfl ?_
              refine e_getC h fl_X11_67 dX11_goDay_167 (pc := 167) rfl (Nat.lt_of_lt_of_le (by decide) hN) rfl rfl (r := 130) rfl ?_
              refine e_iload_n h dX11_goDay_170 (pc := 170) rfl ?_
              refine e_iald h dX11_goDay_171 (pc := 171) rfl (Nat.lt_of_lt_of_le (by decide) hN) rfl (by show _ < 6; omega) ?_
              try simp (disch := omega) only [up_eq, up_ne]
              refine e_bipush h dX11_goDay_172 (pc := 172) (by decide +kernel) ?_
              refine e_icmp_eq h (tgt := 236) dX11_goDay_174 (pc := 174) (by decide) (by omega) (by decide) (fun hb174 => ?_) (fun hb174 => absurd hb174 (by omega))
              refine e_iinc1 h dX11_goDay_236 (pc := 236) (by decide) rfl ?_
              refine e_goto h dX11_goDay_239 (pc := 239) (tgt := 84) (by decide) ?_
              rw [show (k : Int) + 1 = ((k + 1 : Nat) : Int) by omega]
              refine ih (k + 1) _ (by omega) (by omega) (fun j hj hjk => ?_) (fun j hj hjk => by simp (disch := omega) only [up_eq, up_ne]; exact hP j hj (by omega)) (by simp (disch := omega) only [up_eq, up_ne]; exact h27) (fun q j hq => by simp (disch := omega) only [up_eq, up_ne]; exact hfr q j hq)
              by_cases e : j = k
              · subst e
                rw [(day_C hc9 hsk).1, (day_C hc9 hsk).2]
                simp (disch := omega) only [up_eq, up_ne]
                exact ⟨rfl, hPk.2.2.1, hPk.2.1, h27⟩
              · simp (disch := omega) only [up_eq, up_ne]
                exact hF j hj (by omega)
  have fin : ∀ M1 : Mem, (∀ i, i < sT S → M1 130 i = ((ek S O i d (oE O)).1 : Nat) ∧ M1 132 i = ((ek S O i d (oE O)).2 : Nat)) → M1 110 27 = ((d + 1 : Nat) : Int) → (∀ q j, (q ≠ 130 ∧ q ≠ 132 ∧ (q ≠ 110 ∨ j ≠ 27)) → M1 q j = M q j) → E κ ad N pT M1 82 [some (vr 110), none] [] (0, 0) (QR κ ad N pT Post) := by
    intro M1 hE h27 hfr
    refine e_iconst h dX11_goDay_82 (pc := 82)  ?_
    refine e_istore1 h dX11_goDay_83 (pc := 83) (by decide) rfl ?_
    exact loop2 (sT S + 1) 0 M1 (by omega) (by omega) (fun j _ hj => absurd hj (by omega)) (fun j hj _ => ⟨(hE j hj).1, (hE j hj).2, by rw [hfr 131 j (by omega)]; exact (hG.2 j hj).2.1, by rw [hfr 133 j (by omega)]; exact (hG.2 j hj).2.2.2⟩) h27 (fun q j hq => hfr q j (by omega))
  have loop : ∀ (n k : Nat) (M1 : Mem), k ≤ oE O → oE O < k + n → (∀ i, i < sT S → M1 130 i = ((ek S O i d k).1 : Nat) ∧ M1 132 i = ((ek S O i d k).2 : Nat)) → M1 110 27 = ((d + 1 : Nat) : Int) → (∀ q j, (q ≠ 130 ∧ q ≠ 132 ∧ (q ≠ 110 ∨ j ≠ 27)) → M1 q j = M q j) → E κ ad N pT M1 12 [some (vr 110), some (vi (k : Int))] [] (0, 0) (QR κ ad N pT Post) := by
    intro n
    induction n with
    | zero => intro k M1 h1 h2; exact absurd h2 (by omega)
    | succ n ih =>
      intro k M1 hk hn hE h27 hfr
      have e124 : M1 124 0 = (oE O : Nat) := by rw [hfr 124 0 (by omega)]; exact hR.mo.1
      refine e_iload_n h dX11_goDay_12 (pc := 12) rfl ?_
      refine e_aload_n h dX11_goDay_13 (pc := 13) rfl ?_
      refine e_getC h fl_X11_49 dX11_goDay_14 (pc := 14) rfl (Nat.lt_of_lt_of_le (by decide) hN) rfl rfl (r := 124) rfl ?_
      refine e_iconst h dX11_goDay_17 (pc := 17)  ?_
      refine e_iald h dX11_goDay_18 (pc := 18) rfl (Nat.lt_of_lt_of_le (by decide) hN) (j := 0) rfl (by decide) ?_
      refine e_icmp_ge h (tgt := 82) dX11_goDay_19 (pc := 19) (by decide) (by omega) (by omega) (fun hb19 => ?_) (fun hb19 => ?_)
      · have hkE : k = oE O := by omega
        refine e_fgt (ls2 := [some (vr 110), none]) ⟨Or.inr rfl, Or.inl rfl, trivial⟩ ?_
        exact fin M1 (by rw [← hkE]; exact hE) h27 hfr
      · have hoE := hR.mo.2.1 k (by omega)
        have hoW := hR.wo.2.1 k (by omega)
        have e125 : M1 125 k = (oW O k : Nat) := by rw [hfr 125 k (by omega)]; exact hoE.1
        have e126 : M1 126 k = (oD O k : Nat) := by rw [hfr 126 k (by omega)]; exact hoE.2.1
        have e127 : M1 127 k = (oU O k : Nat) := by rw [hfr 127 k (by omega)]; exact hoE.2.2
        have hEw := hE (oW O k) hoW.1
        have hew := ek_wf (k := k) (hcw (oW O k) hoW.1).1 (hcw (oW O k) hoW.1).2.2
        refine e_aload_n h dX11_goDay_22 (pc := 22) rfl ?_
        refine e_getC h fl_X11_55 dX11_goDay_23 (pc := 23) rfl (Nat.lt_of_lt_of_le (by decide) hN) rfl rfl (r := 126) rfl ?_
        refine e_iload_n h dX11_goDay_26 (pc := 26) rfl ?_
        refine e_iald h dX11_goDay_27 (pc := 27) rfl (Nat.lt_of_lt_of_le (by decide) hN) rfl (by show _ < 32; omega) ?_
        refine e_aload_n h dX11_goDay_28 (pc := 28) rfl ?_
        refine e_getI h fl_X11_159 dX11_goDay_29 (pc := 29) rfl (Nat.lt_of_lt_of_le (by decide) hN) (by decide) ?_
        refine e_icmp_ne h (tgt := 76) dX11_goDay_32 (pc := 32) (by decide) (by omega) (by omega) (fun hb32 => ?_) (fun hb32 => ?_)
        · refine e_iinc1 h dX11_goDay_76 (pc := 76) (by decide) rfl ?_
          refine e_goto h dX11_goDay_79 (pc := 79) (tgt := 12) (by decide) ?_
          rw [show (k : Int) + 1 = ((k + 1 : Nat) : Int) by omega]
          exact ih (k + 1) M1 (by omega) (by omega) (fun i hi => by rw [ek_no hL6 (hcw i hi).1 (by omega)]; exact hE i hi) h27 hfr
        · refine e_aload_n h dX11_goDay_35 (pc := 35) rfl ?_
          refine e_getC h fl_X11_67 dX11_goDay_36 (pc := 36) rfl (Nat.lt_of_lt_of_le (by decide) hN) rfl rfl (r := 130) rfl ?_
          refine e_aload_n h dX11_goDay_39 (pc := 39) rfl ?_
          refine e_getC h fl_X11_52 dX11_goDay_40 (pc := 40) rfl (Nat.lt_of_lt_of_le (by decide) hN) rfl rfl (r := 125) rfl ?_
          refine e_iload_n h dX11_goDay_43 (pc := 43) rfl ?_
          refine e_iald h dX11_goDay_44 (pc := 44) rfl (Nat.lt_of_lt_of_le (by decide) hN) rfl (by show _ < 32; omega) ?_
          rw [e125]
          refine e_iald h dX11_goDay_45 (pc := 45) rfl (Nat.lt_of_lt_of_le (by decide) hN) rfl (by show _ < 6; omega) ?_
          refine e_bipush h dX11_goDay_46 (pc := 46) (by decide +kernel) ?_
          refine e_icmp_eq h (tgt := 76) dX11_goDay_48 (pc := 48) (by decide) (by omega) (by decide) (fun hb48 => ?_) (fun hb48 => ?_)
          · refine e_iinc1 h dX11_goDay_76 (pc := 76) (by decide) rfl ?_
            refine e_goto h dX11_goDay_79 (pc := 79) (tgt := 12) (by decide) ?_
            rw [show (k : Int) + 1 = ((k + 1 : Nat) : Int) by omega]
            exact ih (k + 1) M1 (by omega) (by omega) (fun i hi => by rw [ek_no hL6 (hcw i hi).1 (fun q => by have := q.1; subst this; exact q.2.2 (by omega))]; exact hE i hi) h27 hfr
          · refine e_aload_n h dX11_goDay_51 (pc := 51) rfl ?_
            refine e_aload_n h dX11_goDay_52 (pc := 52) rfl ?_
            refine e_getC h fl_X11_52 dX11_goDay_53 (pc := 53) rfl (Nat.lt_of_lt_of_le (by decide) hN) rfl rfl (r := 125) rfl ?_
            refine e_iload_n h dX11_goDay_56 (pc := 56) rfl ?_
            refine e_iald h dX11_goDay_57 (pc := 57) rfl (Nat.lt_of_lt_of_le (by decide) hN) rfl (by show _ < 32; omega) ?_
            rw [e125]
            refine e_aload_n h dX11_goDay_58 (pc := 58) rfl ?_
            refine e_getC h fl_X11_58 dX11_goDay_59 (pc := 59) rfl (Nat.lt_of_lt_of_le (by decide) hN) rfl rfl (r := 127) rfl ?_
            refine e_iload_n h dX11_goDay_62 (pc := 62) rfl ?_
            refine e_iald h dX11_goDay_63 (pc := 63) rfl (Nat.lt_of_lt_of_le (by decide) hN) rfl (by show _ < 32; omega) ?_
            refine e_iconst h dX11_goDay_64 (pc := 64)  ?_
            refine e_icmp_ne h (tgt := 72) dX11_goDay_65 (pc := 65) (by decide) (by omega) (by decide) (fun hb65 => ?_) (fun hb65 => ?_)
            · refine e_iconst h dX11_goDay_72 (pc := 72)  ?_
              refine e_callV2 lk_X11_162 mv_X11_goBy dX11_goDay_73 (pc := 73) rfl (by decide) (Nat.lt_of_lt_of_le (by decide) hN) (Nat.le_of_ble_eq_true rfl) (rmY := rmX11_goBy) (by decide) h ?_
              have hu0 : oU O k = 0 := by omega
              have h9 : (ek S O (oW O k) d k).1 ≠ 9 := by omega
              refine m_goBy (S := S) (i := oW O k) (u := 0) (a := (ek S O (oW O k) d k).1) (g1 := (ek S O (oW O k) d k).2) rfl rfl hN (by omega) hEw.1 hEw.2 (by rw [hfr 112 0 (by omega)]; exact r9) (by rw [hfr 118 _ (by omega)]; exact (hR.ms.2.2.2.2.1 _ hoW.1).2.2.1) (by omega) hL6 hew.2.1 (w5 _ hoW.1).2.2.2.1 (by omega) (fun M2 h130 h132 hf2 => ?_)
              refine e_iinc1 h dX11_goDay_76 (pc := 76) (by decide) rfl ?_
              refine e_goto h dX11_goDay_79 (pc := 79) (tgt := 12) (by decide) ?_
              rw [show (k : Int) + 1 = ((k + 1 : Nat) : Int) by omega]
              refine ih (k + 1) M2 (by omega) (by omega) (fun i hi => ?_) (by rw [hf2 110 27 (by omega)]; exact h27) (fun q j hq => by rw [hf2 q j (by omega)]; exact hfr q j hq)
              by_cases e : i = oW O k
              · subst e
                rw [ek_go ⟨rfl, by omega⟩ h9, hu0]
                exact ⟨h130, h132⟩
              · rw [hf2 130 i (Or.inr e), hf2 132 i (Or.inr e), ek_no hL6 (hcw i hi).1 (fun q => e q.1.symm)]
                exact hE i hi
            · refine e_iconst h dX11_goDay_68 (pc := 68)  ?_
              refine e_goto h dX11_goDay_69 (pc := 69) (tgt := 73) (by decide) ?_
              refine e_callV2 lk_X11_162 mv_X11_goBy dX11_goDay_73 (pc := 73) rfl (by decide) (Nat.lt_of_lt_of_le (by decide) hN) (Nat.le_of_ble_eq_true rfl) (rmY := rmX11_goBy) (by decide) h ?_
              have hu0 : oU O k = 1 := by omega
              have h9 : (ek S O (oW O k) d k).1 ≠ 9 := by omega
              refine m_goBy (S := S) (i := oW O k) (u := 1) (a := (ek S O (oW O k) d k).1) (g1 := (ek S O (oW O k) d k).2) rfl rfl hN (by omega) hEw.1 hEw.2 (by rw [hfr 112 0 (by omega)]; exact r9) (by rw [hfr 118 _ (by omega)]; exact (hR.ms.2.2.2.2.1 _ hoW.1).2.2.1) (by omega) hL6 hew.2.1 (w5 _ hoW.1).2.2.2.1 (by omega) (fun M2 h130 h132 hf2 => ?_)
              refine e_iinc1 h dX11_goDay_76 (pc := 76) (by decide) rfl ?_
              refine e_goto h dX11_goDay_79 (pc := 79) (tgt := 12) (by decide) ?_
              rw [show (k : Int) + 1 = ((k + 1 : Nat) : Int) by omega]
              refine ih (k + 1) M2 (by omega) (by omega) (fun i hi => ?_) (by rw [hf2 110 27 (by omega)]; exact h27) (fun q j hq => by rw [hf2 q j (by omega)]; exact hfr q j hq)
              by_cases e : i = oW O k
              · subst e
                rw [ek_go ⟨rfl, by omega⟩ h9, hu0]
                exact ⟨h130, h132⟩
              · rw [hf2 130 i (Or.inr e), hf2 132 i (Or.inr e), ek_no hL6 (hcw i hi).1 (fun q => e q.1.symm)]
                exact hE i hi
  refine e_aload_n h dX11_goDay_0 (pc := 0) rfl ?_
  refine e_dup h dX11_goDay_1 (pc := 1) rfl ?_
  refine e_getI h fl_X11_159 dX11_goDay_2 (pc := 2) rfl (Nat.lt_of_lt_of_le (by decide) hN) (by decide) ?_
  refine e_iconst h dX11_goDay_5 (pc := 5)  ?_
  refine e_iadd h dX11_goDay_6 (pc := 6)  ?_
  refine e_putI h fl_X11_159 dX11_goDay_7 (pc := 7) rfl (Nat.lt_of_lt_of_le (by decide) hN) rfl ?_
  refine e_iconst h dX11_goDay_10 (pc := 10)  ?_
  refine e_istore1 h dX11_goDay_11 (pc := 11) (by decide) rfl ?_
  exact loop (oE O + 1) 0 _ (by omega) (by omega) (fun i hi => by rw [ek_0]; simp (disch := omega) only [up_eq, up_ne]; exact ⟨(hG.2 i hi).1, (hG.2 i hi).2.2.1⟩) (by rw [up_eq, hG.1]; omega) (fun q j hq => up_ne (by omega))
