set_option maxRecDepth 100000 in
set_option maxHeartbeats 4000000 in
theorem c_runErrands {gg : GT} {ad : Nat → Nat} {N : Nat} {M : Mem} {Post : Option AV → Mem → Prop} {S O : SD} {o so i d lv gs : Nat}  {xi : Int} (hxi : xi = (i : Int)) {xd : Int} (hxd : xd = (d : Int))  (ho : IsC o N) (hs : IsS so N) (hSO : SO S O M so) (hdis : so + 14 ≤ o ∨ o < so) (hW : WS S) (hO : WO O (sT S)) (hi : i < sT S) (hd : d ≤ 60) (h4 : M o 4 = lv) (hlv : lv < sL S) (h6 : M o 6 = gs) (hgs : gs ≤ 60) (K : ∀ M2 : Mem, M2 o 4 = (er S O i d (oE O) (lv, gs)).1 → M2 o 6 = (er S O i d (oE O) (lv, gs)).2 → (∀ q j, (q ≠ o ∨ (j ≠ 4 ∧ j ≠ 6)) → M2 q j = M q j) → Post none M2) : Sp gg yX1_runErrands cX1_runErrands 6 none rmX1_runErrands [vr o, vr so, vi xi, vi xd] ad N pT M Post := by
  refine Sp.intro (ls := [some (vr o), some (vr so), some (vi xi), some (vi xd), none, none]) (by decide +kernel) rfl (Nat.le_of_ble_eq_true rfl) fun κ hgg h hr ha => ?_
  have h : Ok κ RX1 cX1_runErrands 6 rmX1_runErrands := h
  subst hgg
  subst hxi
  subst hxd
  obtain ⟨⟨w1a, w1b⟩, ⟨w2a, w2b⟩, w3, w4, w5, w6⟩ := hW
  obtain ⟨v1, v2, v3⟩ := hO
  have loop : ∀ (n k : Nat) (M1 : Mem), k ≤ oE O → oE O < k + n → M1 o 4 = (er S O i d k (lv, gs)).1 → M1 o 6 = (er S O i d k (lv, gs)).2 → (∀ q j, (q ≠ o ∨ (j ≠ 4 ∧ j ≠ 6)) → M1 q j = M q j) → E κ ad N pT M1 9 [some (vr o), some (vr so), some (vi (i : Int)), some (vi (d : Int)), some (vr (so + 9)), some (vi (k : Int))] [] (0, 0) (QR κ ad N pT Post) := by
    intro n
    induction n with
    | zero => intro k M1 h1 h2; exact absurd h2 (by omega)
    | succ n ih =>
      intro k M1 hk hn h4 h6 hfr
      have hS1 : SO S O M1 so := hSO.to (fun p a b => funext fun j => hfr p j (Or.inl (by omega)))
      obtain ⟨⟨r1, r2, r3, r4, r5, r6⟩, t1, t2, t3⟩ := hS1
      have ew : (er S O i d k (lv, gs)).1 < sL S ∧ (er S O i d k (lv, gs)).2 ≤ gs := er_wf (S := S) (O := O) (i := i) (d := d) (c := (lv, gs)) hlv k
      have gi := r5 i hi
      have wi := w5 i hi
      refine e_iload h dX1_runErrands_9 (pc := 9) rfl ?_
      refine e_aload h dX1_runErrands_11 (pc := 11) rfl ?_
      refine e_getI h fl_X1_57 dX1_runErrands_13 (pc := 13) hs.c9 hs.p9 (by decide) ?_
      refine e_icmp_ge h (tgt := 131) dX1_runErrands_16 (pc := 16) (by decide) (by omega) (by omega) (fun hb16 => ?_) (fun hb16 => ?_)
      · refine e_vret h hr ha dX1_runErrands_131 (pc := 131) ?_
        have hk2 : k = oE O := by omega
        subst hk2
        exact K M1 h4 h6 hfr
      · have f := t2 k (by omega)
        have f2 := v2 k (by omega)
        refine e_aload h dX1_runErrands_19 (pc := 19) rfl ?_
        refine e_getC h fl_X1_60 dX1_runErrands_21 (pc := 21) hs.c9 hs.p9 rfl rfl (r := (so + 10)) (pcr_d (by rw [hs.c9]; decide) 0) ?_
        refine e_iload h dX1_runErrands_24 (pc := 24) rfl ?_
        refine e_iald h dX1_runErrands_26 (pc := 26) hs.c10 hs.p10 rfl (by rw [hs.l10]; omega) ?_
        refine e_iload_n h dX1_runErrands_27 (pc := 27) rfl ?_
        refine e_icmp_ne h (tgt := 125) dX1_runErrands_28 (pc := 28) (by decide) (by omega) (by omega) (fun hb28 => ?_) (fun hb28 => ?_)
        · refine e_iinc5 h dX1_runErrands_125 (pc := 125) (by decide) rfl ?_
          refine e_goto h dX1_runErrands_128 (pc := 128) (tgt := 9) (by decide) ?_
          rw [show (k : Int) + 1 = ((k + 1 : Nat) : Int) by omega]
          have es := er_no (S := S) (c := (lv, gs)) (show ¬ (oW O k = i ∧ oD O k = d) by omega)
          exact ih (k + 1) M1 (by omega) (by omega) (by rw [es]; exact h4) (by rw [es]; exact h6) hfr
        · refine e_aload h dX1_runErrands_31 (pc := 31) rfl ?_
          refine e_getC h fl_X1_63 dX1_runErrands_33 (pc := 33) hs.c9 hs.p9 rfl rfl (r := (so + 11)) (pcr_d (by rw [hs.c9]; decide) 1) ?_
          refine e_iload h dX1_runErrands_36 (pc := 36) rfl ?_
          refine e_iald h dX1_runErrands_38 (pc := 38) hs.c11 hs.p11 rfl (by rw [hs.l11]; omega) ?_
          refine e_iload_n h dX1_runErrands_39 (pc := 39) rfl ?_
          refine e_icmp_eq h (tgt := 46) dX1_runErrands_40 (pc := 40) (by decide) (by omega) (by omega) (fun hb40 => ?_) (fun hb40 => ?_)
          · refine e_aload h dX1_runErrands_46 (pc := 46) rfl ?_
            refine e_getC h fl_X1_66 dX1_runErrands_48 (pc := 48) hs.c9 hs.p9 rfl rfl (r := (so + 12)) (pcr_d (by rw [hs.c9]; decide) 2) ?_
            refine e_iload h dX1_runErrands_51 (pc := 51) rfl ?_
            refine e_bald h dX1_runErrands_53 (pc := 53) hs.c12 hs.p12 rfl (by rw [hs.l12]; omega) ?_
            refine e_if_ne h (tgt := 74) dX1_runErrands_54 (pc := 54) (by decide) (by omega) (fun hb54 => ?_) (fun hb54 => ?_)
            · refine e_aload_n h dX1_runErrands_74 (pc := 74) rfl ?_
              refine e_getI h fl_X1_25 dX1_runErrands_75 (pc := 75) ho.c0 ho.p0 (by decide) ?_
              refine e_iconst h dX1_runErrands_78 (pc := 78)  ?_
              refine e_iadd h dX1_runErrands_79 (pc := 79)  ?_
              refine e_aload_n h dX1_runErrands_80 (pc := 80) rfl ?_
              refine e_getI h fl_X1_76 dX1_runErrands_81 (pc := 81) hs.c0 hs.p0 (by decide) ?_
              refine e_icmp_ge h (tgt := 125) dX1_runErrands_84 (pc := 84) (by decide) (by omega) (by omega) (fun hb84 => ?_) (fun hb84 => ?_)
              · refine e_iinc5 h dX1_runErrands_125 (pc := 125) (by decide) rfl ?_
                refine e_goto h dX1_runErrands_128 (pc := 128) (tgt := 9) (by decide) ?_
                rw [show (k : Int) + 1 = ((k + 1 : Nat) : Int) by omega]
                have es := er_stay (S := S) (c := (lv, gs)) (show oW O k = i ∧ oD O k = d by omega) (by omega) (by omega)
                exact ih (k + 1) M1 (by omega) (by omega) (by rw [es]; exact h4) (by rw [es]; exact h6) hfr
              · refine e_aload_n h dX1_runErrands_87 (pc := 87) rfl ?_
                refine e_getI h fl_X1_40 dX1_runErrands_88 (pc := 88) ho.c0 ho.p0 (by decide) ?_
                refine e_aload_n h dX1_runErrands_91 (pc := 91) rfl ?_
                refine e_getC h fl_X1_79 dX1_runErrands_92 (pc := 92) hs.c0 hs.p0 rfl rfl (r := (so + 5)) (pcr_d (by rw [hs.c0]; decide) 4) ?_
                refine e_iload_n h dX1_runErrands_95 (pc := 95) rfl ?_
                refine e_iald h dX1_runErrands_96 (pc := 96) hs.c5 hs.p5 (j := i) (by omega) (by rw [hs.l5]; omega) ?_
                refine e_icmp_lt h (tgt := 125) dX1_runErrands_97 (pc := 97) (by decide) (by omega) (by omega) (fun hb97 => ?_) (fun hb97 => ?_)
                · refine e_iinc5 h dX1_runErrands_125 (pc := 125) (by decide) rfl ?_
                  refine e_goto h dX1_runErrands_128 (pc := 128) (tgt := 9) (by decide) ?_
                  rw [show (k : Int) + 1 = ((k + 1 : Nat) : Int) by omega]
                  have es := er_stay (S := S) (c := (lv, gs)) (show oW O k = i ∧ oD O k = d by omega) (by omega) (by omega)
                  exact ih (k + 1) M1 (by omega) (by omega) (by rw [es]; exact h4) (by rw [es]; exact h6) hfr
                · refine e_aload_n h dX1_runErrands_100 (pc := 100) rfl ?_
                  refine e_dup h dX1_runErrands_101 (pc := 101) rfl ?_
                  refine e_getI h fl_X1_25 dX1_runErrands_102 (pc := 102) ho.c0 ho.p0 (by decide) ?_
                  refine e_iconst h dX1_runErrands_105 (pc := 105)  ?_
                  refine e_iadd h dX1_runErrands_106 (pc := 106)  ?_
                  refine e_putI h fl_X1_25 dX1_runErrands_107 (pc := 107) ho.c0 ho.p0 rfl ?_
                  refine e_aload_n h dX1_runErrands_110 (pc := 110) rfl ?_
                  refine e_dup h dX1_runErrands_111 (pc := 111) rfl ?_
                  refine e_getI h fl_X1_40 dX1_runErrands_112 (pc := 112) ho.c0 ho.p0 (by decide) ?_
                  try simp (disch := omega) only [up_eq, up_ne]
                  refine e_aload_n h dX1_runErrands_115 (pc := 115) rfl ?_
                  refine e_getC h fl_X1_79 dX1_runErrands_116 (pc := 116) hs.c0 hs.p0 rfl rfl (r := (so + 5)) (pcr_d (by rw [hs.c0]; decide) 4) ?_
                  refine e_iload_n h dX1_runErrands_119 (pc := 119) rfl ?_
                  refine e_iald h dX1_runErrands_120 (pc := 120) hs.c5 hs.p5 (j := i) (by omega) (by rw [hs.l5]; omega) ?_
                  try simp (disch := omega) only [up_eq, up_ne]
                  refine e_isub h dX1_runErrands_121 (pc := 121)  ?_
                  refine e_putI h fl_X1_40 dX1_runErrands_122 (pc := 122) ho.c0 ho.p0 rfl ?_
                  refine e_iinc5 h dX1_runErrands_125 (pc := 125) (by decide) rfl ?_
                  refine e_goto h dX1_runErrands_128 (pc := 128) (tgt := 9) (by decide) ?_
                  rw [show (k : Int) + 1 = ((k + 1 : Nat) : Int) by omega]
                  have es := er_up (S := S) (c := (lv, gs)) (show oW O k = i ∧ oD O k = d by omega) (by omega) (by omega)
                  exact ih (k + 1) _ (by omega) (by omega) (by rw [es, up_ne (by omega), up_eq]; dsimp only; omega) (by rw [es, up_eq]; dsimp only; omega) (fun q j hq => by rw [up_ne (by omega), up_ne (by omega)]; exact hfr q j hq)
            · refine e_aload_n h dX1_runErrands_57 (pc := 57) rfl ?_
              refine e_aload_n h dX1_runErrands_58 (pc := 58) rfl ?_
              refine e_getI h fl_X1_25 dX1_runErrands_59 (pc := 59) ho.c0 ho.p0 (by decide) ?_
              refine e_iconst h dX1_runErrands_62 (pc := 62)  ?_
              refine e_isub h dX1_runErrands_63 (pc := 63)  ?_
              refine e_iconst h dX1_runErrands_64 (pc := 64)  ?_
              refine e_max lp_X1_70 dX1_runErrands_65 (pc := 65) (Nat.le_of_ble_eq_true rfl) (by decide) h (by omega) (by decide) ?_
              refine e_putI h fl_X1_25 dX1_runErrands_68 (pc := 68) ho.c0 ho.p0 rfl ?_
              refine e_goto h dX1_runErrands_71 (pc := 71) (tgt := 125) (by decide) ?_
              refine e_iinc5 h dX1_runErrands_125 (pc := 125) (by decide) rfl ?_
              refine e_goto h dX1_runErrands_128 (pc := 128) (tgt := 9) (by decide) ?_
              rw [show (k : Int) + 1 = ((k + 1 : Nat) : Int) by omega]
              have es := er_down (S := S) (c := (lv, gs)) (show oW O k = i ∧ oD O k = d by omega) (by omega)
              exact ih (k + 1) _ (by omega) (by omega) (by rw [es, up_eq]; dsimp only; omega) (by rw [es, up_ne (by omega)]; exact h6) (fun q j hq => by rw [up_ne (by omega)]; exact hfr q j hq)
          · refine e_goto h dX1_runErrands_43 (pc := 43) (tgt := 125) (by decide) ?_
            refine e_iinc5 h dX1_runErrands_125 (pc := 125) (by decide) rfl ?_
            refine e_goto h dX1_runErrands_128 (pc := 128) (tgt := 9) (by decide) ?_
            rw [show (k : Int) + 1 = ((k + 1 : Nat) : Int) by omega]
            have es := er_no (S := S) (c := (lv, gs)) (show ¬ (oW O k = i ∧ oD O k = d) by omega)
            exact ih (k + 1) M1 (by omega) (by omega) (by rw [es]; exact h4) (by rw [es]; exact h6) hfr
  refine e_aload_n h dX1_runErrands_0 (pc := 0) rfl ?_
  refine e_getC h fl_X1_31 dX1_runErrands_1 (pc := 1) hs.c0 hs.p0 rfl rfl (r := (so + 9)) (pcr_d (by rw [hs.c0]; decide) 8) ?_
  refine e_astore4 h dX1_runErrands_4 (pc := 4) (by decide) rfl ?_
  refine e_iconst h dX1_runErrands_6 (pc := 6)  ?_
  refine e_istore5 h dX1_runErrands_7 (pc := 7) (by decide) rfl ?_
  exact loop (oE O + 1) 0 M (by omega) (by omega) h4 h6 (fun _ _ _ => rfl)
/-- a course told day by day at the place o -/
def CR (S O : SD) (i l0 x0 : Nat) (M : Mem) (o : Nat) : Prop := M o 3 = lst S O i l0 x0 60 ∧ ∀ t, t ≤ 60 → M (o + 1) t = (crs S O i l0 x0 t).1 ∧ M (o + 2) t = (crs S O i l0 x0 t).2.1 ∧ M (o + 3) t = (crs S O i l0 x0 t).2.2
theorem CR.to {S O : SD} {i l0 x0 : Nat} {M M' : Mem} {o : Nat} (h : CR S O i l0 x0 M o) (hM : ∀ p, o ≤ p → p < o + 4 → M' p = M p) : CR S O i l0 x0 M' o := by
  unfold CR
  rw [hM o (by omega) (by omega), hM (o + 1) (by omega) (by omega), hM (o + 2) (by omega) (by omega), hM (o + 3) (by omega) (by omega)]
  exact h
theorem crs_lost {S O : SD} {i l0 x0 k : Nat} (h : (crs S O i l0 x0 k).1 = 9) : crs S O i l0 x0 (k + 1) = crs S O i l0 x0 k ∧ lst S O i l0 x0 (k + 1) = lst S O i l0 x0 k := by
  have e : crs S O i l0 x0 (k + 1) = crs S O i l0 x0 k := by
    show stepC _ _ _ _ _ = _
    unfold stepC
    rw [if_pos h]
  refine ⟨e, ?_⟩
  show (if _ then _ else _) = _
  rw [if_neg (by intro q; exact q.1 h)]
theorem crs_sinks {S O : SD} {i l0 x0 k : Nat} (h : (crs S O i l0 x0 k).1 ≠ 9) (hs : sink (er S O i (k + 1) (oE O) ((crs S O i l0 x0 k).1, (crs S O i l0 x0 k).2.2)) = 9) : crs S O i l0 x0 (k + 1) = (9, (crs S O i l0 x0 k).2.1, (er S O i (k + 1) (oE O) ((crs S O i l0 x0 k).1, (crs S O i l0 x0 k).2.2)).2) ∧ lst S O i l0 x0 (k + 1) = ((k + 1 : Nat) : Int) := by
  have e : crs S O i l0 x0 (k + 1) = (9, (crs S O i l0 x0 k).2.1, (er S O i (k + 1) (oE O) ((crs S O i l0 x0 k).1, (crs S O i l0 x0 k).2.2)).2) := by
    show stepC _ _ _ _ _ = _
    unfold stepC
    rw [if_neg h, if_pos hs]
  refine ⟨e, ?_⟩
  show (if _ then _ else _) = _
  rw [if_pos ⟨h, by rw [e]⟩]
theorem crs_goes {S O : SD} {i l0 x0 k : Nat} (h : (crs S O i l0 x0 k).1 ≠ 9) (hs : sink (er S O i (k + 1) (oE O) ((crs S O i l0 x0 k).1, (crs S O i l0 x0 k).2.2)) ≠ 9) : crs S O i l0 x0 (k + 1) = (sink (er S O i (k + 1) (oE O) ((crs S O i l0 x0 k).1, (crs S O i l0 x0 k).2.2)), ((crs S O i l0 x0 k).2.1 + sP S (sink (er S O i (k + 1) (oE O) ((crs S O i l0 x0 k).1, (crs S O i l0 x0 k).2.2)))) % 24, gasL S i (sink (er S O i (k + 1) (oE O) ((crs S O i l0 x0 k).1, (crs S O i l0 x0 k).2.2))) (k + 1) (er S O i (k + 1) (oE O) ((crs S O i l0 x0 k).1, (crs S O i l0 x0 k).2.2)).2) ∧ lst S O i l0 x0 (k + 1) = lst S O i l0 x0 k := by
  have e : crs S O i l0 x0 (k + 1) = (sink (er S O i (k + 1) (oE O) ((crs S O i l0 x0 k).1, (crs S O i l0 x0 k).2.2)), ((crs S O i l0 x0 k).2.1 + sP S (sink (er S O i (k + 1) (oE O) ((crs S O i l0 x0 k).1, (crs S O i l0 x0 k).2.2)))) % 24, gasL S i (sink (er S O i (k + 1) (oE O) ((crs S O i l0 x0 k).1, (crs S O i l0 x0 k).2.2))) (k + 1) (er S O i (k + 1) (oE O) ((crs S O i l0 x0 k).1, (crs S O i l0 x0 k).2.2)).2) := by
    show stepC _ _ _ _ _ = _
    unfold stepC
    rw [if_neg h, if_neg hs]
  refine ⟨e, ?_⟩
  show (if _ then _ else _) = _
  rw [if_neg (by intro q; rw [e] at q; exact hs q.2)]
set_option maxRecDepth 100000 in
set_option maxHeartbeats 4000000 in
theorem c_follow {gg : GT} {ad : Nat → Nat} {N : Nat} {M : Mem} {Post : Option AV → Mem → Prop} {S O : SD} {o so i l0 x0 : Nat}  {xi : Int} (hxi : xi = (i : Int)) {xl0 : Int} (hxl0 : xl0 = (l0 : Int)) {xx0 : Int} (hxx0 : xx0 = (x0 : Int))  (ho : IsC o N) (hs : IsS so N) (hSO : SO S O M so) (hdis : so + 14 ≤ o ∨ o + 4 ≤ so) (hW : WS S) (hO : WO O (sT S)) (hi : i < sT S) (hl0 : l0 < sL S) (hx0 : x0 ≤ 23) (K : ∀ M2 : Mem, CR S O i l0 x0 M2 o → (∀ q j, (q < o ∨ o + 4 ≤ q) → M2 q j = M q j) → Post none M2) : Sp gg yX1_follow cX1_follow 6 none rmX1_follow [vr o, vr so, vi xi, vi xl0, vi xx0] ad N pT M Post := by
  refine Sp.intro (ls := [some (vr o), some (vr so), some (vi xi), some (vi xl0), some (vi xx0), none]) (by decide +kernel) rfl (Nat.le_of_ble_eq_true rfl) fun κ hgg h hr ha => ?_
  have h : Ok κ RX1 cX1_follow 6 rmX1_follow := h
  subst hgg
  subst hxi
  subst hxl0
  subst hxx0
  have hSO0 := hSO
  have hW0 := hW
  have hO0 := hO
  obtain ⟨⟨w1a, w1b⟩, ⟨w2a, w2b⟩, w3, w4, w5, w6⟩ := hW0
  obtain ⟨v1, v2, v3⟩ := hO0
  have v3' := v3 i hi
  have loop : ∀ (n k : Nat) (M1 : Mem), k ≤ 60 → 60 < k + n → M1 o 3 = lst S O i l0 x0 k → M1 o 4 = (crs S O i l0 x0 k).1 → M1 o 5 = (crs S O i l0 x0 k).2.1 → M1 o 6 = (crs S O i l0 x0 k).2.2 → (∀ t, t ≤ k → M1 (o + 1) t = (crs S O i l0 x0 t).1 ∧ M1 (o + 2) t = (crs S O i l0 x0 t).2.1 ∧ M1 (o + 3) t = (crs S O i l0 x0 t).2.2) → (∀ q j, (q < o ∨ o + 4 ≤ q) → M1 q j = M q j) → E κ ad N pT M1 38 [some (vr o), some (vr so), some (vi (i : Int)), some (vi (l0 : Int)), some (vi (x0 : Int)), some (vi ((k + 1 : Nat) : Int))] [] (0, 0) (QR κ ad N pT Post) := by
    intro n
    induction n with
    | zero => intro k M1 h1 h2; exact absurd h2 (by omega)
    | succ n ih =>
      intro k M1 hk hn h3 h4 h5 h6 hT hfr
      have hS1 : SO S O M1 so := hSO.to (fun p a b => funext fun j => hfr p j (by omega))
      have cw := crs_wf (S := S) (O := O) (i := i) hl0 hx0 v3' k
      refine e_iload h dX1_follow_38 (pc := 38) rfl ?_
      refine e_bipush h dX1_follow_40 (pc := 40) (by decide +kernel) ?_
      refine e_icmp_gt h (tgt := 97) dX1_follow_42 (pc := 42) (by decide) (by omega) (by decide) (fun hb42 => ?_) (fun hb42 => ?_)
      · refine e_vret h hr ha dX1_follow_97 (pc := 97) ?_
        have hk2 : k = 60 := by omega
        subst hk2
        exact K M1 ⟨h3, hT⟩ hfr
      · refine e_aload_n h dX1_follow_45 (pc := 45) rfl ?_
        refine e_getI h fl_X1_25 dX1_follow_46 (pc := 46) ho.c0 ho.p0 (by decide) ?_
        refine e_bipush h dX1_follow_49 (pc := 49) (by decide +kernel) ?_
        refine e_icmp_eq h (tgt := 68) dX1_follow_51 (pc := 51) (by decide) (by omega) (by decide) (fun hb51 => ?_) (fun hb51 => ?_)
        · refine e_aload_n h dX1_follow_68 (pc := 68) rfl ?_
          refine e_getI h fl_X1_25 dX1_follow_69 (pc := 69) ho.c0 ho.p0 (by decide) ?_
          refine e_bipush h dX1_follow_72 (pc := 72) (by decide +kernel) ?_
          refine e_icmp_eq h (tgt := 85) dX1_follow_74 (pc := 74) (by decide) (by omega) (by decide) (fun hb74 => ?_) (fun hb74 => ?_)
          · refine e_aload_n h dX1_follow_85 (pc := 85) rfl ?_
            refine e_iload h dX1_follow_86 (pc := 86) rfl ?_
            refine e_callV1 lk_X1_43 mv_X1_note dX1_follow_88 (pc := 88) (by rw [ho.c0]; rfl) (by rw [ho.c0]; decide) ho.p0 (Nat.le_of_ble_eq_true rfl) (rmY := rmX1_note) (by decide) h ?_
            refine c_note (d := k + 1) rfl ho (by omega) ?_
            refine e_iinc5 h dX1_follow_91 (pc := 91) (by decide) rfl ?_
            refine e_goto h dX1_follow_94 (pc := 94) (tgt := 38) (by decide) ?_
            rw [show ((k + 1 : Nat) : Int) + 1 = ((k + 1 + 1 : Nat) : Int) by omega]
            have es := crs_lost (S := S) (O := O) (i := i) (l0 := l0) (x0 := x0) (k := k) (by omega)
            exact ih (k + 1) _ (by omega) (by omega) (by simp (disch := omega) only [up_eq, up_ne]; rw [es.2]; exact h3) (by simp (disch := omega) only [up_eq, up_ne]; rw [es.1]; exact h4) (by simp (disch := omega) only [up_eq, up_ne]; rw [es.1]; exact h5) (by simp (disch := omega) only [up_eq, up_ne]; rw [es.1]; exact h6) (fun t ht => by
                by_cases hz : t = k + 1
                · subst hz
                  simp (disch := omega) only [up_eq, up_ne]
                  rw [es.1]
                  exact ⟨h4, h5, h6⟩
                · simp (disch := omega) only [up_ne]
                  exact hT t (by omega)) (fun q j hq => by simp (disch := omega) only [up_ne]; exact hfr q j hq)
          · exact absurd hb51 hb74
        · refine e_aload_n h dX1_follow_54 (pc := 54) rfl ?_
          refine e_aload_n h dX1_follow_55 (pc := 55) rfl ?_
          refine e_iload_n h dX1_follow_56 (pc := 56) rfl ?_
          refine e_iload h dX1_follow_57 (pc := 57) rfl ?_
          refine e_callV3 lk_X1_47 mv_X1_runErrands dX1_follow_59 (pc := 59) (by rw [ho.c0]; rfl) (by rw [ho.c0]; decide) ho.p0 (Nat.le_of_ble_eq_true rfl) (rmY := rmX1_runErrands) (by decide) h ?_
          refine c_runErrands (S := S) (O := O) (i := i) (d := k + 1) (lv := (crs S O i l0 x0 k).1) (gs := (crs S O i l0 x0 k).2.2) rfl rfl ho hs hS1 (by omega) hW hO hi (by omega) h4 (by omega) h6 (by omega) (fun M2 a4 a6 af => ?_)
          have ew0 : (er S O i (k + 1) (oE O) ((crs S O i l0 x0 k).1, (crs S O i l0 x0 k).2.2)).1 < sL S ∧ (er S O i (k + 1) (oE O) ((crs S O i l0 x0 k).1, (crs S O i l0 x0 k).2.2)).2 ≤ (crs S O i l0 x0 k).2.2 := er_wf (S := S) (O := O) (i := i) (d := k + 1) (c := ((crs S O i l0 x0 k).1, (crs S O i l0 x0 k).2.2)) (by show _ < sL S; omega) (oE O)
          refine e_aload_n h dX1_follow_62 (pc := 62) rfl ?_
          refine e_iload h dX1_follow_63 (pc := 63) rfl ?_
          refine e_callV1 lk_X1_51 mv_X1_sinkWithoutGas dX1_follow_65 (pc := 65) (by rw [ho.c0]; rfl) (by rw [ho.c0]; decide) ho.p0 (Nat.le_of_ble_eq_true rfl) (rmY := rmX1_sinkWithoutGas) (by decide) h ?_
          refine c_sink (d := k + 1) (lv := (er S O i (k + 1) (oE O) ((crs S O i l0 x0 k).1, (crs S O i l0 x0 k).2.2)).1) (g := (er S O i (k + 1) (oE O) ((crs S O i l0 x0 k).1, (crs S O i l0 x0 k).2.2)).2) rfl ho (by omega) a4 (by omega) a6 (by omega) (fun M3 b4 b3 bf => ?_)
          have b4 : M3 o 4 = (sink (er S O i (k + 1) (oE O) ((crs S O i l0 x0 k).1, (crs S O i l0 x0 k).2.2)) : Nat) := b4
          have b3 : M3 o 3 = (if sink (er S O i (k + 1) (oE O) ((crs S O i l0 x0 k).1, (crs S O i l0 x0 k).2.2)) = 9 then ((k + 1 : Nat) : Int) else M2 o 3) := b3
          have sw0 : sink (er S O i (k + 1) (oE O) ((crs S O i l0 x0 k).1, (crs S O i l0 x0 k).2.2)) < sL S ∨ sink (er S O i (k + 1) (oE O) ((crs S O i l0 x0 k).1, (crs S O i l0 x0 k).2.2)) = 9 := sink_wf ew0.1
          refine e_aload_n h dX1_follow_68 (pc := 68) rfl ?_
          refine e_getI h fl_X1_25 dX1_follow_69 (pc := 69) ho.c0 ho.p0 (by decide) ?_
          refine e_bipush h dX1_follow_72 (pc := 72) (by decide +kernel) ?_
          refine e_icmp_eq h (tgt := 85) dX1_follow_74 (pc := 74) (by decide) (by omega) (by decide) (fun hb74 => ?_) (fun hb74 => ?_)
          · refine e_aload_n h dX1_follow_85 (pc := 85) rfl ?_
            refine e_iload h dX1_follow_86 (pc := 86) rfl ?_
            refine e_callV1 lk_X1_43 mv_X1_note dX1_follow_88 (pc := 88) (by rw [ho.c0]; rfl) (by rw [ho.c0]; decide) ho.p0 (Nat.le_of_ble_eq_true rfl) (rmY := rmX1_note) (by decide) h ?_
            refine c_note (d := k + 1) rfl ho (by omega) ?_
            refine e_iinc5 h dX1_follow_91 (pc := 91) (by decide) rfl ?_
            refine e_goto h dX1_follow_94 (pc := 94) (tgt := 38) (by decide) ?_
            rw [show ((k + 1 : Nat) : Int) + 1 = ((k + 1 + 1 : Nat) : Int) by omega]
            have es := crs_sinks (S := S) (O := O) (i := i) (l0 := l0) (x0 := x0) (k := k) (by omega) (by omega)
            have z5 : M3 o 5 = M1 o 5 := by rw [bf o 5 (by omega), af o 5 (by omega)]
            have z6 : M3 o 6 = M2 o 6 := by rw [bf o 6 (by omega)]
            exact ih (k + 1) _ (by omega) (by omega) (by simp (disch := omega) only [up_eq, up_ne]; rw [es.2, b3, if_pos (by omega)]) (by simp (disch := omega) only [up_eq, up_ne]; rw [es.1]; dsimp only; omega) (by simp (disch := omega) only [up_eq, up_ne]; rw [es.1, z5]; exact h5) (by simp (disch := omega) only [up_eq, up_ne]; rw [es.1, z6]; exact a6) (fun t ht => by
                by_cases hz : t = k + 1
                · subst hz
                  simp (disch := omega) only [up_eq, up_ne]
                  rw [es.1]
                  exact ⟨by dsimp only; omega, by rw [z5]; exact h5, by rw [z6]; exact a6⟩
                · simp (disch := omega) only [up_ne]
                  rw [bf _ _ (by omega), bf _ _ (by omega), bf _ _ (by omega), af _ _ (by omega), af _ _ (by omega), af _ _ (by omega)]; exact hT t (by omega)) (fun q j hq => by simp (disch := omega) only [up_ne]; rw [bf _ _ (by omega), af _ _ (by omega)]; exact hfr q j hq)
          · have hS3 : SO S O M3 so := hSO.to (fun p a b => funext fun j => by rw [bf _ _ (by omega), af _ _ (by omega), hfr _ _ (by omega)])
            obtain ⟨⟨p1, p2, p3, p4, p5, p6⟩, -⟩ := hS3
            have ew : (er S O i (k + 1) (oE O) ((crs S O i l0 x0 k).1, (crs S O i l0 x0 k).2.2)).1 < sL S ∧ (er S O i (k + 1) (oE O) ((crs S O i l0 x0 k).1, (crs S O i l0 x0 k).2.2)).2 ≤ (crs S O i l0 x0 k).2.2 := er_wf (S := S) (O := O) (i := i) (d := k + 1) (c := ((crs S O i l0 x0 k).1, (crs S O i l0 x0 k).2.2)) (by show _ < sL S; omega) (oE O)
            have sw : sink (er S O i (k + 1) (oE O) ((crs S O i l0 x0 k).1, (crs S O i l0 x0 k).2.2)) < sL S ∨ sink (er S O i (k + 1) (oE O) ((crs S O i l0 x0 k).1, (crs S O i l0 x0 k).2.2)) = 9 := sink_wf ew.1
            have p4' := p4 (sink (er S O i (k + 1) (oE O) ((crs S O i l0 x0 k).1, (crs S O i l0 x0 k).2.2))) (by omega)
            have w4' := w4 (sink (er S O i (k + 1) (oE O) ((crs S O i l0 x0 k).1, (crs S O i l0 x0 k).2.2))) (by omega)
            have p5' := p5 i hi
            have w5' := w5 i hi
            refine e_aload_n h dX1_follow_77 (pc := 77) rfl ?_
            refine e_aload_n h dX1_follow_78 (pc := 78) rfl ?_
            refine e_iload_n h dX1_follow_79 (pc := 79) rfl ?_
            refine e_iload h dX1_follow_80 (pc := 80) rfl ?_
            refine e_callV3 lk_X1_54 mv_X1_goOn dX1_follow_82 (pc := 82) (by rw [ho.c0]; rfl) (by rw [ho.c0]; decide) ho.p0 (Nat.le_of_ble_eq_true rfl) (rmY := rmX1_goOn) (by decide) h ?_
            refine c_goOn (S := S) (so := so) (i := i) (d := k + 1) (lv := sink (er S O i (k + 1) (oE O) ((crs S O i l0 x0 k).1, (crs S O i l0 x0 k).2.2))) (pl := (crs S O i l0 x0 k).2.1) (g := (er S O i (k + 1) (oE O) ((crs S O i l0 x0 k).1, (crs S O i l0 x0 k).2.2)).2) rfl rfl ho hs ⟨p1, p2, p3, p4, p5, p6⟩ (by omega) w3 (by omega) (fun k0 hk0 => by have := w6 k0 hk0; omega) (by omega) p5'.2.2.2 (by omega) b4 (by omega) p4'.2 (by omega) p4'.1 (by omega) (by rw [bf _ _ (by omega), af _ _ (by omega)]; exact h5) (by omega) (by rw [bf _ _ (by omega)]; exact a6) (by omega) (fun M4 g5 g6 gf => ?_)
            refine e_aload_n h dX1_follow_85 (pc := 85) rfl ?_
            refine e_iload h dX1_follow_86 (pc := 86) rfl ?_
            refine e_callV1 lk_X1_43 mv_X1_note dX1_follow_88 (pc := 88) (by rw [ho.c0]; rfl) (by rw [ho.c0]; decide) ho.p0 (Nat.le_of_ble_eq_true rfl) (rmY := rmX1_note) (by decide) h ?_
            refine c_note (d := k + 1) rfl ho (by omega) ?_
            refine e_iinc5 h dX1_follow_91 (pc := 91) (by decide) rfl ?_
            refine e_goto h dX1_follow_94 (pc := 94) (tgt := 38) (by decide) ?_
            rw [show ((k + 1 : Nat) : Int) + 1 = ((k + 1 + 1 : Nat) : Int) by omega]
            have es := crs_goes (S := S) (O := O) (i := i) (l0 := l0) (x0 := x0) (k := k) (by omega) (by omega)
            have z4 : M4 o 4 = M3 o 4 := gf o 4 (by omega)
            have z3 : M4 o 3 = M1 o 3 := by rw [gf o 3 (by omega), b3, if_neg (by omega), af o 3 (by omega)]
            exact ih (k + 1) _ (by omega) (by omega) (by simp (disch := omega) only [up_eq, up_ne]; rw [es.2, z3]; exact h3) (by simp (disch := omega) only [up_eq, up_ne]; rw [es.1, z4]; exact b4) (by simp (disch := omega) only [up_eq, up_ne]; rw [es.1]; exact g5) (by simp (disch := omega) only [up_eq, up_ne]; rw [es.1]; exact g6) (fun t ht => by
                by_cases hz : t = k + 1
                · subst hz
                  simp (disch := omega) only [up_eq, up_ne]
                  rw [es.1]
                  exact ⟨by rw [z4]; exact b4, g5, g6⟩
                · simp (disch := omega) only [up_ne]
                  rw [gf _ _ (by omega), gf _ _ (by omega), gf _ _ (by omega), bf _ _ (by omega), bf _ _ (by omega), bf _ _ (by omega), af _ _ (by omega), af _ _ (by omega), af _ _ (by omega)]; exact hT t (by omega)) (fun q j hq => by simp (disch := omega) only [up_ne]; rw [gf _ _ (by omega), bf _ _ (by omega), af _ _ (by omega)]; exact hfr q j hq)
  obtain ⟨⟨r1, r2, r3, r4, r5, r6⟩, t1, t2, t3⟩ := hSO
  refine e_aload_n h dX1_follow_0 (pc := 0) rfl ?_
  refine e_bipush h dX1_follow_1 (pc := 1) (by decide +kernel) ?_
  refine e_putI h fl_X1_21 dX1_follow_3 (pc := 3) ho.c0 ho.p0 rfl ?_
  refine e_aload_n h dX1_follow_6 (pc := 6) rfl ?_
  refine e_iload_n h dX1_follow_7 (pc := 7) rfl ?_
  refine e_putI h fl_X1_25 dX1_follow_8 (pc := 8) ho.c0 ho.p0 rfl ?_
  refine e_aload_n h dX1_follow_11 (pc := 11) rfl ?_
  refine e_iload h dX1_follow_12 (pc := 12) rfl ?_
  refine e_putI h fl_X1_28 dX1_follow_14 (pc := 14) ho.c0 ho.p0 rfl ?_
  refine e_aload_n h dX1_follow_17 (pc := 17) rfl ?_
  refine e_aload_n h dX1_follow_18 (pc := 18) rfl ?_
  refine e_getC h fl_X1_31 dX1_follow_19 (pc := 19) hs.c0 hs.p0 rfl rfl (r := (so + 9)) (pcr_d (by rw [hs.c0]; decide) 8) ?_
  refine e_getC h fl_X1_37 dX1_follow_22 (pc := 22) hs.c9 hs.p9 rfl rfl (r := (so + 13)) (pcr_d (by rw [hs.c9]; decide) 3) ?_
  refine e_iload_n h dX1_follow_25 (pc := 25) rfl ?_
  refine e_iald h dX1_follow_26 (pc := 26) hs.c13 hs.p13 (j := i) (by omega) (by rw [hs.l13]; omega) ?_
  try simp (disch := omega) only [up_eq, up_ne]
  refine e_putI h fl_X1_40 dX1_follow_27 (pc := 27) ho.c0 ho.p0 rfl ?_
  refine e_aload_n h dX1_follow_30 (pc := 30) rfl ?_
  refine e_iconst h dX1_follow_31 (pc := 31)  ?_
  refine e_callV1 lk_X1_43 mv_X1_note dX1_follow_32 (pc := 32) (by rw [ho.c0]; rfl) (by rw [ho.c0]; decide) ho.p0 (Nat.le_of_ble_eq_true rfl) (rmY := rmX1_note) (by decide) h ?_
  refine c_note (d := 0) rfl ho (by omega) ?_
  refine e_iconst h dX1_follow_35 (pc := 35)  ?_
  refine e_istore5 h dX1_follow_36 (pc := 36) (by decide) rfl ?_
  exact loop 61 0 _ (by omega) (by omega) (by simp (disch := omega) only [up_eq, up_ne]; rfl) (by simp (disch := omega) only [up_eq, up_ne]; rfl) (by simp (disch := omega) only [up_eq, up_ne]; rfl) (by simp (disch := omega) only [up_eq, up_ne]; exact t3 i hi) (fun t ht => by
      have ht0 : t = 0 := by omega
      subst ht0
      simp (disch := omega) only [up_eq, up_ne]
      exact ⟨rfl, rfl, t3 i hi⟩) (fun q j hq => by simp (disch := omega) only [up_ne])
