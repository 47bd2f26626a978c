def bM (b : TB) (n k : Nat) : Nat := if k < n then b k else 0
/-- the model's draft -/
def M1S (S : SD) (M : Mem) : Prop := M 112 1 = sL S ∧ M 115 1 = sT S ∧ M 120 1 = sB S ∧ (∀ l, l < sL S → M 113 (6 + l) = sP S l ∧ M 114 (6 + l) = sW S l) ∧ (∀ i, i < sT S → M 116 (6 + i) = sH S i ∧ M 117 (6 + i) = sF S i ∧ M 118 (6 + i) = sX S i ∧ M 119 (6 + i) = sK S i) ∧ ∀ k, k < sB S → M 121 (5 + k) = sC S k ∧ M 122 (5 + k) = sD S k
set_option maxRecDepth 100000 in
set_option maxHeartbeats 4000000 in
theorem m_byteAt {gg : GT} {ad : Nat → Nat} {N : Nat} {M : Mem} {Post : Option AV → Mem → Prop} {b : TB} {n k : Nat}  {xk : Int} (hxk : xk = (k : Int))  (hN : 139 ≤ N) (hX : MT b n M) (hk : k ≤ 1000) (K : Post (some (vi (bM b n k : Nat))) M) : Sp gg yX11_byteAt cX11_byteAt 2 (some .int) rmX11_byteAt [vr 110, vi xk] ad N pT M Post := by
  refine Sp.intro (ls := [some (vr 110), some (vi xk)]) (by decide +kernel) rfl (Nat.le_of_ble_eq_true rfl) fun κ hgg h hr ha => ?_
  have h : Ok κ RX11 cX11_byteAt 2 rmX11_byteAt := h
  subst hgg
  subst hxk
  have h1 := hX.1
  have h2 := hX.2.1
  refine e_iload_n h dX11_byteAt_0 (pc := 0) rfl ?_
  refine e_aload_n h dX11_byteAt_1 (pc := 1) rfl ?_
  refine e_getI h fl_X11_101 dX11_byteAt_2 (pc := 2) rfl (Nat.lt_of_lt_of_le (by decide) hN) (by decide) ?_
  refine e_icmp_ge h (tgt := 17) dX11_byteAt_5 (pc := 5) (by decide) (by omega) (by omega) (fun hb5 => ?_) (fun hb5 => ?_)
  · refine e_iconst h dX11_byteAt_17 (pc := 17)  ?_
    refine e_iret h hr ha dX11_byteAt_18 (pc := 18) ?_
    exact cast (by rw [show bM b n k = 0 from if_neg (by omega)]; rfl) K
  · have hx2 := hX.2.2 k (by omega)
    refine e_aload_n h dX11_byteAt_8 (pc := 8) rfl ?_
    refine e_getC h fl_X11_7 dX11_byteAt_9 (pc := 9) rfl (Nat.lt_of_lt_of_le (by decide) hN) rfl rfl (r := 111) rfl ?_
    refine e_iload_n h dX11_byteAt_12 (pc := 12) rfl ?_
    refine e_iald h dX11_byteAt_13 (pc := 13) rfl (Nat.lt_of_lt_of_le (by decide) hN) rfl (by show _ < 300; omega) ?_
    rw [hx2.1]
    refine e_goto h dX11_byteAt_14 (pc := 14) (tgt := 18) (by decide) ?_
    refine e_iret h hr ha dX11_byteAt_18 (pc := 18) ?_
    exact cast (by rw [show bM b n k = b k from if_pos (by omega)]) K
set_option maxRecDepth 100000 in
set_option maxHeartbeats 4000000 in
theorem m_areThere {gg : GT} {ad : Nat → Nat} {N : Nat} {M : Mem} {Post : Option AV → Mem → Prop} {S : SD}   (hN : 139 ≤ N) (hS : M1S S M) (hP : sL S ≤ 6 ∧ sT S ≤ 6 ∧ sB S ≤ 5 ∧ (∀ i, i < sT S → sH S i ≤ 5) ∧ ∀ k, k < sB S → sC S k ≤ 5) (kt : whole S → Post (some (vi 1)) M) (kf : ¬ whole S → Post (some (vi 0)) M) : Sp gg yX11_areThere cX11_areThere 3 (some .boolean) rmX11_areThere [vr 110] ad N pT M Post := by
  refine Sp.intro (ls := [some (vr 110), none, none]) (by decide +kernel) rfl (Nat.le_of_ble_eq_true rfl) fun κ hgg h hr ha => ?_
  have h : Ok κ RX11 cX11_areThere 3 rmX11_areThere := h
  subst hgg
  have r1 := hS.1
  have r2 := hS.2.1
  have r3 := hS.2.2.1
  have fin : ∀ s : Nat, ((s = 1 ∧ 0 < sL S ∧ 0 < sT S ∧ ∀ i, i < sT S → sH S i < sL S) ∨ (s = 0 ∧ ¬ whole S)) → E κ ad N pT M 70 [some (vr 110), some (vi (s : Int)), some (vi ((sT S : Nat) : Int))] [] (0, 0) (QR κ ad N pT Post) := by
    intro s0 hs0
    have loop2 : ∀ (m k s : Nat), k ≤ sB S → sB S < k + m → ((s = 1 ∧ 0 < sL S ∧ 0 < sT S ∧ (∀ i, i < sT S → sH S i < sL S) ∧ ∀ j, j < k → sC S j < sL S) ∨ (s = 0 ∧ ¬ whole S)) → E κ ad N pT M 72 [some (vr 110), some (vi (s : Int)), some (vi ((k : Nat) : Int))] [] (0, 0) (QR κ ad N pT Post) := by
      intro m
      induction m with
      | zero => intro k s h1 h2; exact absurd h2 (by omega)
      | succ m ih =>
        intro k s hk hm hs
        refine e_iload_n h dX11_areThere_72 (pc := 72) rfl ?_
        refine e_aload_n h dX11_areThere_73 (pc := 73) rfl ?_
        refine e_getC h fl_X11_37 dX11_areThere_74 (pc := 74) rfl (Nat.lt_of_lt_of_le (by decide) hN) rfl rfl (r := 120) rfl ?_
        refine e_iconst h dX11_areThere_77 (pc := 77)  ?_
        refine e_iald h dX11_areThere_78 (pc := 78) rfl (Nat.lt_of_lt_of_le (by decide) hN) (j := 1) rfl (by decide) ?_
        refine e_icmp_ge h (tgt := 115) dX11_areThere_79 (pc := 79) (by decide) (by omega) (by omega) (fun hb79 => ?_) (fun hb79 => ?_)
        · have hkB : k = sB S := by omega
          refine e_iload_n h dX11_areThere_115 (pc := 115) rfl ?_
          refine e_zret h hr ha dX11_areThere_116 (pc := 116) (by omega) ?_
          rcases hs with q | q
          · rw [q.1]; exact kt ⟨q.2.2.2.1, fun j hj => q.2.2.2.2 j (by omega), q.2.1, q.2.2.1⟩
          · rw [q.1]; exact kf q.2
        · have r6 := (hS.2.2.2.2.2 k (by omega)).1
          have p6 := hP.2.2.2.2 k (by omega)
          refine e_iload_n h dX11_areThere_82 (pc := 82) rfl ?_
          refine e_if_eq h (tgt := 107) dX11_areThere_83 (pc := 83) (by decide) (by omega) (fun hb83 => ?_) (fun hb83 => ?_)
          · refine e_iconst h dX11_areThere_107 (pc := 107)  ?_
            refine e_istore1 h dX11_areThere_108 (pc := 108) (by decide) rfl ?_
            refine e_iinc2 h dX11_areThere_109 (pc := 109) (by decide) rfl ?_
            refine e_goto h dX11_areThere_112 (pc := 112) (tgt := 72) (by decide) ?_
            rw [show (k : Int) + 1 = ((k + 1 : Nat) : Int) by omega]
            exact ih (k + 1) 0 (by omega) (by omega) (Or.inr ⟨rfl, by rcases hs with q | q; omega; exact q.2⟩)
          · refine e_aload_n h dX11_areThere_86 (pc := 86) rfl ?_
            refine e_getC h fl_X11_40 dX11_areThere_87 (pc := 87) rfl (Nat.lt_of_lt_of_le (by decide) hN) rfl rfl (r := 121) rfl ?_
            refine e_iconst h dX11_areThere_90 (pc := 90)  ?_
            refine e_iload_n h dX11_areThere_91 (pc := 91) rfl ?_
            refine e_iadd h dX11_areThere_92 (pc := 92)  ?_
            refine e_iald h dX11_areThere_93 (pc := 93) rfl (Nat.lt_of_lt_of_le (by decide) hN) (j := (5 + k)) (by omega) (by show _ < 10; omega) ?_
            refine e_aload_n h dX11_areThere_94 (pc := 94) rfl ?_
            refine e_getC h fl_X11_13 dX11_areThere_95 (pc := 95) rfl (Nat.lt_of_lt_of_le (by decide) hN) rfl rfl (r := 112) rfl ?_
            refine e_iconst h dX11_areThere_98 (pc := 98)  ?_
            refine e_iald h dX11_areThere_99 (pc := 99) rfl (Nat.lt_of_lt_of_le (by decide) hN) (j := 1) rfl (by decide) ?_
            refine e_icmp_ge h (tgt := 107) dX11_areThere_100 (pc := 100) (by decide) (by omega) (by omega) (fun hb100 => ?_) (fun hb100 => ?_)
            · refine e_iconst h dX11_areThere_107 (pc := 107)  ?_
              refine e_istore1 h dX11_areThere_108 (pc := 108) (by decide) rfl ?_
              refine e_iinc2 h dX11_areThere_109 (pc := 109) (by decide) rfl ?_
              refine e_goto h dX11_areThere_112 (pc := 112) (tgt := 72) (by decide) ?_
              rw [show (k : Int) + 1 = ((k + 1 : Nat) : Int) by omega]
              exact ih (k + 1) 0 (by omega) (by omega) (Or.inr ⟨rfl, fun w => absurd (w.2.1 k (by omega)) (by omega)⟩)
            · refine e_iconst h dX11_areThere_103 (pc := 103)  ?_
              refine e_goto h dX11_areThere_104 (pc := 104) (tgt := 108) (by decide) ?_
              refine e_istore1 h dX11_areThere_108 (pc := 108) (by decide) rfl ?_
              refine e_iinc2 h dX11_areThere_109 (pc := 109) (by decide) rfl ?_
              refine e_goto h dX11_areThere_112 (pc := 112) (tgt := 72) (by decide) ?_
              rw [show (k : Int) + 1 = ((k + 1 : Nat) : Int) by omega]
              rcases hs with q | q
              · exact ih (k + 1) 1 (by omega) (by omega) (Or.inl ⟨rfl, q.2.1, q.2.2.1, q.2.2.2.1, fun i hi => by
                  by_cases e : i = k
                  · subst e; omega
                  · exact q.2.2.2.2 i (by omega)⟩)
              · omega
    refine e_iconst h dX11_areThere_70 (pc := 70)  ?_
    refine e_istore2 h dX11_areThere_71 (pc := 71) (by decide) rfl ?_
    exact loop2 (sB S + 1) 0 s0 (by omega) (by omega) (hs0.elim (fun q => Or.inl ⟨q.1, q.2.1, q.2.2.1, q.2.2.2, fun j hj => absurd hj (by omega)⟩) Or.inr)
  have loop : ∀ (m k s : Nat), k ≤ sT S → sT S < k + m → ((s = 1 ∧ 0 < sL S ∧ 0 < sT S ∧ ∀ i, i < k → sH S i < sL S) ∨ (s = 0 ∧ ¬ whole S)) → E κ ad N pT M 26 [some (vr 110), some (vi (s : Int)), some (vi ((k : Nat) : Int))] [] (0, 0) (QR κ ad N pT Post) := by
    intro m
    induction m with
    | zero => intro k s h1 h2; exact absurd h2 (by omega)
    | succ m ih =>
      intro k s hk hm hs
      refine e_iload_n h dX11_areThere_26 (pc := 26) rfl ?_
      refine e_aload_n h dX11_areThere_27 (pc := 27) rfl ?_
      refine e_getC h fl_X11_22 dX11_areThere_28 (pc := 28) rfl (Nat.lt_of_lt_of_le (by decide) hN) rfl rfl (r := 115) rfl ?_
      refine e_iconst h dX11_areThere_31 (pc := 31)  ?_
      refine e_iald h dX11_areThere_32 (pc := 32) rfl (Nat.lt_of_lt_of_le (by decide) hN) (j := 1) rfl (by decide) ?_
      refine e_icmp_ge h (tgt := 70) dX11_areThere_33 (pc := 33) (by decide) (by omega) (by omega) (fun hb33 => ?_) (fun hb33 => ?_)
      · have hkT : k = sT S := by omega
        rw [hkT] at hs ⊢
        exact fin s hs
      · have r5 := (hS.2.2.2.2.1 k (by omega)).1
        have p5 := hP.2.2.2.1 k (by omega)
        refine e_iload_n h dX11_areThere_36 (pc := 36) rfl ?_
        refine e_if_eq h (tgt := 62) dX11_areThere_37 (pc := 37) (by decide) (by omega) (fun hb37 => ?_) (fun hb37 => ?_)
        · refine e_iconst h dX11_areThere_62 (pc := 62)  ?_
          refine e_istore1 h dX11_areThere_63 (pc := 63) (by decide) rfl ?_
          refine e_iinc2 h dX11_areThere_64 (pc := 64) (by decide) rfl ?_
          refine e_goto h dX11_areThere_67 (pc := 67) (tgt := 26) (by decide) ?_
          rw [show (k : Int) + 1 = ((k + 1 : Nat) : Int) by omega]
          exact ih (k + 1) 0 (by omega) (by omega) (Or.inr ⟨rfl, by rcases hs with q | q; omega; exact q.2⟩)
        · refine e_aload_n h dX11_areThere_40 (pc := 40) rfl ?_
          refine e_getC h fl_X11_25 dX11_areThere_41 (pc := 41) rfl (Nat.lt_of_lt_of_le (by decide) hN) rfl rfl (r := 116) rfl ?_
          refine e_bipush h dX11_areThere_44 (pc := 44) (by decide +kernel) ?_
          refine e_iload_n h dX11_areThere_46 (pc := 46) rfl ?_
          refine e_iadd h dX11_areThere_47 (pc := 47)  ?_
          refine e_iald h dX11_areThere_48 (pc := 48) rfl (Nat.lt_of_lt_of_le (by decide) hN) (j := (6 + k)) (by omega) (by show _ < 12; omega) ?_
          refine e_aload_n h dX11_areThere_49 (pc := 49) rfl ?_
          refine e_getC h fl_X11_13 dX11_areThere_50 (pc := 50) rfl (Nat.lt_of_lt_of_le (by decide) hN) rfl rfl (r := 112) rfl ?_
          refine e_iconst h dX11_areThere_53 (pc := 53)  ?_
          refine e_iald h dX11_areThere_54 (pc := 54) rfl (Nat.lt_of_lt_of_le (by decide) hN) (j := 1) rfl (by decide) ?_
          refine e_icmp_ge h (tgt := 62) dX11_areThere_55 (pc := 55) (by decide) (by omega) (by omega) (fun hb55 => ?_) (fun hb55 => ?_)
          · refine e_iconst h dX11_areThere_62 (pc := 62)  ?_
            refine e_istore1 h dX11_areThere_63 (pc := 63) (by decide) rfl ?_
            refine e_iinc2 h dX11_areThere_64 (pc := 64) (by decide) rfl ?_
            refine e_goto h dX11_areThere_67 (pc := 67) (tgt := 26) (by decide) ?_
            rw [show (k : Int) + 1 = ((k + 1 : Nat) : Int) by omega]
            exact ih (k + 1) 0 (by omega) (by omega) (Or.inr ⟨rfl, fun w => absurd (w.1 k (by omega)) (by omega)⟩)
          · refine e_iconst h dX11_areThere_58 (pc := 58)  ?_
            refine e_goto h dX11_areThere_59 (pc := 59) (tgt := 63) (by decide) ?_
            refine e_istore1 h dX11_areThere_63 (pc := 63) (by decide) rfl ?_
            refine e_iinc2 h dX11_areThere_64 (pc := 64) (by decide) rfl ?_
            refine e_goto h dX11_areThere_67 (pc := 67) (tgt := 26) (by decide) ?_
            rw [show (k : Int) + 1 = ((k + 1 : Nat) : Int) by omega]
            rcases hs with q | q
            · exact ih (k + 1) 1 (by omega) (by omega) (Or.inl ⟨rfl, q.2.1, q.2.2.1, fun i hi => by
                by_cases e : i = k
                · subst e; omega
                · exact q.2.2.2 i (by omega)⟩)
            · omega
  refine e_aload_n h dX11_areThere_0 (pc := 0) rfl ?_
  refine e_getC h fl_X11_13 dX11_areThere_1 (pc := 1) rfl (Nat.lt_of_lt_of_le (by decide) hN) rfl rfl (r := 112) rfl ?_
  refine e_iconst h dX11_areThere_4 (pc := 4)  ?_
  refine e_iald h dX11_areThere_5 (pc := 5) rfl (Nat.lt_of_lt_of_le (by decide) hN) (j := 1) rfl (by decide) ?_
  refine e_if_le h (tgt := 22) dX11_areThere_6 (pc := 6) (by decide) (by omega) (fun hb6 => ?_) (fun hb6 => ?_)
  · refine e_iconst h dX11_areThere_22 (pc := 22)  ?_
    refine e_istore1 h dX11_areThere_23 (pc := 23) (by decide) rfl ?_
    refine e_iconst h dX11_areThere_24 (pc := 24)  ?_
    refine e_istore2 h dX11_areThere_25 (pc := 25) (by decide) rfl ?_
    exact loop (sT S + 1) 0 0 (by omega) (by omega) (Or.inr ⟨rfl, fun w => by have := w.2.2; omega⟩)
  · refine e_aload_n h dX11_areThere_9 (pc := 9) rfl ?_
    refine e_getC h fl_X11_22 dX11_areThere_10 (pc := 10) rfl (Nat.lt_of_lt_of_le (by decide) hN) rfl rfl (r := 115) rfl ?_
    refine e_iconst h dX11_areThere_13 (pc := 13)  ?_
    refine e_iald h dX11_areThere_14 (pc := 14) rfl (Nat.lt_of_lt_of_le (by decide) hN) (j := 1) rfl (by decide) ?_
    refine e_if_le h (tgt := 22) dX11_areThere_15 (pc := 15) (by decide) (by omega) (fun hb15 => ?_) (fun hb15 => ?_)
    · refine e_iconst h dX11_areThere_22 (pc := 22)  ?_
      refine e_istore1 h dX11_areThere_23 (pc := 23) (by decide) rfl ?_
      refine e_iconst h dX11_areThere_24 (pc := 24)  ?_
      refine e_istore2 h dX11_areThere_25 (pc := 25) (by decide) rfl ?_
      exact loop (sT S + 1) 0 0 (by omega) (by omega) (Or.inr ⟨rfl, fun w => by have := w.2.2; omega⟩)
    · refine e_iconst h dX11_areThere_18 (pc := 18)  ?_
      refine e_goto h dX11_areThere_19 (pc := 19) (tgt := 23) (by decide) ?_
      refine e_istore1 h dX11_areThere_23 (pc := 23) (by decide) rfl ?_
      refine e_iconst h dX11_areThere_24 (pc := 24)  ?_
      refine e_istore2 h dX11_areThere_25 (pc := 25) (by decide) rfl ?_
      exact loop (sT S + 1) 0 1 (by omega) (by omega) (Or.inl ⟨rfl, by omega, by omega, fun i hi => absurd hi (by omega)⟩)
