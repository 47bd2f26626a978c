theorem bM_at {b : TB} {n k : Nat} : ((bM b n k : Nat) : Int) = atB b n k ∨ (bM b n k = 0 ∧ atB b n k = -1) := by
  unfold bM atB
  by_cases h : k < n
  · rw [if_pos h, if_pos h]; exact Or.inl rfl
  · rw [if_neg h, if_neg h]; exact Or.inr ⟨rfl, rfl⟩
theorem bM_le {b : TB} {n k : Nat} {M : Mem} (h : MT b n M) : bM b n k ≤ 255 := by
  unfold bM
  split
  · rename_i q; exact (h.2.2 k q).2
  · omega
theorem rn_no {b : TB} {n q : Nat} (h : ¬ (48 ≤ atB b n q ∧ atB b n q ≤ 57)) : ∀ r, rns b n r q = none := fun r => rns_none (by unfold rn; rw [dg_f h]; rfl)
theorem rn_1 {b : TB} {n q : Nat} (h : 48 ≤ atB b n q ∧ atB b n q ≤ 57) (h2 : ¬ (48 ≤ atB b n (q + 1) ∧ atB b n (q + 1) ≤ 57)) : rn b n q = some ((atB b n q - 48).toNat, q + 1) := by
  unfold rn
  rw [dg_t h, dg_f h2]
  rfl
theorem rn_2 {b : TB} {n q : Nat} (h : 48 ≤ atB b n q ∧ atB b n q ≤ 57) (h2 : 48 ≤ atB b n (q + 1) ∧ atB b n (q + 1) ≤ 57) : rn b n q = some ((10 * (atB b n q - 48) + (atB b n (q + 1) - 48)).toNat, q + 2) := by
  unfold rn
  rw [dg_t h, dg_t h2]
  rfl
theorem rn_3 {b : TB} {n q : Nat} (h : 48 ≤ atB b n q ∧ atB b n q ≤ 57) (h2 : 48 ≤ atB b n (q + 1) ∧ atB b n (q + 1) ≤ 57) (h3 : 48 ≤ atB b n (q + 2) ∧ atB b n (q + 2) ≤ 57) : ∀ r, rns b n r q = none := fun r => by
  cases r with
  | zero => rfl
  | succ r => exact rns_bad (rn_2 h h2) (by omega) (by omega)
theorem fig_none {b : TB} {n m k q0 q : Nat} {acc : List Nat} (hEq : rns b n 5 q0 = (rns b n (5 - k) q).map (fun x => (acc ++ x.1, x.2))) (h : ∀ r, rns b n r q = none) : ∀ l e, rns b n 5 q0 = some (l, e) → l.length ≠ m := by
  intro l e he
  rw [hEq, h] at he
  cases he
theorem fig_bad {b : TB} {n m k q0 q v e : Nat} {acc : List Nat} (hEq : rns b n 5 q0 = (rns b n (5 - k) q).map (fun x => (acc ++ x.1, x.2))) (hl : acc.length = k) (hr : rn b n q = some (v, e)) (hk : k < m) (hm : m ≤ 5) (h : (k + 1 < m ∧ atB b n e ≠ 44) ∨ (k + 1 = m ∧ atB b n e ≠ 59)) : ∀ l e2, rns b n 5 q0 = some (l, e2) → l.length ≠ m := by
  intro l e2 he
  obtain ⟨r0, hr0⟩ : ∃ r0, 5 - k = r0 + 1 := ⟨4 - k, by omega⟩
  rw [hEq, hr0] at he
  by_cases h59 : atB b n e = 59
  · rw [rns_end hr h59] at he
    cases he
    simp
    omega
  · by_cases h44 : atB b n e = 44
    · rw [rns_sep hr h44] at he
      cases hx : rns b n r0 (e + 1) with
      | none => rw [hx] at he; cases he
      | some x =>
        obtain ⟨l2, e3⟩ := x
        rw [hx] at he
        cases he
        have := (rns_le _ _ _ _ hx).2.1
        simp
        omega
    · rw [rns_bad hr h59 h44] at he
      cases he
theorem fig_end {b : TB} {n k q0 q v e : Nat} {acc : List Nat} (hEq : rns b n 5 q0 = (rns b n (5 - k) q).map (fun x => (acc ++ x.1, x.2))) (hr : rn b n q = some (v, e)) (hk : k < 5) (h : atB b n e = 59) : rns b n 5 q0 = some (acc ++ [v], e + 1) := by
  obtain ⟨r0, hr0⟩ : ∃ r0, 5 - k = r0 + 1 := ⟨4 - k, by omega⟩
  rw [hEq, hr0, rns_end hr h]
  rfl
theorem fig_more {b : TB} {n k q0 q v e : Nat} {acc : List Nat} (hEq : rns b n 5 q0 = (rns b n (5 - k) q).map (fun x => (acc ++ x.1, x.2))) (hr : rn b n q = some (v, e)) (hk : k < 5) (h : atB b n e = 44) : rns b n 5 q0 = (rns b n (5 - (k + 1)) (e + 1)).map (fun x => ((acc ++ [v]) ++ x.1, x.2)) := by
  obtain ⟨r0, hr0⟩ : ∃ r0, 5 - k = r0 + 1 := ⟨4 - k, by omega⟩
  rw [hEq, hr0, rns_sep hr h, show 5 - (k + 1) = r0 by omega]
  cases rns b n r0 (e + 1) with
  | none => rfl
  | some x => show some (acc ++ v :: x.1, x.2) = some ((acc ++ [v]) ++ x.1, x.2); rw [List.append_assoc]; rfl
theorem getD_app {acc : List Nat} {k v j : Nat} (hl : acc.length = k) (hj : j < k) : (acc ++ [v]).getD j 0 = acc.getD j 0 := by
  rw [List.getD_eq_getElem?_getD, List.getD_eq_getElem?_getD, List.getElem?_append_left (by omega)]
theorem getD_last {acc : List Nat} {k v : Nat} (hl : acc.length = k) : (acc ++ [v]).getD k 0 = v := by
  rw [List.getD_eq_getElem?_getD, List.getElem?_append_right (by omega), hl, Nat.sub_self]
  rfl
def dft (p j : Nat) : Prop := (p = 110 ∧ j = 21) ∨ p = 129 ∨ ((p = 112 ∨ p = 115 ∨ p = 120 ∨ p = 124) ∧ j = 1) ∨ ((p = 113 ∨ p = 114 ∨ p = 116 ∨ p = 117 ∨ p = 118 ∨ p = 119 ∨ p = 123) ∧ 6 ≤ j ∧ j < 12) ∨ ((p = 121 ∨ p = 122) ∧ 5 ≤ j ∧ j < 10) ∨ ((p = 125 ∨ p = 126 ∨ p = 127) ∧ 8 ≤ j ∧ j < 16)
/-- the draft alone has changed -/
def FD (M M2 : Mem) : Prop := ∀ p j, ¬ dft p j → M2 p j = M p j
theorem FD.rf {M : Mem} : FD M M := fun _ _ _ => rfl
theorem FD.tr {M M2 M3 : Mem} (h : FD M M2) (g : FD M2 M3) : FD M M3 := fun p j q => (g p j q).trans (h p j q)
theorem FD.up {M M2 : Mem} {p k : Nat} {x : Int} (h : FD M M2) (hd : dft p k) : FD M (up M2 p k x) := fun q j hq => by
  rw [up_ne (by
    by_cases e : q = p
    · right; intro z; subst e; subst z; exact hq hd
    · exact Or.inl e)]
  exact h q j hq
theorem rn_sp {b : TB} {n e : Nat} (h : 1 ≤ atB b n e) : e + 1 ≤ n := by
  by_cases q : e < n
  · omega
  · have := atB_out (b := b) q
    omega
set_option maxRecDepth 100000 in
set_option maxHeartbeats 4000000 in
theorem m_figures {gg : GT} {ad : Nat → Nat} {N : Nat} {M : Mem} {Post : Option AV → Mem → Prop} {b : TB} {n m q0 : Nat}  {xm : Int} (hxm : xm = (m : Int))  (hN : 139 ≤ N) (hX : MT b n M) (hq : M 110 21 = q0) (hq2 : q0 ≤ n) (hm1 : 1 ≤ m) (hm5 : m ≤ 5) (kt : ∀ (M2 : Mem) (l : List Nat) (e : Nat), rns b n 5 q0 = some (l, e) → l.length = m → M2 110 21 = e → (∀ j, j < m → M2 129 j = ((l.getD j 0 : Nat) : Int)) → (∀ p j, (p ≠ 110 ∨ j ≠ 21) → p ≠ 129 → M2 p j = M p j) → Post (some (vi 1)) M2) (kf : ∀ M2 : Mem, (∀ l e, rns b n 5 q0 = some (l, e) → l.length ≠ m) → (∀ p j, (p ≠ 110 ∨ j ≠ 21) → p ≠ 129 → M2 p j = M p j) → Post (some (vi 0)) M2) : Sp gg yX11_figures cX11_figures 5 (some .boolean) rmX11_figures [vr 110, vi xm] ad N pT M Post := by
  refine Sp.intro (ls := [some (vr 110), some (vi xm), none, none, none]) (by decide +kernel) rfl (Nat.le_of_ble_eq_true rfl) fun κ hgg h hr ha => ?_
  have h : Ok κ RX11 cX11_figures 5 rmX11_figures := h
  subst hgg
  subst hxm
  have loop : ∀ (n1 k q : Nat) (acc : List Nat) (M1 : Mem), k ≤ m → m < k + n1 → acc.length = k → M1 110 21 = q → q ≤ n → (∀ j, j < k → M1 129 j = ((acc.getD j 0 : Nat) : Int)) → (∀ p j, (p ≠ 110 ∨ j ≠ 21) → p ≠ 129 → M1 p j = M p j) → ((k < m ∧ rns b n 5 q0 = (rns b n (5 - k) q).map (fun x => (acc ++ x.1, x.2))) ∨ (k = m ∧ rns b n 5 q0 = some (acc, q))) → E κ ad N pT M1 2 [some (vr 110), some (vi (m : Int)), some (vi (k : Int)), none, none] [] (0, 0) (QR κ ad N pT Post) := by
    intro n1
    induction n1 with
    | zero => intro k q acc M1 h1 h2; exact absurd h2 (by omega)
    | succ n1 ih =>
      intro k q acc M1 hk hn1 hlen h21 hqn hacc hfr hst
      have hX2 := hX.2.1
      refine e_iload_n h dX11_figures_2 (pc := 2) rfl ?_
      refine e_iload_n h dX11_figures_3 (pc := 3) rfl ?_
      refine e_icmp_ge h (tgt := 136) dX11_figures_4 (pc := 4) (by decide) (by omega) (by omega) (fun hb4 => ?_) (fun hb4 => ?_)
      · have hkm0 : k = m := by omega
        subst hkm0
        rcases hst with hst | hst
        · exact absurd hst.1 (by omega)
        refine e_iconst h dX11_figures_136 (pc := 136)  ?_
        refine e_zret h hr ha dX11_figures_137 (pc := 137) (by decide) ?_
        exact kt M1 acc q hst.2 (by omega) h21 (fun j hj => hacc j (by omega)) hfr
      · refine e_iconst h dX11_figures_7 (pc := 7)  ?_
        refine e_istore3 h dX11_figures_8 (pc := 8) (by decide) rfl ?_
        refine e_iconst h dX11_figures_9 (pc := 9)  ?_
        refine e_istore4 h dX11_figures_10 (pc := 10) (by decide) rfl ?_
        obtain ⟨hkm, hEq⟩ := hst.elim id (fun z => absurd z.1 (by omega))
        have hX2 := hX.2.1
        have finB : ∀ (F V : Int) (M2 : Mem), (F = 0 ∨ F = 3) → (∀ r, rns b n r q = none) → (∀ p j, (p ≠ 110 ∨ j ≠ 21) → M2 p j = M1 p j) → E κ ad N pT M2 73 [some (vr 110), some (vi (m : Int)), some (vi (k : Int)), some (vi F), some (vi V)] [] (0, 0) (QR κ ad N pT Post) := by
          intro F V M2 hF hno hfr2b
          have hfr2 : (∀ p j, (p ≠ 110 ∨ j ≠ 21) → p ≠ 129 → M2 p j = M p j) := fun p j h1 h2 => (hfr2b p j h1).trans (hfr p j h1 h2)
          refine e_iload_n h dX11_figures_73 (pc := 73) rfl ?_
          refine e_i2l h dX11_figures_74 (pc := 74) (by omega) ?_
          refine e_lconst h dX11_figures_75 (pc := 75) (x := 1) rfl ?_
          refine e_ldc2 h dX11_figures_76 (pc := 76) (x := 2) kl_X11_118 rfl ?_
          refine e_callS3 lk_X11_97 ms_X11_in dX11_figures_79 (pc := 79) (Nat.le_of_ble_eq_true rfl) (rmY := rmX11_in) (by decide) h ?_
          refine c_in (by omega) (by omega) (by omega) (fun hq => absurd hq (by omega)) (fun _ => ?_)
          refine e_if_eq h (tgt := 110) dX11_figures_82 (pc := 82) (by decide) (by omega) (fun hb82 => ?_) (fun hb82 => absurd hb82 (by omega))
          refine e_iconst h dX11_figures_110 (pc := 110)  ?_
          refine e_zret h hr ha dX11_figures_111 (pc := 111) (by decide) ?_
          exact kf M2 (fig_none hEq hno) hfr2
        have finG : ∀ (F V : Int) (M2 : Mem) (vN e : Nat), (1 ≤ F ∧ F ≤ 2) → V = (vN : Int) → M2 110 21 = e → rn b n q = some (vN, e) → (∀ p j, (p ≠ 110 ∨ j ≠ 21) → M2 p j = M1 p j) → E κ ad N pT M2 73 [some (vr 110), some (vi (m : Int)), some (vi (k : Int)), some (vi F), some (vi V)] [] (0, 0) (QR κ ad N pT Post) := by
          intro F V M2 vN e hF hV h21 hrn hfr2b
          have he4 := rn_le hrn
          have hfr2 : (∀ p j, (p ≠ 110 ∨ j ≠ 21) → p ≠ 129 → M2 p j = M p j) := fun p j h1 h2 => (hfr2b p j h1).trans (hfr p j h1 h2)
          refine e_iload_n h dX11_figures_73 (pc := 73) rfl ?_
          refine e_i2l h dX11_figures_74 (pc := 74) (by omega) ?_
          refine e_lconst h dX11_figures_75 (pc := 75) (x := 1) rfl ?_
          refine e_ldc2 h dX11_figures_76 (pc := 76) (x := 2) kl_X11_118 rfl ?_
          refine e_callS3 lk_X11_97 ms_X11_in dX11_figures_79 (pc := 79) (Nat.le_of_ble_eq_true rfl) (rmY := rmX11_in) (by decide) h ?_
          refine c_in (by omega) (by omega) (by omega) (fun _ => ?_) (fun hq => absurd hq (by omega))
          refine e_if_eq h (tgt := 110) dX11_figures_82 (pc := 82) (by decide) (by omega) (fun hb82 => absurd hb82 (by omega)) (fun hb82 => ?_)
          refine e_aload_n h dX11_figures_85 (pc := 85) rfl ?_
          refine e_aload_n h dX11_figures_86 (pc := 86) rfl ?_
          refine e_getI h fl_X11_107 dX11_figures_87 (pc := 87) rfl (Nat.lt_of_lt_of_le (by decide) hN) (by decide) ?_
          refine e_callV1 lk_X11_110 mv_X11_byteAt dX11_figures_90 (pc := 90) rfl (by decide) (Nat.lt_of_lt_of_le (by decide) hN) (Nat.le_of_ble_eq_true rfl) (rmY := rmX11_byteAt) (by decide) h ?_
          have hble := bM_le (k := e) hX
          have hbae := bM_at (b := b) (n := n) (k := e)
          refine m_byteAt (b := b) (n := n) (k := e) (by omega) hN (hX.to (hfr2 110 0 (by omega) (by omega)) (funext fun j => hfr2 111 j (by omega) (by omega))) (by omega) ?_
          refine e_iload_n h dX11_figures_93 (pc := 93) rfl ?_
          refine e_iload_n h dX11_figures_94 (pc := 94) rfl ?_
          refine e_iconst h dX11_figures_95 (pc := 95)  ?_
          refine e_isub h dX11_figures_96 (pc := 96)  ?_
          refine e_icmp_ge h (tgt := 105) dX11_figures_97 (pc := 97) (by decide) (by omega) (by omega) (fun hb97 => ?_) (fun hb97 => ?_)
          · refine e_bipush h dX11_figures_105 (pc := 105) (by decide +kernel) ?_
            refine e_icmp_eq h (tgt := 112) dX11_figures_107 (pc := 107) (by decide) (by omega) (by decide) (fun hb107 => ?_) (fun hb107 => ?_)
            · refine e_aload_n h dX11_figures_112 (pc := 112) rfl ?_
              refine e_getC h fl_X11_64 dX11_figures_113 (pc := 113) rfl (Nat.lt_of_lt_of_le (by decide) hN) rfl rfl (r := 129) rfl ?_
              refine e_iload_n h dX11_figures_116 (pc := 116) rfl ?_
              refine e_iload h dX11_figures_117 (pc := 117) rfl ?_
              refine e_iast h dX11_figures_119 (pc := 119) rfl (Nat.lt_of_lt_of_le (by decide) hN) rfl (by show _ < 5; omega) ?_
              refine e_aload_n h dX11_figures_120 (pc := 120) rfl ?_
              refine e_dup h dX11_figures_121 (pc := 121) rfl ?_
              refine e_getI h fl_X11_107 dX11_figures_122 (pc := 122) rfl (Nat.lt_of_lt_of_le (by decide) hN) (by decide) ?_
              try simp (disch := omega) only [up_eq, up_ne]
              refine e_iconst h dX11_figures_125 (pc := 125)  ?_
              refine e_iadd h dX11_figures_126 (pc := 126)  ?_
              refine e_putI h fl_X11_107 dX11_figures_127 (pc := 127) rfl (Nat.lt_of_lt_of_le (by decide) hN) rfl ?_
              refine e_iinc2 h dX11_figures_130 (pc := 130) (by decide) rfl ?_
              refine e_goto h dX11_figures_133 (pc := 133) (tgt := 2) (by decide) ?_
              rw [show (k : Int) + 1 = ((k + 1 : Nat) : Int) by omega]
              refine e_fgt (ls2 := [some (vr 110), some (vi (m : Int)), some (vi ((k + 1 : Nat) : Int)), none, none]) ⟨Or.inr rfl, Or.inr rfl, Or.inr rfl, Or.inl rfl, Or.inl rfl, trivial⟩ ?_
              refine ih (k + 1) (e + 1) (acc ++ [vN]) _ (by omega) (by omega) (by simp; omega) (by simp (disch := omega) only [up_eq, up_ne]; omega) (rn_sp (b := b) (by omega)) (fun j hj => ?_) (fun p j h1 h2 => by simp (disch := omega) only [up_ne]; exact hfr2 p j h1 h2) (Or.inr ⟨by omega, fig_end hEq hrn (by omega) (by omega)⟩)
              by_cases e1 : j = k
              · subst e1
                simp (disch := omega) only [up_eq, up_ne]
                rw [getD_last hlen]
                exact hV
              · simp (disch := omega) only [up_ne]
                rw [getD_app hlen (by omega)]
                rw [hfr2b 129 j (by omega)]
                exact hacc j (by omega)
            · refine e_iconst h dX11_figures_110 (pc := 110)  ?_
              refine e_zret h hr ha dX11_figures_111 (pc := 111) (by decide) ?_
              exact kf M2 (fig_bad hEq hlen hrn hkm hm5 (Or.inr ⟨by omega, by omega⟩)) hfr2
          · refine e_bipush h dX11_figures_100 (pc := 100) (by decide +kernel) ?_
            refine e_goto h dX11_figures_102 (pc := 102) (tgt := 107) (by decide) ?_
            refine e_icmp_eq h (tgt := 112) dX11_figures_107 (pc := 107) (by decide) (by omega) (by decide) (fun hb107 => ?_) (fun hb107 => ?_)
            · refine e_aload_n h dX11_figures_112 (pc := 112) rfl ?_
              refine e_getC h fl_X11_64 dX11_figures_113 (pc := 113) rfl (Nat.lt_of_lt_of_le (by decide) hN) rfl rfl (r := 129) rfl ?_
              refine e_iload_n h dX11_figures_116 (pc := 116) rfl ?_
              refine e_iload h dX11_figures_117 (pc := 117) rfl ?_
              refine e_iast h dX11_figures_119 (pc := 119) rfl (Nat.lt_of_lt_of_le (by decide) hN) rfl (by show _ < 5; omega) ?_
              refine e_aload_n h dX11_figures_120 (pc := 120) rfl ?_
              refine e_dup h dX11_figures_121 (pc := 121) rfl ?_
              refine e_getI h fl_X11_107 dX11_figures_122 (pc := 122) rfl (Nat.lt_of_lt_of_le (by decide) hN) (by decide) ?_
              try simp (disch := omega) only [up_eq, up_ne]
              refine e_iconst h dX11_figures_125 (pc := 125)  ?_
              refine e_iadd h dX11_figures_126 (pc := 126)  ?_
              refine e_putI h fl_X11_107 dX11_figures_127 (pc := 127) rfl (Nat.lt_of_lt_of_le (by decide) hN) rfl ?_
              refine e_iinc2 h dX11_figures_130 (pc := 130) (by decide) rfl ?_
              refine e_goto h dX11_figures_133 (pc := 133) (tgt := 2) (by decide) ?_
              rw [show (k : Int) + 1 = ((k + 1 : Nat) : Int) by omega]
              refine e_fgt (ls2 := [some (vr 110), some (vi (m : Int)), some (vi ((k + 1 : Nat) : Int)), none, none]) ⟨Or.inr rfl, Or.inr rfl, Or.inr rfl, Or.inl rfl, Or.inl rfl, trivial⟩ ?_
              refine ih (k + 1) (e + 1) (acc ++ [vN]) _ (by omega) (by omega) (by simp; omega) (by simp (disch := omega) only [up_eq, up_ne]; omega) (rn_sp (b := b) (by omega)) (fun j hj => ?_) (fun p j h1 h2 => by simp (disch := omega) only [up_ne]; exact hfr2 p j h1 h2) (Or.inl ⟨by omega, fig_more hEq hrn (by omega) (by omega)⟩)
              by_cases e1 : j = k
              · subst e1
                simp (disch := omega) only [up_eq, up_ne]
                rw [getD_last hlen]
                exact hV
              · simp (disch := omega) only [up_ne]
                rw [getD_app hlen (by omega)]
                rw [hfr2b 129 j (by omega)]
                exact hacc j (by omega)
            · refine e_iconst h dX11_figures_110 (pc := 110)  ?_
              refine e_zret h hr ha dX11_figures_111 (pc := 111) (by decide) ?_
              exact kf M2 (fig_bad hEq hlen hrn hkm hm5 (Or.inl ⟨by omega, by omega⟩)) hfr2
        refine e_aload_n h dX11_figures_12 (pc := 12) rfl ?_
        refine e_aload_n h dX11_figures_13 (pc := 13) rfl ?_
        refine e_getI h fl_X11_107 dX11_figures_14 (pc := 14) rfl (Nat.lt_of_lt_of_le (by decide) hN) (by decide) ?_
        try simp (disch := omega) only [up_eq, up_ne]
        refine e_callV1 lk_X11_110 mv_X11_byteAt dX11_figures_17 (pc := 17) rfl (by decide) (Nat.lt_of_lt_of_le (by decide) hN) (Nat.le_of_ble_eq_true rfl) (rmY := rmX11_byteAt) (by decide) h ?_
        have hblq := bM_le (k := q) hX
        have hbaq := bM_at (b := b) (n := n) (k := q)
        refine m_byteAt (b := b) (n := n) (k := q) (by omega) hN (hX.to (by first | exact hfr 110 0 (by omega) (by omega) | (simp (disch := omega) only [up_ne]; exact hfr 110 0 (by omega) (by omega))) (funext fun j => by first | exact hfr 111 j (by omega) (by omega) | (simp (disch := omega) only [up_ne]; exact hfr 111 j (by omega) (by omega)))) (by omega) ?_
        refine e_i2l h dX11_figures_20 (pc := 20) (by omega) ?_
        refine e_ldc2 h dX11_figures_21 (pc := 21) (x := 48) kl_X11_114 rfl ?_
        refine e_ldc2 h dX11_figures_24 (pc := 24) (x := 57) kl_X11_116 rfl ?_
        refine e_callS3 lk_X11_97 ms_X11_in dX11_figures_27 (pc := 27) (Nat.le_of_ble_eq_true rfl) (rmY := rmX11_in) (by decide) h ?_
        refine c_in (by omega) (by omega) (by omega) (fun hd0 => ?_) (fun hd0 => ?_)
        · skip
          refine e_if_eq h (tgt := 73) dX11_figures_30 (pc := 30) (by decide) (by decide) (fun hz => absurd hz (by decide)) (fun _ => ?_)
          refine e_iload_n h dX11_figures_33 (pc := 33) rfl ?_
          refine e_iconst h dX11_figures_34 (pc := 34)  ?_
          refine e_icmp_ge h (tgt := 73) dX11_figures_35 (pc := 35) (by decide) (by decide) (by decide) (fun hz => absurd hz (by decide)) (fun _ => ?_)
          refine e_bipush h dX11_figures_38 (pc := 38) (by decide +kernel) ?_
          refine e_iload h dX11_figures_40 (pc := 40) rfl ?_
          refine e_imul h dX11_figures_42 (pc := 42)  ?_
          refine e_aload_n h dX11_figures_43 (pc := 43) rfl ?_
          refine e_aload_n h dX11_figures_44 (pc := 44) rfl ?_
          refine e_getI h fl_X11_107 dX11_figures_45 (pc := 45) rfl (Nat.lt_of_lt_of_le (by decide) hN) (by decide) ?_
          try simp (disch := omega) only [up_eq, up_ne]
          refine e_callV1 lk_X11_110 mv_X11_byteAt dX11_figures_48 (pc := 48) rfl (by decide) (Nat.lt_of_lt_of_le (by decide) hN) (Nat.le_of_ble_eq_true rfl) (rmY := rmX11_byteAt) (by decide) h ?_
          refine m_byteAt (b := b) (n := n) (k := q) (by omega) hN (hX.to (by first | exact hfr 110 0 (by omega) (by omega) | (simp (disch := omega) only [up_ne]; exact hfr 110 0 (by omega) (by omega))) (funext fun j => by first | exact hfr 111 j (by omega) (by omega) | (simp (disch := omega) only [up_ne]; exact hfr 111 j (by omega) (by omega)))) (by omega) ?_
          refine e_iadd h dX11_figures_51 (pc := 51)  ?_
          refine e_bipush h dX11_figures_52 (pc := 52) (by decide +kernel) ?_
          refine e_isub h dX11_figures_54 (pc := 54)  ?_
          refine e_istore4 h dX11_figures_55 (pc := 55) (by decide) rfl ?_
          refine e_iinc3 h dX11_figures_57 (pc := 57) (by decide) rfl ?_
          refine e_aload_n h dX11_figures_60 (pc := 60) rfl ?_
          refine e_dup h dX11_figures_61 (pc := 61) rfl ?_
          refine e_getI h fl_X11_107 dX11_figures_62 (pc := 62) rfl (Nat.lt_of_lt_of_le (by decide) hN) (by decide) ?_
          try simp (disch := omega) only [up_eq, up_ne]
          refine e_iconst h dX11_figures_65 (pc := 65)  ?_
          refine e_iadd h dX11_figures_66 (pc := 66)  ?_
          refine e_putI h fl_X11_107 dX11_figures_67 (pc := 67) rfl (Nat.lt_of_lt_of_le (by decide) hN) rfl ?_
          refine e_goto h dX11_figures_70 (pc := 70) (tgt := 12) (by decide) ?_
          refine e_aload_n h dX11_figures_12 (pc := 12) rfl ?_
          refine e_aload_n h dX11_figures_13 (pc := 13) rfl ?_
          refine e_getI h fl_X11_107 dX11_figures_14 (pc := 14) rfl (Nat.lt_of_lt_of_le (by decide) hN) (by decide) ?_
          try simp (disch := omega) only [up_eq, up_ne]
          refine e_callV1 lk_X11_110 mv_X11_byteAt dX11_figures_17 (pc := 17) rfl (by decide) (Nat.lt_of_lt_of_le (by decide) hN) (Nat.le_of_ble_eq_true rfl) (rmY := rmX11_byteAt) (by decide) h ?_
          have hblq_1 := bM_le (k := (q + 1)) hX
          have hbaq_1 := bM_at (b := b) (n := n) (k := (q + 1))
          refine m_byteAt (b := b) (n := n) (k := (q + 1)) (by omega) hN (hX.to (by first | exact hfr 110 0 (by omega) (by omega) | (simp (disch := omega) only [up_ne]; exact hfr 110 0 (by omega) (by omega))) (funext fun j => by first | exact hfr 111 j (by omega) (by omega) | (simp (disch := omega) only [up_ne]; exact hfr 111 j (by omega) (by omega)))) (by omega) ?_
          refine e_i2l h dX11_figures_20 (pc := 20) (by omega) ?_
          refine e_ldc2 h dX11_figures_21 (pc := 21) (x := 48) kl_X11_114 rfl ?_
          refine e_ldc2 h dX11_figures_24 (pc := 24) (x := 57) kl_X11_116 rfl ?_
          refine e_callS3 lk_X11_97 ms_X11_in dX11_figures_27 (pc := 27) (Nat.le_of_ble_eq_true rfl) (rmY := rmX11_in) (by decide) h ?_
          refine c_in (by omega) (by omega) (by omega) (fun hd1 => ?_) (fun hd1 => ?_)
          · skip
            refine e_if_eq h (tgt := 73) dX11_figures_30 (pc := 30) (by decide) (by decide) (fun hz => absurd hz (by decide)) (fun _ => ?_)
            refine e_iload_n h dX11_figures_33 (pc := 33) rfl ?_
            refine e_iconst h dX11_figures_34 (pc := 34)  ?_
            refine e_icmp_ge h (tgt := 73) dX11_figures_35 (pc := 35) (by decide) (by omega) (by decide) (fun hb35 => absurd hb35 (by omega)) (fun hb35 => ?_)
            refine e_bipush h dX11_figures_38 (pc := 38) (by decide +kernel) ?_
            refine e_iload h dX11_figures_40 (pc := 40) rfl ?_
            refine e_imul h dX11_figures_42 (pc := 42)  ?_
            refine e_aload_n h dX11_figures_43 (pc := 43) rfl ?_
            refine e_aload_n h dX11_figures_44 (pc := 44) rfl ?_
            refine e_getI h fl_X11_107 dX11_figures_45 (pc := 45) rfl (Nat.lt_of_lt_of_le (by decide) hN) (by decide) ?_
            try simp (disch := omega) only [up_eq, up_ne]
            refine e_callV1 lk_X11_110 mv_X11_byteAt dX11_figures_48 (pc := 48) rfl (by decide) (Nat.lt_of_lt_of_le (by decide) hN) (Nat.le_of_ble_eq_true rfl) (rmY := rmX11_byteAt) (by decide) h ?_
            refine m_byteAt (b := b) (n := n) (k := (q + 1)) (by omega) hN (hX.to (by first | exact hfr 110 0 (by omega) (by omega) | (simp (disch := omega) only [up_ne]; exact hfr 110 0 (by omega) (by omega))) (funext fun j => by first | exact hfr 111 j (by omega) (by omega) | (simp (disch := omega) only [up_ne]; exact hfr 111 j (by omega) (by omega)))) (by omega) ?_
            refine e_iadd h dX11_figures_51 (pc := 51)  ?_
            refine e_bipush h dX11_figures_52 (pc := 52) (by decide +kernel) ?_
            refine e_isub h dX11_figures_54 (pc := 54)  ?_
            refine e_istore4 h dX11_figures_55 (pc := 55) (by decide) rfl ?_
            refine e_iinc3 h dX11_figures_57 (pc := 57) (by decide) rfl ?_
            refine e_aload_n h dX11_figures_60 (pc := 60) rfl ?_
            refine e_dup h dX11_figures_61 (pc := 61) rfl ?_
            refine e_getI h fl_X11_107 dX11_figures_62 (pc := 62) rfl (Nat.lt_of_lt_of_le (by decide) hN) (by decide) ?_
            try simp (disch := omega) only [up_eq, up_ne]
            refine e_iconst h dX11_figures_65 (pc := 65)  ?_
            refine e_iadd h dX11_figures_66 (pc := 66)  ?_
            refine e_putI h fl_X11_107 dX11_figures_67 (pc := 67) rfl (Nat.lt_of_lt_of_le (by decide) hN) rfl ?_
            refine e_goto h dX11_figures_70 (pc := 70) (tgt := 12) (by decide) ?_
            refine e_aload_n h dX11_figures_12 (pc := 12) rfl ?_
            refine e_aload_n h dX11_figures_13 (pc := 13) rfl ?_
            refine e_getI h fl_X11_107 dX11_figures_14 (pc := 14) rfl (Nat.lt_of_lt_of_le (by decide) hN) (by decide) ?_
            try simp (disch := omega) only [up_eq, up_ne]
            refine e_callV1 lk_X11_110 mv_X11_byteAt dX11_figures_17 (pc := 17) rfl (by decide) (Nat.lt_of_lt_of_le (by decide) hN) (Nat.le_of_ble_eq_true rfl) (rmY := rmX11_byteAt) (by decide) h ?_
            have hblq_2 := bM_le (k := (q + 2)) hX
            have hbaq_2 := bM_at (b := b) (n := n) (k := (q + 2))
            refine m_byteAt (b := b) (n := n) (k := (q + 2)) (by omega) hN (hX.to (by first | exact hfr 110 0 (by omega) (by omega) | (simp (disch := omega) only [up_ne]; exact hfr 110 0 (by omega) (by omega))) (funext fun j => by first | exact hfr 111 j (by omega) (by omega) | (simp (disch := omega) only [up_ne]; exact hfr 111 j (by omega) (by omega)))) (by omega) ?_
            refine e_i2l h dX11_figures_20 (pc := 20) (by omega) ?_
            refine e_ldc2 h dX11_figures_21 (pc := 21) (x := 48) kl_X11_114 rfl ?_
            refine e_ldc2 h dX11_figures_24 (pc := 24) (x := 57) kl_X11_116 rfl ?_
            refine e_callS3 lk_X11_97 ms_X11_in dX11_figures_27 (pc := 27) (Nat.le_of_ble_eq_true rfl) (rmY := rmX11_in) (by decide) h ?_
            refine c_in (by omega) (by omega) (by omega) (fun hd2 => ?_) (fun hd2 => ?_)
            · skip
              refine e_if_eq h (tgt := 73) dX11_figures_30 (pc := 30) (by decide) (by decide) (fun hz => absurd hz (by decide)) (fun _ => ?_)
              refine e_iload_n h dX11_figures_33 (pc := 33) rfl ?_
              refine e_iconst h dX11_figures_34 (pc := 34)  ?_
              refine e_icmp_ge h (tgt := 73) dX11_figures_35 (pc := 35) (by decide) (by omega) (by decide) (fun hb35 => absurd hb35 (by omega)) (fun hb35 => ?_)
              refine e_bipush h dX11_figures_38 (pc := 38) (by decide +kernel) ?_
              refine e_iload h dX11_figures_40 (pc := 40) rfl ?_
              refine e_imul h dX11_figures_42 (pc := 42)  ?_
              refine e_aload_n h dX11_figures_43 (pc := 43) rfl ?_
              refine e_aload_n h dX11_figures_44 (pc := 44) rfl ?_
              refine e_getI h fl_X11_107 dX11_figures_45 (pc := 45) rfl (Nat.lt_of_lt_of_le (by decide) hN) (by decide) ?_
              try simp (disch := omega) only [up_eq, up_ne]
              refine e_callV1 lk_X11_110 mv_X11_byteAt dX11_figures_48 (pc := 48) rfl (by decide) (Nat.lt_of_lt_of_le (by decide) hN) (Nat.le_of_ble_eq_true rfl) (rmY := rmX11_byteAt) (by decide) h ?_
              refine m_byteAt (b := b) (n := n) (k := (q + 2)) (by omega) hN (hX.to (by first | exact hfr 110 0 (by omega) (by omega) | (simp (disch := omega) only [up_ne]; exact hfr 110 0 (by omega) (by omega))) (funext fun j => by first | exact hfr 111 j (by omega) (by omega) | (simp (disch := omega) only [up_ne]; exact hfr 111 j (by omega) (by omega)))) (by omega) ?_
              refine e_iadd h dX11_figures_51 (pc := 51)  ?_
              refine e_bipush h dX11_figures_52 (pc := 52) (by decide +kernel) ?_
              refine e_isub h dX11_figures_54 (pc := 54)  ?_
              refine e_istore4 h dX11_figures_55 (pc := 55) (by decide) rfl ?_
              refine e_iinc3 h dX11_figures_57 (pc := 57) (by decide) rfl ?_
              refine e_aload_n h dX11_figures_60 (pc := 60) rfl ?_
              refine e_dup h dX11_figures_61 (pc := 61) rfl ?_
              refine e_getI h fl_X11_107 dX11_figures_62 (pc := 62) rfl (Nat.lt_of_lt_of_le (by decide) hN) (by decide) ?_
              try simp (disch := omega) only [up_eq, up_ne]
              refine e_iconst h dX11_figures_65 (pc := 65)  ?_
              refine e_iadd h dX11_figures_66 (pc := 66)  ?_
              refine e_putI h fl_X11_107 dX11_figures_67 (pc := 67) rfl (Nat.lt_of_lt_of_le (by decide) hN) rfl ?_
              refine e_goto h dX11_figures_70 (pc := 70) (tgt := 12) (by decide) ?_
              refine e_aload_n h dX11_figures_12 (pc := 12) rfl ?_
              refine e_aload_n h dX11_figures_13 (pc := 13) rfl ?_
              refine e_getI h fl_X11_107 dX11_figures_14 (pc := 14) rfl (Nat.lt_of_lt_of_le (by decide) hN) (by decide) ?_
              try simp (disch := omega) only [up_eq, up_ne]
              refine e_callV1 lk_X11_110 mv_X11_byteAt dX11_figures_17 (pc := 17) rfl (by decide) (Nat.lt_of_lt_of_le (by decide) hN) (Nat.le_of_ble_eq_true rfl) (rmY := rmX11_byteAt) (by decide) h ?_
              have hblq_3 := bM_le (k := (q + 3)) hX
              have hbaq_3 := bM_at (b := b) (n := n) (k := (q + 3))
              refine m_byteAt (b := b) (n := n) (k := (q + 3)) (by omega) hN (hX.to (by first | exact hfr 110 0 (by omega) (by omega) | (simp (disch := omega) only [up_ne]; exact hfr 110 0 (by omega) (by omega))) (funext fun j => by first | exact hfr 111 j (by omega) (by omega) | (simp (disch := omega) only [up_ne]; exact hfr 111 j (by omega) (by omega)))) (by omega) ?_
              refine e_i2l h dX11_figures_20 (pc := 20) (by omega) ?_
              refine e_ldc2 h dX11_figures_21 (pc := 21) (x := 48) kl_X11_114 rfl ?_
              refine e_ldc2 h dX11_figures_24 (pc := 24) (x := 57) kl_X11_116 rfl ?_
              refine e_callS3 lk_X11_97 ms_X11_in dX11_figures_27 (pc := 27) (Nat.le_of_ble_eq_true rfl) (rmY := rmX11_in) (by decide) h ?_
              refine c_in (by omega) (by omega) (by omega) (fun hd3 => ?_) (fun hd3 => ?_)
              · skip
                refine e_if_eq h (tgt := 73) dX11_figures_30 (pc := 30) (by decide) (by decide) (fun hz => absurd hz (by decide)) (fun _ => ?_)
                refine e_iload_n h dX11_figures_33 (pc := 33) rfl ?_
                refine e_iconst h dX11_figures_34 (pc := 34)  ?_
                refine e_icmp_ge h (tgt := 73) dX11_figures_35 (pc := 35) (by decide) (by omega) (by decide) (fun hb35 => ?_) (fun hb35 => absurd hb35 (by omega))
                exact finB _ _ _ (Or.inr (by omega)) (rn_3 (by omega) (by omega) (by omega)) (fun p j h1 => by first | rfl | simp (disch := omega) only [up_ne])
              · skip
                refine e_if_eq h (tgt := 73) dX11_figures_30 (pc := 30) (by decide) (by decide) (fun _ => ?_) (fun hz => absurd hz (by decide))
                exact finB _ _ _ (Or.inr (by omega)) (rn_3 (by omega) (by omega) (by omega)) (fun p j h1 => by first | rfl | simp (disch := omega) only [up_ne])
            · skip
              refine e_if_eq h (tgt := 73) dX11_figures_30 (pc := 30) (by decide) (by decide) (fun _ => ?_) (fun hz => absurd hz (by decide))
              exact finG _ _ _ (10 * (atB b n q - 48) + (atB b n (q + 1) - 48)).toNat (q + 2) (by omega) (by omega) (by simp (disch := omega) only [up_eq, up_ne]; omega) (rn_2 (by omega) (by omega)) (fun p j h1 => by first | rfl | simp (disch := omega) only [up_ne])
          · skip
            refine e_if_eq h (tgt := 73) dX11_figures_30 (pc := 30) (by decide) (by decide) (fun _ => ?_) (fun hz => absurd hz (by decide))
            exact finG _ _ _ (atB b n q - 48).toNat (q + 1) (by omega) (by omega) (by simp (disch := omega) only [up_eq, up_ne]; omega) (rn_1 (by omega) (by omega)) (fun p j h1 => by first | rfl | simp (disch := omega) only [up_ne])
        · skip
          refine e_if_eq h (tgt := 73) dX11_figures_30 (pc := 30) (by decide) (by decide) (fun _ => ?_) (fun hz => absurd hz (by decide))
          exact finB _ _ _ (Or.inl rfl) (rn_no (by omega)) (fun p j h1 => by first | rfl | simp (disch := omega) only [up_ne])
  refine e_iconst h dX11_figures_0 (pc := 0)  ?_
  refine e_istore2 h dX11_figures_1 (pc := 1) (by decide) rfl ?_
  exact loop (m + 1) 0 q0 [] M (by omega) (by omega) rfl hq hq2 (fun j hj => absurd hj (by omega)) (fun _ _ _ _ => rfl) (Or.inl ⟨by omega, by cases rns b n 5 q0 <;> rfl⟩)
set_option maxRecDepth 100000 in
set_option maxHeartbeats 4000000 in
theorem m_isTownItem {gg : GT} {ad : Nat → Nat} {N : Nat} {M : Mem} {Post : Option AV → Mem → Prop} {T : Nat} {l : List Nat}   (hN : 139 ≤ N) (hT : M 115 1 = T) (hT6 : T ≤ 6) (hl : ∀ j, j < 5 → M 129 j = ((l.getD j 0 : Nat) : Int)) (h99 : ∀ j, l.getD j 0 ≤ 99) (kt : (T < 6 ∧ l.getD 0 0 < 6 ∧ l.getD 1 0 < 24 ∧ l.getD 2 0 ≤ 60 ∧ (1 ≤ l.getD 3 0 ∧ l.getD 3 0 ≤ 9) ∧ l.getD 4 0 < 4) → Post (some (vi 1)) M) (kf : ¬ (T < 6 ∧ l.getD 0 0 < 6 ∧ l.getD 1 0 < 24 ∧ l.getD 2 0 ≤ 60 ∧ (1 ≤ l.getD 3 0 ∧ l.getD 3 0 ≤ 9) ∧ l.getD 4 0 < 4) → Post (some (vi 0)) M) : Sp gg yX11_isTownItem cX11_isTownItem 1 (some .boolean) rmX11_isTownItem [vr 110] ad N pT M Post := by
  refine Sp.intro (ls := [some (vr 110)]) (by decide +kernel) rfl (Nat.le_of_ble_eq_true rfl) fun κ hgg h hr ha => ?_
  have h : Ok κ RX11 cX11_isTownItem 1 rmX11_isTownItem := h
  subst hgg
  have n0 := hl 0 (by omega)
  have m0 := h99 0
  have n1 := hl 1 (by omega)
  have m1 := h99 1
  have n2 := hl 2 (by omega)
  have m2 := h99 2
  have n3 := hl 3 (by omega)
  have m3 := h99 3
  have n4 := hl 4 (by omega)
  have m4 := h99 4
  refine e_aload_n h dX11_isTownItem_0 (pc := 0) rfl ?_
  refine e_getC h fl_X11_22 dX11_isTownItem_1 (pc := 1) rfl (Nat.lt_of_lt_of_le (by decide) hN) rfl rfl (r := 115) rfl ?_
  refine e_iconst h dX11_isTownItem_4 (pc := 4)  ?_
  refine e_iald h dX11_isTownItem_5 (pc := 5) rfl (Nat.lt_of_lt_of_le (by decide) hN) (j := 1) rfl (by decide) ?_
  refine e_bipush h dX11_isTownItem_6 (pc := 6) (by decide +kernel) ?_
  refine e_icmp_ge h (tgt := 75) dX11_isTownItem_8 (pc := 8) (by decide) (by omega) (by decide) (fun hb8 => ?_) (fun hb8 => ?_)
  · refine e_iconst h dX11_isTownItem_75 (pc := 75)  ?_
    refine e_zret h hr ha dX11_isTownItem_76 (pc := 76) (by decide) ?_
    first | exact kt (by omega) | exact kf (by omega)
  · refine e_aload_n h dX11_isTownItem_11 (pc := 11) rfl ?_
    refine e_getC h fl_X11_64 dX11_isTownItem_12 (pc := 12) rfl (Nat.lt_of_lt_of_le (by decide) hN) rfl rfl (r := 129) rfl ?_
    refine e_iconst h dX11_isTownItem_15 (pc := 15)  ?_
    refine e_iald h dX11_isTownItem_16 (pc := 16) rfl (Nat.lt_of_lt_of_le (by decide) hN) (j := 0) rfl (by decide) ?_
    refine e_bipush h dX11_isTownItem_17 (pc := 17) (by decide +kernel) ?_
    refine e_icmp_ge h (tgt := 75) dX11_isTownItem_19 (pc := 19) (by decide) (by omega) (by decide) (fun hb19 => ?_) (fun hb19 => ?_)
    · refine e_iconst h dX11_isTownItem_75 (pc := 75)  ?_
      refine e_zret h hr ha dX11_isTownItem_76 (pc := 76) (by decide) ?_
      first | exact kt (by omega) | exact kf (by omega)
    · refine e_aload_n h dX11_isTownItem_22 (pc := 22) rfl ?_
      refine e_getC h fl_X11_64 dX11_isTownItem_23 (pc := 23) rfl (Nat.lt_of_lt_of_le (by decide) hN) rfl rfl (r := 129) rfl ?_
      refine e_iconst h dX11_isTownItem_26 (pc := 26)  ?_
      refine e_iald h dX11_isTownItem_27 (pc := 27) rfl (Nat.lt_of_lt_of_le (by decide) hN) (j := 1) rfl (by decide) ?_
      refine e_bipush h dX11_isTownItem_28 (pc := 28) (by decide +kernel) ?_
      refine e_icmp_ge h (tgt := 75) dX11_isTownItem_30 (pc := 30) (by decide) (by omega) (by decide) (fun hb30 => ?_) (fun hb30 => ?_)
      · refine e_iconst h dX11_isTownItem_75 (pc := 75)  ?_
        refine e_zret h hr ha dX11_isTownItem_76 (pc := 76) (by decide) ?_
        first | exact kt (by omega) | exact kf (by omega)
      · refine e_aload_n h dX11_isTownItem_33 (pc := 33) rfl ?_
        refine e_getC h fl_X11_64 dX11_isTownItem_34 (pc := 34) rfl (Nat.lt_of_lt_of_le (by decide) hN) rfl rfl (r := 129) rfl ?_
        refine e_iconst h dX11_isTownItem_37 (pc := 37)  ?_
        refine e_iald h dX11_isTownItem_38 (pc := 38) rfl (Nat.lt_of_lt_of_le (by decide) hN) (j := 2) rfl (by decide) ?_
        refine e_bipush h dX11_isTownItem_39 (pc := 39) (by decide +kernel) ?_
        refine e_icmp_gt h (tgt := 75) dX11_isTownItem_41 (pc := 41) (by decide) (by omega) (by decide) (fun hb41 => ?_) (fun hb41 => ?_)
        · refine e_iconst h dX11_isTownItem_75 (pc := 75)  ?_
          refine e_zret h hr ha dX11_isTownItem_76 (pc := 76) (by decide) ?_
          first | exact kt (by omega) | exact kf (by omega)
        · refine e_aload_n h dX11_isTownItem_44 (pc := 44) rfl ?_
          refine e_getC h fl_X11_64 dX11_isTownItem_45 (pc := 45) rfl (Nat.lt_of_lt_of_le (by decide) hN) rfl rfl (r := 129) rfl ?_
          refine e_iconst h dX11_isTownItem_48 (pc := 48)  ?_
          refine e_iald h dX11_isTownItem_49 (pc := 49) rfl (Nat.lt_of_lt_of_le (by decide) hN) (j := 3) rfl (by decide) ?_
          refine e_i2l h dX11_isTownItem_50 (pc := 50) (by omega) ?_
          refine e_lconst h dX11_isTownItem_51 (pc := 51) (x := 1) rfl ?_
          refine e_ldc2 h dX11_isTownItem_52 (pc := 52) (x := 9) kl_X11_120 rfl ?_
          refine e_callS3 lk_X11_97 ms_X11_in dX11_isTownItem_55 (pc := 55) (Nat.le_of_ble_eq_true rfl) (rmY := rmX11_in) (by decide) h ?_
          refine c_in (by omega) (by omega) (by omega) (fun hq => ?_) (fun hq => ?_)
          · skip
            refine e_if_eq h (tgt := 75) dX11_isTownItem_58 (pc := 58) (by decide) (by decide) (fun hz => absurd hz (by decide)) (fun _ => ?_)
            refine e_aload_n h dX11_isTownItem_61 (pc := 61) rfl ?_
            refine e_getC h fl_X11_64 dX11_isTownItem_62 (pc := 62) rfl (Nat.lt_of_lt_of_le (by decide) hN) rfl rfl (r := 129) rfl ?_
            refine e_iconst h dX11_isTownItem_65 (pc := 65)  ?_
            refine e_iald h dX11_isTownItem_66 (pc := 66) rfl (Nat.lt_of_lt_of_le (by decide) hN) (j := 4) rfl (by decide) ?_
            refine e_iconst h dX11_isTownItem_67 (pc := 67)  ?_
            refine e_icmp_ge h (tgt := 75) dX11_isTownItem_68 (pc := 68) (by decide) (by omega) (by decide) (fun hb68 => ?_) (fun hb68 => ?_)
            · refine e_iconst h dX11_isTownItem_75 (pc := 75)  ?_
              refine e_zret h hr ha dX11_isTownItem_76 (pc := 76) (by decide) ?_
              first | exact kt (by omega) | exact kf (by omega)
            · refine e_iconst h dX11_isTownItem_71 (pc := 71)  ?_
              refine e_goto h dX11_isTownItem_72 (pc := 72) (tgt := 76) (by decide) ?_
              refine e_zret h hr ha dX11_isTownItem_76 (pc := 76) (by decide) ?_
              first | exact kt (by omega) | exact kf (by omega)
          · skip
            refine e_if_eq h (tgt := 75) dX11_isTownItem_58 (pc := 58) (by decide) (by decide) (fun _ => ?_) (fun hz => absurd hz (by decide))
            refine e_iconst h dX11_isTownItem_75 (pc := 75)  ?_
            refine e_zret h hr ha dX11_isTownItem_76 (pc := 76) (by decide) ?_
            first | exact kt (by omega) | exact kf (by omega)
