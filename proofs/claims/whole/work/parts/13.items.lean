theorem rn_le {b : TB} {n p v e : Nat} (h : rn b n p = some (v, e)) : e ≤ n := by
  have key : ∀ k, dg b n k = true → k < n := fun k hk => by
    have := of_decide_eq_true hk
    by_cases q : k < n
    · exact q
    · rw [atB_out q] at this; omega
  unfold rn at h
  split at h
  · rename_i h1
    have g1 := key _ h1
    split at h
    · rename_i h2
      have g2 := key _ h2
      cases h
      omega
    · cases h
      omega
  · cases h
theorem rns_none {b : TB} {n r p : Nat} (h : rn b n p = none) : rns b n r p = none := by
  cases r with
  | zero => rfl
  | succ r => unfold rns; rw [h]
theorem rns_end {b : TB} {n r p v q : Nat} (h : rn b n p = some (v, q)) (h2 : atB b n q = 59) : rns b n (r + 1) p = some ([v], q + 1) := by
  unfold rns
  rw [h]
  show (if _ then _ else _) = _
  rw [if_pos h2]
theorem rns_bad {b : TB} {n r p v q : Nat} (h : rn b n p = some (v, q)) (h2 : atB b n q ≠ 59) (h3 : atB b n q ≠ 44) : rns b n (r + 1) p = none := by
  unfold rns
  rw [h]
  show (if _ then _ else _) = _
  rw [if_neg h2, if_neg h3]
theorem rns_sep {b : TB} {n r p v q : Nat} (h : rn b n p = some (v, q)) (h2 : atB b n q = 44) : rns b n (r + 1) p = (rns b n r (q + 1)).map (fun x => (v :: x.1, x.2)) := by
  conv => lhs; unfold rns
  rw [h]
  show (if _ then _ else _) = _
  rw [if_neg (by omega), if_pos h2]
  cases rns b n r (q + 1) <;> rfl
theorem rns_le {b : TB} {n : Nat} : ∀ (r p : Nat) (l : List Nat) (e : Nat), rns b n r p = some (l, e) → (∀ j, l.getD j 0 ≤ 99) ∧ 1 ≤ l.length ∧ l.length ≤ r ∧ p < e ∧ e ≤ n
  | 0, p, l, e, h => by cases h
  | r + 1, p, l, e, h => by
    cases hn : rn b n p with
    | none => rw [rns_none hn] at h; cases h
    | some x =>
      obtain ⟨v, q⟩ := x
      have hv := rn_lt hn
      have hq : ∀ k, atB b n q = k → 0 ≤ k → q < n := fun k hk h0 => by
        by_cases z : q < n
        · exact z
        · rw [atB_out z] at hk; omega
      by_cases h59 : atB b n q = 59
      · rw [rns_end hn h59] at h
        cases h
        refine ⟨fun j => ?_, by simp, by simp, by omega, hq _ h59 (by decide)⟩
        cases j with
        | zero => exact hv.2
        | succ j => simp
      · by_cases h44 : atB b n q = 44
        · rw [rns_sep hn h44] at h
          cases hr : rns b n r (q + 1) with
          | none => rw [hr] at h; cases h
          | some x =>
            obtain ⟨l2, e2⟩ := x
            rw [hr] at h
            cases h
            obtain ⟨i1, i2, i3, i4, i5⟩ := rns_le r (q + 1) l2 e2 hr
            refine ⟨fun j => ?_, by simp, by simp; omega, by omega, i5⟩
            cases j with
            | zero => exact hv.2
            | succ j => exact i1 j
        · rw [rns_bad hn h59 h44] at h
          cases h
set_option maxRecDepth 100000 in
set_option maxHeartbeats 4000000 in
theorem c_readNumbers {gg : GT} {ad : Nat → Nat} {N : Nat} {M : Mem} {Post : Option AV → Mem → Prop} {b : TB} {n q0 : Nat}   (hN : 110 ≤ N) (hX : TX b n M) (hq : M 3 2 = q0) (hq2 : q0 ≤ n) (kt : ∀ (M2 : Mem) (l : List Nat) (e : Nat), rns b n 5 q0 = some (l, e) → M2 3 1 = (l.length : Int) → M2 3 2 = e → (∀ j, j < l.length → M2 4 j = ((l.getD j 0 : Nat) : Int)) → (∀ a j, a ≠ 3 ∧ a ≠ 4 → M2 a j = M a j) → Post (some (vi 1)) M2) (kf : ∀ M2 : Mem, rns b n 5 q0 = none → (∀ a j, a ≠ 3 ∧ a ≠ 4 → M2 a j = M a j) → Post (some (vi 0)) M2) : Sp gg yX6_readNumbers cX6_readNumbers 4 (some .boolean) rmX6_readNumbers [vr 3, vr 1] ad N pT M Post := by
  refine Sp.intro (ls := [some (vr 3), some (vr 1), none, none]) (by decide +kernel) rfl (Nat.le_of_ble_eq_true rfl) fun κ hgg h hr ha => ?_
  have h : Ok κ RX6 cX6_readNumbers 4 rmX6_readNumbers := h
  subst hgg
  have loop : ∀ (n1 k q : Nat) (acc : List Nat) (M1 : Mem), k ≤ 5 → 5 < k + n1 → acc.length = k → M1 3 1 = k → M1 3 2 = q → q ≤ n → (∀ j, j < acc.length → M1 4 j = ((acc.getD j 0 : Nat) : Int)) → (∀ a j, a ≠ 3 ∧ a ≠ 4 → M1 a j = M a j) → rns b n 5 q0 = (rns b n (5 - k) q).map (fun x => (acc ++ x.1, x.2)) → E κ ad N pT M1 7 [some (vr 3), some (vr 1), some (vi (k : Int)), none] [] (0, 0) (QR κ ad N pT Post) := by
    intro n1
    induction n1 with
    | zero => intro k q acc M1 h1 h2; exact absurd h2 (by omega)
    | succ n1 ih =>
      intro k q acc M1 hk hn1 hlen h31 h32 hqn hacc hfr hEq
      have hX2 := hX.2.1
      refine e_iload_n h dX6_readNumbers_7 (pc := 7) rfl ?_
      refine e_iconst h dX6_readNumbers_8 (pc := 8)  ?_
      refine e_icmp_ge h (tgt := 63) dX6_readNumbers_9 (pc := 9) (by decide) (by omega) (by decide) (fun hb9 => ?_) (fun hb9 => ?_)
      · refine e_iconst h dX6_readNumbers_63 (pc := 63)  ?_
        refine e_zret h hr ha dX6_readNumbers_64 (pc := 64) (by decide) ?_
        have hk5 : k = 5 := by omega
        subst hk5
        exact kf M1 (by rw [hEq]; rfl) hfr
      · obtain ⟨r0, hr0⟩ : ∃ r0, 5 - k = r0 + 1 := ⟨4 - k, by omega⟩
        refine e_aload_n h dX6_readNumbers_12 (pc := 12) rfl ?_
        refine e_aload_n h dX6_readNumbers_13 (pc := 13) rfl ?_
        refine e_callV1 lk_X6_44 mv_X6_readNumber dX6_readNumbers_14 (pc := 14) rfl (by decide) (Nat.lt_of_lt_of_le (by decide) hN) (Nat.le_of_ble_eq_true rfl) (rmY := rmX6_readNumber) (by decide) h ?_
        refine c_readNumber (b := b) (n := n) (q := q) (fo := k) hN (hX.to (funext fun j => hfr 1 j (by decide)) (funext fun j => hfr 2 j (by decide))) h32 (by omega) h31 (by omega) (fun M2 v e er0 e32 e31 e4 ef e5 => ?_) (fun M2 er0 ef => ?_)
        · have hle := rn_le er0
          have hat := hX.at e
          refine e_if_ne h (tgt := 22) dX6_readNumbers_17 (pc := 17) (by decide) (by decide) (fun _ => ?_) (fun hz => absurd hz (by decide))
          refine e_aload_n h dX6_readNumbers_22 (pc := 22) rfl ?_
          refine e_aload_n h dX6_readNumbers_23 (pc := 23) rfl ?_
          refine e_getI h fl_X6_20 dX6_readNumbers_24 (pc := 24) rfl (Nat.lt_of_lt_of_le (by decide) hN) (by decide) ?_
          refine e_callV1 lk_X6_33 mv_X9_at dX6_readNumbers_27 (pc := 27) rfl (by decide) (Nat.lt_of_lt_of_le (by decide) hN) (Nat.le_of_ble_eq_true rfl) (rmY := rmX9_at) (by decide) h ?_
          refine c_at (b := b) (n := n) (k := e) e32 hN (hX.to (funext fun j => by rw [ef 1 j (by decide), hfr 1 j (by decide)]) (funext fun j => by rw [ef 2 j (by decide), hfr 2 j (by decide)])) (by omega) ?_
          refine e_istore3 h dX6_readNumbers_30 (pc := 30) (by decide) rfl ?_
          refine e_aload_n h dX6_readNumbers_31 (pc := 31) rfl ?_
          refine e_dup h dX6_readNumbers_32 (pc := 32) rfl ?_
          refine e_getI h fl_X6_20 dX6_readNumbers_33 (pc := 33) rfl (Nat.lt_of_lt_of_le (by decide) hN) (by decide) ?_
          refine e_iconst h dX6_readNumbers_36 (pc := 36)  ?_
          refine e_iadd h dX6_readNumbers_37 (pc := 37)  ?_
          refine e_putI h fl_X6_20 dX6_readNumbers_38 (pc := 38) rfl (Nat.lt_of_lt_of_le (by decide) hN) rfl ?_
          refine e_iload_n h dX6_readNumbers_41 (pc := 41) rfl ?_
          refine e_bipush h dX6_readNumbers_42 (pc := 42) (by decide +kernel) ?_
          refine e_icmp_ne h (tgt := 49) dX6_readNumbers_44 (pc := 44) (by decide) (by omega) (by decide) (fun hb44 => ?_) (fun hb44 => ?_)
          · refine e_iload_n h dX6_readNumbers_49 (pc := 49) rfl ?_
            refine e_bipush h dX6_readNumbers_50 (pc := 50) (by decide +kernel) ?_
            refine e_icmp_eq h (tgt := 57) dX6_readNumbers_52 (pc := 52) (by decide) (by omega) (by decide) (fun hb52 => ?_) (fun hb52 => ?_)
            · refine e_iinc2 h dX6_readNumbers_57 (pc := 57) (by decide) rfl ?_
              refine e_goto h dX6_readNumbers_60 (pc := 60) (tgt := 7) (by decide) ?_
              rw [show (k : Int) + 1 = ((k + 1 : Nat) : Int) by omega]
              refine e_fgt (ls2 := [some (vr 3), some (vr 1), some (vi ((k + 1 : Nat) : Int)), none]) ⟨Or.inr rfl, Or.inr rfl, Or.inr rfl, Or.inl rfl, trivial⟩ ?_
              have hen : e < n := by
                by_cases z : e < n
                · exact z
                · have := atB_out (b := b) z
                  omega
              refine ih (k + 1) (e + 1) (acc ++ [v]) _ (by omega) (by omega) (by simp; omega) (by rw [up_ne (by decide)]; exact e31) (by rw [up_eq]; omega) (by omega) (fun j hj => ?_) (fun a j hq => by rw [up_ne (by omega), ef a j hq]; exact hfr a j hq) ?_
              · rw [up_ne (by omega)]
                by_cases hjk : j < k
                · rw [e5 j hjk, hacc j (by omega)]
                  congr 1
                  rw [List.getD_eq_getElem?_getD, List.getD_eq_getElem?_getD, List.getElem?_append_left (by omega)]
                · have hjk2 : j = k := by simp at hj; omega
                  subst hjk2
                  rw [e4]
                  congr 1
                  rw [List.getD_eq_getElem?_getD, List.getElem?_append_right (by omega), hlen, Nat.sub_self]
                  rfl
              · rw [hEq, hr0, rns_sep er0 (by omega), show 5 - (k + 1) = r0 by omega]
                cases rns b n r0 (e + 1) with
                | none => rfl
                | some x => show some (acc ++ v :: x.1, x.2) = some ((acc ++ [v]) ++ x.1, x.2); rw [List.append_assoc]; rfl
            · refine e_iconst h dX6_readNumbers_55 (pc := 55)  ?_
              refine e_zret h hr ha dX6_readNumbers_56 (pc := 56) (by decide) ?_
              exact kf _ (by rw [hEq, hr0, rns_bad er0 (by omega) (by omega)]; rfl) (fun a j hq => by rw [up_ne (by omega), ef a j hq]; exact hfr a j hq)
          · refine e_iconst h dX6_readNumbers_47 (pc := 47)  ?_
            refine e_zret h hr ha dX6_readNumbers_48 (pc := 48) (by decide) ?_
            refine kt _ (acc ++ [v]) (e + 1) (by rw [hEq, hr0, rns_end er0 (by omega)]; rfl) (by rw [up_ne (by decide), e31]; simp; omega) (by rw [up_eq]; omega) (fun j hj => ?_) (fun a j hq => by rw [up_ne (by omega), ef a j hq]; exact hfr a j hq)
            rw [up_ne (by omega)]
            by_cases hjk : j < k
            · rw [e5 j hjk, hacc j (by omega)]
              congr 1
              rw [List.getD_eq_getElem?_getD, List.getD_eq_getElem?_getD, List.getElem?_append_left (by omega)]
            · have hjk2 : j = k := by simp at hj; omega
              subst hjk2
              rw [e4]
              congr 1
              rw [List.getD_eq_getElem?_getD, List.getElem?_append_right (by omega), hlen, Nat.sub_self]
              rfl
        · skip
          refine e_if_ne h (tgt := 22) dX6_readNumbers_17 (pc := 17) (by decide) (by decide) (fun hz => absurd hz (by decide)) (fun _ => ?_)
          refine e_iconst h dX6_readNumbers_20 (pc := 20)  ?_
          refine e_zret h hr ha dX6_readNumbers_21 (pc := 21) (by decide) ?_
          exact kf M2 (by rw [hEq, rns_none er0]; rfl) (fun a j hq => by rw [ef a j hq]; exact hfr a j hq)
  refine e_aload_n h dX6_readNumbers_0 (pc := 0) rfl ?_
  refine e_iconst h dX6_readNumbers_1 (pc := 1)  ?_
  refine e_putI h fl_X6_41 dX6_readNumbers_2 (pc := 2) rfl (Nat.lt_of_lt_of_le (by decide) hN) rfl ?_
  refine e_iconst h dX6_readNumbers_5 (pc := 5)  ?_
  refine e_istore2 h dX6_readNumbers_6 (pc := 6) (by decide) rfl ?_
  refine loop 6 0 q0 [] _ (by omega) (by omega) rfl (by rw [up_eq]; rfl) (by rw [up_ne (by decide)]; exact hq) hq2 (fun j hj => absurd hj (by simp)) (fun a j h => up_ne (by omega)) ?_
  cases rns b n 5 q0 <;> rfl
