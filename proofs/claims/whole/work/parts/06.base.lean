def pT : Phs := fun _ _ => true
theorem pcr_d {p : Nat} (h : pcl p < 10) (j : Nat) : pcr p j = p + 1 + j := by
  unfold pcr
  generalize pcl p = c at h
  match c, h with
  | 0, _ => rfl
  | 1, _ => rfl
  | 2, _ => rfl
  | 3, _ => rfl
  | 4, _ => rfl
  | 5, _ => rfl
  | 6, _ => rfl
  | 7, _ => rfl
  | 8, _ => rfl
  | 9, _ => rfl
  | c + 10, h => exact absurd h (by omega)
theorem pcr_103 {p : Nat} (h : pcl p = 103) (j : Nat) : pcr p j = p + 1 + 4 * j := by
  unfold pcr
  rw [h]
  rfl
theorem pcr_104 {p : Nat} (h : pcl p = 104) (j : Nat) : pcr p j = p + 1 + 5 * j := by
  unfold pcr
  rw [h]
  rfl
/-! the shapes of objects of several -/
def IsC (o N : Nat) : Prop := o + 4 ≤ N ∧ pcl o = 1 ∧ pcl (o + 1) = 100 ∧ pcl (o + 2) = 100 ∧ pcl (o + 3) = 100 ∧ plen o = 0 ∧ plen (o + 1) = 61 ∧ plen (o + 2) = 61 ∧ plen (o + 3) = 61
theorem IsC.p0 {o N : Nat} (h : IsC o N) : o < N := by have := h.1; omega
theorem IsC.c0 {o N : Nat} (h : IsC o N) : pcl o = 1 := h.2.1
theorem IsC.l0 {o N : Nat} (h : IsC o N) : plen o = 0 := h.2.2.2.2.2.1
theorem IsC.p1 {o N : Nat} (h : IsC o N) : (o + 1) < N := by have := h.1; omega
theorem IsC.c1 {o N : Nat} (h : IsC o N) : pcl (o + 1) = 100 := h.2.2.1
theorem IsC.l1 {o N : Nat} (h : IsC o N) : plen (o + 1) = 61 := h.2.2.2.2.2.2.1
theorem IsC.p2 {o N : Nat} (h : IsC o N) : (o + 2) < N := by have := h.1; omega
theorem IsC.c2 {o N : Nat} (h : IsC o N) : pcl (o + 2) = 100 := h.2.2.2.1
theorem IsC.l2 {o N : Nat} (h : IsC o N) : plen (o + 2) = 61 := h.2.2.2.2.2.2.2.1
theorem IsC.p3 {o N : Nat} (h : IsC o N) : (o + 3) < N := by have := h.1; omega
theorem IsC.c3 {o N : Nat} (h : IsC o N) : pcl (o + 3) = 100 := h.2.2.2.2.1
theorem IsC.l3 {o N : Nat} (h : IsC o N) : plen (o + 3) = 61 := h.2.2.2.2.2.2.2.2
def IsO (o N : Nat) : Prop := o + 5 ≤ N ∧ pcl o = 5 ∧ pcl (o + 1) = 100 ∧ pcl (o + 2) = 100 ∧ pcl (o + 3) = 102 ∧ pcl (o + 4) = 100 ∧ plen o = 0 ∧ plen (o + 1) = 8 ∧ plen (o + 2) = 8 ∧ plen (o + 3) = 8 ∧ plen (o + 4) = 6
theorem IsO.p0 {o N : Nat} (h : IsO o N) : o < N := by have := h.1; omega
theorem IsO.c0 {o N : Nat} (h : IsO o N) : pcl o = 5 := h.2.1
theorem IsO.l0 {o N : Nat} (h : IsO o N) : plen o = 0 := h.2.2.2.2.2.2.1
theorem IsO.p1 {o N : Nat} (h : IsO o N) : (o + 1) < N := by have := h.1; omega
theorem IsO.c1 {o N : Nat} (h : IsO o N) : pcl (o + 1) = 100 := h.2.2.1
theorem IsO.l1 {o N : Nat} (h : IsO o N) : plen (o + 1) = 8 := h.2.2.2.2.2.2.2.1
theorem IsO.p2 {o N : Nat} (h : IsO o N) : (o + 2) < N := by have := h.1; omega
theorem IsO.c2 {o N : Nat} (h : IsO o N) : pcl (o + 2) = 100 := h.2.2.2.1
theorem IsO.l2 {o N : Nat} (h : IsO o N) : plen (o + 2) = 8 := h.2.2.2.2.2.2.2.2.1
theorem IsO.p3 {o N : Nat} (h : IsO o N) : (o + 3) < N := by have := h.1; omega
theorem IsO.c3 {o N : Nat} (h : IsO o N) : pcl (o + 3) = 102 := h.2.2.2.2.1
theorem IsO.l3 {o N : Nat} (h : IsO o N) : plen (o + 3) = 8 := h.2.2.2.2.2.2.2.2.2.1
theorem IsO.p4 {o N : Nat} (h : IsO o N) : (o + 4) < N := by have := h.1; omega
theorem IsO.c4 {o N : Nat} (h : IsO o N) : pcl (o + 4) = 100 := h.2.2.2.2.2.1
theorem IsO.l4 {o N : Nat} (h : IsO o N) : plen (o + 4) = 6 := h.2.2.2.2.2.2.2.2.2.2
def IsS (o N : Nat) : Prop := o + 14 ≤ N ∧ pcl o = 8 ∧ pcl (o + 1) = 100 ∧ pcl (o + 2) = 100 ∧ pcl (o + 3) = 100 ∧ pcl (o + 4) = 100 ∧ pcl (o + 5) = 100 ∧ pcl (o + 6) = 100 ∧ pcl (o + 7) = 100 ∧ pcl (o + 8) = 100 ∧ pcl (o + 9) = 5 ∧ pcl (o + 10) = 100 ∧ pcl (o + 11) = 100 ∧ pcl (o + 12) = 102 ∧ pcl (o + 13) = 100 ∧ plen o = 0 ∧ plen (o + 1) = 6 ∧ plen (o + 2) = 6 ∧ plen (o + 3) = 6 ∧ plen (o + 4) = 6 ∧ plen (o + 5) = 6 ∧ plen (o + 6) = 6 ∧ plen (o + 7) = 5 ∧ plen (o + 8) = 5 ∧ plen (o + 9) = 0 ∧ plen (o + 10) = 8 ∧ plen (o + 11) = 8 ∧ plen (o + 12) = 8 ∧ plen (o + 13) = 6
theorem IsS.p0 {o N : Nat} (h : IsS o N) : o < N := by have := h.1; omega
theorem IsS.c0 {o N : Nat} (h : IsS o N) : pcl o = 8 := h.2.1
theorem IsS.l0 {o N : Nat} (h : IsS o N) : plen o = 0 := h.2.2.2.2.2.2.2.2.2.2.2.2.2.2.2.1
theorem IsS.p1 {o N : Nat} (h : IsS o N) : (o + 1) < N := by have := h.1; omega
theorem IsS.c1 {o N : Nat} (h : IsS o N) : pcl (o + 1) = 100 := h.2.2.1
theorem IsS.l1 {o N : Nat} (h : IsS o N) : plen (o + 1) = 6 := h.2.2.2.2.2.2.2.2.2.2.2.2.2.2.2.2.1
theorem IsS.p2 {o N : Nat} (h : IsS o N) : (o + 2) < N := by have := h.1; omega
theorem IsS.c2 {o N : Nat} (h : IsS o N) : pcl (o + 2) = 100 := h.2.2.2.1
theorem IsS.l2 {o N : Nat} (h : IsS o N) : plen (o + 2) = 6 := h.2.2.2.2.2.2.2.2.2.2.2.2.2.2.2.2.2.1
theorem IsS.p3 {o N : Nat} (h : IsS o N) : (o + 3) < N := by have := h.1; omega
theorem IsS.c3 {o N : Nat} (h : IsS o N) : pcl (o + 3) = 100 := h.2.2.2.2.1
theorem IsS.l3 {o N : Nat} (h : IsS o N) : plen (o + 3) = 6 := h.2.2.2.2.2.2.2.2.2.2.2.2.2.2.2.2.2.2.1
theorem IsS.p4 {o N : Nat} (h : IsS o N) : (o + 4) < N := by have := h.1; omega
theorem IsS.c4 {o N : Nat} (h : IsS o N) : pcl (o + 4) = 100 := h.2.2.2.2.2.1
theorem IsS.l4 {o N : Nat} (h : IsS o N) : plen (o + 4) = 6 := h.2.2.2.2.2.2.2.2.2.2.2.2.2.2.2.2.2.2.2.1
theorem IsS.p5 {o N : Nat} (h : IsS o N) : (o + 5) < N := by have := h.1; omega
theorem IsS.c5 {o N : Nat} (h : IsS o N) : pcl (o + 5) = 100 := h.2.2.2.2.2.2.1
theorem IsS.l5 {o N : Nat} (h : IsS o N) : plen (o + 5) = 6 := h.2.2.2.2.2.2.2.2.2.2.2.2.2.2.2.2.2.2.2.2.1
theorem IsS.p6 {o N : Nat} (h : IsS o N) : (o + 6) < N := by have := h.1; omega
theorem IsS.c6 {o N : Nat} (h : IsS o N) : pcl (o + 6) = 100 := h.2.2.2.2.2.2.2.1
theorem IsS.l6 {o N : Nat} (h : IsS o N) : plen (o + 6) = 6 := h.2.2.2.2.2.2.2.2.2.2.2.2.2.2.2.2.2.2.2.2.2.1
theorem IsS.p7 {o N : Nat} (h : IsS o N) : (o + 7) < N := by have := h.1; omega
theorem IsS.c7 {o N : Nat} (h : IsS o N) : pcl (o + 7) = 100 := h.2.2.2.2.2.2.2.2.1
theorem IsS.l7 {o N : Nat} (h : IsS o N) : plen (o + 7) = 5 := h.2.2.2.2.2.2.2.2.2.2.2.2.2.2.2.2.2.2.2.2.2.2.1
theorem IsS.p8 {o N : Nat} (h : IsS o N) : (o + 8) < N := by have := h.1; omega
theorem IsS.c8 {o N : Nat} (h : IsS o N) : pcl (o + 8) = 100 := h.2.2.2.2.2.2.2.2.2.1
theorem IsS.l8 {o N : Nat} (h : IsS o N) : plen (o + 8) = 5 := h.2.2.2.2.2.2.2.2.2.2.2.2.2.2.2.2.2.2.2.2.2.2.2.1
theorem IsS.p9 {o N : Nat} (h : IsS o N) : (o + 9) < N := by have := h.1; omega
theorem IsS.c9 {o N : Nat} (h : IsS o N) : pcl (o + 9) = 5 := h.2.2.2.2.2.2.2.2.2.2.1
theorem IsS.l9 {o N : Nat} (h : IsS o N) : plen (o + 9) = 0 := h.2.2.2.2.2.2.2.2.2.2.2.2.2.2.2.2.2.2.2.2.2.2.2.2.1
theorem IsS.p10 {o N : Nat} (h : IsS o N) : (o + 10) < N := by have := h.1; omega
theorem IsS.c10 {o N : Nat} (h : IsS o N) : pcl (o + 10) = 100 := h.2.2.2.2.2.2.2.2.2.2.2.1
theorem IsS.l10 {o N : Nat} (h : IsS o N) : plen (o + 10) = 8 := h.2.2.2.2.2.2.2.2.2.2.2.2.2.2.2.2.2.2.2.2.2.2.2.2.2.1
theorem IsS.p11 {o N : Nat} (h : IsS o N) : (o + 11) < N := by have := h.1; omega
theorem IsS.c11 {o N : Nat} (h : IsS o N) : pcl (o + 11) = 100 := h.2.2.2.2.2.2.2.2.2.2.2.2.1
theorem IsS.l11 {o N : Nat} (h : IsS o N) : plen (o + 11) = 8 := h.2.2.2.2.2.2.2.2.2.2.2.2.2.2.2.2.2.2.2.2.2.2.2.2.2.2.1
theorem IsS.p12 {o N : Nat} (h : IsS o N) : (o + 12) < N := by have := h.1; omega
theorem IsS.c12 {o N : Nat} (h : IsS o N) : pcl (o + 12) = 102 := h.2.2.2.2.2.2.2.2.2.2.2.2.2.1
theorem IsS.l12 {o N : Nat} (h : IsS o N) : plen (o + 12) = 8 := h.2.2.2.2.2.2.2.2.2.2.2.2.2.2.2.2.2.2.2.2.2.2.2.2.2.2.2.1
theorem IsS.p13 {o N : Nat} (h : IsS o N) : (o + 13) < N := by have := h.1; omega
theorem IsS.c13 {o N : Nat} (h : IsS o N) : pcl (o + 13) = 100 := h.2.2.2.2.2.2.2.2.2.2.2.2.2.2.1
theorem IsS.l13 {o N : Nat} (h : IsS o N) : plen (o + 13) = 6 := h.2.2.2.2.2.2.2.2.2.2.2.2.2.2.2.2.2.2.2.2.2.2.2.2.2.2.2.2
theorem IsS.o {o N : Nat} (h : IsS o N) : IsO (o + 9) N := ⟨h.1, h.c9, h.c10, h.c11, h.c12, h.c13, h.l9, h.l10, h.l11, h.l12, h.l13⟩
theorem isC_fleet {N i : Nat} (hN : 110 ≤ N) (hi : i < 6) : IsC (7 + 4 * i) N := by
  unfold IsC
  match i, hi with
  | 0, _ => exact ⟨by omega, by decide, by decide, by decide, by decide, by decide, by decide, by decide, by decide⟩
  | 1, _ => exact ⟨by omega, by decide, by decide, by decide, by decide, by decide, by decide, by decide, by decide⟩
  | 2, _ => exact ⟨by omega, by decide, by decide, by decide, by decide, by decide, by decide, by decide, by decide⟩
  | 3, _ => exact ⟨by omega, by decide, by decide, by decide, by decide, by decide, by decide, by decide, by decide⟩
  | 4, _ => exact ⟨by omega, by decide, by decide, by decide, by decide, by decide, by decide, by decide, by decide⟩
  | 5, _ => exact ⟨by omega, by decide, by decide, by decide, by decide, by decide, by decide, by decide, by decide⟩
  | i + 6, h => exact absurd h (by omega)
theorem isC_year {N i : Nat} (hN : 110 ≤ N) (hi : i < 6) : IsC (33 + 4 * i) N := by
  unfold IsC
  match i, hi with
  | 0, _ => exact ⟨by omega, by decide, by decide, by decide, by decide, by decide, by decide, by decide, by decide⟩
  | 1, _ => exact ⟨by omega, by decide, by decide, by decide, by decide, by decide, by decide, by decide, by decide⟩
  | 2, _ => exact ⟨by omega, by decide, by decide, by decide, by decide, by decide, by decide, by decide, by decide⟩
  | 3, _ => exact ⟨by omega, by decide, by decide, by decide, by decide, by decide, by decide, by decide, by decide⟩
  | 4, _ => exact ⟨by omega, by decide, by decide, by decide, by decide, by decide, by decide, by decide, by decide⟩
  | 5, _ => exact ⟨by omega, by decide, by decide, by decide, by decide, by decide, by decide, by decide, by decide⟩
  | i + 6, h => exact absurd h (by omega)
theorem isC_trial {N : Nat} (hN : 110 ≤ N) : IsC 57 N := ⟨by omega, by decide, by decide, by decide, by decide, by decide, by decide, by decide, by decide⟩
theorem isS_a {N : Nat} (hN : 110 ≤ N) : IsS 82 N := by
  refine ⟨by omega, ?_⟩
  decide
theorem isS_b {N : Nat} (hN : 110 ≤ N) : IsS 96 N := by
  refine ⟨by omega, ?_⟩
  decide
theorem isO_k {N i : Nat} (hN : 110 ≤ N) (hi : i < 2) : IsO (72 + 5 * i) N := by
  unfold IsO
  match i, hi with
  | 0, _ => exact ⟨by omega, by decide, by decide, by decide, by decide, by decide, by decide, by decide, by decide, by decide, by decide⟩
  | 1, _ => exact ⟨by omega, by decide, by decide, by decide, by decide, by decide, by decide, by decide, by decide, by decide, by decide⟩
  | i + 2, h => exact absurd h (by omega)
/-- Java's remainder by a positive number -/
theorem tmod_cases (x d : Int) (hd : 0 < d) : (0 ≤ x ∧ x.tmod d = x % d) ∨ (x < 0 ∧ x.tmod d = -((-x) % d)) := by
  by_cases h : 0 ≤ x
  · exact Or.inl ⟨h, Int.tmod_eq_emod_of_nonneg h⟩
  · refine Or.inr ⟨by omega, ?_⟩
    have := Int.neg_tmod (-x) d
    rw [Int.neg_neg] at this
    rw [this, Int.tmod_eq_emod_of_nonneg (by omega)]

theorem e_tabV {κ : KT} {own : String} {cc : ByteArray} {nL : Nat} {rm : Room} {ad : Nat → Nat} {N : Nat} {ph : Phs} {M : Mem} {pc : Nat} {ls : List (Option AV)} {st : List AV} {cs : Nat × Nat} {Q : State → Prop} (h : Ok κ own cc nL rm) {dflt lo hi : Int} {offs : Array Int} {len : Nat} {x off : Int} {tgt : Nat} (d : decode cc pc = .ok (.tableswitch dflt lo hi offs, len)) {v : Int} (hx : x = v) (hv : -2147483648 ≤ v ∧ v ≤ 2147483647) (hr : lo ≤ v ∧ v ≤ hi) (ho : offs[(v - lo).toNat]? = some off) (ht : (pc : Int) + off = (tgt : Int)) (k : E κ ad N ph M tgt ls st cs Q) : E κ ad N ph M pc ls (vi x :: st) cs Q := by
  subst hx
  exact e_tabIn h d hv hr ho ht k
theorem e_lookV {κ : KT} {own : String} {cc : ByteArray} {nL : Nat} {rm : Room} {ad : Nat → Nat} {N : Nat} {ph : Phs} {M : Mem} {pc : Nat} {ls : List (Option AV)} {st : List AV} {cs : Nat × Nat} {Q : State → Prop} (h : Ok κ own cc nL rm) {dflt : Int} {ps : Array (Int × Int)} {len : Nat} {x off : Int} {tgt : Nat} (d : decode cc pc = .ok (.lookupswitch dflt ps, len)) {v : Int} (hx : x = v) (hv : -2147483648 ≤ v ∧ v ≤ 2147483647) (hp : (ps.toList.zip (ps.toList.drop 1)).all (fun (a, next) => a.1 < next.1) = true) (ho : Op.lookupswitch.offset ps.toList dflt v = off) (ht : (pc : Int) + off = (tgt : Int)) (k : E κ ad N ph M tgt ls st cs Q) : E κ ad N ph M pc ls (vi x :: st) cs Q := by
  subst hx
  exact e_lookup h d hv hp ho ht k
/-! HungInStorm: small functions -/
set_option maxRecDepth 100000 in
set_option maxHeartbeats 4000000 in
theorem c_isWithin {gg : GT} {ad : Nat → Nat} {N : Nat} {M : Mem} {Post : Option AV → Mem → Prop} {x a b : Int}   (hx : (-2147483648 ≤ x ∧ x ≤ 2147483647)) (ha0 : (-2147483648 ≤ a ∧ a ≤ 2147483647)) (hb0 : (-2147483648 ≤ b ∧ b ≤ 2147483647)) (kt : a ≤ x ∧ x ≤ b → Post (some (vi 1)) M) (kf : ¬ (a ≤ x ∧ x ≤ b) → Post (some (vi 0)) M) : Sp gg yX10_isWithin cX10_isWithin 3 (some .boolean) rmX10_isWithin [vi x, vi a, vi b] ad N pT M Post := by
  refine Sp.intro (ls := [some (vi x), some (vi a), some (vi b)]) (by decide +kernel) rfl (Nat.le_of_ble_eq_true rfl) fun κ hgg h hr ha => ?_
  have h : Ok κ RX10 cX10_isWithin 3 rmX10_isWithin := h
  subst hgg
  refine e_iload_n h dX10_isWithin_0 (pc := 0) rfl ?_
  refine e_iload_n h dX10_isWithin_1 (pc := 1) rfl ?_
  refine e_icmp_lt h (tgt := 14) dX10_isWithin_2 (pc := 2) (by decide) (by omega) (by omega) (fun hb2 => ?_) (fun hb2 => ?_)
  · refine e_iconst h dX10_isWithin_14 (pc := 14)  ?_
    refine e_zret h hr ha dX10_isWithin_15 (pc := 15) (by decide) ?_
    first | exact kt (by omega) | exact kf (by omega)
  · refine e_iload_n h dX10_isWithin_5 (pc := 5) rfl ?_
    refine e_iload_n h dX10_isWithin_6 (pc := 6) rfl ?_
    refine e_icmp_gt h (tgt := 14) dX10_isWithin_7 (pc := 7) (by decide) (by omega) (by omega) (fun hb7 => ?_) (fun hb7 => ?_)
    · refine e_iconst h dX10_isWithin_14 (pc := 14)  ?_
      refine e_zret h hr ha dX10_isWithin_15 (pc := 15) (by decide) ?_
      first | exact kt (by omega) | exact kf (by omega)
    · refine e_iconst h dX10_isWithin_10 (pc := 10)  ?_
      refine e_goto h dX10_isWithin_11 (pc := 11) (tgt := 15) (by decide) ?_
      refine e_zret h hr ha dX10_isWithin_15 (pc := 15) (by decide) ?_
      first | exact kt (by omega) | exact kf (by omega)
set_option maxRecDepth 100000 in
set_option maxHeartbeats 4000000 in
theorem c_isPlace {gg : GT} {ad : Nat → Nat} {N : Nat} {M : Mem} {Post : Option AV → Mem → Prop} {x : Int}   (hx : (-2147483648 ≤ x ∧ x ≤ 2147483647)) (kt : 0 ≤ x ∧ x ≤ 23 → Post (some (vi 1)) M) (kf : ¬ (0 ≤ x ∧ x ≤ 23) → Post (some (vi 0)) M) : Sp gg yX10_isPlace cX10_isPlace 1 (some .boolean) rmX10_isPlace [vi x] ad N pT M Post := by
  refine Sp.intro (ls := [some (vi x)]) (by decide +kernel) rfl (Nat.le_of_ble_eq_true rfl) fun κ hgg h hr ha => ?_
  have h : Ok κ RX10 cX10_isPlace 1 rmX10_isPlace := h
  subst hgg
  refine e_iload_n h dX10_isPlace_0 (pc := 0) rfl ?_
  refine e_iconst h dX10_isPlace_1 (pc := 1)  ?_
  refine e_bipush h dX10_isPlace_2 (pc := 2) (by decide +kernel) ?_
  refine e_callS3 lk_X10_121 ms_X10_isWithin dX10_isPlace_4 (pc := 4) (Nat.le_of_ble_eq_true rfl) (rmY := rmX10_isWithin) (by decide) h ?_
  refine c_isWithin hx (by decide) (by decide) (fun hw => ?_) (fun hw => ?_)
  · skip
    refine e_zret h hr ha dX10_isPlace_7 (pc := 7) (by decide) ?_
    first | exact kt (by omega) | exact kf (by omega)
  · skip
    refine e_zret h hr ha dX10_isPlace_7 (pc := 7) (by decide) ?_
    first | exact kt (by omega) | exact kf (by omega)
set_option maxRecDepth 100000 in
set_option maxHeartbeats 4000000 in
theorem c_round {gg : GT} {ad : Nat → Nat} {N : Nat} {M : Mem} {Post : Option AV → Mem → Prop} {x : Int}   (hx : (-2147483648 ≤ x ∧ x ≤ 2147483647)) (k : Post (some (vi (x % 24))) M) : Sp gg yX10_round cX10_round 2 (some .int) rmX10_round [vi x] ad N pT M Post := by
  refine Sp.intro (ls := [some (vi x), none]) (by decide +kernel) rfl (Nat.le_of_ble_eq_true rfl) fun κ hgg h hr ha => ?_
  have h : Ok κ RX10 cX10_round 2 rmX10_round := h
  subst hgg
  refine e_iload_n h dX10_round_0 (pc := 0) rfl ?_
  refine e_bipush h dX10_round_1 (pc := 1) (by decide +kernel) ?_
  refine e_irem h dX10_round_3 (pc := 3) (by omega) (by decide) ?_
  generalize hq : x.tmod 24 = q
  have hq2 := tmod_cases x 24 (by decide)
  rw [hq] at hq2
  refine e_istore1 h dX10_round_4 (pc := 4) (by decide) rfl ?_
  refine e_iload_n h dX10_round_5 (pc := 5) rfl ?_
  refine e_if_ge h (tgt := 16) dX10_round_6 (pc := 6) (by decide) (by omega) (fun hb6 => ?_) (fun hb6 => ?_)
  · refine e_iload_n h dX10_round_16 (pc := 16) rfl ?_
    refine e_iret h hr ha dX10_round_17 (pc := 17) ?_
    exact cast (by congr 3; omega) k
  · refine e_iload_n h dX10_round_9 (pc := 9) rfl ?_
    refine e_bipush h dX10_round_10 (pc := 10) (by decide +kernel) ?_
    refine e_iadd h dX10_round_12 (pc := 12)  ?_
    refine e_goto h dX10_round_13 (pc := 13) (tgt := 17) (by decide) ?_
    refine e_iret h hr ha dX10_round_17 (pc := 17) ?_
    exact cast (by congr 3; omega) k
