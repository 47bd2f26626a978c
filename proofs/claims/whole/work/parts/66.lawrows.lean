theorem i_back (x : Int32) : Int32.ofInt x.toInt = x := Int32.toInt_inj.mp (i_toInt ⟨by have := x.le_toInt; omega, by have := x.toInt_lt; omega⟩)
theorem j_back (x : Int64) : Int64.ofInt x.toInt = x := Int64.toInt_inj.mp (j_toInt ⟨by have := x.le_toInt; omega, by have := x.toInt_lt; omega⟩)
theorem xr (x : Int32) : -2147483648 ≤ x.toInt ∧ x.toInt ≤ 2147483647 := ⟨by have := x.le_toInt; omega, by have := x.toInt_lt; omega⟩
def lz1 (x : Int) : Int := (Int64.ofInt x <<< ((Int32.ofInt 32).toInt64 &&& 63)).toInt
def lz2 (y : Int) : Int := (Int64.ofInt y &&& Int64.ofInt 4294967295).toInt
def lz3 (x y : Int) : Int := (Int64.ofInt x ||| Int64.ofInt y).toInt
/-- the script -/
def Sc (κ : KT) (b L : Nat) (xs : Nat → Int32) : Prop := match κ with
  | (p, l, e, R, s, m, args, below, meth, c, D, cy, A) => va_X b L xs s s.heap ∧ b < s.heap.size ∧ ¬ A b
theorem e_sld {κ : KT} {own : String} {cc : ByteArray} {nL : Nat} {rm : Room} {ad : Nat → Nat} {N : Nat} {ph : Phs} {M : Mem} {pc : Nat} {ls : List (Option AV)} {st : List AV} {cs : Nat × Nat} {Q : State → Prop} {L j : Nat} {xs : Nat → Int32} (h : Ok κ own cc nL rm) (hs : Sc κ (ad 200) L xs) (d : decode cc pc = .ok (.iaload, 1)) {x : Int} (hxj : x = (j : Int)) (hj : j < L) (hL : L ≤ 384) (k : E κ ad N ph M (pc + 1) ls (vi (xs j).toInt :: st) cs Q) : E κ ad N ph M pc ls (vi x :: vr 200 :: st) cs Q := by
  obtain ⟨p, l, e, R, s, m, args, below, meth, c, D, cy, A⟩ := κ
  obtain ⟨hx, hb, hml, hown, hts, hnw, hlk, hK, hR⟩ := h
  intro h1 h2 H locs Ls hP hS hl
  subst hxj
  obtain ⟨s1, s2, s3⟩ := hs
  obtain ⟨g1, g2⟩ := i_in (x := (j : Int)) (n := L) (by omega) (by omega)
  have kk := k h1 h2 H locs Ls hP hS hl
  rw [List.map_cons, show cv ad (vi (xs j).toInt) = .int (xs j) by show Value.int (Int32.ofInt _) = _; rw [i_back]] at kk
  refine va_sld hx hb s1 s2 s3 hS g1 d ?_
  rw [g2]
  exact kk
theorem e_slen {κ : KT} {own : String} {cc : ByteArray} {nL : Nat} {rm : Room} {ad : Nat → Nat} {N : Nat} {ph : Phs} {M : Mem} {pc : Nat} {ls : List (Option AV)} {st : List AV} {cs : Nat × Nat} {Q : State → Prop} {L : Nat} {xs : Nat → Int32} (h : Ok κ own cc nL rm) (hs : Sc κ (ad 200) L xs) (d : decode cc pc = .ok (.arraylength, 1)) (k : E κ ad N ph M (pc + 1) ls (vi (L : Int) :: st) cs Q) : E κ ad N ph M pc ls (vr 200 :: st) cs Q := by
  obtain ⟨p, l, e, R, s, m, args, below, meth, c, D, cy, A⟩ := κ
  obtain ⟨hx, hb, hml, hown, hts, hnw, hlk, hK, hR⟩ := h
  intro h1 h2 H locs Ls hP hS hl
  obtain ⟨s1, s2, s3⟩ := hs
  have kk := k h1 h2 H locs Ls hP hS hl
  rw [List.map_cons, show cv ad (vi (L : Int)) = .int (Int32.ofNat L) by show Value.int (Int32.ofInt _) = _; rw [Int32.ofInt_eq_ofNat]] at kk
  exact va_slen hx hb s1 s2 s3 hS d kk
theorem e_icmp_eqs {κ : KT} {own : String} {cc : ByteArray} {nL : Nat} {rm : Room} {ad : Nat → Nat} {N : Nat} {ph : Phs} {M : Mem} {pc : Nat} {ls : List (Option AV)} {st : List AV} {cs : Nat × Nat} {Q : State → Prop} (h : Ok κ own cc nL rm) {off : Int} {tgt : Nat} {x y : Int} (d : decode cc pc = .ok (.if_icmp .eq off, 3)) (ht : (pc : Int) + off = (tgt : Int)) (hxy : x = y) (k : E κ ad N ph M tgt ls st cs Q) : E κ ad N ph M pc ls (vi y :: vi x :: st) cs Q := by
  obtain ⟨p, l, e, R, s, m, args, below, meth, c, D, cy, A⟩ := κ
  obtain ⟨hx, hb, hml, hown, hts, hnw, hlk, hK, hR⟩ := h
  intro h1 h2 H locs Ls hP hS hl
  subst hxy
  exact lv_icmp_eq hx hb d ht (fun _ => k h1 h2 H locs Ls hP hS hl) (fun q => absurd rfl q)
theorem e_lcmp_eqs {κ : KT} {own : String} {cc : ByteArray} {nL : Nat} {rm : Room} {ad : Nat → Nat} {N : Nat} {ph : Phs} {M : Mem} {pc : Nat} {ls : List (Option AV)} {st : List AV} {cs : Nat × Nat} {Q : State → Prop} (h : Ok κ own cc nL rm) {x y : Int} (d : decode cc pc = .ok (.lcmp, 1)) (hxy : x = y) (k : E κ ad N ph M (pc + 1) ls (vi 0 :: st) cs Q) : E κ ad N ph M pc ls (vj y :: vj x :: st) cs Q := by
  obtain ⟨p, l, e, R, s, m, args, below, meth, c, D, cy, A⟩ := κ
  obtain ⟨hx, hb, hml, hown, hts, hnw, hlk, hK, hR⟩ := h
  intro h1 h2 H locs Ls hP hS hl
  subst hxy
  have kk := k h1 h2 H locs Ls hP hS hl
  refine W.lcmp hx hb d ?_
  have e : lg_cmp (Int64.ofInt x) (Int64.ofInt x) = 0 := by
    unfold lg_cmp
    rw [if_neg (by intro q; exact absurd q (Int64.lt_irrefl)), if_pos rfl]
  rw [e]
  exact kk
theorem RepC.kept {so dr n : Nat} {b : TB} {S O : SD} {h0 : Nat} {f g : Nat → Int} {z : Nat} {K : Nat → SD} {M M2 : Mem} (hR : RepC so dr n b S O h0 f g z K M) (hf : ∀ p, p < 110 → M2 p = M p) : RepC so dr n b S O h0 f g z K M2 := by
  have hd := hR.ds
  exact ⟨hR.ds, ((congrFun (hf 0 (by omega)) 9).trans hR.m9), ((congrFun (hf 0 (by omega)) 10).trans hR.m10), (hR.tx.to (hf 1 (by omega)) (hf 2 (by omega))), (hR.so.to (fun p a b => (hf p (by omega)))), hR.ws, hR.wo, (hR.bs.to (hf (so + 12) (by omega))), (hR.bd.to (hf (dr + 12) (by omega))), (hR.hr.to (hf 67 (by omega)) (hf 68 (by omega)) (hf 69 (by omega))), hR.h8, hR.hw, ((congrFun (hf 70 (by omega)) 1).trans hR.m70), hR.z2, (hR.kp.to hR.z2 (fun p a b => (hf p (by omega)))), (hR.fc.to hR.ws.2.1.2 (congrFun (hf 0 (by omega)) 11) (fun p a b => (hf p (by omega)))), (hR.od.to (hf 64 (by omega))), (hR.ch.to (hf 61 (by omega))), (hR.ja.to (hf 62 (by omega))), (hR.jb.to (hf 63 (by omega)))⟩
theorem RepM.kept {n : Nat} {b : TB} {S O : SD} {h0 : Nat} {f g : Nat → Int} {z : Nat} {K : Nat → SD} {M M2 : Mem} (hR : RepM n b S O h0 f g z K M) (hf : ∀ p, 110 ≤ p → M2 p = M p) : RepM n b S O h0 f g z K M2 := ⟨(hR.tx.to (congrFun (hf 110 (by decide)) 0) (hf 111 (by decide))), (hR.ms.to (hf 112 (by decide)) (hf 113 (by decide)) (hf 114 (by decide)) (hf 115 (by decide)) (hf 116 (by decide)) (hf 117 (by decide)) (hf 118 (by decide)) (hf 119 (by decide)) (hf 120 (by decide)) (hf 121 (by decide)) (hf 122 (by decide))), (hR.mo.to (hf 123 (by decide)) (hf 124 (by decide)) (hf 125 (by decide)) (hf 126 (by decide)) (hf 127 (by decide))), hR.ws, hR.wo, (hR.un.to (congrFun (hf 110 (by decide)) 19) (hf 128 (by decide))), hR.h8, hR.hw, (Eq.trans (congrFun (hf 110 (by decide)) 18) hR.m18), hR.z2, (hR.kp.to (hf 123 (by decide)) (hf 124 (by decide)) (hf 125 (by decide)) (hf 126 (by decide)) (hf 127 (by decide)))⟩
/-- the two stand at the same state -/
def LI (M : Mem) : Prop := ∃ (so dr n : Nat) (b : TB) (S O : SD) (h0 : Nat) (f g : Nat → Int) (z : Nat) (K : Nat → SD), RepC so dr n b S O h0 f g z K M ∧ RepM n b S O h0 f g z K M
