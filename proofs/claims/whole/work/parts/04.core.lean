/-! values over places: an int, a long, a reference to a place -/
abbrev AV : Type := Int ⊕ (Int ⊕ Nat)
abbrev vi (x : Int) : AV := Sum.inl x
abbrev vj (x : Int) : AV := Sum.inr (Sum.inl x)
abbrev vr (p : Nat) : AV := Sum.inr (Sum.inr p)
abbrev Mem : Type := Nat → Nat → Int
abbrev Phs : Type := Nat → Nat → Bool
def cv (ad : Nat → Nat) (v : AV) : Value := match v with
  | .inl x => .int (Int32.ofInt x)
  | .inr (.inl x) => .long (Int64.ofInt x)
  | .inr (.inr p) => .ref (ad p)
def ct (v : AV) : Nat := match v with
  | .inr (.inl _) => 2
  | _ => 1
theorem cv_cat (ad : Nat → Nat) (v : AV) : (cv ad v).category = ct v := by
  rcases v with x | x | x <;> rfl
theorem ct_sum (ad : Nat → Nat) (st : List AV) : ((st.map (cv ad)).map fun v => v.category).sum = (st.map ct).sum := by
  rw [List.map_map]
  congr 1
  apply List.map_congr_left
  intro v _
  exact cv_cat ad v
/-! the places: their classes, lengths, references that stay -/

def pclL : List Nat := [10, 9, 100, 6, 100, 2, 103, 1, 100, 100, 100, 1, 100, 100, 100, 1, 100, 100, 100, 1, 100, 100, 100, 1, 100, 100, 100, 1, 100, 100, 100, 2, 103, 1, 100, 100, 100, 1, 100, 100, 100, 1, 100, 100, 100, 1, 100, 100, 100, 1, 100, 100, 100, 1, 100, 100, 100, 1, 100, 100, 100, 0, 101, 101, 4, 101, 101, 3, 100, 100, 7, 104, 5, 100, 100, 102, 100, 5, 100, 100, 102, 100, 8, 100, 100, 100, 100, 100, 100, 100, 100, 5, 100, 100, 102, 100, 8, 100, 100, 100, 100, 100, 100, 100, 100, 5, 100, 100, 102, 100, 11, 100, 100, 100, 100, 100, 100, 100, 100, 100, 100, 100, 100, 100, 100, 100, 100, 100, 100, 100, 100, 100, 100, 100, 101, 101, 101, 101, 100]
def plenL : List Nat := [0, 0, 300, 0, 5, 0, 6, 0, 61, 61, 61, 0, 61, 61, 61, 0, 61, 61, 61, 0, 61, 61, 61, 0, 61, 61, 61, 0, 61, 61, 61, 0, 6, 0, 61, 61, 61, 0, 61, 61, 61, 0, 61, 61, 61, 0, 61, 61, 61, 0, 61, 61, 61, 0, 61, 61, 61, 0, 61, 61, 61, 0, 144, 144, 0, 6, 6, 0, 8, 8, 0, 2, 0, 8, 8, 8, 6, 0, 8, 8, 8, 6, 0, 6, 6, 6, 6, 6, 6, 5, 5, 0, 8, 8, 8, 6, 0, 6, 6, 6, 6, 6, 6, 5, 5, 0, 8, 8, 8, 6, 0, 300, 2, 12, 12, 2, 12, 12, 12, 12, 2, 10, 10, 24, 4, 32, 32, 32, 16, 5, 6, 6, 6, 6, 144, 144, 6, 6, 6]
def pcl (p : Nat) : Nat := pclL.getD p 200
def plen (p : Nat) : Nat := plenL.getD p 0
def hsR : List Nat := [1, 3, 5, 31, 57, 61, 64, 67, 70, 0, 0, 0]
def mdR : List Nat := [0, 111, 112, 113, 114, 115, 116, 117, 118, 119, 120, 121, 122, 123, 124, 125, 126, 127, 0, 0, 128, 0, 129, 130, 131, 132, 133, 0, 134, 135, 136, 137, 138]
def pcr (p j : Nat) : Nat := match pcl p with
  | 10 => hsR.getD j 0
  | 11 => mdR.getD j 0
  | 103 => p + 1 + 4 * j
  | 104 => p + 1 + 5 * j
  | _ => p + 1 + j
def fv (ad : Nat → Nat) (ph : Phs) (p j kind : Nat) (x : Int) : Value := match kind with
  | 0 => .int (Int32.ofInt x)
  | 1 => .int (Int32.ofInt x)
  | 2 => .long (Int64.ofInt x)
  | 3 => if ph p j = true then .ref (ad x.toNat) else .null
  | _ => if ph p j = true then .ref (ad (pcr p j)) else .null
def fl (ad : Nat → Nat) (ph : Phs) (p ci : Nat) (m : Nat → Int) : List Value := (List.range (nf ci)).map (fun j => fv ad ph p j (kd ci j) (m j))
def aE (ad : Nat → Nat) (ph : Phs) (p k : Nat) (m : Nat → Int) : (Nat → Int32) ⊕ (Nat → Int64) ⊕ (Nat → UInt32) ⊕ (Nat → UInt64) ⊕ (Nat → Option Nat) := match k with
  | 101 => .inr (.inl (fun j => Int64.ofInt (m j)))
  | 103 => .inr (.inr (.inr (.inr (fun j => if ph p j = true then some (ad (pcr p j)) else none))))
  | 104 => .inr (.inr (.inr (.inr (fun j => if ph p j = true then some (ad (pcr p j)) else none))))
  | _ => .inl (fun j => Int32.ofInt (m j))
def cellE (cy : Nat → ClassId) (ad : Nat → Nat) (ph : Phs) (p : Nat) (m : Nat → Int) : va_E := if pcl p < 12 then .inr (pcl p, fl ad ph p (pcl p) m) else .inl (cy (pcl p), plen p, aE ad ph p (pcl p) m)
def wl (cy : Nat → ClassId) (ad : Nat → Nat) (N : Nat) (ph : Phs) (M : Mem) : va_W := (List.range N).map (fun p => (ad p, cellE cy ad ph p (M p)))
def cyl (cy : Nat → ClassId) : List (ClassId × FieldType) := [(cy 100, .int), (cy 101, .long), (cy 102, .boolean), (cy 103, .object RX1), (cy 104, .object RX5)]
theorem wl_len {cy : Nat → ClassId} {ad : Nat → Nat} {N : Nat} {ph : Phs} {M : Mem} : (wl cy ad N ph M).length = N := by simp [wl]
theorem wl_get {cy : Nat → ClassId} {ad : Nat → Nat} {N p : Nat} {ph : Phs} {M : Mem} (h : p < N) : (wl cy ad N ph M)[p]? = some (ad p, cellE cy ad ph p (M p)) := by
  unfold wl
  rw [List.getElem?_map, List.getElem?_range h]
  rfl
theorem wl_inv {cy : Nat → ClassId} {ad : Nat → Nat} {N p : Nat} {ph : Phs} {M : Mem} {q : Nat × va_E} (h : (wl cy ad N ph M)[p]? = some q) : p < N ∧ q = (ad p, cellE cy ad ph p (M p)) := by
  have hp : p < N := by
    have := (List.getElem?_eq_some_iff.mp h).1
    rwa [wl_len] at this
  rw [wl_get hp] at h
  exact ⟨hp, (Option.some.inj h).symm⟩
/-- the memory with one row put anew -/
def mset (M : Mem) (p : Nat) (m : Nat → Int) : Mem := fun q => if q = p then m else M q
/-- one place of one row put anew -/
def up (M : Mem) (p k : Nat) (x : Int) : Mem := fun q => if q = p then (fun j => if j = k then x else M p j) else M q
theorem up_eq (M : Mem) (p k : Nat) (x : Int) : up M p k x p k = x := by simp [up]
theorem up_ne {M : Mem} {p k q j : Nat} {x : Int} (h : q ≠ p ∨ j ≠ k) : up M p k x q j = M q j := by
  unfold up
  by_cases hq : q = p
  · subst hq
    rcases h with h | h
    · exact absurd rfl h
    · simp [h]
  · simp [hq]
theorem up_row {M : Mem} {p k q : Nat} {x : Int} (h : q ≠ p) : up M p k x q = M q := by
  unfold up
  simp [h]
theorem wl_set {cy : Nat → ClassId} {ad : Nat → Nat} {N p : Nat} {ph : Phs} {M : Mem} (m : Nat → Int) (h : p < N) {a : Nat} {e : va_E} (ha : a = ad p) (he : e = cellE cy ad ph p m) : (wl cy ad N ph M).set p (a, e) = wl cy ad N ph (mset M p m) := by
  subst ha; subst he
  apply List.ext_getElem?
  intro i
  by_cases hi : i = p
  · subst hi
    rw [List.getElem?_set_self (by rw [wl_len]; exact h), wl_get h]
    simp [mset]
  · rw [List.getElem?_set_ne (Ne.symm hi)]
    by_cases hn : i < N
    · rw [wl_get hn, wl_get hn]
      simp [mset, hi]
    · rw [List.getElem?_eq_none (by rw [wl_len]; omega), List.getElem?_eq_none (by rw [wl_len]; omega)]
theorem wl_D {cy : Nat → ClassId} {ad : Nat → Nat} {N : Nat} {ph : Phs} {M : Mem} {A : Nat → Prop} (hi : ∀ i j, i < N → j < N → ad i = ad j → i = j) (hA : ∀ i, i < N → A (ad i)) : va_D A (wl cy ad N ph M) := by
  refine ⟨fun i j x y hx hy hxy => ?_, fun k q hq => ?_⟩
  · obtain ⟨h1, rfl⟩ := wl_inv hx
    obtain ⟨h2, rfl⟩ := wl_inv hy
    exact hi i j h1 h2 hxy
  · obtain ⟨h1, rfl⟩ := wl_inv hq
    exact hA k h1
/-! locals -/
def lc (ad : Nat → Nat) : Nat → List (Option AV) → List (Nat × Value)
  | _, [] => []
  | i, none :: t => lc ad (i + 1) t
  | i, some v :: t => (i, cv ad v) :: lc ad (i + 1) t
theorem lc_of {ad : Nat → Nat} {v : AV} : ∀ (ls : List (Option AV)) (i b : Nat), ls[i]? = some (some v) → (b + i, cv ad v) ∈ lc ad b ls
  | [], i, b, h => by simp at h
  | none :: t, 0, b, h => by simp at h
  | none :: t, i + 1, b, h => by
    rw [List.getElem?_cons_succ] at h
    have := lc_of (ad := ad) t i (b + 1) h
    rw [show b + (i + 1) = b + 1 + i by omega]
    exact this
  | some w :: t, 0, b, h => by
    rw [List.getElem?_cons_zero] at h
    cases h
    exact List.mem_cons_self
  | some w :: t, i + 1, b, h => by
    rw [List.getElem?_cons_succ] at h
    have := lc_of (ad := ad) t i (b + 1) h
    rw [show b + (i + 1) = b + 1 + i by omega]
    exact List.mem_cons_of_mem _ this
theorem lc_inv {ad : Nat → Nat} {q : Nat × Value} : ∀ (ls : List (Option AV)) (b : Nat), q ∈ lc ad b ls → ∃ (i : Nat) (v : AV), ls[i]? = some (some v) ∧ q = (b + i, cv ad v)
  | [], b, h => by cases h
  | none :: t, b, h => by
    obtain ⟨i, v, h1, h2⟩ := lc_inv t (b + 1) h
    exact ⟨i + 1, v, by rw [List.getElem?_cons_succ]; exact h1, by rw [h2]; congr 1; omega⟩
  | some w :: t, b, h => by
    rcases List.mem_cons.mp h with rfl | h
    · exact ⟨0, w, rfl, rfl⟩
    · obtain ⟨i, v, h1, h2⟩ := lc_inv t (b + 1) h
      exact ⟨i + 1, v, by rw [List.getElem?_cons_succ]; exact h1, by rw [h2]; congr 1; omega⟩
theorem lc_at {ad : Nat → Nat} {Ls : Array Slot} {n : Nat} {ls : List (Option AV)} (h : lv_has Ls n (lc ad 0 ls)) {i : Nat} {v : AV} (hi : ls[i]? = some (some v)) : Ls[i]? = some (.val (cv ad v)) := by
  have := lc_of (ad := ad) ls i 0 hi
  rw [Nat.zero_add] at this
  exact h.2.2 _ this
/-- not a long -/
def nl (a : Option AV) : Bool := match a with
  | some (.inr (.inl _)) => false
  | _ => true
/-- a one-word value stored -/
theorem lc_st1 {ad : Nat → Nat} {Ls : Array Slot} {n i : Nat} {ls ls' : List (Option AV)} {v : AV} (hv : ct v = 1)
    (h1 : ∀ j w, ls'[j]? = some (some w) → (j = i ∧ w = v) ∨ (j ≠ i ∧ ls[j]? = some (some w) ∧ (j + 1 = i → nl (some w) = true)))
    (h : lv_has Ls n ((i, cv ad v) :: (lc ad 0 ls).filter (fun q => !(q.1 == i) && !(q.1 + 1 == i && q.2.category == 2)))) : lv_has Ls n (lc ad 0 ls') := by
  refine ⟨h.1, h.2.1, fun q hq => ?_⟩
  obtain ⟨j, w, g1, g2⟩ := lc_inv ls' 0 hq
  rw [Nat.zero_add] at g2
  subst g2
  rcases h1 j w g1 with ⟨rfl, rfl⟩ | ⟨g3, g4, g5⟩
  · exact h.2.2 _ List.mem_cons_self
  · refine h.2.2 (j, cv ad w) (List.mem_cons_of_mem _ (List.mem_filter.mpr ⟨?_, ?_⟩))
    · have := lc_of (ad := ad) ls j 0 g4
      rwa [Nat.zero_add] at this
    · by_cases e : j + 1 = i
      · have g6 := g5 e
        have : ct w = 1 := by rcases w with x | x | x <;> first | rfl | (simp [nl] at g6)
        simp [g3, cv_cat, this]
      · simp [g3, e]
theorem lc_st2 {ad : Nat → Nat} {Ls : Array Slot} {n i : Nat} {ls ls' : List (Option AV)} {v : AV} (hv : ct v = 2)
    (h1 : ∀ j w, ls'[j]? = some (some w) → (j = i ∧ w = v) ∨ (j ≠ i ∧ j ≠ i + 1 ∧ ls[j]? = some (some w) ∧ (j + 1 = i → nl (some w) = true)))
    (h : lv_has Ls n ((i, cv ad v) :: (lc ad 0 ls).filter (fun q => !(q.1 == i) && (!(q.1 == i + 1) && !(q.1 + 1 == i && q.2.category == 2))))) : lv_has Ls n (lc ad 0 ls') := by
  refine ⟨h.1, h.2.1, fun q hq => ?_⟩
  obtain ⟨j, w, g1, g2⟩ := lc_inv ls' 0 hq
  rw [Nat.zero_add] at g2
  subst g2
  rcases h1 j w g1 with ⟨rfl, rfl⟩ | ⟨g3, g3', g4, g5⟩
  · exact h.2.2 _ List.mem_cons_self
  · refine h.2.2 (j, cv ad w) (List.mem_cons_of_mem _ (List.mem_filter.mpr ⟨?_, ?_⟩))
    · have := lc_of (ad := ad) ls j 0 g4
      rwa [Nat.zero_add] at this
    · by_cases e : j + 1 = i
      · have g6 := g5 e
        have : ct w = 1 := by rcases w with x | x | x <;> first | rfl | (simp [nl] at g6)
        simp [g3, g3', cv_cat, this]
      · simp [g3, g3', e]
/-! the judgement -/
abbrev KT : Type := Program × Launch × Env × Room × State × MethodId × Array Value × List Frame × Method × Code × va_G × (Nat → ClassId) × (Nat → Prop)
def E (κ : KT) (ad : Nat → Nat) (N : Nat) (ph : Phs) (M : Mem) (pc : Nat) (ls : List (Option AV)) (st : List AV) (cs : Nat × Nat) (Q : State → Prop) : Prop := match κ with
  | (p, l, e, R, s, m, args, below, meth, c, D, cy, A) => (∀ i j, i < N → j < N → ad i = ad j → i = j) → (∀ i, i < N → A (ad i)) → ∀ (H : Heap) (locs : List Loc) (Ls : Array Slot), va_P D vwCl (wl cy ad N ph M) H → va_S A s.heap H locs → lv_has Ls c.maxLocals (lc ad 0 ls) → W p l e R s m args below meth c H locs cs.1 cs.2 Q (F0 m pc Ls (st.map (cv ad)))
/-- nest mates' words and the classes of the two arrays of objects -/
def GX (s : State) : Prop := (∀ w ∈ NWL, va_Nw w s) ∧ va_AO RX1 s ∧ va_AO RX5 s
/-- what stays true inside a method -/
def Ok (κ : KT) (own : String) (cc : ByteArray) (nL : Nat) (rm : Room) : Prop := match κ with
  | (p, l, e, R, s, m, args, below, meth, c, D, cy, A) => p.tables.exec = Jvm.exec ∧ c.code = cc ∧ c.maxLocals = nL ∧ s.vm.findClass own = some m.cls ∧ (∀ w ∈ U, w.before args s = true) ∧ GX s ∧ meth.locks = false ∧ va_K D vwCl (cyl cy) s ∧ R = rm
def Rt (κ : KT) (ret : Option FieldType) : Prop := match κ with
  | (p, l, e, R, s, m, args, below, meth, c, D, cy, A) => meth.sig.returnType = ret


theorem i_lt {x y : Int} (hx : -2147483648 ≤ x ∧ x ≤ 2147483647) (hy : -2147483648 ≤ y ∧ y ≤ 2147483647) : Int32.ofInt x < Int32.ofInt y ↔ x < y := by
  rw [Int32.lt_iff_toInt_lt, Int32.toInt_ofInt_of_le (by omega) (by omega), Int32.toInt_ofInt_of_le (by omega) (by omega)]
theorem i_le {x y : Int} (hx : -2147483648 ≤ x ∧ x ≤ 2147483647) (hy : -2147483648 ≤ y ∧ y ≤ 2147483647) : Int32.ofInt x ≤ Int32.ofInt y ↔ x ≤ y := by
  rw [Int32.le_iff_toInt_le, Int32.toInt_ofInt_of_le (by omega) (by omega), Int32.toInt_ofInt_of_le (by omega) (by omega)]
theorem i_eq {x y : Int} (hx : -2147483648 ≤ x ∧ x ≤ 2147483647) (hy : -2147483648 ≤ y ∧ y ≤ 2147483647) : Int32.ofInt x = Int32.ofInt y ↔ x = y := by
  rw [← Int32.toInt_inj, Int32.toInt_ofInt_of_le (by omega) (by omega), Int32.toInt_ofInt_of_le (by omega) (by omega)]
theorem i_toInt {x : Int} (hx : -2147483648 ≤ x ∧ x ≤ 2147483647) : (Int32.ofInt x).toInt = x := Int32.toInt_ofInt_of_le (by omega) (by omega)
theorem j_toInt {x : Int} (hx : -9223372036854775808 ≤ x ∧ x ≤ 9223372036854775807) : (Int64.ofInt x).toInt = x := Int64.toInt_ofInt_of_le (by omega) (by omega)
theorem i_zero : Int32.ofInt 0 = 0 := rfl
theorem i_in {x : Int} {n : Nat} (hx : 0 ≤ x ∧ x < n) (hn : n ≤ 1000) : vp_in (Int32.ofInt x) n ∧ (Int32.ofInt x).toNatClampNeg = x.toNat := by
  have h := i_toInt (x := x) (by omega)
  have h2 : (Int32.ofInt x).toNatClampNeg = x.toNat := by
    show (Int32.ofInt x).toInt.toNat = _
    rw [h]
  refine ⟨fun q => ?_, h2⟩
  rcases q with q | q
  · rw [Int32.lt_iff_toInt_lt, h, Int32.toInt_zero] at q
    omega
  · rw [h2] at q
    omega

theorem e_iconst {κ : KT} {own : String} {cc : ByteArray} {nL : Nat} {rm : Room} {ad : Nat → Nat} {N : Nat} {ph : Phs} {M : Mem} {pc : Nat} {ls : List (Option AV)} {st : List AV} {cs : Nat × Nat} {Q : State → Prop} (h : Ok κ own cc nL rm) {n : Int} (d : decode cc pc = .ok (.iconst n, 1)) (k : E κ ad N ph M (pc + 1) ls (vi n :: st) cs Q) : E κ ad N ph M pc ls st cs Q := by
  obtain ⟨p, l, e, R, s, m, args, below, meth, c, D, cy, A⟩ := κ
  obtain ⟨hx, hb, hml, hown, hts, hnw, hlk, hK, hR⟩ := h
  intro h1 h2 H locs Ls hP hS hl
  have kk := k h1 h2 H locs Ls hP hS hl
  exact lv_iconst hx hb d rfl kk
theorem e_bipush {κ : KT} {own : String} {cc : ByteArray} {nL : Nat} {rm : Room} {ad : Nat → Nat} {N : Nat} {ph : Phs} {M : Mem} {pc : Nat} {ls : List (Option AV)} {st : List AV} {cs : Nat × Nat} {Q : State → Prop} (h : Ok κ own cc nL rm) {n : Int} (d : decode cc pc = .ok (.bipush n, 2)) (hn : (Int8.ofInt n).toInt32 = Int32.ofInt n) (k : E κ ad N ph M (pc + 2) ls (vi n :: st) cs Q) : E κ ad N ph M pc ls st cs Q := by
  obtain ⟨p, l, e, R, s, m, args, below, meth, c, D, cy, A⟩ := κ
  obtain ⟨hx, hb, hml, hown, hts, hnw, hlk, hK, hR⟩ := h
  intro h1 h2 H locs Ls hP hS hl
  have kk := k h1 h2 H locs Ls hP hS hl
  exact lv_bipush hx hb d hn kk
theorem e_sipush {κ : KT} {own : String} {cc : ByteArray} {nL : Nat} {rm : Room} {ad : Nat → Nat} {N : Nat} {ph : Phs} {M : Mem} {pc : Nat} {ls : List (Option AV)} {st : List AV} {cs : Nat × Nat} {Q : State → Prop} (h : Ok κ own cc nL rm) {n : Int} (d : decode cc pc = .ok (.sipush n, 3)) (hn : (Int16.ofInt n).toInt32 = Int32.ofInt n) (k : E κ ad N ph M (pc + 3) ls (vi n :: st) cs Q) : E κ ad N ph M pc ls st cs Q := by
  obtain ⟨p, l, e, R, s, m, args, below, meth, c, D, cy, A⟩ := κ
  obtain ⟨hx, hb, hml, hown, hts, hnw, hlk, hK, hR⟩ := h
  intro h1 h2 H locs Ls hP hS hl
  have kk := k h1 h2 H locs Ls hP hS hl
  exact lv_sipush hx hb d hn kk
theorem e_lconst {κ : KT} {own : String} {cc : ByteArray} {nL : Nat} {rm : Room} {ad : Nat → Nat} {N : Nat} {ph : Phs} {M : Mem} {pc : Nat} {ls : List (Option AV)} {st : List AV} {cs : Nat × Nat} {Q : State → Prop} (h : Ok κ own cc nL rm) {n : Fin 2} (d : decode cc pc = .ok (.lconst n, 1)) {x : Int} (hn : Int64.ofNat (n : Nat) = Int64.ofInt x) (k : E κ ad N ph M (pc + 1) ls (vj x :: st) cs Q) : E κ ad N ph M pc ls st cs Q := by
  obtain ⟨p, l, e, R, s, m, args, below, meth, c, D, cy, A⟩ := κ
  obtain ⟨hx, hb, hml, hown, hts, hnw, hlk, hK, hR⟩ := h
  intro h1 h2 H locs Ls hP hS hl
  have kk := k h1 h2 H locs Ls hP hS hl
  exact lv_lconst hx hb d hn kk
theorem e_ldc2 {κ : KT} {own : String} {cc : ByteArray} {nL : Nat} {rm : Room} {ad : Nat → Nat} {N : Nat} {ph : Phs} {M : Mem} {pc : Nat} {ls : List (Option AV)} {st : List AV} {cs : Nat × Nat} {Q : State → Prop} (h : Ok κ own cc nL rm) {i : Nat} (d : decode cc pc = .ok (.ldc2_w i, 3)) {v : Int64} {x : Int} (hw : Cond.constantLong own i v ∈ U) (hn : v = Int64.ofInt x) (k : E κ ad N ph M (pc + 3) ls (vj x :: st) cs Q) : E κ ad N ph M pc ls st cs Q := by
  obtain ⟨p, l, e, R, s, m, args, below, meth, c, D, cy, A⟩ := κ
  obtain ⟨hx, hb, hml, hown, hts, hnw, hlk, hK, hR⟩ := h
  intro h1 h2 H locs Ls hP hS hl
  have kk := k h1 h2 H locs Ls hP hS hl
  subst hn
  exact lv_ldc2 hx hb hown (hts _ hw) d kk
theorem e_iload_n {κ : KT} {own : String} {cc : ByteArray} {nL : Nat} {rm : Room} {ad : Nat → Nat} {N : Nat} {ph : Phs} {M : Mem} {pc : Nat} {ls : List (Option AV)} {st : List AV} {cs : Nat × Nat} {Q : State → Prop} (h : Ok κ own cc nL rm) {k0 : Fin 4} (d : decode cc pc = .ok (.iload_n k0, 1)) {x : Int} (hl0 : ls[(k0 : Nat)]? = some (some (vi x))) (k : E κ ad N ph M (pc + 1) ls (vi x :: st) cs Q) : E κ ad N ph M pc ls st cs Q := by
  obtain ⟨p, l, e, R, s, m, args, below, meth, c, D, cy, A⟩ := κ
  obtain ⟨hx, hb, hml, hown, hts, hnw, hlk, hK, hR⟩ := h
  intro h1 h2 H locs Ls hP hS hl
  have kk := k h1 h2 H locs Ls hP hS hl
  exact lv_iload_n hx hb d rfl (lc_at hl hl0) kk
theorem e_iload {κ : KT} {own : String} {cc : ByteArray} {nL : Nat} {rm : Room} {ad : Nat → Nat} {N : Nat} {ph : Phs} {M : Mem} {pc : Nat} {ls : List (Option AV)} {st : List AV} {cs : Nat × Nat} {Q : State → Prop} (h : Ok κ own cc nL rm) {i : Nat} (d : decode cc pc = .ok (.iload i, 2)) {x : Int} (hl0 : ls[i]? = some (some (vi x))) (k : E κ ad N ph M (pc + 2) ls (vi x :: st) cs Q) : E κ ad N ph M pc ls st cs Q := by
  obtain ⟨p, l, e, R, s, m, args, below, meth, c, D, cy, A⟩ := κ
  obtain ⟨hx, hb, hml, hown, hts, hnw, hlk, hK, hR⟩ := h
  intro h1 h2 H locs Ls hP hS hl
  have kk := k h1 h2 H locs Ls hP hS hl
  exact lv_iload hx hb d (lc_at hl hl0) kk
theorem e_lload_n {κ : KT} {own : String} {cc : ByteArray} {nL : Nat} {rm : Room} {ad : Nat → Nat} {N : Nat} {ph : Phs} {M : Mem} {pc : Nat} {ls : List (Option AV)} {st : List AV} {cs : Nat × Nat} {Q : State → Prop} (h : Ok κ own cc nL rm) {k0 : Fin 4} (d : decode cc pc = .ok (.lload_n k0, 1)) {x : Int} (hl0 : ls[(k0 : Nat)]? = some (some (vj x))) (k : E κ ad N ph M (pc + 1) ls (vj x :: st) cs Q) : E κ ad N ph M pc ls st cs Q := by
  obtain ⟨p, l, e, R, s, m, args, below, meth, c, D, cy, A⟩ := κ
  obtain ⟨hx, hb, hml, hown, hts, hnw, hlk, hK, hR⟩ := h
  intro h1 h2 H locs Ls hP hS hl
  have kk := k h1 h2 H locs Ls hP hS hl
  exact lv_lload_n hx hb d rfl (lc_at hl hl0) kk
theorem e_lload {κ : KT} {own : String} {cc : ByteArray} {nL : Nat} {rm : Room} {ad : Nat → Nat} {N : Nat} {ph : Phs} {M : Mem} {pc : Nat} {ls : List (Option AV)} {st : List AV} {cs : Nat × Nat} {Q : State → Prop} (h : Ok κ own cc nL rm) {i : Nat} (d : decode cc pc = .ok (.lload i, 2)) {x : Int} (hl0 : ls[i]? = some (some (vj x))) (k : E κ ad N ph M (pc + 2) ls (vj x :: st) cs Q) : E κ ad N ph M pc ls st cs Q := by
  obtain ⟨p, l, e, R, s, m, args, below, meth, c, D, cy, A⟩ := κ
  obtain ⟨hx, hb, hml, hown, hts, hnw, hlk, hK, hR⟩ := h
  intro h1 h2 H locs Ls hP hS hl
  have kk := k h1 h2 H locs Ls hP hS hl
  exact lv_lload hx hb d (lc_at hl hl0) kk
theorem e_aload_n {κ : KT} {own : String} {cc : ByteArray} {nL : Nat} {rm : Room} {ad : Nat → Nat} {N : Nat} {ph : Phs} {M : Mem} {pc : Nat} {ls : List (Option AV)} {st : List AV} {cs : Nat × Nat} {Q : State → Prop} (h : Ok κ own cc nL rm) {k0 : Fin 4} (d : decode cc pc = .ok (.aload_n k0, 1)) {x : Nat} (hl0 : ls[(k0 : Nat)]? = some (some (vr x))) (k : E κ ad N ph M (pc + 1) ls (vr x :: st) cs Q) : E κ ad N ph M pc ls st cs Q := by
  obtain ⟨p, l, e, R, s, m, args, below, meth, c, D, cy, A⟩ := κ
  obtain ⟨hx, hb, hml, hown, hts, hnw, hlk, hK, hR⟩ := h
  intro h1 h2 H locs Ls hP hS hl
  have kk := k h1 h2 H locs Ls hP hS hl
  exact lv_aload_n hx hb d rfl (lc_at hl hl0) kk
theorem e_aload {κ : KT} {own : String} {cc : ByteArray} {nL : Nat} {rm : Room} {ad : Nat → Nat} {N : Nat} {ph : Phs} {M : Mem} {pc : Nat} {ls : List (Option AV)} {st : List AV} {cs : Nat × Nat} {Q : State → Prop} (h : Ok κ own cc nL rm) {i : Nat} (d : decode cc pc = .ok (.aload i, 2)) {x : Nat} (hl0 : ls[i]? = some (some (vr x))) (k : E κ ad N ph M (pc + 2) ls (vr x :: st) cs Q) : E κ ad N ph M pc ls st cs Q := by
  obtain ⟨p, l, e, R, s, m, args, below, meth, c, D, cy, A⟩ := κ
  obtain ⟨hx, hb, hml, hown, hts, hnw, hlk, hK, hR⟩ := h
  intro h1 h2 H locs Ls hP hS hl
  have kk := k h1 h2 H locs Ls hP hS hl
  exact lv_aload hx hb d (lc_at hl hl0) kk
theorem e_istore_n_g {κ : KT} {own : String} {cc : ByteArray} {nL : Nat} {rm : Room} {ad : Nat → Nat} {N : Nat} {ph : Phs} {M : Mem} {pc : Nat} {ls : List (Option AV)} {st : List AV} {cs : Nat × Nat} {Q : State → Prop} {ls' : List (Option AV)} (h : Ok κ own cc nL rm) {k0 : Fin 4} {i : Nat} (hk : (k0 : Nat) = i) (d : decode cc pc = .ok (.istore_n k0, 1)) {x : Int} (hi : i < nL) (h0 : ∀ j w, ls'[j]? = some (some w) → (j = i ∧ w = vi x) ∨ (j ≠ i ∧ ls[j]? = some (some w) ∧ (j + 1 = i → nl (some w) = true))) (k : E κ ad N ph M (pc + 1) ls' st cs Q) : E κ ad N ph M pc ls (vi x :: st) cs Q := by
  obtain ⟨p, l, e, R, s, m, args, below, meth, c, D, cy, A⟩ := κ
  obtain ⟨hx, hb, hml, hown, hts, hnw, hlk, hK, hR⟩ := h
  intro h1 h2 H locs Ls hP hS hl
  exact lv_istore_n hx hb d hk hl (by rw [hml]; exact hi) rfl (fun Ls' hl' => k h1 h2 H locs Ls' hP hS (lc_st1 (v := vi x) rfl h0 hl'))
theorem e_istore_g {κ : KT} {own : String} {cc : ByteArray} {nL : Nat} {rm : Room} {ad : Nat → Nat} {N : Nat} {ph : Phs} {M : Mem} {pc : Nat} {ls : List (Option AV)} {st : List AV} {cs : Nat × Nat} {Q : State → Prop} {ls' : List (Option AV)} (h : Ok κ own cc nL rm) {i : Nat} (d : decode cc pc = .ok (.istore i, 2)) {x : Int} (hi : i < nL) (h0 : ∀ j w, ls'[j]? = some (some w) → (j = i ∧ w = vi x) ∨ (j ≠ i ∧ ls[j]? = some (some w) ∧ (j + 1 = i → nl (some w) = true))) (k : E κ ad N ph M (pc + 2) ls' st cs Q) : E κ ad N ph M pc ls (vi x :: st) cs Q := by
  obtain ⟨p, l, e, R, s, m, args, below, meth, c, D, cy, A⟩ := κ
  obtain ⟨hx, hb, hml, hown, hts, hnw, hlk, hK, hR⟩ := h
  intro h1 h2 H locs Ls hP hS hl
  exact lv_istore hx hb d hl (by rw [hml]; exact hi) rfl (fun Ls' hl' => k h1 h2 H locs Ls' hP hS (lc_st1 (v := vi x) rfl h0 hl'))
theorem e_astore_n_g {κ : KT} {own : String} {cc : ByteArray} {nL : Nat} {rm : Room} {ad : Nat → Nat} {N : Nat} {ph : Phs} {M : Mem} {pc : Nat} {ls : List (Option AV)} {st : List AV} {cs : Nat × Nat} {Q : State → Prop} {ls' : List (Option AV)} (h : Ok κ own cc nL rm) {k0 : Fin 4} {i : Nat} (hk : (k0 : Nat) = i) (d : decode cc pc = .ok (.astore_n k0, 1)) {x : Nat} (hi : i < nL) (h0 : ∀ j w, ls'[j]? = some (some w) → (j = i ∧ w = vr x) ∨ (j ≠ i ∧ ls[j]? = some (some w) ∧ (j + 1 = i → nl (some w) = true))) (k : E κ ad N ph M (pc + 1) ls' st cs Q) : E κ ad N ph M pc ls (vr x :: st) cs Q := by
  obtain ⟨p, l, e, R, s, m, args, below, meth, c, D, cy, A⟩ := κ
  obtain ⟨hx, hb, hml, hown, hts, hnw, hlk, hK, hR⟩ := h
  intro h1 h2 H locs Ls hP hS hl
  exact lv_astore_n hx hb d hk hl (by rw [hml]; exact hi) rfl (fun Ls' hl' => k h1 h2 H locs Ls' hP hS (lc_st1 (v := vr x) rfl h0 hl'))
theorem e_astore_g {κ : KT} {own : String} {cc : ByteArray} {nL : Nat} {rm : Room} {ad : Nat → Nat} {N : Nat} {ph : Phs} {M : Mem} {pc : Nat} {ls : List (Option AV)} {st : List AV} {cs : Nat × Nat} {Q : State → Prop} {ls' : List (Option AV)} (h : Ok κ own cc nL rm) {i : Nat} (d : decode cc pc = .ok (.astore i, 2)) {x : Nat} (hi : i < nL) (h0 : ∀ j w, ls'[j]? = some (some w) → (j = i ∧ w = vr x) ∨ (j ≠ i ∧ ls[j]? = some (some w) ∧ (j + 1 = i → nl (some w) = true))) (k : E κ ad N ph M (pc + 2) ls' st cs Q) : E κ ad N ph M pc ls (vr x :: st) cs Q := by
  obtain ⟨p, l, e, R, s, m, args, below, meth, c, D, cy, A⟩ := κ
  obtain ⟨hx, hb, hml, hown, hts, hnw, hlk, hK, hR⟩ := h
  intro h1 h2 H locs Ls hP hS hl
  exact lv_astore hx hb d hl (by rw [hml]; exact hi) rfl (fun Ls' hl' => k h1 h2 H locs Ls' hP hS (lc_st1 (v := vr x) rfl h0 hl'))
theorem e_lstore_n_g {κ : KT} {own : String} {cc : ByteArray} {nL : Nat} {rm : Room} {ad : Nat → Nat} {N : Nat} {ph : Phs} {M : Mem} {pc : Nat} {ls : List (Option AV)} {st : List AV} {cs : Nat × Nat} {Q : State → Prop} {ls' : List (Option AV)} (h : Ok κ own cc nL rm) {k0 : Fin 4} {i : Nat} (hk : (k0 : Nat) = i) (d : decode cc pc = .ok (.lstore_n k0, 1)) {x : Int} (hi : i + 1 < nL) (h0 : ∀ j w, ls'[j]? = some (some w) → (j = i ∧ w = vj x) ∨ (j ≠ i ∧ j ≠ i + 1 ∧ ls[j]? = some (some w) ∧ (j + 1 = i → nl (some w) = true))) (k : E κ ad N ph M (pc + 1) ls' st cs Q) : E κ ad N ph M pc ls (vj x :: st) cs Q := by
  obtain ⟨p, l, e, R, s, m, args, below, meth, c, D, cy, A⟩ := κ
  obtain ⟨hx, hb, hml, hown, hts, hnw, hlk, hK, hR⟩ := h
  intro h1 h2 H locs Ls hP hS hl
  exact lv_lstore_n hx hb d hk hl (by rw [hml]; exact hi) rfl (fun Ls' hl' => k h1 h2 H locs Ls' hP hS (lc_st2 (v := vj x) rfl h0 hl'))
theorem e_lstore_g {κ : KT} {own : String} {cc : ByteArray} {nL : Nat} {rm : Room} {ad : Nat → Nat} {N : Nat} {ph : Phs} {M : Mem} {pc : Nat} {ls : List (Option AV)} {st : List AV} {cs : Nat × Nat} {Q : State → Prop} {ls' : List (Option AV)} (h : Ok κ own cc nL rm) {i : Nat} (d : decode cc pc = .ok (.lstore i, 2)) {x : Int} (hi : i + 1 < nL) (h0 : ∀ j w, ls'[j]? = some (some w) → (j = i ∧ w = vj x) ∨ (j ≠ i ∧ j ≠ i + 1 ∧ ls[j]? = some (some w) ∧ (j + 1 = i → nl (some w) = true))) (k : E κ ad N ph M (pc + 2) ls' st cs Q) : E κ ad N ph M pc ls (vj x :: st) cs Q := by
  obtain ⟨p, l, e, R, s, m, args, below, meth, c, D, cy, A⟩ := κ
  obtain ⟨hx, hb, hml, hown, hts, hnw, hlk, hK, hR⟩ := h
  intro h1 h2 H locs Ls hP hS hl
  exact lv_lstore hx hb d hl (by rw [hml]; exact hi) rfl (fun Ls' hl' => k h1 h2 H locs Ls' hP hS (lc_st2 (v := vj x) rfl h0 hl'))
theorem e_istore0 {κ : KT} {own : String} {cc : ByteArray} {nL : Nat} {rm : Room} {ad : Nat → Nat} {N : Nat} {ph : Phs} {M : Mem} {pc : Nat} {st : List AV} {cs : Nat × Nat} {Q : State → Prop} {z : Option AV} {t : List (Option AV)} (h : Ok κ own cc nL rm) (d : decode cc pc = .ok (.istore_n 0, 1)) {x : Int} (hi : 0 < nL)  (k : E κ ad N ph M (pc + 1) (some (vi x) :: t) st cs Q) : E κ ad N ph M pc (z :: t) (vi x :: st) cs Q :=
  e_istore_n_g h (k0 := 0) (i := 0) rfl d hi (fun j w hj => by
    match j, hj with
    | 0, hj => exact Or.inl ⟨rfl, (Option.some.inj (Option.some.inj hj)).symm⟩
    | q + 1, hj => exact Or.inr ⟨by omega, hj, fun z => absurd z (by omega)⟩) k
theorem e_istore1 {κ : KT} {own : String} {cc : ByteArray} {nL : Nat} {rm : Room} {ad : Nat → Nat} {N : Nat} {ph : Phs} {M : Mem} {pc : Nat} {st : List AV} {cs : Nat × Nat} {Q : State → Prop} {a z : Option AV} {t : List (Option AV)} (h : Ok κ own cc nL rm) (d : decode cc pc = .ok (.istore_n 1, 1)) {x : Int} (hi : 1 < nL) (hnl : nl a = true) (k : E κ ad N ph M (pc + 1) (a :: some (vi x) :: t) st cs Q) : E κ ad N ph M pc (a :: z :: t) (vi x :: st) cs Q :=
  e_istore_n_g h (k0 := 1) (i := 1) rfl d hi (fun j w hj => by
    match j, hj with
    | 0, hj => exact Or.inr ⟨by decide, hj, fun _ => by have e := Option.some.inj hj; rw [← e]; exact hnl⟩
    | 1, hj => exact Or.inl ⟨rfl, (Option.some.inj (Option.some.inj hj)).symm⟩
    | q + 2, hj => exact Or.inr ⟨by omega, hj, fun z => absurd z (by omega)⟩) k
theorem e_istore2 {κ : KT} {own : String} {cc : ByteArray} {nL : Nat} {rm : Room} {ad : Nat → Nat} {N : Nat} {ph : Phs} {M : Mem} {pc : Nat} {st : List AV} {cs : Nat × Nat} {Q : State → Prop} {a b z : Option AV} {t : List (Option AV)} (h : Ok κ own cc nL rm) (d : decode cc pc = .ok (.istore_n 2, 1)) {x : Int} (hi : 2 < nL) (hnl : nl b = true) (k : E κ ad N ph M (pc + 1) (a :: b :: some (vi x) :: t) st cs Q) : E κ ad N ph M pc (a :: b :: z :: t) (vi x :: st) cs Q :=
  e_istore_n_g h (k0 := 2) (i := 2) rfl d hi (fun j w hj => by
    match j, hj with
    | 0, hj => exact Or.inr ⟨by decide, hj, fun q => absurd q (by decide)⟩
    | 1, hj => exact Or.inr ⟨by decide, hj, fun _ => by have e := Option.some.inj hj; rw [← e]; exact hnl⟩
    | 2, hj => exact Or.inl ⟨rfl, (Option.some.inj (Option.some.inj hj)).symm⟩
    | q + 3, hj => exact Or.inr ⟨by omega, hj, fun z => absurd z (by omega)⟩) k
theorem e_istore3 {κ : KT} {own : String} {cc : ByteArray} {nL : Nat} {rm : Room} {ad : Nat → Nat} {N : Nat} {ph : Phs} {M : Mem} {pc : Nat} {st : List AV} {cs : Nat × Nat} {Q : State → Prop} {a b c z : Option AV} {t : List (Option AV)} (h : Ok κ own cc nL rm) (d : decode cc pc = .ok (.istore_n 3, 1)) {x : Int} (hi : 3 < nL) (hnl : nl c = true) (k : E κ ad N ph M (pc + 1) (a :: b :: c :: some (vi x) :: t) st cs Q) : E κ ad N ph M pc (a :: b :: c :: z :: t) (vi x :: st) cs Q :=
  e_istore_n_g h (k0 := 3) (i := 3) rfl d hi (fun j w hj => by
    match j, hj with
    | 0, hj => exact Or.inr ⟨by decide, hj, fun q => absurd q (by decide)⟩
    | 1, hj => exact Or.inr ⟨by decide, hj, fun q => absurd q (by decide)⟩
    | 2, hj => exact Or.inr ⟨by decide, hj, fun _ => by have e := Option.some.inj hj; rw [← e]; exact hnl⟩
    | 3, hj => exact Or.inl ⟨rfl, (Option.some.inj (Option.some.inj hj)).symm⟩
    | q + 4, hj => exact Or.inr ⟨by omega, hj, fun z => absurd z (by omega)⟩) k
theorem e_istore4 {κ : KT} {own : String} {cc : ByteArray} {nL : Nat} {rm : Room} {ad : Nat → Nat} {N : Nat} {ph : Phs} {M : Mem} {pc : Nat} {st : List AV} {cs : Nat × Nat} {Q : State → Prop} {a b c d0 z : Option AV} {t : List (Option AV)} (h : Ok κ own cc nL rm) (d : decode cc pc = .ok (.istore 4, 2)) {x : Int} (hi : 4 < nL) (hnl : nl d0 = true) (k : E κ ad N ph M (pc + 2) (a :: b :: c :: d0 :: some (vi x) :: t) st cs Q) : E κ ad N ph M pc (a :: b :: c :: d0 :: z :: t) (vi x :: st) cs Q :=
  e_istore_g h (i := 4) d hi (fun j w hj => by
    match j, hj with
    | 0, hj => exact Or.inr ⟨by decide, hj, fun q => absurd q (by decide)⟩
    | 1, hj => exact Or.inr ⟨by decide, hj, fun q => absurd q (by decide)⟩
    | 2, hj => exact Or.inr ⟨by decide, hj, fun q => absurd q (by decide)⟩
    | 3, hj => exact Or.inr ⟨by decide, hj, fun _ => by have e := Option.some.inj hj; rw [← e]; exact hnl⟩
    | 4, hj => exact Or.inl ⟨rfl, (Option.some.inj (Option.some.inj hj)).symm⟩
    | q + 5, hj => exact Or.inr ⟨by omega, hj, fun z => absurd z (by omega)⟩) k
theorem e_istore5 {κ : KT} {own : String} {cc : ByteArray} {nL : Nat} {rm : Room} {ad : Nat → Nat} {N : Nat} {ph : Phs} {M : Mem} {pc : Nat} {st : List AV} {cs : Nat × Nat} {Q : State → Prop} {a b c d0 e0 z : Option AV} {t : List (Option AV)} (h : Ok κ own cc nL rm) (d : decode cc pc = .ok (.istore 5, 2)) {x : Int} (hi : 5 < nL) (hnl : nl e0 = true) (k : E κ ad N ph M (pc + 2) (a :: b :: c :: d0 :: e0 :: some (vi x) :: t) st cs Q) : E κ ad N ph M pc (a :: b :: c :: d0 :: e0 :: z :: t) (vi x :: st) cs Q :=
  e_istore_g h (i := 5) d hi (fun j w hj => by
    match j, hj with
    | 0, hj => exact Or.inr ⟨by decide, hj, fun q => absurd q (by decide)⟩
    | 1, hj => exact Or.inr ⟨by decide, hj, fun q => absurd q (by decide)⟩
    | 2, hj => exact Or.inr ⟨by decide, hj, fun q => absurd q (by decide)⟩
    | 3, hj => exact Or.inr ⟨by decide, hj, fun q => absurd q (by decide)⟩
    | 4, hj => exact Or.inr ⟨by decide, hj, fun _ => by have e := Option.some.inj hj; rw [← e]; exact hnl⟩
    | 5, hj => exact Or.inl ⟨rfl, (Option.some.inj (Option.some.inj hj)).symm⟩
    | q + 6, hj => exact Or.inr ⟨by omega, hj, fun z => absurd z (by omega)⟩) k
theorem e_istore6 {κ : KT} {own : String} {cc : ByteArray} {nL : Nat} {rm : Room} {ad : Nat → Nat} {N : Nat} {ph : Phs} {M : Mem} {pc : Nat} {st : List AV} {cs : Nat × Nat} {Q : State → Prop} {a b c d0 e0 f0 z : Option AV} {t : List (Option AV)} (h : Ok κ own cc nL rm) (d : decode cc pc = .ok (.istore 6, 2)) {x : Int} (hi : 6 < nL) (hnl : nl f0 = true) (k : E κ ad N ph M (pc + 2) (a :: b :: c :: d0 :: e0 :: f0 :: some (vi x) :: t) st cs Q) : E κ ad N ph M pc (a :: b :: c :: d0 :: e0 :: f0 :: z :: t) (vi x :: st) cs Q :=
  e_istore_g h (i := 6) d hi (fun j w hj => by
    match j, hj with
    | 0, hj => exact Or.inr ⟨by decide, hj, fun q => absurd q (by decide)⟩
    | 1, hj => exact Or.inr ⟨by decide, hj, fun q => absurd q (by decide)⟩
    | 2, hj => exact Or.inr ⟨by decide, hj, fun q => absurd q (by decide)⟩
    | 3, hj => exact Or.inr ⟨by decide, hj, fun q => absurd q (by decide)⟩
    | 4, hj => exact Or.inr ⟨by decide, hj, fun q => absurd q (by decide)⟩
    | 5, hj => exact Or.inr ⟨by decide, hj, fun _ => by have e := Option.some.inj hj; rw [← e]; exact hnl⟩
    | 6, hj => exact Or.inl ⟨rfl, (Option.some.inj (Option.some.inj hj)).symm⟩
    | q + 7, hj => exact Or.inr ⟨by omega, hj, fun z => absurd z (by omega)⟩) k
theorem e_istore7 {κ : KT} {own : String} {cc : ByteArray} {nL : Nat} {rm : Room} {ad : Nat → Nat} {N : Nat} {ph : Phs} {M : Mem} {pc : Nat} {st : List AV} {cs : Nat × Nat} {Q : State → Prop} {a b c d0 e0 f0 g0 z : Option AV} {t : List (Option AV)} (h : Ok κ own cc nL rm) (d : decode cc pc = .ok (.istore 7, 2)) {x : Int} (hi : 7 < nL) (hnl : nl g0 = true) (k : E κ ad N ph M (pc + 2) (a :: b :: c :: d0 :: e0 :: f0 :: g0 :: some (vi x) :: t) st cs Q) : E κ ad N ph M pc (a :: b :: c :: d0 :: e0 :: f0 :: g0 :: z :: t) (vi x :: st) cs Q :=
  e_istore_g h (i := 7) d hi (fun j w hj => by
    match j, hj with
    | 0, hj => exact Or.inr ⟨by decide, hj, fun q => absurd q (by decide)⟩
    | 1, hj => exact Or.inr ⟨by decide, hj, fun q => absurd q (by decide)⟩
    | 2, hj => exact Or.inr ⟨by decide, hj, fun q => absurd q (by decide)⟩
    | 3, hj => exact Or.inr ⟨by decide, hj, fun q => absurd q (by decide)⟩
    | 4, hj => exact Or.inr ⟨by decide, hj, fun q => absurd q (by decide)⟩
    | 5, hj => exact Or.inr ⟨by decide, hj, fun q => absurd q (by decide)⟩
    | 6, hj => exact Or.inr ⟨by decide, hj, fun _ => by have e := Option.some.inj hj; rw [← e]; exact hnl⟩
    | 7, hj => exact Or.inl ⟨rfl, (Option.some.inj (Option.some.inj hj)).symm⟩
    | q + 8, hj => exact Or.inr ⟨by omega, hj, fun z => absurd z (by omega)⟩) k
theorem e_istore8 {κ : KT} {own : String} {cc : ByteArray} {nL : Nat} {rm : Room} {ad : Nat → Nat} {N : Nat} {ph : Phs} {M : Mem} {pc : Nat} {st : List AV} {cs : Nat × Nat} {Q : State → Prop} {a b c d0 e0 f0 g0 h0 z : Option AV} {t : List (Option AV)} (h : Ok κ own cc nL rm) (d : decode cc pc = .ok (.istore 8, 2)) {x : Int} (hi : 8 < nL) (hnl : nl h0 = true) (k : E κ ad N ph M (pc + 2) (a :: b :: c :: d0 :: e0 :: f0 :: g0 :: h0 :: some (vi x) :: t) st cs Q) : E κ ad N ph M pc (a :: b :: c :: d0 :: e0 :: f0 :: g0 :: h0 :: z :: t) (vi x :: st) cs Q :=
  e_istore_g h (i := 8) d hi (fun j w hj => by
    match j, hj with
    | 0, hj => exact Or.inr ⟨by decide, hj, fun q => absurd q (by decide)⟩
    | 1, hj => exact Or.inr ⟨by decide, hj, fun q => absurd q (by decide)⟩
    | 2, hj => exact Or.inr ⟨by decide, hj, fun q => absurd q (by decide)⟩
    | 3, hj => exact Or.inr ⟨by decide, hj, fun q => absurd q (by decide)⟩
    | 4, hj => exact Or.inr ⟨by decide, hj, fun q => absurd q (by decide)⟩
    | 5, hj => exact Or.inr ⟨by decide, hj, fun q => absurd q (by decide)⟩
    | 6, hj => exact Or.inr ⟨by decide, hj, fun q => absurd q (by decide)⟩
    | 7, hj => exact Or.inr ⟨by decide, hj, fun _ => by have e := Option.some.inj hj; rw [← e]; exact hnl⟩
    | 8, hj => exact Or.inl ⟨rfl, (Option.some.inj (Option.some.inj hj)).symm⟩
    | q + 9, hj => exact Or.inr ⟨by omega, hj, fun z => absurd z (by omega)⟩) k
theorem e_istore9 {κ : KT} {own : String} {cc : ByteArray} {nL : Nat} {rm : Room} {ad : Nat → Nat} {N : Nat} {ph : Phs} {M : Mem} {pc : Nat} {st : List AV} {cs : Nat × Nat} {Q : State → Prop} {a b c d0 e0 f0 g0 h0 i0 z : Option AV} {t : List (Option AV)} (h : Ok κ own cc nL rm) (d : decode cc pc = .ok (.istore 9, 2)) {x : Int} (hi : 9 < nL) (hnl : nl i0 = true) (k : E κ ad N ph M (pc + 2) (a :: b :: c :: d0 :: e0 :: f0 :: g0 :: h0 :: i0 :: some (vi x) :: t) st cs Q) : E κ ad N ph M pc (a :: b :: c :: d0 :: e0 :: f0 :: g0 :: h0 :: i0 :: z :: t) (vi x :: st) cs Q :=
  e_istore_g h (i := 9) d hi (fun j w hj => by
    match j, hj with
    | 0, hj => exact Or.inr ⟨by decide, hj, fun q => absurd q (by decide)⟩
    | 1, hj => exact Or.inr ⟨by decide, hj, fun q => absurd q (by decide)⟩
    | 2, hj => exact Or.inr ⟨by decide, hj, fun q => absurd q (by decide)⟩
    | 3, hj => exact Or.inr ⟨by decide, hj, fun q => absurd q (by decide)⟩
    | 4, hj => exact Or.inr ⟨by decide, hj, fun q => absurd q (by decide)⟩
    | 5, hj => exact Or.inr ⟨by decide, hj, fun q => absurd q (by decide)⟩
    | 6, hj => exact Or.inr ⟨by decide, hj, fun q => absurd q (by decide)⟩
    | 7, hj => exact Or.inr ⟨by decide, hj, fun q => absurd q (by decide)⟩
    | 8, hj => exact Or.inr ⟨by decide, hj, fun _ => by have e := Option.some.inj hj; rw [← e]; exact hnl⟩
    | 9, hj => exact Or.inl ⟨rfl, (Option.some.inj (Option.some.inj hj)).symm⟩
    | q + 10, hj => exact Or.inr ⟨by omega, hj, fun z => absurd z (by omega)⟩) k
theorem e_istore10 {κ : KT} {own : String} {cc : ByteArray} {nL : Nat} {rm : Room} {ad : Nat → Nat} {N : Nat} {ph : Phs} {M : Mem} {pc : Nat} {st : List AV} {cs : Nat × Nat} {Q : State → Prop} {a b c d0 e0 f0 g0 h0 i0 j0 z : Option AV} {t : List (Option AV)} (h : Ok κ own cc nL rm) (d : decode cc pc = .ok (.istore 10, 2)) {x : Int} (hi : 10 < nL) (hnl : nl j0 = true) (k : E κ ad N ph M (pc + 2) (a :: b :: c :: d0 :: e0 :: f0 :: g0 :: h0 :: i0 :: j0 :: some (vi x) :: t) st cs Q) : E κ ad N ph M pc (a :: b :: c :: d0 :: e0 :: f0 :: g0 :: h0 :: i0 :: j0 :: z :: t) (vi x :: st) cs Q :=
  e_istore_g h (i := 10) d hi (fun j w hj => by
    match j, hj with
    | 0, hj => exact Or.inr ⟨by decide, hj, fun q => absurd q (by decide)⟩
    | 1, hj => exact Or.inr ⟨by decide, hj, fun q => absurd q (by decide)⟩
    | 2, hj => exact Or.inr ⟨by decide, hj, fun q => absurd q (by decide)⟩
    | 3, hj => exact Or.inr ⟨by decide, hj, fun q => absurd q (by decide)⟩
    | 4, hj => exact Or.inr ⟨by decide, hj, fun q => absurd q (by decide)⟩
    | 5, hj => exact Or.inr ⟨by decide, hj, fun q => absurd q (by decide)⟩
    | 6, hj => exact Or.inr ⟨by decide, hj, fun q => absurd q (by decide)⟩
    | 7, hj => exact Or.inr ⟨by decide, hj, fun q => absurd q (by decide)⟩
    | 8, hj => exact Or.inr ⟨by decide, hj, fun q => absurd q (by decide)⟩
    | 9, hj => exact Or.inr ⟨by decide, hj, fun _ => by have e := Option.some.inj hj; rw [← e]; exact hnl⟩
    | 10, hj => exact Or.inl ⟨rfl, (Option.some.inj (Option.some.inj hj)).symm⟩
    | q + 11, hj => exact Or.inr ⟨by omega, hj, fun z => absurd z (by omega)⟩) k
theorem e_istore11 {κ : KT} {own : String} {cc : ByteArray} {nL : Nat} {rm : Room} {ad : Nat → Nat} {N : Nat} {ph : Phs} {M : Mem} {pc : Nat} {st : List AV} {cs : Nat × Nat} {Q : State → Prop} {a b c d0 e0 f0 g0 h0 i0 j0 k1 z : Option AV} {t : List (Option AV)} (h : Ok κ own cc nL rm) (d : decode cc pc = .ok (.istore 11, 2)) {x : Int} (hi : 11 < nL) (hnl : nl k1 = true) (k : E κ ad N ph M (pc + 2) (a :: b :: c :: d0 :: e0 :: f0 :: g0 :: h0 :: i0 :: j0 :: k1 :: some (vi x) :: t) st cs Q) : E κ ad N ph M pc (a :: b :: c :: d0 :: e0 :: f0 :: g0 :: h0 :: i0 :: j0 :: k1 :: z :: t) (vi x :: st) cs Q :=
  e_istore_g h (i := 11) d hi (fun j w hj => by
    match j, hj with
    | 0, hj => exact Or.inr ⟨by decide, hj, fun q => absurd q (by decide)⟩
    | 1, hj => exact Or.inr ⟨by decide, hj, fun q => absurd q (by decide)⟩
    | 2, hj => exact Or.inr ⟨by decide, hj, fun q => absurd q (by decide)⟩
    | 3, hj => exact Or.inr ⟨by decide, hj, fun q => absurd q (by decide)⟩
    | 4, hj => exact Or.inr ⟨by decide, hj, fun q => absurd q (by decide)⟩
    | 5, hj => exact Or.inr ⟨by decide, hj, fun q => absurd q (by decide)⟩
    | 6, hj => exact Or.inr ⟨by decide, hj, fun q => absurd q (by decide)⟩
    | 7, hj => exact Or.inr ⟨by decide, hj, fun q => absurd q (by decide)⟩
    | 8, hj => exact Or.inr ⟨by decide, hj, fun q => absurd q (by decide)⟩
    | 9, hj => exact Or.inr ⟨by decide, hj, fun q => absurd q (by decide)⟩
    | 10, hj => exact Or.inr ⟨by decide, hj, fun _ => by have e := Option.some.inj hj; rw [← e]; exact hnl⟩
    | 11, hj => exact Or.inl ⟨rfl, (Option.some.inj (Option.some.inj hj)).symm⟩
    | q + 12, hj => exact Or.inr ⟨by omega, hj, fun z => absurd z (by omega)⟩) k
theorem e_astore0 {κ : KT} {own : String} {cc : ByteArray} {nL : Nat} {rm : Room} {ad : Nat → Nat} {N : Nat} {ph : Phs} {M : Mem} {pc : Nat} {st : List AV} {cs : Nat × Nat} {Q : State → Prop} {z : Option AV} {t : List (Option AV)} (h : Ok κ own cc nL rm) (d : decode cc pc = .ok (.astore_n 0, 1)) {x : Nat} (hi : 0 < nL)  (k : E κ ad N ph M (pc + 1) (some (vr x) :: t) st cs Q) : E κ ad N ph M pc (z :: t) (vr x :: st) cs Q :=
  e_astore_n_g h (k0 := 0) (i := 0) rfl d hi (fun j w hj => by
    match j, hj with
    | 0, hj => exact Or.inl ⟨rfl, (Option.some.inj (Option.some.inj hj)).symm⟩
    | q + 1, hj => exact Or.inr ⟨by omega, hj, fun z => absurd z (by omega)⟩) k
theorem e_astore1 {κ : KT} {own : String} {cc : ByteArray} {nL : Nat} {rm : Room} {ad : Nat → Nat} {N : Nat} {ph : Phs} {M : Mem} {pc : Nat} {st : List AV} {cs : Nat × Nat} {Q : State → Prop} {a z : Option AV} {t : List (Option AV)} (h : Ok κ own cc nL rm) (d : decode cc pc = .ok (.astore_n 1, 1)) {x : Nat} (hi : 1 < nL) (hnl : nl a = true) (k : E κ ad N ph M (pc + 1) (a :: some (vr x) :: t) st cs Q) : E κ ad N ph M pc (a :: z :: t) (vr x :: st) cs Q :=
  e_astore_n_g h (k0 := 1) (i := 1) rfl d hi (fun j w hj => by
    match j, hj with
    | 0, hj => exact Or.inr ⟨by decide, hj, fun _ => by have e := Option.some.inj hj; rw [← e]; exact hnl⟩
    | 1, hj => exact Or.inl ⟨rfl, (Option.some.inj (Option.some.inj hj)).symm⟩
    | q + 2, hj => exact Or.inr ⟨by omega, hj, fun z => absurd z (by omega)⟩) k
theorem e_astore2 {κ : KT} {own : String} {cc : ByteArray} {nL : Nat} {rm : Room} {ad : Nat → Nat} {N : Nat} {ph : Phs} {M : Mem} {pc : Nat} {st : List AV} {cs : Nat × Nat} {Q : State → Prop} {a b z : Option AV} {t : List (Option AV)} (h : Ok κ own cc nL rm) (d : decode cc pc = .ok (.astore_n 2, 1)) {x : Nat} (hi : 2 < nL) (hnl : nl b = true) (k : E κ ad N ph M (pc + 1) (a :: b :: some (vr x) :: t) st cs Q) : E κ ad N ph M pc (a :: b :: z :: t) (vr x :: st) cs Q :=
  e_astore_n_g h (k0 := 2) (i := 2) rfl d hi (fun j w hj => by
    match j, hj with
    | 0, hj => exact Or.inr ⟨by decide, hj, fun q => absurd q (by decide)⟩
    | 1, hj => exact Or.inr ⟨by decide, hj, fun _ => by have e := Option.some.inj hj; rw [← e]; exact hnl⟩
    | 2, hj => exact Or.inl ⟨rfl, (Option.some.inj (Option.some.inj hj)).symm⟩
    | q + 3, hj => exact Or.inr ⟨by omega, hj, fun z => absurd z (by omega)⟩) k
theorem e_astore3 {κ : KT} {own : String} {cc : ByteArray} {nL : Nat} {rm : Room} {ad : Nat → Nat} {N : Nat} {ph : Phs} {M : Mem} {pc : Nat} {st : List AV} {cs : Nat × Nat} {Q : State → Prop} {a b c z : Option AV} {t : List (Option AV)} (h : Ok κ own cc nL rm) (d : decode cc pc = .ok (.astore_n 3, 1)) {x : Nat} (hi : 3 < nL) (hnl : nl c = true) (k : E κ ad N ph M (pc + 1) (a :: b :: c :: some (vr x) :: t) st cs Q) : E κ ad N ph M pc (a :: b :: c :: z :: t) (vr x :: st) cs Q :=
  e_astore_n_g h (k0 := 3) (i := 3) rfl d hi (fun j w hj => by
    match j, hj with
    | 0, hj => exact Or.inr ⟨by decide, hj, fun q => absurd q (by decide)⟩
    | 1, hj => exact Or.inr ⟨by decide, hj, fun q => absurd q (by decide)⟩
    | 2, hj => exact Or.inr ⟨by decide, hj, fun _ => by have e := Option.some.inj hj; rw [← e]; exact hnl⟩
    | 3, hj => exact Or.inl ⟨rfl, (Option.some.inj (Option.some.inj hj)).symm⟩
    | q + 4, hj => exact Or.inr ⟨by omega, hj, fun z => absurd z (by omega)⟩) k
theorem e_astore4 {κ : KT} {own : String} {cc : ByteArray} {nL : Nat} {rm : Room} {ad : Nat → Nat} {N : Nat} {ph : Phs} {M : Mem} {pc : Nat} {st : List AV} {cs : Nat × Nat} {Q : State → Prop} {a b c d0 z : Option AV} {t : List (Option AV)} (h : Ok κ own cc nL rm) (d : decode cc pc = .ok (.astore 4, 2)) {x : Nat} (hi : 4 < nL) (hnl : nl d0 = true) (k : E κ ad N ph M (pc + 2) (a :: b :: c :: d0 :: some (vr x) :: t) st cs Q) : E κ ad N ph M pc (a :: b :: c :: d0 :: z :: t) (vr x :: st) cs Q :=
  e_astore_g h (i := 4) d hi (fun j w hj => by
    match j, hj with
    | 0, hj => exact Or.inr ⟨by decide, hj, fun q => absurd q (by decide)⟩
    | 1, hj => exact Or.inr ⟨by decide, hj, fun q => absurd q (by decide)⟩
    | 2, hj => exact Or.inr ⟨by decide, hj, fun q => absurd q (by decide)⟩
    | 3, hj => exact Or.inr ⟨by decide, hj, fun _ => by have e := Option.some.inj hj; rw [← e]; exact hnl⟩
    | 4, hj => exact Or.inl ⟨rfl, (Option.some.inj (Option.some.inj hj)).symm⟩
    | q + 5, hj => exact Or.inr ⟨by omega, hj, fun z => absurd z (by omega)⟩) k
theorem e_astore5 {κ : KT} {own : String} {cc : ByteArray} {nL : Nat} {rm : Room} {ad : Nat → Nat} {N : Nat} {ph : Phs} {M : Mem} {pc : Nat} {st : List AV} {cs : Nat × Nat} {Q : State → Prop} {a b c d0 e0 z : Option AV} {t : List (Option AV)} (h : Ok κ own cc nL rm) (d : decode cc pc = .ok (.astore 5, 2)) {x : Nat} (hi : 5 < nL) (hnl : nl e0 = true) (k : E κ ad N ph M (pc + 2) (a :: b :: c :: d0 :: e0 :: some (vr x) :: t) st cs Q) : E κ ad N ph M pc (a :: b :: c :: d0 :: e0 :: z :: t) (vr x :: st) cs Q :=
  e_astore_g h (i := 5) d hi (fun j w hj => by
    match j, hj with
    | 0, hj => exact Or.inr ⟨by decide, hj, fun q => absurd q (by decide)⟩
    | 1, hj => exact Or.inr ⟨by decide, hj, fun q => absurd q (by decide)⟩
    | 2, hj => exact Or.inr ⟨by decide, hj, fun q => absurd q (by decide)⟩
    | 3, hj => exact Or.inr ⟨by decide, hj, fun q => absurd q (by decide)⟩
    | 4, hj => exact Or.inr ⟨by decide, hj, fun _ => by have e := Option.some.inj hj; rw [← e]; exact hnl⟩
    | 5, hj => exact Or.inl ⟨rfl, (Option.some.inj (Option.some.inj hj)).symm⟩
    | q + 6, hj => exact Or.inr ⟨by omega, hj, fun z => absurd z (by omega)⟩) k
theorem e_astore6 {κ : KT} {own : String} {cc : ByteArray} {nL : Nat} {rm : Room} {ad : Nat → Nat} {N : Nat} {ph : Phs} {M : Mem} {pc : Nat} {st : List AV} {cs : Nat × Nat} {Q : State → Prop} {a b c d0 e0 f0 z : Option AV} {t : List (Option AV)} (h : Ok κ own cc nL rm) (d : decode cc pc = .ok (.astore 6, 2)) {x : Nat} (hi : 6 < nL) (hnl : nl f0 = true) (k : E κ ad N ph M (pc + 2) (a :: b :: c :: d0 :: e0 :: f0 :: some (vr x) :: t) st cs Q) : E κ ad N ph M pc (a :: b :: c :: d0 :: e0 :: f0 :: z :: t) (vr x :: st) cs Q :=
  e_astore_g h (i := 6) d hi (fun j w hj => by
    match j, hj with
    | 0, hj => exact Or.inr ⟨by decide, hj, fun q => absurd q (by decide)⟩
    | 1, hj => exact Or.inr ⟨by decide, hj, fun q => absurd q (by decide)⟩
    | 2, hj => exact Or.inr ⟨by decide, hj, fun q => absurd q (by decide)⟩
    | 3, hj => exact Or.inr ⟨by decide, hj, fun q => absurd q (by decide)⟩
    | 4, hj => exact Or.inr ⟨by decide, hj, fun q => absurd q (by decide)⟩
    | 5, hj => exact Or.inr ⟨by decide, hj, fun _ => by have e := Option.some.inj hj; rw [← e]; exact hnl⟩
    | 6, hj => exact Or.inl ⟨rfl, (Option.some.inj (Option.some.inj hj)).symm⟩
    | q + 7, hj => exact Or.inr ⟨by omega, hj, fun z => absurd z (by omega)⟩) k
theorem e_astore7 {κ : KT} {own : String} {cc : ByteArray} {nL : Nat} {rm : Room} {ad : Nat → Nat} {N : Nat} {ph : Phs} {M : Mem} {pc : Nat} {st : List AV} {cs : Nat × Nat} {Q : State → Prop} {a b c d0 e0 f0 g0 z : Option AV} {t : List (Option AV)} (h : Ok κ own cc nL rm) (d : decode cc pc = .ok (.astore 7, 2)) {x : Nat} (hi : 7 < nL) (hnl : nl g0 = true) (k : E κ ad N ph M (pc + 2) (a :: b :: c :: d0 :: e0 :: f0 :: g0 :: some (vr x) :: t) st cs Q) : E κ ad N ph M pc (a :: b :: c :: d0 :: e0 :: f0 :: g0 :: z :: t) (vr x :: st) cs Q :=
  e_astore_g h (i := 7) d hi (fun j w hj => by
    match j, hj with
    | 0, hj => exact Or.inr ⟨by decide, hj, fun q => absurd q (by decide)⟩
    | 1, hj => exact Or.inr ⟨by decide, hj, fun q => absurd q (by decide)⟩
    | 2, hj => exact Or.inr ⟨by decide, hj, fun q => absurd q (by decide)⟩
    | 3, hj => exact Or.inr ⟨by decide, hj, fun q => absurd q (by decide)⟩
    | 4, hj => exact Or.inr ⟨by decide, hj, fun q => absurd q (by decide)⟩
    | 5, hj => exact Or.inr ⟨by decide, hj, fun q => absurd q (by decide)⟩
    | 6, hj => exact Or.inr ⟨by decide, hj, fun _ => by have e := Option.some.inj hj; rw [← e]; exact hnl⟩
    | 7, hj => exact Or.inl ⟨rfl, (Option.some.inj (Option.some.inj hj)).symm⟩
    | q + 8, hj => exact Or.inr ⟨by omega, hj, fun z => absurd z (by omega)⟩) k
theorem e_astore8 {κ : KT} {own : String} {cc : ByteArray} {nL : Nat} {rm : Room} {ad : Nat → Nat} {N : Nat} {ph : Phs} {M : Mem} {pc : Nat} {st : List AV} {cs : Nat × Nat} {Q : State → Prop} {a b c d0 e0 f0 g0 h0 z : Option AV} {t : List (Option AV)} (h : Ok κ own cc nL rm) (d : decode cc pc = .ok (.astore 8, 2)) {x : Nat} (hi : 8 < nL) (hnl : nl h0 = true) (k : E κ ad N ph M (pc + 2) (a :: b :: c :: d0 :: e0 :: f0 :: g0 :: h0 :: some (vr x) :: t) st cs Q) : E κ ad N ph M pc (a :: b :: c :: d0 :: e0 :: f0 :: g0 :: h0 :: z :: t) (vr x :: st) cs Q :=
  e_astore_g h (i := 8) d hi (fun j w hj => by
    match j, hj with
    | 0, hj => exact Or.inr ⟨by decide, hj, fun q => absurd q (by decide)⟩
    | 1, hj => exact Or.inr ⟨by decide, hj, fun q => absurd q (by decide)⟩
    | 2, hj => exact Or.inr ⟨by decide, hj, fun q => absurd q (by decide)⟩
    | 3, hj => exact Or.inr ⟨by decide, hj, fun q => absurd q (by decide)⟩
    | 4, hj => exact Or.inr ⟨by decide, hj, fun q => absurd q (by decide)⟩
    | 5, hj => exact Or.inr ⟨by decide, hj, fun q => absurd q (by decide)⟩
    | 6, hj => exact Or.inr ⟨by decide, hj, fun q => absurd q (by decide)⟩
    | 7, hj => exact Or.inr ⟨by decide, hj, fun _ => by have e := Option.some.inj hj; rw [← e]; exact hnl⟩
    | 8, hj => exact Or.inl ⟨rfl, (Option.some.inj (Option.some.inj hj)).symm⟩
    | q + 9, hj => exact Or.inr ⟨by omega, hj, fun z => absurd z (by omega)⟩) k
theorem e_astore9 {κ : KT} {own : String} {cc : ByteArray} {nL : Nat} {rm : Room} {ad : Nat → Nat} {N : Nat} {ph : Phs} {M : Mem} {pc : Nat} {st : List AV} {cs : Nat × Nat} {Q : State → Prop} {a b c d0 e0 f0 g0 h0 i0 z : Option AV} {t : List (Option AV)} (h : Ok κ own cc nL rm) (d : decode cc pc = .ok (.astore 9, 2)) {x : Nat} (hi : 9 < nL) (hnl : nl i0 = true) (k : E κ ad N ph M (pc + 2) (a :: b :: c :: d0 :: e0 :: f0 :: g0 :: h0 :: i0 :: some (vr x) :: t) st cs Q) : E κ ad N ph M pc (a :: b :: c :: d0 :: e0 :: f0 :: g0 :: h0 :: i0 :: z :: t) (vr x :: st) cs Q :=
  e_astore_g h (i := 9) d hi (fun j w hj => by
    match j, hj with
    | 0, hj => exact Or.inr ⟨by decide, hj, fun q => absurd q (by decide)⟩
    | 1, hj => exact Or.inr ⟨by decide, hj, fun q => absurd q (by decide)⟩
    | 2, hj => exact Or.inr ⟨by decide, hj, fun q => absurd q (by decide)⟩
    | 3, hj => exact Or.inr ⟨by decide, hj, fun q => absurd q (by decide)⟩
    | 4, hj => exact Or.inr ⟨by decide, hj, fun q => absurd q (by decide)⟩
    | 5, hj => exact Or.inr ⟨by decide, hj, fun q => absurd q (by decide)⟩
    | 6, hj => exact Or.inr ⟨by decide, hj, fun q => absurd q (by decide)⟩
    | 7, hj => exact Or.inr ⟨by decide, hj, fun q => absurd q (by decide)⟩
    | 8, hj => exact Or.inr ⟨by decide, hj, fun _ => by have e := Option.some.inj hj; rw [← e]; exact hnl⟩
    | 9, hj => exact Or.inl ⟨rfl, (Option.some.inj (Option.some.inj hj)).symm⟩
    | q + 10, hj => exact Or.inr ⟨by omega, hj, fun z => absurd z (by omega)⟩) k
theorem e_astore10 {κ : KT} {own : String} {cc : ByteArray} {nL : Nat} {rm : Room} {ad : Nat → Nat} {N : Nat} {ph : Phs} {M : Mem} {pc : Nat} {st : List AV} {cs : Nat × Nat} {Q : State → Prop} {a b c d0 e0 f0 g0 h0 i0 j0 z : Option AV} {t : List (Option AV)} (h : Ok κ own cc nL rm) (d : decode cc pc = .ok (.astore 10, 2)) {x : Nat} (hi : 10 < nL) (hnl : nl j0 = true) (k : E κ ad N ph M (pc + 2) (a :: b :: c :: d0 :: e0 :: f0 :: g0 :: h0 :: i0 :: j0 :: some (vr x) :: t) st cs Q) : E κ ad N ph M pc (a :: b :: c :: d0 :: e0 :: f0 :: g0 :: h0 :: i0 :: j0 :: z :: t) (vr x :: st) cs Q :=
  e_astore_g h (i := 10) d hi (fun j w hj => by
    match j, hj with
    | 0, hj => exact Or.inr ⟨by decide, hj, fun q => absurd q (by decide)⟩
    | 1, hj => exact Or.inr ⟨by decide, hj, fun q => absurd q (by decide)⟩
    | 2, hj => exact Or.inr ⟨by decide, hj, fun q => absurd q (by decide)⟩
    | 3, hj => exact Or.inr ⟨by decide, hj, fun q => absurd q (by decide)⟩
    | 4, hj => exact Or.inr ⟨by decide, hj, fun q => absurd q (by decide)⟩
    | 5, hj => exact Or.inr ⟨by decide, hj, fun q => absurd q (by decide)⟩
    | 6, hj => exact Or.inr ⟨by decide, hj, fun q => absurd q (by decide)⟩
    | 7, hj => exact Or.inr ⟨by decide, hj, fun q => absurd q (by decide)⟩
    | 8, hj => exact Or.inr ⟨by decide, hj, fun q => absurd q (by decide)⟩
    | 9, hj => exact Or.inr ⟨by decide, hj, fun _ => by have e := Option.some.inj hj; rw [← e]; exact hnl⟩
    | 10, hj => exact Or.inl ⟨rfl, (Option.some.inj (Option.some.inj hj)).symm⟩
    | q + 11, hj => exact Or.inr ⟨by omega, hj, fun z => absurd z (by omega)⟩) k
theorem e_astore11 {κ : KT} {own : String} {cc : ByteArray} {nL : Nat} {rm : Room} {ad : Nat → Nat} {N : Nat} {ph : Phs} {M : Mem} {pc : Nat} {st : List AV} {cs : Nat × Nat} {Q : State → Prop} {a b c d0 e0 f0 g0 h0 i0 j0 k1 z : Option AV} {t : List (Option AV)} (h : Ok κ own cc nL rm) (d : decode cc pc = .ok (.astore 11, 2)) {x : Nat} (hi : 11 < nL) (hnl : nl k1 = true) (k : E κ ad N ph M (pc + 2) (a :: b :: c :: d0 :: e0 :: f0 :: g0 :: h0 :: i0 :: j0 :: k1 :: some (vr x) :: t) st cs Q) : E κ ad N ph M pc (a :: b :: c :: d0 :: e0 :: f0 :: g0 :: h0 :: i0 :: j0 :: k1 :: z :: t) (vr x :: st) cs Q :=
  e_astore_g h (i := 11) d hi (fun j w hj => by
    match j, hj with
    | 0, hj => exact Or.inr ⟨by decide, hj, fun q => absurd q (by decide)⟩
    | 1, hj => exact Or.inr ⟨by decide, hj, fun q => absurd q (by decide)⟩
    | 2, hj => exact Or.inr ⟨by decide, hj, fun q => absurd q (by decide)⟩
    | 3, hj => exact Or.inr ⟨by decide, hj, fun q => absurd q (by decide)⟩
    | 4, hj => exact Or.inr ⟨by decide, hj, fun q => absurd q (by decide)⟩
    | 5, hj => exact Or.inr ⟨by decide, hj, fun q => absurd q (by decide)⟩
    | 6, hj => exact Or.inr ⟨by decide, hj, fun q => absurd q (by decide)⟩
    | 7, hj => exact Or.inr ⟨by decide, hj, fun q => absurd q (by decide)⟩
    | 8, hj => exact Or.inr ⟨by decide, hj, fun q => absurd q (by decide)⟩
    | 9, hj => exact Or.inr ⟨by decide, hj, fun q => absurd q (by decide)⟩
    | 10, hj => exact Or.inr ⟨by decide, hj, fun _ => by have e := Option.some.inj hj; rw [← e]; exact hnl⟩
    | 11, hj => exact Or.inl ⟨rfl, (Option.some.inj (Option.some.inj hj)).symm⟩
    | q + 12, hj => exact Or.inr ⟨by omega, hj, fun z => absurd z (by omega)⟩) k
theorem e_lstore0 {κ : KT} {own : String} {cc : ByteArray} {nL : Nat} {rm : Room} {ad : Nat → Nat} {N : Nat} {ph : Phs} {M : Mem} {pc : Nat} {st : List AV} {cs : Nat × Nat} {Q : State → Prop} {z y : Option AV} {t : List (Option AV)} (h : Ok κ own cc nL rm) (d : decode cc pc = .ok (.lstore_n 0, 1)) {x : Int} (hi : 1 < nL)  (k : E κ ad N ph M (pc + 1) (some (vj x) :: none :: t) st cs Q) : E κ ad N ph M pc (z :: y :: t) (vj x :: st) cs Q :=
  e_lstore_n_g h (k0 := 0) (i := 0) rfl d hi (fun j w hj => by
    match j, hj with
    | 0, hj => exact Or.inl ⟨rfl, (Option.some.inj (Option.some.inj hj)).symm⟩
    | 1, hj => exact absurd (Option.some.inj hj) (fun q => by cases q)
    | q + 2, hj => exact Or.inr ⟨by omega, by omega, hj, fun z => absurd z (by omega)⟩) k
theorem e_lstore1 {κ : KT} {own : String} {cc : ByteArray} {nL : Nat} {rm : Room} {ad : Nat → Nat} {N : Nat} {ph : Phs} {M : Mem} {pc : Nat} {st : List AV} {cs : Nat × Nat} {Q : State → Prop} {a z y : Option AV} {t : List (Option AV)} (h : Ok κ own cc nL rm) (d : decode cc pc = .ok (.lstore_n 1, 1)) {x : Int} (hi : 2 < nL) (hnl : nl a = true) (k : E κ ad N ph M (pc + 1) (a :: some (vj x) :: none :: t) st cs Q) : E κ ad N ph M pc (a :: z :: y :: t) (vj x :: st) cs Q :=
  e_lstore_n_g h (k0 := 1) (i := 1) rfl d hi (fun j w hj => by
    match j, hj with
    | 0, hj => exact Or.inr ⟨by decide, by decide, hj, fun _ => by have e := Option.some.inj hj; rw [← e]; exact hnl⟩
    | 1, hj => exact Or.inl ⟨rfl, (Option.some.inj (Option.some.inj hj)).symm⟩
    | 2, hj => exact absurd (Option.some.inj hj) (fun q => by cases q)
    | q + 3, hj => exact Or.inr ⟨by omega, by omega, hj, fun z => absurd z (by omega)⟩) k
theorem e_lstore2 {κ : KT} {own : String} {cc : ByteArray} {nL : Nat} {rm : Room} {ad : Nat → Nat} {N : Nat} {ph : Phs} {M : Mem} {pc : Nat} {st : List AV} {cs : Nat × Nat} {Q : State → Prop} {a b z y : Option AV} {t : List (Option AV)} (h : Ok κ own cc nL rm) (d : decode cc pc = .ok (.lstore_n 2, 1)) {x : Int} (hi : 3 < nL) (hnl : nl b = true) (k : E κ ad N ph M (pc + 1) (a :: b :: some (vj x) :: none :: t) st cs Q) : E κ ad N ph M pc (a :: b :: z :: y :: t) (vj x :: st) cs Q :=
  e_lstore_n_g h (k0 := 2) (i := 2) rfl d hi (fun j w hj => by
    match j, hj with
    | 0, hj => exact Or.inr ⟨by decide, by decide, hj, fun q => absurd q (by decide)⟩
    | 1, hj => exact Or.inr ⟨by decide, by decide, hj, fun _ => by have e := Option.some.inj hj; rw [← e]; exact hnl⟩
    | 2, hj => exact Or.inl ⟨rfl, (Option.some.inj (Option.some.inj hj)).symm⟩
    | 3, hj => exact absurd (Option.some.inj hj) (fun q => by cases q)
    | q + 4, hj => exact Or.inr ⟨by omega, by omega, hj, fun z => absurd z (by omega)⟩) k
theorem e_lstore3 {κ : KT} {own : String} {cc : ByteArray} {nL : Nat} {rm : Room} {ad : Nat → Nat} {N : Nat} {ph : Phs} {M : Mem} {pc : Nat} {st : List AV} {cs : Nat × Nat} {Q : State → Prop} {a b c z y : Option AV} {t : List (Option AV)} (h : Ok κ own cc nL rm) (d : decode cc pc = .ok (.lstore_n 3, 1)) {x : Int} (hi : 4 < nL) (hnl : nl c = true) (k : E κ ad N ph M (pc + 1) (a :: b :: c :: some (vj x) :: none :: t) st cs Q) : E κ ad N ph M pc (a :: b :: c :: z :: y :: t) (vj x :: st) cs Q :=
  e_lstore_n_g h (k0 := 3) (i := 3) rfl d hi (fun j w hj => by
    match j, hj with
    | 0, hj => exact Or.inr ⟨by decide, by decide, hj, fun q => absurd q (by decide)⟩
    | 1, hj => exact Or.inr ⟨by decide, by decide, hj, fun q => absurd q (by decide)⟩
    | 2, hj => exact Or.inr ⟨by decide, by decide, hj, fun _ => by have e := Option.some.inj hj; rw [← e]; exact hnl⟩
    | 3, hj => exact Or.inl ⟨rfl, (Option.some.inj (Option.some.inj hj)).symm⟩
    | 4, hj => exact absurd (Option.some.inj hj) (fun q => by cases q)
    | q + 5, hj => exact Or.inr ⟨by omega, by omega, hj, fun z => absurd z (by omega)⟩) k
theorem e_lstore4 {κ : KT} {own : String} {cc : ByteArray} {nL : Nat} {rm : Room} {ad : Nat → Nat} {N : Nat} {ph : Phs} {M : Mem} {pc : Nat} {st : List AV} {cs : Nat × Nat} {Q : State → Prop} {a b c d0 z y : Option AV} {t : List (Option AV)} (h : Ok κ own cc nL rm) (d : decode cc pc = .ok (.lstore 4, 2)) {x : Int} (hi : 5 < nL) (hnl : nl d0 = true) (k : E κ ad N ph M (pc + 2) (a :: b :: c :: d0 :: some (vj x) :: none :: t) st cs Q) : E κ ad N ph M pc (a :: b :: c :: d0 :: z :: y :: t) (vj x :: st) cs Q :=
  e_lstore_g h (i := 4) d hi (fun j w hj => by
    match j, hj with
    | 0, hj => exact Or.inr ⟨by decide, by decide, hj, fun q => absurd q (by decide)⟩
    | 1, hj => exact Or.inr ⟨by decide, by decide, hj, fun q => absurd q (by decide)⟩
    | 2, hj => exact Or.inr ⟨by decide, by decide, hj, fun q => absurd q (by decide)⟩
    | 3, hj => exact Or.inr ⟨by decide, by decide, hj, fun _ => by have e := Option.some.inj hj; rw [← e]; exact hnl⟩
    | 4, hj => exact Or.inl ⟨rfl, (Option.some.inj (Option.some.inj hj)).symm⟩
    | 5, hj => exact absurd (Option.some.inj hj) (fun q => by cases q)
    | q + 6, hj => exact Or.inr ⟨by omega, by omega, hj, fun z => absurd z (by omega)⟩) k
theorem e_lstore5 {κ : KT} {own : String} {cc : ByteArray} {nL : Nat} {rm : Room} {ad : Nat → Nat} {N : Nat} {ph : Phs} {M : Mem} {pc : Nat} {st : List AV} {cs : Nat × Nat} {Q : State → Prop} {a b c d0 e0 z y : Option AV} {t : List (Option AV)} (h : Ok κ own cc nL rm) (d : decode cc pc = .ok (.lstore 5, 2)) {x : Int} (hi : 6 < nL) (hnl : nl e0 = true) (k : E κ ad N ph M (pc + 2) (a :: b :: c :: d0 :: e0 :: some (vj x) :: none :: t) st cs Q) : E κ ad N ph M pc (a :: b :: c :: d0 :: e0 :: z :: y :: t) (vj x :: st) cs Q :=
  e_lstore_g h (i := 5) d hi (fun j w hj => by
    match j, hj with
    | 0, hj => exact Or.inr ⟨by decide, by decide, hj, fun q => absurd q (by decide)⟩
    | 1, hj => exact Or.inr ⟨by decide, by decide, hj, fun q => absurd q (by decide)⟩
    | 2, hj => exact Or.inr ⟨by decide, by decide, hj, fun q => absurd q (by decide)⟩
    | 3, hj => exact Or.inr ⟨by decide, by decide, hj, fun q => absurd q (by decide)⟩
    | 4, hj => exact Or.inr ⟨by decide, by decide, hj, fun _ => by have e := Option.some.inj hj; rw [← e]; exact hnl⟩
    | 5, hj => exact Or.inl ⟨rfl, (Option.some.inj (Option.some.inj hj)).symm⟩
    | 6, hj => exact absurd (Option.some.inj hj) (fun q => by cases q)
    | q + 7, hj => exact Or.inr ⟨by omega, by omega, hj, fun z => absurd z (by omega)⟩) k
theorem e_lstore6 {κ : KT} {own : String} {cc : ByteArray} {nL : Nat} {rm : Room} {ad : Nat → Nat} {N : Nat} {ph : Phs} {M : Mem} {pc : Nat} {st : List AV} {cs : Nat × Nat} {Q : State → Prop} {a b c d0 e0 f0 z y : Option AV} {t : List (Option AV)} (h : Ok κ own cc nL rm) (d : decode cc pc = .ok (.lstore 6, 2)) {x : Int} (hi : 7 < nL) (hnl : nl f0 = true) (k : E κ ad N ph M (pc + 2) (a :: b :: c :: d0 :: e0 :: f0 :: some (vj x) :: none :: t) st cs Q) : E κ ad N ph M pc (a :: b :: c :: d0 :: e0 :: f0 :: z :: y :: t) (vj x :: st) cs Q :=
  e_lstore_g h (i := 6) d hi (fun j w hj => by
    match j, hj with
    | 0, hj => exact Or.inr ⟨by decide, by decide, hj, fun q => absurd q (by decide)⟩
    | 1, hj => exact Or.inr ⟨by decide, by decide, hj, fun q => absurd q (by decide)⟩
    | 2, hj => exact Or.inr ⟨by decide, by decide, hj, fun q => absurd q (by decide)⟩
    | 3, hj => exact Or.inr ⟨by decide, by decide, hj, fun q => absurd q (by decide)⟩
    | 4, hj => exact Or.inr ⟨by decide, by decide, hj, fun q => absurd q (by decide)⟩
    | 5, hj => exact Or.inr ⟨by decide, by decide, hj, fun _ => by have e := Option.some.inj hj; rw [← e]; exact hnl⟩
    | 6, hj => exact Or.inl ⟨rfl, (Option.some.inj (Option.some.inj hj)).symm⟩
    | 7, hj => exact absurd (Option.some.inj hj) (fun q => by cases q)
    | q + 8, hj => exact Or.inr ⟨by omega, by omega, hj, fun z => absurd z (by omega)⟩) k
theorem e_lstore7 {κ : KT} {own : String} {cc : ByteArray} {nL : Nat} {rm : Room} {ad : Nat → Nat} {N : Nat} {ph : Phs} {M : Mem} {pc : Nat} {st : List AV} {cs : Nat × Nat} {Q : State → Prop} {a b c d0 e0 f0 g0 z y : Option AV} {t : List (Option AV)} (h : Ok κ own cc nL rm) (d : decode cc pc = .ok (.lstore 7, 2)) {x : Int} (hi : 8 < nL) (hnl : nl g0 = true) (k : E κ ad N ph M (pc + 2) (a :: b :: c :: d0 :: e0 :: f0 :: g0 :: some (vj x) :: none :: t) st cs Q) : E κ ad N ph M pc (a :: b :: c :: d0 :: e0 :: f0 :: g0 :: z :: y :: t) (vj x :: st) cs Q :=
  e_lstore_g h (i := 7) d hi (fun j w hj => by
    match j, hj with
    | 0, hj => exact Or.inr ⟨by decide, by decide, hj, fun q => absurd q (by decide)⟩
    | 1, hj => exact Or.inr ⟨by decide, by decide, hj, fun q => absurd q (by decide)⟩
    | 2, hj => exact Or.inr ⟨by decide, by decide, hj, fun q => absurd q (by decide)⟩
    | 3, hj => exact Or.inr ⟨by decide, by decide, hj, fun q => absurd q (by decide)⟩
    | 4, hj => exact Or.inr ⟨by decide, by decide, hj, fun q => absurd q (by decide)⟩
    | 5, hj => exact Or.inr ⟨by decide, by decide, hj, fun q => absurd q (by decide)⟩
    | 6, hj => exact Or.inr ⟨by decide, by decide, hj, fun _ => by have e := Option.some.inj hj; rw [← e]; exact hnl⟩
    | 7, hj => exact Or.inl ⟨rfl, (Option.some.inj (Option.some.inj hj)).symm⟩
    | 8, hj => exact absurd (Option.some.inj hj) (fun q => by cases q)
    | q + 9, hj => exact Or.inr ⟨by omega, by omega, hj, fun z => absurd z (by omega)⟩) k
theorem e_lstore8 {κ : KT} {own : String} {cc : ByteArray} {nL : Nat} {rm : Room} {ad : Nat → Nat} {N : Nat} {ph : Phs} {M : Mem} {pc : Nat} {st : List AV} {cs : Nat × Nat} {Q : State → Prop} {a b c d0 e0 f0 g0 h0 z y : Option AV} {t : List (Option AV)} (h : Ok κ own cc nL rm) (d : decode cc pc = .ok (.lstore 8, 2)) {x : Int} (hi : 9 < nL) (hnl : nl h0 = true) (k : E κ ad N ph M (pc + 2) (a :: b :: c :: d0 :: e0 :: f0 :: g0 :: h0 :: some (vj x) :: none :: t) st cs Q) : E κ ad N ph M pc (a :: b :: c :: d0 :: e0 :: f0 :: g0 :: h0 :: z :: y :: t) (vj x :: st) cs Q :=
  e_lstore_g h (i := 8) d hi (fun j w hj => by
    match j, hj with
    | 0, hj => exact Or.inr ⟨by decide, by decide, hj, fun q => absurd q (by decide)⟩
    | 1, hj => exact Or.inr ⟨by decide, by decide, hj, fun q => absurd q (by decide)⟩
    | 2, hj => exact Or.inr ⟨by decide, by decide, hj, fun q => absurd q (by decide)⟩
    | 3, hj => exact Or.inr ⟨by decide, by decide, hj, fun q => absurd q (by decide)⟩
    | 4, hj => exact Or.inr ⟨by decide, by decide, hj, fun q => absurd q (by decide)⟩
    | 5, hj => exact Or.inr ⟨by decide, by decide, hj, fun q => absurd q (by decide)⟩
    | 6, hj => exact Or.inr ⟨by decide, by decide, hj, fun q => absurd q (by decide)⟩
    | 7, hj => exact Or.inr ⟨by decide, by decide, hj, fun _ => by have e := Option.some.inj hj; rw [← e]; exact hnl⟩
    | 8, hj => exact Or.inl ⟨rfl, (Option.some.inj (Option.some.inj hj)).symm⟩
    | 9, hj => exact absurd (Option.some.inj hj) (fun q => by cases q)
    | q + 10, hj => exact Or.inr ⟨by omega, by omega, hj, fun z => absurd z (by omega)⟩) k
theorem e_lstore9 {κ : KT} {own : String} {cc : ByteArray} {nL : Nat} {rm : Room} {ad : Nat → Nat} {N : Nat} {ph : Phs} {M : Mem} {pc : Nat} {st : List AV} {cs : Nat × Nat} {Q : State → Prop} {a b c d0 e0 f0 g0 h0 i0 z y : Option AV} {t : List (Option AV)} (h : Ok κ own cc nL rm) (d : decode cc pc = .ok (.lstore 9, 2)) {x : Int} (hi : 10 < nL) (hnl : nl i0 = true) (k : E κ ad N ph M (pc + 2) (a :: b :: c :: d0 :: e0 :: f0 :: g0 :: h0 :: i0 :: some (vj x) :: none :: t) st cs Q) : E κ ad N ph M pc (a :: b :: c :: d0 :: e0 :: f0 :: g0 :: h0 :: i0 :: z :: y :: t) (vj x :: st) cs Q :=
  e_lstore_g h (i := 9) d hi (fun j w hj => by
    match j, hj with
    | 0, hj => exact Or.inr ⟨by decide, by decide, hj, fun q => absurd q (by decide)⟩
    | 1, hj => exact Or.inr ⟨by decide, by decide, hj, fun q => absurd q (by decide)⟩
    | 2, hj => exact Or.inr ⟨by decide, by decide, hj, fun q => absurd q (by decide)⟩
    | 3, hj => exact Or.inr ⟨by decide, by decide, hj, fun q => absurd q (by decide)⟩
    | 4, hj => exact Or.inr ⟨by decide, by decide, hj, fun q => absurd q (by decide)⟩
    | 5, hj => exact Or.inr ⟨by decide, by decide, hj, fun q => absurd q (by decide)⟩
    | 6, hj => exact Or.inr ⟨by decide, by decide, hj, fun q => absurd q (by decide)⟩
    | 7, hj => exact Or.inr ⟨by decide, by decide, hj, fun q => absurd q (by decide)⟩
    | 8, hj => exact Or.inr ⟨by decide, by decide, hj, fun _ => by have e := Option.some.inj hj; rw [← e]; exact hnl⟩
    | 9, hj => exact Or.inl ⟨rfl, (Option.some.inj (Option.some.inj hj)).symm⟩
    | 10, hj => exact absurd (Option.some.inj hj) (fun q => by cases q)
    | q + 11, hj => exact Or.inr ⟨by omega, by omega, hj, fun z => absurd z (by omega)⟩) k
theorem e_lstore10 {κ : KT} {own : String} {cc : ByteArray} {nL : Nat} {rm : Room} {ad : Nat → Nat} {N : Nat} {ph : Phs} {M : Mem} {pc : Nat} {st : List AV} {cs : Nat × Nat} {Q : State → Prop} {a b c d0 e0 f0 g0 h0 i0 j0 z y : Option AV} {t : List (Option AV)} (h : Ok κ own cc nL rm) (d : decode cc pc = .ok (.lstore 10, 2)) {x : Int} (hi : 11 < nL) (hnl : nl j0 = true) (k : E κ ad N ph M (pc + 2) (a :: b :: c :: d0 :: e0 :: f0 :: g0 :: h0 :: i0 :: j0 :: some (vj x) :: none :: t) st cs Q) : E κ ad N ph M pc (a :: b :: c :: d0 :: e0 :: f0 :: g0 :: h0 :: i0 :: j0 :: z :: y :: t) (vj x :: st) cs Q :=
  e_lstore_g h (i := 10) d hi (fun j w hj => by
    match j, hj with
    | 0, hj => exact Or.inr ⟨by decide, by decide, hj, fun q => absurd q (by decide)⟩
    | 1, hj => exact Or.inr ⟨by decide, by decide, hj, fun q => absurd q (by decide)⟩
    | 2, hj => exact Or.inr ⟨by decide, by decide, hj, fun q => absurd q (by decide)⟩
    | 3, hj => exact Or.inr ⟨by decide, by decide, hj, fun q => absurd q (by decide)⟩
    | 4, hj => exact Or.inr ⟨by decide, by decide, hj, fun q => absurd q (by decide)⟩
    | 5, hj => exact Or.inr ⟨by decide, by decide, hj, fun q => absurd q (by decide)⟩
    | 6, hj => exact Or.inr ⟨by decide, by decide, hj, fun q => absurd q (by decide)⟩
    | 7, hj => exact Or.inr ⟨by decide, by decide, hj, fun q => absurd q (by decide)⟩
    | 8, hj => exact Or.inr ⟨by decide, by decide, hj, fun q => absurd q (by decide)⟩
    | 9, hj => exact Or.inr ⟨by decide, by decide, hj, fun _ => by have e := Option.some.inj hj; rw [← e]; exact hnl⟩
    | 10, hj => exact Or.inl ⟨rfl, (Option.some.inj (Option.some.inj hj)).symm⟩
    | 11, hj => exact absurd (Option.some.inj hj) (fun q => by cases q)
    | q + 12, hj => exact Or.inr ⟨by omega, by omega, hj, fun z => absurd z (by omega)⟩) k
theorem e_lstore11 {κ : KT} {own : String} {cc : ByteArray} {nL : Nat} {rm : Room} {ad : Nat → Nat} {N : Nat} {ph : Phs} {M : Mem} {pc : Nat} {st : List AV} {cs : Nat × Nat} {Q : State → Prop} {a b c d0 e0 f0 g0 h0 i0 j0 k1 z y : Option AV} {t : List (Option AV)} (h : Ok κ own cc nL rm) (d : decode cc pc = .ok (.lstore 11, 2)) {x : Int} (hi : 12 < nL) (hnl : nl k1 = true) (k : E κ ad N ph M (pc + 2) (a :: b :: c :: d0 :: e0 :: f0 :: g0 :: h0 :: i0 :: j0 :: k1 :: some (vj x) :: none :: t) st cs Q) : E κ ad N ph M pc (a :: b :: c :: d0 :: e0 :: f0 :: g0 :: h0 :: i0 :: j0 :: k1 :: z :: y :: t) (vj x :: st) cs Q :=
  e_lstore_g h (i := 11) d hi (fun j w hj => by
    match j, hj with
    | 0, hj => exact Or.inr ⟨by decide, by decide, hj, fun q => absurd q (by decide)⟩
    | 1, hj => exact Or.inr ⟨by decide, by decide, hj, fun q => absurd q (by decide)⟩
    | 2, hj => exact Or.inr ⟨by decide, by decide, hj, fun q => absurd q (by decide)⟩
    | 3, hj => exact Or.inr ⟨by decide, by decide, hj, fun q => absurd q (by decide)⟩
    | 4, hj => exact Or.inr ⟨by decide, by decide, hj, fun q => absurd q (by decide)⟩
    | 5, hj => exact Or.inr ⟨by decide, by decide, hj, fun q => absurd q (by decide)⟩
    | 6, hj => exact Or.inr ⟨by decide, by decide, hj, fun q => absurd q (by decide)⟩
    | 7, hj => exact Or.inr ⟨by decide, by decide, hj, fun q => absurd q (by decide)⟩
    | 8, hj => exact Or.inr ⟨by decide, by decide, hj, fun q => absurd q (by decide)⟩
    | 9, hj => exact Or.inr ⟨by decide, by decide, hj, fun q => absurd q (by decide)⟩
    | 10, hj => exact Or.inr ⟨by decide, by decide, hj, fun _ => by have e := Option.some.inj hj; rw [← e]; exact hnl⟩
    | 11, hj => exact Or.inl ⟨rfl, (Option.some.inj (Option.some.inj hj)).symm⟩
    | 12, hj => exact absurd (Option.some.inj hj) (fun q => by cases q)
    | q + 13, hj => exact Or.inr ⟨by omega, by omega, hj, fun z => absurd z (by omega)⟩) k
theorem e_iinc_g {κ : KT} {own : String} {cc : ByteArray} {nL : Nat} {rm : Room} {ad : Nat → Nat} {N : Nat} {ph : Phs} {M : Mem} {pc : Nat} {ls : List (Option AV)} {st : List AV} {cs : Nat × Nat} {Q : State → Prop} {ls' : List (Option AV)} (h : Ok κ own cc nL rm) {i : Nat} {n : Int} (d : decode cc pc = .ok (.iinc i n, 3)) {x : Int} (hi : i < nL) (hl0 : ls[i]? = some (some (vi x))) (h0 : ∀ j w, ls'[j]? = some (some w) → (j = i ∧ w = vi (x + n)) ∨ (j ≠ i ∧ ls[j]? = some (some w) ∧ (j + 1 = i → nl (some w) = true))) (k : E κ ad N ph M (pc + 3) ls' st cs Q) : E κ ad N ph M pc ls st cs Q := by
  obtain ⟨p, l, e, R, s, m, args, below, meth, c, D, cy, A⟩ := κ
  obtain ⟨hx, hb, hml, hown, hts, hnw, hlk, hK, hR⟩ := h
  intro h1 h2 H locs Ls hP hS hl
  have hm := lc_of (ad := ad) ls i 0 hl0
  rw [Nat.zero_add] at hm
  obtain ⟨k0, hk0⟩ := List.getElem?_of_mem hm
  exact lv_iinc hx hb d hl hk0 (Int32.ofInt_add x n).symm (by rw [hml]; exact hi) rfl (fun Ls' hl' => k h1 h2 H locs Ls' hP hS (lc_st1 (v := vi (x + n)) rfl h0 hl'))
theorem e_iinc0 {κ : KT} {own : String} {cc : ByteArray} {nL : Nat} {rm : Room} {ad : Nat → Nat} {N : Nat} {ph : Phs} {M : Mem} {pc : Nat} {st : List AV} {cs : Nat × Nat} {Q : State → Prop} {t : List (Option AV)} (h : Ok κ own cc nL rm) {n x : Int} (d : decode cc pc = .ok (.iinc 0 n, 3)) (hi : 0 < nL)  (k : E κ ad N ph M (pc + 3) (some (vi (x + n)) :: t) st cs Q) : E κ ad N ph M pc (some (vi x) :: t) st cs Q :=
  e_iinc_g h (i := 0) d hi rfl (fun j w hj => by
    match j, hj with
    | 0, hj => exact Or.inl ⟨rfl, (Option.some.inj (Option.some.inj hj)).symm⟩
    | q + 1, hj => exact Or.inr ⟨by omega, hj, fun z => absurd z (by omega)⟩) k
theorem e_iinc1 {κ : KT} {own : String} {cc : ByteArray} {nL : Nat} {rm : Room} {ad : Nat → Nat} {N : Nat} {ph : Phs} {M : Mem} {pc : Nat} {st : List AV} {cs : Nat × Nat} {Q : State → Prop} {a : Option AV} {t : List (Option AV)} (h : Ok κ own cc nL rm) {n x : Int} (d : decode cc pc = .ok (.iinc 1 n, 3)) (hi : 1 < nL) (hnl : nl a = true) (k : E κ ad N ph M (pc + 3) (a :: some (vi (x + n)) :: t) st cs Q) : E κ ad N ph M pc (a :: some (vi x) :: t) st cs Q :=
  e_iinc_g h (i := 1) d hi rfl (fun j w hj => by
    match j, hj with
    | 0, hj => exact Or.inr ⟨by decide, hj, fun _ => by have e := Option.some.inj hj; rw [← e]; exact hnl⟩
    | 1, hj => exact Or.inl ⟨rfl, (Option.some.inj (Option.some.inj hj)).symm⟩
    | q + 2, hj => exact Or.inr ⟨by omega, hj, fun z => absurd z (by omega)⟩) k
theorem e_iinc2 {κ : KT} {own : String} {cc : ByteArray} {nL : Nat} {rm : Room} {ad : Nat → Nat} {N : Nat} {ph : Phs} {M : Mem} {pc : Nat} {st : List AV} {cs : Nat × Nat} {Q : State → Prop} {a b : Option AV} {t : List (Option AV)} (h : Ok κ own cc nL rm) {n x : Int} (d : decode cc pc = .ok (.iinc 2 n, 3)) (hi : 2 < nL) (hnl : nl b = true) (k : E κ ad N ph M (pc + 3) (a :: b :: some (vi (x + n)) :: t) st cs Q) : E κ ad N ph M pc (a :: b :: some (vi x) :: t) st cs Q :=
  e_iinc_g h (i := 2) d hi rfl (fun j w hj => by
    match j, hj with
    | 0, hj => exact Or.inr ⟨by decide, hj, fun q => absurd q (by decide)⟩
    | 1, hj => exact Or.inr ⟨by decide, hj, fun _ => by have e := Option.some.inj hj; rw [← e]; exact hnl⟩
    | 2, hj => exact Or.inl ⟨rfl, (Option.some.inj (Option.some.inj hj)).symm⟩
    | q + 3, hj => exact Or.inr ⟨by omega, hj, fun z => absurd z (by omega)⟩) k
theorem e_iinc3 {κ : KT} {own : String} {cc : ByteArray} {nL : Nat} {rm : Room} {ad : Nat → Nat} {N : Nat} {ph : Phs} {M : Mem} {pc : Nat} {st : List AV} {cs : Nat × Nat} {Q : State → Prop} {a b c : Option AV} {t : List (Option AV)} (h : Ok κ own cc nL rm) {n x : Int} (d : decode cc pc = .ok (.iinc 3 n, 3)) (hi : 3 < nL) (hnl : nl c = true) (k : E κ ad N ph M (pc + 3) (a :: b :: c :: some (vi (x + n)) :: t) st cs Q) : E κ ad N ph M pc (a :: b :: c :: some (vi x) :: t) st cs Q :=
  e_iinc_g h (i := 3) d hi rfl (fun j w hj => by
    match j, hj with
    | 0, hj => exact Or.inr ⟨by decide, hj, fun q => absurd q (by decide)⟩
    | 1, hj => exact Or.inr ⟨by decide, hj, fun q => absurd q (by decide)⟩
    | 2, hj => exact Or.inr ⟨by decide, hj, fun _ => by have e := Option.some.inj hj; rw [← e]; exact hnl⟩
    | 3, hj => exact Or.inl ⟨rfl, (Option.some.inj (Option.some.inj hj)).symm⟩
    | q + 4, hj => exact Or.inr ⟨by omega, hj, fun z => absurd z (by omega)⟩) k
theorem e_iinc4 {κ : KT} {own : String} {cc : ByteArray} {nL : Nat} {rm : Room} {ad : Nat → Nat} {N : Nat} {ph : Phs} {M : Mem} {pc : Nat} {st : List AV} {cs : Nat × Nat} {Q : State → Prop} {a b c d0 : Option AV} {t : List (Option AV)} (h : Ok κ own cc nL rm) {n x : Int} (d : decode cc pc = .ok (.iinc 4 n, 3)) (hi : 4 < nL) (hnl : nl d0 = true) (k : E κ ad N ph M (pc + 3) (a :: b :: c :: d0 :: some (vi (x + n)) :: t) st cs Q) : E κ ad N ph M pc (a :: b :: c :: d0 :: some (vi x) :: t) st cs Q :=
  e_iinc_g h (i := 4) d hi rfl (fun j w hj => by
    match j, hj with
    | 0, hj => exact Or.inr ⟨by decide, hj, fun q => absurd q (by decide)⟩
    | 1, hj => exact Or.inr ⟨by decide, hj, fun q => absurd q (by decide)⟩
    | 2, hj => exact Or.inr ⟨by decide, hj, fun q => absurd q (by decide)⟩
    | 3, hj => exact Or.inr ⟨by decide, hj, fun _ => by have e := Option.some.inj hj; rw [← e]; exact hnl⟩
    | 4, hj => exact Or.inl ⟨rfl, (Option.some.inj (Option.some.inj hj)).symm⟩
    | q + 5, hj => exact Or.inr ⟨by omega, hj, fun z => absurd z (by omega)⟩) k
theorem e_iinc5 {κ : KT} {own : String} {cc : ByteArray} {nL : Nat} {rm : Room} {ad : Nat → Nat} {N : Nat} {ph : Phs} {M : Mem} {pc : Nat} {st : List AV} {cs : Nat × Nat} {Q : State → Prop} {a b c d0 e0 : Option AV} {t : List (Option AV)} (h : Ok κ own cc nL rm) {n x : Int} (d : decode cc pc = .ok (.iinc 5 n, 3)) (hi : 5 < nL) (hnl : nl e0 = true) (k : E κ ad N ph M (pc + 3) (a :: b :: c :: d0 :: e0 :: some (vi (x + n)) :: t) st cs Q) : E κ ad N ph M pc (a :: b :: c :: d0 :: e0 :: some (vi x) :: t) st cs Q :=
  e_iinc_g h (i := 5) d hi rfl (fun j w hj => by
    match j, hj with
    | 0, hj => exact Or.inr ⟨by decide, hj, fun q => absurd q (by decide)⟩
    | 1, hj => exact Or.inr ⟨by decide, hj, fun q => absurd q (by decide)⟩
    | 2, hj => exact Or.inr ⟨by decide, hj, fun q => absurd q (by decide)⟩
    | 3, hj => exact Or.inr ⟨by decide, hj, fun q => absurd q (by decide)⟩
    | 4, hj => exact Or.inr ⟨by decide, hj, fun _ => by have e := Option.some.inj hj; rw [← e]; exact hnl⟩
    | 5, hj => exact Or.inl ⟨rfl, (Option.some.inj (Option.some.inj hj)).symm⟩
    | q + 6, hj => exact Or.inr ⟨by omega, hj, fun z => absurd z (by omega)⟩) k
theorem e_iinc6 {κ : KT} {own : String} {cc : ByteArray} {nL : Nat} {rm : Room} {ad : Nat → Nat} {N : Nat} {ph : Phs} {M : Mem} {pc : Nat} {st : List AV} {cs : Nat × Nat} {Q : State → Prop} {a b c d0 e0 f0 : Option AV} {t : List (Option AV)} (h : Ok κ own cc nL rm) {n x : Int} (d : decode cc pc = .ok (.iinc 6 n, 3)) (hi : 6 < nL) (hnl : nl f0 = true) (k : E κ ad N ph M (pc + 3) (a :: b :: c :: d0 :: e0 :: f0 :: some (vi (x + n)) :: t) st cs Q) : E κ ad N ph M pc (a :: b :: c :: d0 :: e0 :: f0 :: some (vi x) :: t) st cs Q :=
  e_iinc_g h (i := 6) d hi rfl (fun j w hj => by
    match j, hj with
    | 0, hj => exact Or.inr ⟨by decide, hj, fun q => absurd q (by decide)⟩
    | 1, hj => exact Or.inr ⟨by decide, hj, fun q => absurd q (by decide)⟩
    | 2, hj => exact Or.inr ⟨by decide, hj, fun q => absurd q (by decide)⟩
    | 3, hj => exact Or.inr ⟨by decide, hj, fun q => absurd q (by decide)⟩
    | 4, hj => exact Or.inr ⟨by decide, hj, fun q => absurd q (by decide)⟩
    | 5, hj => exact Or.inr ⟨by decide, hj, fun _ => by have e := Option.some.inj hj; rw [← e]; exact hnl⟩
    | 6, hj => exact Or.inl ⟨rfl, (Option.some.inj (Option.some.inj hj)).symm⟩
    | q + 7, hj => exact Or.inr ⟨by omega, hj, fun z => absurd z (by omega)⟩) k
theorem e_iinc7 {κ : KT} {own : String} {cc : ByteArray} {nL : Nat} {rm : Room} {ad : Nat → Nat} {N : Nat} {ph : Phs} {M : Mem} {pc : Nat} {st : List AV} {cs : Nat × Nat} {Q : State → Prop} {a b c d0 e0 f0 g0 : Option AV} {t : List (Option AV)} (h : Ok κ own cc nL rm) {n x : Int} (d : decode cc pc = .ok (.iinc 7 n, 3)) (hi : 7 < nL) (hnl : nl g0 = true) (k : E κ ad N ph M (pc + 3) (a :: b :: c :: d0 :: e0 :: f0 :: g0 :: some (vi (x + n)) :: t) st cs Q) : E κ ad N ph M pc (a :: b :: c :: d0 :: e0 :: f0 :: g0 :: some (vi x) :: t) st cs Q :=
  e_iinc_g h (i := 7) d hi rfl (fun j w hj => by
    match j, hj with
    | 0, hj => exact Or.inr ⟨by decide, hj, fun q => absurd q (by decide)⟩
    | 1, hj => exact Or.inr ⟨by decide, hj, fun q => absurd q (by decide)⟩
    | 2, hj => exact Or.inr ⟨by decide, hj, fun q => absurd q (by decide)⟩
    | 3, hj => exact Or.inr ⟨by decide, hj, fun q => absurd q (by decide)⟩
    | 4, hj => exact Or.inr ⟨by decide, hj, fun q => absurd q (by decide)⟩
    | 5, hj => exact Or.inr ⟨by decide, hj, fun q => absurd q (by decide)⟩
    | 6, hj => exact Or.inr ⟨by decide, hj, fun _ => by have e := Option.some.inj hj; rw [← e]; exact hnl⟩
    | 7, hj => exact Or.inl ⟨rfl, (Option.some.inj (Option.some.inj hj)).symm⟩
    | q + 8, hj => exact Or.inr ⟨by omega, hj, fun z => absurd z (by omega)⟩) k
theorem e_iinc8 {κ : KT} {own : String} {cc : ByteArray} {nL : Nat} {rm : Room} {ad : Nat → Nat} {N : Nat} {ph : Phs} {M : Mem} {pc : Nat} {st : List AV} {cs : Nat × Nat} {Q : State → Prop} {a b c d0 e0 f0 g0 h0 : Option AV} {t : List (Option AV)} (h : Ok κ own cc nL rm) {n x : Int} (d : decode cc pc = .ok (.iinc 8 n, 3)) (hi : 8 < nL) (hnl : nl h0 = true) (k : E κ ad N ph M (pc + 3) (a :: b :: c :: d0 :: e0 :: f0 :: g0 :: h0 :: some (vi (x + n)) :: t) st cs Q) : E κ ad N ph M pc (a :: b :: c :: d0 :: e0 :: f0 :: g0 :: h0 :: some (vi x) :: t) st cs Q :=
  e_iinc_g h (i := 8) d hi rfl (fun j w hj => by
    match j, hj with
    | 0, hj => exact Or.inr ⟨by decide, hj, fun q => absurd q (by decide)⟩
    | 1, hj => exact Or.inr ⟨by decide, hj, fun q => absurd q (by decide)⟩
    | 2, hj => exact Or.inr ⟨by decide, hj, fun q => absurd q (by decide)⟩
    | 3, hj => exact Or.inr ⟨by decide, hj, fun q => absurd q (by decide)⟩
    | 4, hj => exact Or.inr ⟨by decide, hj, fun q => absurd q (by decide)⟩
    | 5, hj => exact Or.inr ⟨by decide, hj, fun q => absurd q (by decide)⟩
    | 6, hj => exact Or.inr ⟨by decide, hj, fun q => absurd q (by decide)⟩
    | 7, hj => exact Or.inr ⟨by decide, hj, fun _ => by have e := Option.some.inj hj; rw [← e]; exact hnl⟩
    | 8, hj => exact Or.inl ⟨rfl, (Option.some.inj (Option.some.inj hj)).symm⟩
    | q + 9, hj => exact Or.inr ⟨by omega, hj, fun z => absurd z (by omega)⟩) k
theorem e_iinc9 {κ : KT} {own : String} {cc : ByteArray} {nL : Nat} {rm : Room} {ad : Nat → Nat} {N : Nat} {ph : Phs} {M : Mem} {pc : Nat} {st : List AV} {cs : Nat × Nat} {Q : State → Prop} {a b c d0 e0 f0 g0 h0 i0 : Option AV} {t : List (Option AV)} (h : Ok κ own cc nL rm) {n x : Int} (d : decode cc pc = .ok (.iinc 9 n, 3)) (hi : 9 < nL) (hnl : nl i0 = true) (k : E κ ad N ph M (pc + 3) (a :: b :: c :: d0 :: e0 :: f0 :: g0 :: h0 :: i0 :: some (vi (x + n)) :: t) st cs Q) : E κ ad N ph M pc (a :: b :: c :: d0 :: e0 :: f0 :: g0 :: h0 :: i0 :: some (vi x) :: t) st cs Q :=
  e_iinc_g h (i := 9) d hi rfl (fun j w hj => by
    match j, hj with
    | 0, hj => exact Or.inr ⟨by decide, hj, fun q => absurd q (by decide)⟩
    | 1, hj => exact Or.inr ⟨by decide, hj, fun q => absurd q (by decide)⟩
    | 2, hj => exact Or.inr ⟨by decide, hj, fun q => absurd q (by decide)⟩
    | 3, hj => exact Or.inr ⟨by decide, hj, fun q => absurd q (by decide)⟩
    | 4, hj => exact Or.inr ⟨by decide, hj, fun q => absurd q (by decide)⟩
    | 5, hj => exact Or.inr ⟨by decide, hj, fun q => absurd q (by decide)⟩
    | 6, hj => exact Or.inr ⟨by decide, hj, fun q => absurd q (by decide)⟩
    | 7, hj => exact Or.inr ⟨by decide, hj, fun q => absurd q (by decide)⟩
    | 8, hj => exact Or.inr ⟨by decide, hj, fun _ => by have e := Option.some.inj hj; rw [← e]; exact hnl⟩
    | 9, hj => exact Or.inl ⟨rfl, (Option.some.inj (Option.some.inj hj)).symm⟩
    | q + 10, hj => exact Or.inr ⟨by omega, hj, fun z => absurd z (by omega)⟩) k
theorem e_iinc10 {κ : KT} {own : String} {cc : ByteArray} {nL : Nat} {rm : Room} {ad : Nat → Nat} {N : Nat} {ph : Phs} {M : Mem} {pc : Nat} {st : List AV} {cs : Nat × Nat} {Q : State → Prop} {a b c d0 e0 f0 g0 h0 i0 j0 : Option AV} {t : List (Option AV)} (h : Ok κ own cc nL rm) {n x : Int} (d : decode cc pc = .ok (.iinc 10 n, 3)) (hi : 10 < nL) (hnl : nl j0 = true) (k : E κ ad N ph M (pc + 3) (a :: b :: c :: d0 :: e0 :: f0 :: g0 :: h0 :: i0 :: j0 :: some (vi (x + n)) :: t) st cs Q) : E κ ad N ph M pc (a :: b :: c :: d0 :: e0 :: f0 :: g0 :: h0 :: i0 :: j0 :: some (vi x) :: t) st cs Q :=
  e_iinc_g h (i := 10) d hi rfl (fun j w hj => by
    match j, hj with
    | 0, hj => exact Or.inr ⟨by decide, hj, fun q => absurd q (by decide)⟩
    | 1, hj => exact Or.inr ⟨by decide, hj, fun q => absurd q (by decide)⟩
    | 2, hj => exact Or.inr ⟨by decide, hj, fun q => absurd q (by decide)⟩
    | 3, hj => exact Or.inr ⟨by decide, hj, fun q => absurd q (by decide)⟩
    | 4, hj => exact Or.inr ⟨by decide, hj, fun q => absurd q (by decide)⟩
    | 5, hj => exact Or.inr ⟨by decide, hj, fun q => absurd q (by decide)⟩
    | 6, hj => exact Or.inr ⟨by decide, hj, fun q => absurd q (by decide)⟩
    | 7, hj => exact Or.inr ⟨by decide, hj, fun q => absurd q (by decide)⟩
    | 8, hj => exact Or.inr ⟨by decide, hj, fun q => absurd q (by decide)⟩
    | 9, hj => exact Or.inr ⟨by decide, hj, fun _ => by have e := Option.some.inj hj; rw [← e]; exact hnl⟩
    | 10, hj => exact Or.inl ⟨rfl, (Option.some.inj (Option.some.inj hj)).symm⟩
    | q + 11, hj => exact Or.inr ⟨by omega, hj, fun z => absurd z (by omega)⟩) k
theorem e_iinc11 {κ : KT} {own : String} {cc : ByteArray} {nL : Nat} {rm : Room} {ad : Nat → Nat} {N : Nat} {ph : Phs} {M : Mem} {pc : Nat} {st : List AV} {cs : Nat × Nat} {Q : State → Prop} {a b c d0 e0 f0 g0 h0 i0 j0 k1 : Option AV} {t : List (Option AV)} (h : Ok κ own cc nL rm) {n x : Int} (d : decode cc pc = .ok (.iinc 11 n, 3)) (hi : 11 < nL) (hnl : nl k1 = true) (k : E κ ad N ph M (pc + 3) (a :: b :: c :: d0 :: e0 :: f0 :: g0 :: h0 :: i0 :: j0 :: k1 :: some (vi (x + n)) :: t) st cs Q) : E κ ad N ph M pc (a :: b :: c :: d0 :: e0 :: f0 :: g0 :: h0 :: i0 :: j0 :: k1 :: some (vi x) :: t) st cs Q :=
  e_iinc_g h (i := 11) d hi rfl (fun j w hj => by
    match j, hj with
    | 0, hj => exact Or.inr ⟨by decide, hj, fun q => absurd q (by decide)⟩
    | 1, hj => exact Or.inr ⟨by decide, hj, fun q => absurd q (by decide)⟩
    | 2, hj => exact Or.inr ⟨by decide, hj, fun q => absurd q (by decide)⟩
    | 3, hj => exact Or.inr ⟨by decide, hj, fun q => absurd q (by decide)⟩
    | 4, hj => exact Or.inr ⟨by decide, hj, fun q => absurd q (by decide)⟩
    | 5, hj => exact Or.inr ⟨by decide, hj, fun q => absurd q (by decide)⟩
    | 6, hj => exact Or.inr ⟨by decide, hj, fun q => absurd q (by decide)⟩
    | 7, hj => exact Or.inr ⟨by decide, hj, fun q => absurd q (by decide)⟩
    | 8, hj => exact Or.inr ⟨by decide, hj, fun q => absurd q (by decide)⟩
    | 9, hj => exact Or.inr ⟨by decide, hj, fun q => absurd q (by decide)⟩
    | 10, hj => exact Or.inr ⟨by decide, hj, fun _ => by have e := Option.some.inj hj; rw [← e]; exact hnl⟩
    | 11, hj => exact Or.inl ⟨rfl, (Option.some.inj (Option.some.inj hj)).symm⟩
    | q + 12, hj => exact Or.inr ⟨by omega, hj, fun z => absurd z (by omega)⟩) k
theorem e_iadd {κ : KT} {own : String} {cc : ByteArray} {nL : Nat} {rm : Room} {ad : Nat → Nat} {N : Nat} {ph : Phs} {M : Mem} {pc : Nat} {ls : List (Option AV)} {st : List AV} {cs : Nat × Nat} {Q : State → Prop} (h : Ok κ own cc nL rm) {x y : Int} (d : decode cc pc = .ok (.iadd, 1)) (k : E κ ad N ph M (pc + 1) ls (vi (x + y) :: st) cs Q) : E κ ad N ph M pc ls (vi y :: vi x :: st) cs Q := by
  obtain ⟨p, l, e, R, s, m, args, below, meth, c, D, cy, A⟩ := κ
  obtain ⟨hx, hb, hml, hown, hts, hnw, hlk, hK, hR⟩ := h
  intro h1 h2 H locs Ls hP hS hl
  have kk := k h1 h2 H locs Ls hP hS hl
  refine lv_iadd hx hb d ?_
  rw [← Int32.ofInt_add]
  exact kk
theorem e_isub {κ : KT} {own : String} {cc : ByteArray} {nL : Nat} {rm : Room} {ad : Nat → Nat} {N : Nat} {ph : Phs} {M : Mem} {pc : Nat} {ls : List (Option AV)} {st : List AV} {cs : Nat × Nat} {Q : State → Prop} (h : Ok κ own cc nL rm) {x y : Int} (d : decode cc pc = .ok (.isub, 1)) (k : E κ ad N ph M (pc + 1) ls (vi (x - y) :: st) cs Q) : E κ ad N ph M pc ls (vi y :: vi x :: st) cs Q := by
  obtain ⟨p, l, e, R, s, m, args, below, meth, c, D, cy, A⟩ := κ
  obtain ⟨hx, hb, hml, hown, hts, hnw, hlk, hK, hR⟩ := h
  intro h1 h2 H locs Ls hP hS hl
  have kk := k h1 h2 H locs Ls hP hS hl
  refine lv_isub hx hb d ?_
  rw [← Int32.ofInt_sub]
  exact kk
theorem e_imul {κ : KT} {own : String} {cc : ByteArray} {nL : Nat} {rm : Room} {ad : Nat → Nat} {N : Nat} {ph : Phs} {M : Mem} {pc : Nat} {ls : List (Option AV)} {st : List AV} {cs : Nat × Nat} {Q : State → Prop} (h : Ok κ own cc nL rm) {x y : Int} (d : decode cc pc = .ok (.imul, 1)) (k : E κ ad N ph M (pc + 1) ls (vi (x * y) :: st) cs Q) : E κ ad N ph M pc ls (vi y :: vi x :: st) cs Q := by
  obtain ⟨p, l, e, R, s, m, args, below, meth, c, D, cy, A⟩ := κ
  obtain ⟨hx, hb, hml, hown, hts, hnw, hlk, hK, hR⟩ := h
  intro h1 h2 H locs Ls hP hS hl
  have kk := k h1 h2 H locs Ls hP hS hl
  refine lv_imul hx hb d ?_
  rw [← Int32.ofInt_mul]
  exact kk
theorem e_ladd {κ : KT} {own : String} {cc : ByteArray} {nL : Nat} {rm : Room} {ad : Nat → Nat} {N : Nat} {ph : Phs} {M : Mem} {pc : Nat} {ls : List (Option AV)} {st : List AV} {cs : Nat × Nat} {Q : State → Prop} (h : Ok κ own cc nL rm) {x y : Int} (d : decode cc pc = .ok (.ladd, 1)) (k : E κ ad N ph M (pc + 1) ls (vj (x + y) :: st) cs Q) : E κ ad N ph M pc ls (vj y :: vj x :: st) cs Q := by
  obtain ⟨p, l, e, R, s, m, args, below, meth, c, D, cy, A⟩ := κ
  obtain ⟨hx, hb, hml, hown, hts, hnw, hlk, hK, hR⟩ := h
  intro h1 h2 H locs Ls hP hS hl
  have kk := k h1 h2 H locs Ls hP hS hl
  refine lv_ladd hx hb d ?_
  rw [← Int64.ofInt_add]
  exact kk
theorem e_lsub {κ : KT} {own : String} {cc : ByteArray} {nL : Nat} {rm : Room} {ad : Nat → Nat} {N : Nat} {ph : Phs} {M : Mem} {pc : Nat} {ls : List (Option AV)} {st : List AV} {cs : Nat × Nat} {Q : State → Prop} (h : Ok κ own cc nL rm) {x y : Int} (d : decode cc pc = .ok (.lsub, 1)) (k : E κ ad N ph M (pc + 1) ls (vj (x - y) :: st) cs Q) : E κ ad N ph M pc ls (vj y :: vj x :: st) cs Q := by
  obtain ⟨p, l, e, R, s, m, args, below, meth, c, D, cy, A⟩ := κ
  obtain ⟨hx, hb, hml, hown, hts, hnw, hlk, hK, hR⟩ := h
  intro h1 h2 H locs Ls hP hS hl
  have kk := k h1 h2 H locs Ls hP hS hl
  refine lv_lsub hx hb d ?_
  rw [← Int64.ofInt_sub]
  exact kk
theorem e_lmul {κ : KT} {own : String} {cc : ByteArray} {nL : Nat} {rm : Room} {ad : Nat → Nat} {N : Nat} {ph : Phs} {M : Mem} {pc : Nat} {ls : List (Option AV)} {st : List AV} {cs : Nat × Nat} {Q : State → Prop} (h : Ok κ own cc nL rm) {x y : Int} (d : decode cc pc = .ok (.lmul, 1)) (k : E κ ad N ph M (pc + 1) ls (vj (x * y) :: st) cs Q) : E κ ad N ph M pc ls (vj y :: vj x :: st) cs Q := by
  obtain ⟨p, l, e, R, s, m, args, below, meth, c, D, cy, A⟩ := κ
  obtain ⟨hx, hb, hml, hown, hts, hnw, hlk, hK, hR⟩ := h
  intro h1 h2 H locs Ls hP hS hl
  have kk := k h1 h2 H locs Ls hP hS hl
  refine lv_lmul hx hb d ?_
  rw [← Int64.ofInt_mul]
  exact kk

theorem i_div {x y : Int} (hx : -2147483648 ≤ x ∧ x ≤ 2147483647) (hy : 0 < y ∧ y ≤ 2147483647) : Int32.ofInt x / Int32.ofInt y = Int32.ofInt (x.tdiv y) := by
  exact (Int32.ofInt_tdiv (a := x) (b := y) (by show -2147483648 ≤ x; omega) (by show x ≤ 2147483647; omega) (by show -2147483648 ≤ y; omega) (by show y ≤ 2147483647; omega)).symm
theorem j_div {x y : Int} (hx : -9223372036854775808 ≤ x ∧ x ≤ 9223372036854775807) (hy : 0 < y ∧ y ≤ 9223372036854775807) : Int64.ofInt x / Int64.ofInt y = Int64.ofInt (x.tdiv y) := by
  exact (Int64.ofInt_tdiv (a := x) (b := y) (by show -9223372036854775808 ≤ x; omega) (by show x ≤ 9223372036854775807; omega) (by show -9223372036854775808 ≤ y; omega) (by show y ≤ 9223372036854775807; omega)).symm
theorem i_ne0 {y : Int} (hy : 0 < y ∧ y ≤ 2147483647) : ¬ Int32.ofInt y = 0 := by
  rw [← i_zero, i_eq (by omega) (by omega)]
  omega
theorem j_ne0 {y : Int} (hy : 0 < y ∧ y ≤ 9223372036854775807) : ¬ Int64.ofInt y = 0 := by
  intro q
  have := congrArg Int64.toInt q
  rw [j_toInt (by omega)] at this
  have h0 : (0 : Int64).toInt = 0 := rfl
  omega
theorem i_rem {x y : Int} (hx : -2147483648 ≤ x ∧ x ≤ 2147483647) (hy : 0 < y ∧ y ≤ 2147483647) : Int32.ofInt x - Int32.ofInt x / Int32.ofInt y * Int32.ofInt y = Int32.ofInt (x.tmod y) := by
  rw [i_div hx hy, ← Int32.ofInt_mul, ← Int32.ofInt_sub, Int.tmod_def, Int.mul_comm]
theorem j_rem {x y : Int} (hx : -9223372036854775808 ≤ x ∧ x ≤ 9223372036854775807) (hy : 0 < y ∧ y ≤ 9223372036854775807) : Int64.ofInt x - Int64.ofInt x / Int64.ofInt y * Int64.ofInt y = Int64.ofInt (x.tmod y) := by
  rw [j_div hx hy, ← Int64.ofInt_mul, ← Int64.ofInt_sub, Int.tmod_def, Int.mul_comm]

theorem e_idiv {κ : KT} {own : String} {cc : ByteArray} {nL : Nat} {rm : Room} {ad : Nat → Nat} {N : Nat} {ph : Phs} {M : Mem} {pc : Nat} {ls : List (Option AV)} {st : List AV} {cs : Nat × Nat} {Q : State → Prop} (h : Ok κ own cc nL rm) {x y : Int} (d : decode cc pc = .ok (.idiv, 1))(hx0 : -2147483648 ≤ x ∧ x ≤ 2147483647)(hy : 0 < y ∧ y ≤ 2147483647) (k : E κ ad N ph M (pc + 1) ls (vi (x.tdiv y) :: st) cs Q) : E κ ad N ph M pc ls (vi y :: vi x :: st) cs Q := by
  obtain ⟨p, l, e, R, s, m, args, below, meth, c, D, cy, A⟩ := κ
  obtain ⟨hx, hb, hml, hown, hts, hnw, hlk, hK, hR⟩ := h
  intro h1 h2 H locs Ls hP hS hl
  have kk := k h1 h2 H locs Ls hP hS hl
  refine lv_idiv hx hb d (i_ne0 hy) ?_
  rw [i_div hx0 hy]
  exact kk
theorem e_irem {κ : KT} {own : String} {cc : ByteArray} {nL : Nat} {rm : Room} {ad : Nat → Nat} {N : Nat} {ph : Phs} {M : Mem} {pc : Nat} {ls : List (Option AV)} {st : List AV} {cs : Nat × Nat} {Q : State → Prop} (h : Ok κ own cc nL rm) {x y : Int} (d : decode cc pc = .ok (.irem, 1))(hx0 : -2147483648 ≤ x ∧ x ≤ 2147483647)(hy : 0 < y ∧ y ≤ 2147483647) (k : E κ ad N ph M (pc + 1) ls (vi (x.tmod y) :: st) cs Q) : E κ ad N ph M pc ls (vi y :: vi x :: st) cs Q := by
  obtain ⟨p, l, e, R, s, m, args, below, meth, c, D, cy, A⟩ := κ
  obtain ⟨hx, hb, hml, hown, hts, hnw, hlk, hK, hR⟩ := h
  intro h1 h2 H locs Ls hP hS hl
  have kk := k h1 h2 H locs Ls hP hS hl
  refine lv_irem hx hb d (i_ne0 hy) ?_
  rw [i_rem hx0 hy]
  exact kk
theorem e_ldiv {κ : KT} {own : String} {cc : ByteArray} {nL : Nat} {rm : Room} {ad : Nat → Nat} {N : Nat} {ph : Phs} {M : Mem} {pc : Nat} {ls : List (Option AV)} {st : List AV} {cs : Nat × Nat} {Q : State → Prop} (h : Ok κ own cc nL rm) {x y : Int} (d : decode cc pc = .ok (.ldiv, 1))(hx0 : -9223372036854775808 ≤ x ∧ x ≤ 9223372036854775807)(hy : 0 < y ∧ y ≤ 9223372036854775807) (k : E κ ad N ph M (pc + 1) ls (vj (x.tdiv y) :: st) cs Q) : E κ ad N ph M pc ls (vj y :: vj x :: st) cs Q := by
  obtain ⟨p, l, e, R, s, m, args, below, meth, c, D, cy, A⟩ := κ
  obtain ⟨hx, hb, hml, hown, hts, hnw, hlk, hK, hR⟩ := h
  intro h1 h2 H locs Ls hP hS hl
  have kk := k h1 h2 H locs Ls hP hS hl
  refine lv_ldiv hx hb d (j_ne0 hy) ?_
  rw [j_div hx0 hy]
  exact kk
theorem e_lrem {κ : KT} {own : String} {cc : ByteArray} {nL : Nat} {rm : Room} {ad : Nat → Nat} {N : Nat} {ph : Phs} {M : Mem} {pc : Nat} {ls : List (Option AV)} {st : List AV} {cs : Nat × Nat} {Q : State → Prop} (h : Ok κ own cc nL rm) {x y : Int} (d : decode cc pc = .ok (.lrem, 1))(hx0 : -9223372036854775808 ≤ x ∧ x ≤ 9223372036854775807)(hy : 0 < y ∧ y ≤ 9223372036854775807) (k : E κ ad N ph M (pc + 1) ls (vj (x.tmod y) :: st) cs Q) : E κ ad N ph M pc ls (vj y :: vj x :: st) cs Q := by
  obtain ⟨p, l, e, R, s, m, args, below, meth, c, D, cy, A⟩ := κ
  obtain ⟨hx, hb, hml, hown, hts, hnw, hlk, hK, hR⟩ := h
  intro h1 h2 H locs Ls hP hS hl
  have kk := k h1 h2 H locs Ls hP hS hl
  refine lv_lrem hx hb d (j_ne0 hy) ?_
  rw [j_rem hx0 hy]
  exact kk
theorem e_iand {κ : KT} {own : String} {cc : ByteArray} {nL : Nat} {rm : Room} {ad : Nat → Nat} {N : Nat} {ph : Phs} {M : Mem} {pc : Nat} {ls : List (Option AV)} {st : List AV} {cs : Nat × Nat} {Q : State → Prop} (h : Ok κ own cc nL rm) {x y z : Int} (d : decode cc pc = .ok (.iand, 1)) (hz : Int32.ofInt x &&& Int32.ofInt y = Int32.ofInt z) (k : E κ ad N ph M (pc + 1) ls (vi z :: st) cs Q) : E κ ad N ph M pc ls (vi y :: vi x :: st) cs Q := by
  obtain ⟨p, l, e, R, s, m, args, below, meth, c, D, cy, A⟩ := κ
  obtain ⟨hx, hb, hml, hown, hts, hnw, hlk, hK, hR⟩ := h
  intro h1 h2 H locs Ls hP hS hl
  have kk := k h1 h2 H locs Ls hP hS hl
  refine lv_iand hx hb d ?_
  rw [hz]
  exact kk
theorem e_ior {κ : KT} {own : String} {cc : ByteArray} {nL : Nat} {rm : Room} {ad : Nat → Nat} {N : Nat} {ph : Phs} {M : Mem} {pc : Nat} {ls : List (Option AV)} {st : List AV} {cs : Nat × Nat} {Q : State → Prop} (h : Ok κ own cc nL rm) {x y z : Int} (d : decode cc pc = .ok (.ior, 1)) (hz : Int32.ofInt x ||| Int32.ofInt y = Int32.ofInt z) (k : E κ ad N ph M (pc + 1) ls (vi z :: st) cs Q) : E κ ad N ph M pc ls (vi y :: vi x :: st) cs Q := by
  obtain ⟨p, l, e, R, s, m, args, below, meth, c, D, cy, A⟩ := κ
  obtain ⟨hx, hb, hml, hown, hts, hnw, hlk, hK, hR⟩ := h
  intro h1 h2 H locs Ls hP hS hl
  have kk := k h1 h2 H locs Ls hP hS hl
  refine lv_ior hx hb d ?_
  rw [hz]
  exact kk
theorem e_land {κ : KT} {own : String} {cc : ByteArray} {nL : Nat} {rm : Room} {ad : Nat → Nat} {N : Nat} {ph : Phs} {M : Mem} {pc : Nat} {ls : List (Option AV)} {st : List AV} {cs : Nat × Nat} {Q : State → Prop} (h : Ok κ own cc nL rm) {x y z : Int} (d : decode cc pc = .ok (.land, 1)) (hz : Int64.ofInt x &&& Int64.ofInt y = Int64.ofInt z) (k : E κ ad N ph M (pc + 1) ls (vj z :: st) cs Q) : E κ ad N ph M pc ls (vj y :: vj x :: st) cs Q := by
  obtain ⟨p, l, e, R, s, m, args, below, meth, c, D, cy, A⟩ := κ
  obtain ⟨hx, hb, hml, hown, hts, hnw, hlk, hK, hR⟩ := h
  intro h1 h2 H locs Ls hP hS hl
  have kk := k h1 h2 H locs Ls hP hS hl
  refine lv_land hx hb d ?_
  rw [hz]
  exact kk
theorem e_lor {κ : KT} {own : String} {cc : ByteArray} {nL : Nat} {rm : Room} {ad : Nat → Nat} {N : Nat} {ph : Phs} {M : Mem} {pc : Nat} {ls : List (Option AV)} {st : List AV} {cs : Nat × Nat} {Q : State → Prop} (h : Ok κ own cc nL rm) {x y z : Int} (d : decode cc pc = .ok (.lor, 1)) (hz : Int64.ofInt x ||| Int64.ofInt y = Int64.ofInt z) (k : E κ ad N ph M (pc + 1) ls (vj z :: st) cs Q) : E κ ad N ph M pc ls (vj y :: vj x :: st) cs Q := by
  obtain ⟨p, l, e, R, s, m, args, below, meth, c, D, cy, A⟩ := κ
  obtain ⟨hx, hb, hml, hown, hts, hnw, hlk, hK, hR⟩ := h
  intro h1 h2 H locs Ls hP hS hl
  have kk := k h1 h2 H locs Ls hP hS hl
  refine lv_lor hx hb d ?_
  rw [hz]
  exact kk
theorem e_ishl {κ : KT} {own : String} {cc : ByteArray} {nL : Nat} {rm : Room} {ad : Nat → Nat} {N : Nat} {ph : Phs} {M : Mem} {pc : Nat} {ls : List (Option AV)} {st : List AV} {cs : Nat × Nat} {Q : State → Prop} (h : Ok κ own cc nL rm) {x y z : Int} (d : decode cc pc = .ok (.ishl, 1)) (hz : Int32.ofInt x <<< (Int32.ofInt y &&& 31) = Int32.ofInt z) (k : E κ ad N ph M (pc + 1) ls (vi z :: st) cs Q) : E κ ad N ph M pc ls (vi y :: vi x :: st) cs Q := by
  obtain ⟨p, l, e, R, s, m, args, below, meth, c, D, cy, A⟩ := κ
  obtain ⟨hx, hb, hml, hown, hts, hnw, hlk, hK, hR⟩ := h
  intro h1 h2 H locs Ls hP hS hl
  have kk := k h1 h2 H locs Ls hP hS hl
  refine lv_ishl hx hb d ?_
  rw [hz]
  exact kk
theorem e_lshl {κ : KT} {own : String} {cc : ByteArray} {nL : Nat} {rm : Room} {ad : Nat → Nat} {N : Nat} {ph : Phs} {M : Mem} {pc : Nat} {ls : List (Option AV)} {st : List AV} {cs : Nat × Nat} {Q : State → Prop} (h : Ok κ own cc nL rm) {x y z : Int} (d : decode cc pc = .ok (.lshl, 1)) (hz : Int64.ofInt x <<< ((Int32.ofInt y).toInt64 &&& 63) = Int64.ofInt z) (k : E κ ad N ph M (pc + 1) ls (vj z :: st) cs Q) : E κ ad N ph M pc ls (vi y :: vj x :: st) cs Q := by
  obtain ⟨p, l, e, R, s, m, args, below, meth, c, D, cy, A⟩ := κ
  obtain ⟨hx, hb, hml, hown, hts, hnw, hlk, hK, hR⟩ := h
  intro h1 h2 H locs Ls hP hS hl
  have kk := k h1 h2 H locs Ls hP hS hl
  exact lv_lshl hx hb d hz kk
theorem e_lshr {κ : KT} {own : String} {cc : ByteArray} {nL : Nat} {rm : Room} {ad : Nat → Nat} {N : Nat} {ph : Phs} {M : Mem} {pc : Nat} {ls : List (Option AV)} {st : List AV} {cs : Nat × Nat} {Q : State → Prop} (h : Ok κ own cc nL rm) {x y z : Int} (d : decode cc pc = .ok (.lshr, 1)) (hz : Int64.ofInt x >>> ((Int32.ofInt y).toInt64 &&& 63) = Int64.ofInt z) (k : E κ ad N ph M (pc + 1) ls (vj z :: st) cs Q) : E κ ad N ph M pc ls (vi y :: vj x :: st) cs Q := by
  obtain ⟨p, l, e, R, s, m, args, below, meth, c, D, cy, A⟩ := κ
  obtain ⟨hx, hb, hml, hown, hts, hnw, hlk, hK, hR⟩ := h
  intro h1 h2 H locs Ls hP hS hl
  have kk := k h1 h2 H locs Ls hP hS hl
  exact lv_lshr hx hb d hz kk
theorem e_lushr {κ : KT} {own : String} {cc : ByteArray} {nL : Nat} {rm : Room} {ad : Nat → Nat} {N : Nat} {ph : Phs} {M : Mem} {pc : Nat} {ls : List (Option AV)} {st : List AV} {cs : Nat × Nat} {Q : State → Prop} (h : Ok κ own cc nL rm) {x y z : Int} (d : decode cc pc = .ok (.lushr, 1)) (hz : ((Int64.ofInt x).toUInt64 >>> ((Int32.ofInt y).toInt64.toUInt64 &&& Int64.toUInt64 63)).toInt64 = Int64.ofInt z) (k : E κ ad N ph M (pc + 1) ls (vj z :: st) cs Q) : E κ ad N ph M pc ls (vi y :: vj x :: st) cs Q := by
  obtain ⟨p, l, e, R, s, m, args, below, meth, c, D, cy, A⟩ := κ
  obtain ⟨hx, hb, hml, hown, hts, hnw, hlk, hK, hR⟩ := h
  intro h1 h2 H locs Ls hP hS hl
  have kk := k h1 h2 H locs Ls hP hS hl
  exact lv_lushr hx hb d hz kk
theorem e_i2l {κ : KT} {own : String} {cc : ByteArray} {nL : Nat} {rm : Room} {ad : Nat → Nat} {N : Nat} {ph : Phs} {M : Mem} {pc : Nat} {ls : List (Option AV)} {st : List AV} {cs : Nat × Nat} {Q : State → Prop} (h : Ok κ own cc nL rm) {x : Int} (d : decode cc pc = .ok (.i2l, 1))(hx0 : -2147483648 ≤ x ∧ x ≤ 2147483647) (k : E κ ad N ph M (pc + 1) ls (vj x :: st) cs Q) : E κ ad N ph M pc ls (vi x :: st) cs Q := by
  obtain ⟨p, l, e, R, s, m, args, below, meth, c, D, cy, A⟩ := κ
  obtain ⟨hx, hb, hml, hown, hts, hnw, hlk, hK, hR⟩ := h
  intro h1 h2 H locs Ls hP hS hl
  have kk := k h1 h2 H locs Ls hP hS hl
  exact lv_i2l hx hb d (Int32.toInt64_ofInt (by show -2147483648 ≤ x; omega) (by show x ≤ 2147483647; omega)) kk
theorem e_l2i {κ : KT} {own : String} {cc : ByteArray} {nL : Nat} {rm : Room} {ad : Nat → Nat} {N : Nat} {ph : Phs} {M : Mem} {pc : Nat} {ls : List (Option AV)} {st : List AV} {cs : Nat × Nat} {Q : State → Prop} (h : Ok κ own cc nL rm) {x : Int} (d : decode cc pc = .ok (.l2i, 1)) (k : E κ ad N ph M (pc + 1) ls (vi x :: st) cs Q) : E κ ad N ph M pc ls (vj x :: st) cs Q := by
  obtain ⟨p, l, e, R, s, m, args, below, meth, c, D, cy, A⟩ := κ
  obtain ⟨hx, hb, hml, hown, hts, hnw, hlk, hK, hR⟩ := h
  intro h1 h2 H locs Ls hP hS hl
  have kk := k h1 h2 H locs Ls hP hS hl
  exact lv_l2i hx hb d Int64.toInt32_ofInt kk

theorem j_lt {x y : Int} (hx : -9223372036854775808 ≤ x ∧ x ≤ 9223372036854775807) (hy : -9223372036854775808 ≤ y ∧ y ≤ 9223372036854775807) : Int64.ofInt x < Int64.ofInt y ↔ x < y := by
  rw [Int64.lt_iff_toInt_lt, j_toInt hx, j_toInt hy]
def lcmp (x y : Int) : Int := if y < x then 1 else if x < y then -1 else 0
theorem lcmp_eq {x y : Int} (hx : -9223372036854775808 ≤ x ∧ x ≤ 9223372036854775807) (hy : -9223372036854775808 ≤ y ∧ y ≤ 9223372036854775807) : lg_cmp (Int64.ofInt x) (Int64.ofInt y) = Int32.ofInt (lcmp x y) := by
  unfold lg_cmp lcmp
  have e : Int64.ofInt x = Int64.ofInt y ↔ x = y := by
    rw [← Int64.toInt_inj, j_toInt hx, j_toInt hy]
  simp only [gt_iff_lt, j_lt hy hx, e]
  by_cases h1 : y < x
  · rw [if_pos h1, if_pos h1]; rfl
  · by_cases h2 : x = y
    · rw [if_neg h1, if_pos h2, if_neg h1, if_neg (by omega)]; rfl
    · rw [if_neg h1, if_neg h2, if_neg h1, if_pos (by omega)]; rfl

theorem e_lcmp {κ : KT} {own : String} {cc : ByteArray} {nL : Nat} {rm : Room} {ad : Nat → Nat} {N : Nat} {ph : Phs} {M : Mem} {pc : Nat} {ls : List (Option AV)} {st : List AV} {cs : Nat × Nat} {Q : State → Prop} (h : Ok κ own cc nL rm) {x y : Int} (d : decode cc pc = .ok (.lcmp, 1))(hx0 : -9223372036854775808 ≤ x ∧ x ≤ 9223372036854775807)(hy0 : -9223372036854775808 ≤ y ∧ y ≤ 9223372036854775807) (k : E κ ad N ph M (pc + 1) ls (vi (lcmp x y) :: st) cs Q) : E κ ad N ph M pc ls (vj y :: vj x :: st) cs Q := by
  obtain ⟨p, l, e, R, s, m, args, below, meth, c, D, cy, A⟩ := κ
  obtain ⟨hx, hb, hml, hown, hts, hnw, hlk, hK, hR⟩ := h
  intro h1 h2 H locs Ls hP hS hl
  have kk := k h1 h2 H locs Ls hP hS hl
  refine W.lcmp hx hb d ?_
  rw [lcmp_eq hx0 hy0]
  exact kk
theorem e_dup {κ : KT} {own : String} {cc : ByteArray} {nL : Nat} {rm : Room} {ad : Nat → Nat} {N : Nat} {ph : Phs} {M : Mem} {pc : Nat} {ls : List (Option AV)} {st : List AV} {cs : Nat × Nat} {Q : State → Prop} (h : Ok κ own cc nL rm) {v : AV} (d : decode cc pc = .ok (.dup, 1)) (hv : ct v = 1) (k : E κ ad N ph M (pc + 1) ls (v :: v :: st) cs Q) : E κ ad N ph M pc ls (v :: st) cs Q := by
  obtain ⟨p, l, e, R, s, m, args, below, meth, c, D, cy, A⟩ := κ
  obtain ⟨hx, hb, hml, hown, hts, hnw, hlk, hK, hR⟩ := h
  intro h1 h2 H locs Ls hP hS hl
  have kk := k h1 h2 H locs Ls hP hS hl
  exact lv_dup hx hb d ((cv_cat ad v).trans hv) kk
theorem e_dup2 {κ : KT} {own : String} {cc : ByteArray} {nL : Nat} {rm : Room} {ad : Nat → Nat} {N : Nat} {ph : Phs} {M : Mem} {pc : Nat} {ls : List (Option AV)} {st : List AV} {cs : Nat × Nat} {Q : State → Prop} (h : Ok κ own cc nL rm) {v w : AV} (d : decode cc pc = .ok (.dup2, 1)) (hv : ct v = 1) (hw : ct w = 1) (k : E κ ad N ph M (pc + 1) ls (v :: w :: v :: w :: st) cs Q) : E κ ad N ph M pc ls (v :: w :: st) cs Q := by
  obtain ⟨p, l, e, R, s, m, args, below, meth, c, D, cy, A⟩ := κ
  obtain ⟨hx, hb, hml, hown, hts, hnw, hlk, hK, hR⟩ := h
  intro h1 h2 H locs Ls hP hS hl
  have kk := k h1 h2 H locs Ls hP hS hl
  exact lv_dup2_11 hx hb d ((cv_cat ad v).trans hv) ((cv_cat ad w).trans hw) kk
theorem e_pop {κ : KT} {own : String} {cc : ByteArray} {nL : Nat} {rm : Room} {ad : Nat → Nat} {N : Nat} {ph : Phs} {M : Mem} {pc : Nat} {ls : List (Option AV)} {st : List AV} {cs : Nat × Nat} {Q : State → Prop} (h : Ok κ own cc nL rm) {v : AV} (d : decode cc pc = .ok (.pop, 1)) (hv : ct v = 1) (k : E κ ad N ph M (pc + 1) ls st cs Q) : E κ ad N ph M pc ls (v :: st) cs Q := by
  obtain ⟨p, l, e, R, s, m, args, below, meth, c, D, cy, A⟩ := κ
  obtain ⟨hx, hb, hml, hown, hts, hnw, hlk, hK, hR⟩ := h
  intro h1 h2 H locs Ls hP hS hl
  have kk := k h1 h2 H locs Ls hP hS hl
  exact lv_pop hx hb d ((cv_cat ad v).trans hv) kk
theorem e_icmp_eq {κ : KT} {own : String} {cc : ByteArray} {nL : Nat} {rm : Room} {ad : Nat → Nat} {N : Nat} {ph : Phs} {M : Mem} {pc : Nat} {ls : List (Option AV)} {st : List AV} {cs : Nat × Nat} {Q : State → Prop} (h : Ok κ own cc nL rm) {off : Int} {tgt : Nat} {x y : Int} (d : decode cc pc = .ok (.if_icmp .eq off, 3)) (ht : (pc : Int) + off = (tgt : Int)) (hx0 : -2147483648 ≤ x ∧ x ≤ 2147483647) (hy0 : -2147483648 ≤ y ∧ y ≤ 2147483647) (kt : (x = y) → E κ ad N ph M tgt ls st cs Q) (kf : ¬ (x = y) → E κ ad N ph M (pc + 3) ls st cs Q) : E κ ad N ph M pc ls (vi y :: vi x :: st) cs Q := by
  obtain ⟨p, l, e, R, s, m, args, below, meth, c, D, cy, A⟩ := κ
  obtain ⟨hx, hb, hml, hown, hts, hnw, hlk, hK, hR⟩ := h
  intro h1 h2 H locs Ls hP hS hl
  exact lv_icmp_eq hx hb d ht (fun q => kt ((i_eq hx0 hy0).mp q) h1 h2 H locs Ls hP hS hl) (fun q => kf (fun z => q ((i_eq hx0 hy0).mpr z)) h1 h2 H locs Ls hP hS hl)
theorem e_icmp_lt {κ : KT} {own : String} {cc : ByteArray} {nL : Nat} {rm : Room} {ad : Nat → Nat} {N : Nat} {ph : Phs} {M : Mem} {pc : Nat} {ls : List (Option AV)} {st : List AV} {cs : Nat × Nat} {Q : State → Prop} (h : Ok κ own cc nL rm) {off : Int} {tgt : Nat} {x y : Int} (d : decode cc pc = .ok (.if_icmp .lt off, 3)) (ht : (pc : Int) + off = (tgt : Int)) (hx0 : -2147483648 ≤ x ∧ x ≤ 2147483647) (hy0 : -2147483648 ≤ y ∧ y ≤ 2147483647) (kt : (x < y) → E κ ad N ph M tgt ls st cs Q) (kf : ¬ (x < y) → E κ ad N ph M (pc + 3) ls st cs Q) : E κ ad N ph M pc ls (vi y :: vi x :: st) cs Q := by
  obtain ⟨p, l, e, R, s, m, args, below, meth, c, D, cy, A⟩ := κ
  obtain ⟨hx, hb, hml, hown, hts, hnw, hlk, hK, hR⟩ := h
  intro h1 h2 H locs Ls hP hS hl
  exact lv_icmp_lt hx hb d ht (fun q => kt ((i_lt hx0 hy0).mp q) h1 h2 H locs Ls hP hS hl) (fun q => kf (fun z => q ((i_lt hx0 hy0).mpr z)) h1 h2 H locs Ls hP hS hl)
theorem e_icmp_ge {κ : KT} {own : String} {cc : ByteArray} {nL : Nat} {rm : Room} {ad : Nat → Nat} {N : Nat} {ph : Phs} {M : Mem} {pc : Nat} {ls : List (Option AV)} {st : List AV} {cs : Nat × Nat} {Q : State → Prop} (h : Ok κ own cc nL rm) {off : Int} {tgt : Nat} {x y : Int} (d : decode cc pc = .ok (.if_icmp .ge off, 3)) (ht : (pc : Int) + off = (tgt : Int)) (hx0 : -2147483648 ≤ x ∧ x ≤ 2147483647) (hy0 : -2147483648 ≤ y ∧ y ≤ 2147483647) (kt : (y ≤ x) → E κ ad N ph M tgt ls st cs Q) (kf : ¬ (y ≤ x) → E κ ad N ph M (pc + 3) ls st cs Q) : E κ ad N ph M pc ls (vi y :: vi x :: st) cs Q := by
  obtain ⟨p, l, e, R, s, m, args, below, meth, c, D, cy, A⟩ := κ
  obtain ⟨hx, hb, hml, hown, hts, hnw, hlk, hK, hR⟩ := h
  intro h1 h2 H locs Ls hP hS hl
  exact lv_icmp_ge hx hb d ht (fun q => kt ((i_le hy0 hx0).mp q) h1 h2 H locs Ls hP hS hl) (fun q => kf (fun z => q ((i_le hy0 hx0).mpr z)) h1 h2 H locs Ls hP hS hl)
theorem e_icmp_gt {κ : KT} {own : String} {cc : ByteArray} {nL : Nat} {rm : Room} {ad : Nat → Nat} {N : Nat} {ph : Phs} {M : Mem} {pc : Nat} {ls : List (Option AV)} {st : List AV} {cs : Nat × Nat} {Q : State → Prop} (h : Ok κ own cc nL rm) {off : Int} {tgt : Nat} {x y : Int} (d : decode cc pc = .ok (.if_icmp .gt off, 3)) (ht : (pc : Int) + off = (tgt : Int)) (hx0 : -2147483648 ≤ x ∧ x ≤ 2147483647) (hy0 : -2147483648 ≤ y ∧ y ≤ 2147483647) (kt : (y < x) → E κ ad N ph M tgt ls st cs Q) (kf : ¬ (y < x) → E κ ad N ph M (pc + 3) ls st cs Q) : E κ ad N ph M pc ls (vi y :: vi x :: st) cs Q := by
  obtain ⟨p, l, e, R, s, m, args, below, meth, c, D, cy, A⟩ := κ
  obtain ⟨hx, hb, hml, hown, hts, hnw, hlk, hK, hR⟩ := h
  intro h1 h2 H locs Ls hP hS hl
  exact lv_icmp_gt hx hb d ht (fun q => kt ((i_lt hy0 hx0).mp q) h1 h2 H locs Ls hP hS hl) (fun q => kf (fun z => q ((i_lt hy0 hx0).mpr z)) h1 h2 H locs Ls hP hS hl)
theorem e_icmp_le {κ : KT} {own : String} {cc : ByteArray} {nL : Nat} {rm : Room} {ad : Nat → Nat} {N : Nat} {ph : Phs} {M : Mem} {pc : Nat} {ls : List (Option AV)} {st : List AV} {cs : Nat × Nat} {Q : State → Prop} (h : Ok κ own cc nL rm) {off : Int} {tgt : Nat} {x y : Int} (d : decode cc pc = .ok (.if_icmp .le off, 3)) (ht : (pc : Int) + off = (tgt : Int)) (hx0 : -2147483648 ≤ x ∧ x ≤ 2147483647) (hy0 : -2147483648 ≤ y ∧ y ≤ 2147483647) (kt : (x ≤ y) → E κ ad N ph M tgt ls st cs Q) (kf : ¬ (x ≤ y) → E κ ad N ph M (pc + 3) ls st cs Q) : E κ ad N ph M pc ls (vi y :: vi x :: st) cs Q := by
  obtain ⟨p, l, e, R, s, m, args, below, meth, c, D, cy, A⟩ := κ
  obtain ⟨hx, hb, hml, hown, hts, hnw, hlk, hK, hR⟩ := h
  intro h1 h2 H locs Ls hP hS hl
  exact lv_icmp_le hx hb d ht (fun q => kt ((i_le hx0 hy0).mp q) h1 h2 H locs Ls hP hS hl) (fun q => kf (fun z => q ((i_le hx0 hy0).mpr z)) h1 h2 H locs Ls hP hS hl)
theorem e_icmp_ne {κ : KT} {own : String} {cc : ByteArray} {nL : Nat} {rm : Room} {ad : Nat → Nat} {N : Nat} {ph : Phs} {M : Mem} {pc : Nat} {ls : List (Option AV)} {st : List AV} {cs : Nat × Nat} {Q : State → Prop} (h : Ok κ own cc nL rm) {off : Int} {tgt : Nat} {x y : Int} (d : decode cc pc = .ok (.if_icmp .ne off, 3)) (ht : (pc : Int) + off = (tgt : Int)) (hx0 : -2147483648 ≤ x ∧ x ≤ 2147483647) (hy0 : -2147483648 ≤ y ∧ y ≤ 2147483647) (kt : (x ≠ y) → E κ ad N ph M tgt ls st cs Q) (kf : (x = y) → E κ ad N ph M (pc + 3) ls st cs Q) : E κ ad N ph M pc ls (vi y :: vi x :: st) cs Q := by
  obtain ⟨p, l, e, R, s, m, args, below, meth, c, D, cy, A⟩ := κ
  obtain ⟨hx, hb, hml, hown, hts, hnw, hlk, hK, hR⟩ := h
  intro h1 h2 H locs Ls hP hS hl
  exact lv_icmp_ne hx hb d ht (fun q => kt (fun z => q ((i_eq hx0 hy0).mpr z)) h1 h2 H locs Ls hP hS hl) (fun q => kf ((i_eq hx0 hy0).mp q) h1 h2 H locs Ls hP hS hl)
theorem e_if_eq {κ : KT} {own : String} {cc : ByteArray} {nL : Nat} {rm : Room} {ad : Nat → Nat} {N : Nat} {ph : Phs} {M : Mem} {pc : Nat} {ls : List (Option AV)} {st : List AV} {cs : Nat × Nat} {Q : State → Prop} (h : Ok κ own cc nL rm) {off : Int} {tgt : Nat} {x : Int} (d : decode cc pc = .ok (.ifCond .eq off, 3)) (ht : (pc : Int) + off = (tgt : Int)) (hx0 : -2147483648 ≤ x ∧ x ≤ 2147483647)  (kt : (x = 0) → E κ ad N ph M tgt ls st cs Q) (kf : ¬ (x = 0) → E κ ad N ph M (pc + 3) ls st cs Q) : E κ ad N ph M pc ls (vi x :: st) cs Q := by
  obtain ⟨p, l, e, R, s, m, args, below, meth, c, D, cy, A⟩ := κ
  obtain ⟨hx, hb, hml, hown, hts, hnw, hlk, hK, hR⟩ := h
  intro h1 h2 H locs Ls hP hS hl
  exact lv_if_eq hx hb d ht (fun q => kt ((i_eq (y := 0) hx0 (by omega)).mp q) h1 h2 H locs Ls hP hS hl) (fun q => kf (fun z => q ((i_eq (y := 0) hx0 (by omega)).mpr z)) h1 h2 H locs Ls hP hS hl)
theorem e_if_ne {κ : KT} {own : String} {cc : ByteArray} {nL : Nat} {rm : Room} {ad : Nat → Nat} {N : Nat} {ph : Phs} {M : Mem} {pc : Nat} {ls : List (Option AV)} {st : List AV} {cs : Nat × Nat} {Q : State → Prop} (h : Ok κ own cc nL rm) {off : Int} {tgt : Nat} {x : Int} (d : decode cc pc = .ok (.ifCond .ne off, 3)) (ht : (pc : Int) + off = (tgt : Int)) (hx0 : -2147483648 ≤ x ∧ x ≤ 2147483647)  (kt : (x ≠ 0) → E κ ad N ph M tgt ls st cs Q) (kf : (x = 0) → E κ ad N ph M (pc + 3) ls st cs Q) : E κ ad N ph M pc ls (vi x :: st) cs Q := by
  obtain ⟨p, l, e, R, s, m, args, below, meth, c, D, cy, A⟩ := κ
  obtain ⟨hx, hb, hml, hown, hts, hnw, hlk, hK, hR⟩ := h
  intro h1 h2 H locs Ls hP hS hl
  exact lv_if_ne hx hb d ht (fun q => kt (fun z => q ((i_eq (y := 0) hx0 (by omega)).mpr z)) h1 h2 H locs Ls hP hS hl) (fun q => kf ((i_eq (y := 0) hx0 (by omega)).mp q) h1 h2 H locs Ls hP hS hl)
theorem e_if_lt {κ : KT} {own : String} {cc : ByteArray} {nL : Nat} {rm : Room} {ad : Nat → Nat} {N : Nat} {ph : Phs} {M : Mem} {pc : Nat} {ls : List (Option AV)} {st : List AV} {cs : Nat × Nat} {Q : State → Prop} (h : Ok κ own cc nL rm) {off : Int} {tgt : Nat} {x : Int} (d : decode cc pc = .ok (.ifCond .lt off, 3)) (ht : (pc : Int) + off = (tgt : Int)) (hx0 : -2147483648 ≤ x ∧ x ≤ 2147483647)  (kt : (x < 0) → E κ ad N ph M tgt ls st cs Q) (kf : ¬ (x < 0) → E κ ad N ph M (pc + 3) ls st cs Q) : E κ ad N ph M pc ls (vi x :: st) cs Q := by
  obtain ⟨p, l, e, R, s, m, args, below, meth, c, D, cy, A⟩ := κ
  obtain ⟨hx, hb, hml, hown, hts, hnw, hlk, hK, hR⟩ := h
  intro h1 h2 H locs Ls hP hS hl
  exact lv_if_lt hx hb d ht (fun q => kt ((i_lt (y := 0) hx0 (by omega)).mp q) h1 h2 H locs Ls hP hS hl) (fun q => kf (fun z => q ((i_lt (y := 0) hx0 (by omega)).mpr z)) h1 h2 H locs Ls hP hS hl)
theorem e_if_ge {κ : KT} {own : String} {cc : ByteArray} {nL : Nat} {rm : Room} {ad : Nat → Nat} {N : Nat} {ph : Phs} {M : Mem} {pc : Nat} {ls : List (Option AV)} {st : List AV} {cs : Nat × Nat} {Q : State → Prop} (h : Ok κ own cc nL rm) {off : Int} {tgt : Nat} {x : Int} (d : decode cc pc = .ok (.ifCond .ge off, 3)) (ht : (pc : Int) + off = (tgt : Int)) (hx0 : -2147483648 ≤ x ∧ x ≤ 2147483647)  (kt : (0 ≤ x) → E κ ad N ph M tgt ls st cs Q) (kf : ¬ (0 ≤ x) → E κ ad N ph M (pc + 3) ls st cs Q) : E κ ad N ph M pc ls (vi x :: st) cs Q := by
  obtain ⟨p, l, e, R, s, m, args, below, meth, c, D, cy, A⟩ := κ
  obtain ⟨hx, hb, hml, hown, hts, hnw, hlk, hK, hR⟩ := h
  intro h1 h2 H locs Ls hP hS hl
  exact lv_if_ge hx hb d ht (fun q => kt ((i_le (x := 0) (by omega) hx0).mp q) h1 h2 H locs Ls hP hS hl) (fun q => kf (fun z => q ((i_le (x := 0) (by omega) hx0).mpr z)) h1 h2 H locs Ls hP hS hl)
theorem e_if_gt {κ : KT} {own : String} {cc : ByteArray} {nL : Nat} {rm : Room} {ad : Nat → Nat} {N : Nat} {ph : Phs} {M : Mem} {pc : Nat} {ls : List (Option AV)} {st : List AV} {cs : Nat × Nat} {Q : State → Prop} (h : Ok κ own cc nL rm) {off : Int} {tgt : Nat} {x : Int} (d : decode cc pc = .ok (.ifCond .gt off, 3)) (ht : (pc : Int) + off = (tgt : Int)) (hx0 : -2147483648 ≤ x ∧ x ≤ 2147483647)  (kt : (0 < x) → E κ ad N ph M tgt ls st cs Q) (kf : ¬ (0 < x) → E κ ad N ph M (pc + 3) ls st cs Q) : E κ ad N ph M pc ls (vi x :: st) cs Q := by
  obtain ⟨p, l, e, R, s, m, args, below, meth, c, D, cy, A⟩ := κ
  obtain ⟨hx, hb, hml, hown, hts, hnw, hlk, hK, hR⟩ := h
  intro h1 h2 H locs Ls hP hS hl
  exact lv_if_gt hx hb d ht (fun q => kt ((i_lt (x := 0) (by omega) hx0).mp q) h1 h2 H locs Ls hP hS hl) (fun q => kf (fun z => q ((i_lt (x := 0) (by omega) hx0).mpr z)) h1 h2 H locs Ls hP hS hl)
theorem e_if_le {κ : KT} {own : String} {cc : ByteArray} {nL : Nat} {rm : Room} {ad : Nat → Nat} {N : Nat} {ph : Phs} {M : Mem} {pc : Nat} {ls : List (Option AV)} {st : List AV} {cs : Nat × Nat} {Q : State → Prop} (h : Ok κ own cc nL rm) {off : Int} {tgt : Nat} {x : Int} (d : decode cc pc = .ok (.ifCond .le off, 3)) (ht : (pc : Int) + off = (tgt : Int)) (hx0 : -2147483648 ≤ x ∧ x ≤ 2147483647)  (kt : (x ≤ 0) → E κ ad N ph M tgt ls st cs Q) (kf : ¬ (x ≤ 0) → E κ ad N ph M (pc + 3) ls st cs Q) : E κ ad N ph M pc ls (vi x :: st) cs Q := by
  obtain ⟨p, l, e, R, s, m, args, below, meth, c, D, cy, A⟩ := κ
  obtain ⟨hx, hb, hml, hown, hts, hnw, hlk, hK, hR⟩ := h
  intro h1 h2 H locs Ls hP hS hl
  exact lv_if_le hx hb d ht (fun q => kt ((i_le (y := 0) hx0 (by omega)).mp q) h1 h2 H locs Ls hP hS hl) (fun q => kf (fun z => q ((i_le (y := 0) hx0 (by omega)).mpr z)) h1 h2 H locs Ls hP hS hl)
theorem e_goto {κ : KT} {own : String} {cc : ByteArray} {nL : Nat} {rm : Room} {ad : Nat → Nat} {N : Nat} {ph : Phs} {M : Mem} {pc : Nat} {ls : List (Option AV)} {st : List AV} {cs : Nat × Nat} {Q : State → Prop} (h : Ok κ own cc nL rm) {off : Int} {tgt : Nat} (d : decode cc pc = .ok (.goto off, 3)) (ht : (pc : Int) + off = (tgt : Int)) (k : E κ ad N ph M tgt ls st cs Q) : E κ ad N ph M pc ls st cs Q := by
  obtain ⟨p, l, e, R, s, m, args, below, meth, c, D, cy, A⟩ := κ
  obtain ⟨hx, hb, hml, hown, hts, hnw, hlk, hK, hR⟩ := h
  intro h1 h2 H locs Ls hP hS hl
  exact lv_goto hx hb d ht (k h1 h2 H locs Ls hP hS hl)
theorem e_tabIn {κ : KT} {own : String} {cc : ByteArray} {nL : Nat} {rm : Room} {ad : Nat → Nat} {N : Nat} {ph : Phs} {M : Mem} {pc : Nat} {ls : List (Option AV)} {st : List AV} {cs : Nat × Nat} {Q : State → Prop} (h : Ok κ own cc nL rm) {dflt lo hi : Int} {offs : Array Int} {len : Nat} {x off : Int} {tgt : Nat} (d : decode cc pc = .ok (.tableswitch dflt lo hi offs, len)) (hx0 : -2147483648 ≤ x ∧ x ≤ 2147483647) (hr : lo ≤ x ∧ x ≤ hi) (ho : offs[(x - lo).toNat]? = some off) (ht : (pc : Int) + off = (tgt : Int)) (k : E κ ad N ph M tgt ls st cs Q) : E κ ad N ph M pc ls (vi x :: st) cs Q := by
  obtain ⟨p, l, e, R, s, m, args, below, meth, c, D, cy, A⟩ := κ
  obtain ⟨hx, hb, hml, hown, hts, hnw, hlk, hK, hR⟩ := h
  intro h1 h2 H locs Ls hP hS hl
  exact lv_tableIn hx hb d (by rw [i_toInt hx0]; omega) (by rw [i_toInt hx0]; omega) (by rw [i_toInt hx0]; exact ho) ht (k h1 h2 H locs Ls hP hS hl)
theorem e_tabOut {κ : KT} {own : String} {cc : ByteArray} {nL : Nat} {rm : Room} {ad : Nat → Nat} {N : Nat} {ph : Phs} {M : Mem} {pc : Nat} {ls : List (Option AV)} {st : List AV} {cs : Nat × Nat} {Q : State → Prop} (h : Ok κ own cc nL rm) {dflt lo hi : Int} {offs : Array Int} {len : Nat} {x : Int} {tgt : Nat} (d : decode cc pc = .ok (.tableswitch dflt lo hi offs, len)) (hx0 : -2147483648 ≤ x ∧ x ≤ 2147483647) (hr : x < lo ∨ hi < x) (ht : (pc : Int) + dflt = (tgt : Int)) (k : E κ ad N ph M tgt ls st cs Q) : E κ ad N ph M pc ls (vi x :: st) cs Q := by
  obtain ⟨p, l, e, R, s, m, args, below, meth, c, D, cy, A⟩ := κ
  obtain ⟨hx, hb, hml, hown, hts, hnw, hlk, hK, hR⟩ := h
  intro h1 h2 H locs Ls hP hS hl
  exact lv_tableOut hx hb d (by rw [i_toInt hx0]; exact hr) ht (k h1 h2 H locs Ls hP hS hl)
theorem e_lookup {κ : KT} {own : String} {cc : ByteArray} {nL : Nat} {rm : Room} {ad : Nat → Nat} {N : Nat} {ph : Phs} {M : Mem} {pc : Nat} {ls : List (Option AV)} {st : List AV} {cs : Nat × Nat} {Q : State → Prop} (h : Ok κ own cc nL rm) {dflt : Int} {ps : Array (Int × Int)} {len : Nat} {x off : Int} {tgt : Nat} (d : decode cc pc = .ok (.lookupswitch dflt ps, len)) (hx0 : -2147483648 ≤ x ∧ x ≤ 2147483647) (hp : (ps.toList.zip (ps.toList.drop 1)).all (fun (a, next) => a.1 < next.1) = true) (ho : Op.lookupswitch.offset ps.toList dflt x = off) (ht : (pc : Int) + off = (tgt : Int)) (k : E κ ad N ph M tgt ls st cs Q) : E κ ad N ph M pc ls (vi x :: st) cs Q := by
  obtain ⟨p, l, e, R, s, m, args, below, meth, c, D, cy, A⟩ := κ
  obtain ⟨hx, hb, hml, hown, hts, hnw, hlk, hK, hR⟩ := h
  intro h1 h2 H locs Ls hP hS hl
  exact lv_lookup hx hb d hp (by rw [i_toInt hx0]; exact ho) ht (k h1 h2 H locs Ls hP hS hl)
