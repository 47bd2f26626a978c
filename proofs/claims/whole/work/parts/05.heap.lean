theorem GX_same {u U' : State} (h : u.vm = U'.vm) (g : GX u) : GX U' := by
  refine ⟨fun w hw => ?_, va_AO.moved (by rw [h]; exact Vm.Alike.refl _) g.2.1, va_AO.moved (by rw [h]; exact Vm.Alike.refl _) g.2.2⟩
  have h1 := (List.mem_filter.mp hw).2
  have h2 := g.1 w hw
  cases w <;> first | (simp [isNest] at h1; done) | exact va_Nw.same rfl h h2
theorem GX_warm {s U' : State} (hW : s.WarmedH U'.vm) (g : GX s) : GX U' := by
  refine ⟨fun w hw => ?_, va_AO.moved hW.alike g.2.1, va_AO.moved hW.alike g.2.2⟩
  have h1 := (List.mem_filter.mp hw).2
  have h2 := g.1 w hw
  cases w <;> first | (simp [isNest] at h1; done) | exact va_Nw.warmF hW h2 | exact va_Nw.warmM hW h2
theorem cell_obj {cy : Nat → ClassId} {ad : Nat → Nat} {ph : Phs} {p ci : Nat} {m : Nat → Int} (h : pcl p = ci) (hc : ci < 12) : cellE cy ad ph p m = .inr (ci, fl ad ph p ci m) := by
  subst h
  unfold cellE
  rw [if_pos hc]
theorem cell_arr {cy : Nat → ClassId} {ad : Nat → Nat} {ph : Phs} {p ci : Nat} {m : Nat → Int} (h : pcl p = ci) (hc : 12 ≤ ci) : cellE cy ad ph p m = .inl (cy ci, plen p, aE ad ph p ci m) := by
  subst h
  unfold cellE
  rw [if_neg (by omega)]
theorem fl_get {ad : Nat → Nat} {ph : Phs} {p ci k : Nat} {m : Nat → Int} (hk : k < nf ci) : (fl ad ph p ci m)[k]? = some (fv ad ph p k (kd ci k) (m k)) := by
  unfold fl
  rw [List.getElem?_map, List.getElem?_range hk]
  rfl
theorem fl_len {ad : Nat → Nat} {ph : Phs} {p ci : Nat} {m : Nat → Int} : (fl ad ph p ci m).length = nf ci := by simp [fl]
theorem fl_set {ad : Nat → Nat} {ph ph' : Phs} {p ci k : Nat} {m m' : Nat → Int} {v : Value} (hk : k < nf ci) (hv : v = fv ad ph' p k (kd ci k) (m' k)) (ho : ∀ j, j ≠ k → fv ad ph' p j (kd ci j) (m' j) = fv ad ph p j (kd ci j) (m j)) : (fl ad ph p ci m).set k v = fl ad ph' p ci m' := by
  subst hv
  apply List.ext_getElem?
  intro i
  by_cases hi : i = k
  · subst hi
    rw [List.getElem?_set_self (by rw [fl_len]; exact hk), fl_get hk]
  · rw [List.getElem?_set_ne (Ne.symm hi)]
    by_cases hn : i < nf ci
    · rw [fl_get hn, fl_get hn, ho i hi]
    · rw [List.getElem?_eq_none (by rw [fl_len]; omega), List.getElem?_eq_none (by rw [fl_len]; omega)]
/-- a world with one cell anew, the phase too -/
theorem wl_setP {cy : Nat → ClassId} {ad : Nat → Nat} {N p : Nat} {ph ph' : Phs} {M : Mem} (m : Nat → Int) (h : p < N) {a : Nat} {e : va_E} (ha : a = ad p) (he : e = cellE cy ad ph' p m) (hph : ∀ q, q ≠ p → ∀ j, ph' q j = ph q j) : (wl cy ad N ph M).set p (a, e) = wl cy ad N ph' (mset M p m) := by
  subst ha; subst he
  apply List.ext_getElem?
  intro i
  by_cases hi : i = p
  · subst hi
    rw [List.getElem?_set_self (by rw [wl_len]; exact h), wl_get h]
    simp [mset]
  · rw [List.getElem?_set_ne (Ne.symm hi)]
    by_cases hn : i < N
    · rw [wl_get hn, wl_get hn]
      have : cellE cy ad ph' i (M i) = cellE cy ad ph i (M i) := by
        unfold cellE fl aE
        have e1 : ∀ j k x, fv ad ph' i j k x = fv ad ph i j k x := fun j k x => by unfold fv; rw [hph i hi j]
        have e2 : ∀ j, ph' i j = ph i j := hph i hi
        simp only [e1, e2]
      simp [mset, hi, this]
    · rw [List.getElem?_eq_none (by rw [wl_len]; omega), List.getElem?_eq_none (by rw [wl_len]; omega)]
theorem up_mset (M : Mem) (p k : Nat) (x : Int) : mset M p (fun j => if j = k then x else M p j) = up M p k x := rfl

theorem e_get {κ : KT} {own : String} {cc : ByteArray} {nL : Nat} {rm : Room} {ad : Nat → Nat} {N : Nat} {ph : Phs} {M : Mem} {pc : Nat} {ls : List (Option AV)} {st : List AV} {cs : Nat × Nat} {Q : State → Prop} (h : Ok κ own cc nL rm) {idx ci k0 p0 : Nat} (f : FL own idx ci k0) (d : decode cc pc = .ok (.getfield idx, 3)) (hc : pcl p0 = ci) (hp : p0 < N) {v : AV} (hv : fv ad ph p0 k0 (kd ci k0) (M p0 k0) = cv ad v) (k : E κ ad N ph M (pc + 3) ls (v :: st) cs Q) : E κ ad N ph M pc ls (vr p0 :: st) cs Q := by
  obtain ⟨p, l, e, R, s, m, args, below, meth, c, D, cy, A⟩ := κ
  obtain ⟨hx, hb, hml, hown, hts, hnw, hlk, hK, hR⟩ := h
  intro h1 h2 H locs Ls hP hS hl
  have kk := k h1 h2 H locs Ls hP hS hl
  obtain ⟨f1, f2, f3⟩ := f
  obtain ⟨c1, c2, c3, c4, c5, c6⟩ := CFall ci f1
  have he : (wl cy ad N ph M)[p0]? = some (ad p0, .inr (ci, fl ad ph p0 ci (M p0))) := by rw [wl_get hp, cell_obj hc f1]
  have hs : ∀ x, s.fieldFound? (clT ci k0).1 (clT ci k0).2.1 (clT ci k0).2.2.1 = some x → s.fieldFound? (clR ci) (clT ci k0).2.1 (clT ci k0).2.2.1 = some x := fun x hx => by rw [← c5 k0 f2]; exact hx
  rcases f3 with f3 | ⟨host, f3⟩
  · exact va_get hx hb hts c2 hown hK hP p0 he c1 k0 f2 (hts _ f3) hs ((fl_get f2).trans (congrArg some hv)) d kk
  · exact va_getN hx hb hts c2 hown hK hP p0 he c1 k0 f2 (va_Nw.use rfl (hnw.1 _ f3)) hs ((fl_get f2).trans (congrArg some hv)) d kk

theorem e_getI {κ : KT} {own : String} {cc : ByteArray} {nL : Nat} {rm : Room} {ad : Nat → Nat} {N : Nat} {ph : Phs} {M : Mem} {pc : Nat} {ls : List (Option AV)} {st : List AV} {cs : Nat × Nat} {Q : State → Prop} (h : Ok κ own cc nL rm) {idx ci k0 p0 : Nat} (f : FL own idx ci k0) (d : decode cc pc = .ok (.getfield idx, 3)) (hc : pcl p0 = ci) (hp : p0 < N) (hk : kd ci k0 < 2) (k : E κ ad N ph M (pc + 3) ls (vi (M p0 k0) :: st) cs Q) : E κ ad N ph M pc ls (vr p0 :: st) cs Q := by
  refine e_get h f d hc hp ?_ k
  have : kd ci k0 = 0 ∨ kd ci k0 = 1 := by omega
  rcases this with q | q <;> rw [q] <;> rfl
theorem e_getJ {κ : KT} {own : String} {cc : ByteArray} {nL : Nat} {rm : Room} {ad : Nat → Nat} {N : Nat} {ph : Phs} {M : Mem} {pc : Nat} {ls : List (Option AV)} {st : List AV} {cs : Nat × Nat} {Q : State → Prop} (h : Ok κ own cc nL rm) {idx ci k0 p0 : Nat} (f : FL own idx ci k0) (d : decode cc pc = .ok (.getfield idx, 3)) (hc : pcl p0 = ci) (hp : p0 < N) (hk : kd ci k0 = 2) (k : E κ ad N ph M (pc + 3) ls (vj (M p0 k0) :: st) cs Q) : E κ ad N ph M pc ls (vr p0 :: st) cs Q := by
  refine e_get h f d hc hp ?_ k
  rw [hk]; rfl
theorem e_getR {κ : KT} {own : String} {cc : ByteArray} {nL : Nat} {rm : Room} {ad : Nat → Nat} {N : Nat} {ph : Phs} {M : Mem} {pc : Nat} {ls : List (Option AV)} {st : List AV} {cs : Nat × Nat} {Q : State → Prop} (h : Ok κ own cc nL rm) {idx ci k0 p0 : Nat} (f : FL own idx ci k0) (d : decode cc pc = .ok (.getfield idx, 3)) (hc : pcl p0 = ci) (hp : p0 < N) (hk : kd ci k0 = 3) (hh : ph p0 k0 = true) {r : Nat} (hr : M p0 k0 = (r : Int)) (k : E κ ad N ph M (pc + 3) ls (vr r :: st) cs Q) : E κ ad N ph M pc ls (vr p0 :: st) cs Q := by
  refine e_get h f d hc hp ?_ k
  rw [hk, hr]
  show (if ph p0 k0 = true then _ else _) = _
  rw [if_pos hh]
  rfl
theorem e_getC {κ : KT} {own : String} {cc : ByteArray} {nL : Nat} {rm : Room} {ad : Nat → Nat} {N : Nat} {ph : Phs} {M : Mem} {pc : Nat} {ls : List (Option AV)} {st : List AV} {cs : Nat × Nat} {Q : State → Prop} (h : Ok κ own cc nL rm) {idx ci k0 p0 : Nat} (f : FL own idx ci k0) (d : decode cc pc = .ok (.getfield idx, 3)) (hc : pcl p0 = ci) (hp : p0 < N) (hk : kd ci k0 = 4) (hh : ph p0 k0 = true) {r : Nat} (hr : pcr p0 k0 = r) (k : E κ ad N ph M (pc + 3) ls (vr r :: st) cs Q) : E κ ad N ph M pc ls (vr p0 :: st) cs Q := by
  subst hr
  refine e_get h f d hc hp ?_ k
  rw [hk]
  show (if ph p0 k0 = true then _ else _) = _
  rw [if_pos hh]
  rfl
theorem e_put {κ : KT} {own : String} {cc : ByteArray} {nL : Nat} {rm : Room} {ad : Nat → Nat} {N : Nat} {ph : Phs} {M : Mem} {pc : Nat} {ls : List (Option AV)} {st : List AV} {cs : Nat × Nat} {Q : State → Prop} {ph2 : Phs} (h : Ok κ own cc nL rm) {idx ci k0 p0 : Nat} (f : FL own idx ci k0) (d : decode cc pc = .ok (.putfield idx, 3)) (hc : pcl p0 = ci) (hp : p0 < N) (hf : (clT ci k0).2.2.2 = false) {ty : FieldType} (hty : clTy ci k0 = ty) {v : AV} {x : Int} (hn : narrow ty (cv ad v) = cv ad v) (hfit : fits ty (cv ad v) = true) (hv : cv ad v = fv ad ph2 p0 k0 (kd ci k0) x) (hph : ∀ q j, (q ≠ p0 ∨ j ≠ k0) → ph2 q j = ph q j) (k : E κ ad N ph2 (up M p0 k0 x) (pc + 3) ls st cs Q) : E κ ad N ph M pc ls (v :: vr p0 :: st) cs Q := by
  obtain ⟨p, l, e, R, s, m, args, below, meth, c, D, cy, A⟩ := κ
  obtain ⟨hx, hb, hml, hown, hts, hnw, hlk, hK, hR⟩ := h
  intro h1 h2 H locs Ls hP hS hl
  obtain ⟨f1, f2, f3⟩ := f
  obtain ⟨c1, c2, c3, c4, c5, c6⟩ := CFall ci f1
  have he : (wl cy ad N ph M)[p0]? = some (ad p0, .inr (ci, fl ad ph p0 ci (M p0))) := by rw [wl_get hp, cell_obj hc f1]
  have hs : ∀ x, s.fieldFound? (clT ci k0).1 (clT ci k0).2.1 (clT ci k0).2.2.1 = some x → s.fieldFound? (clR ci) (clT ci k0).2.1 (clT ci k0).2.2.1 = some x := fun x hx => by rw [← c5 k0 f2]; exact hx
  have hd : parseFieldDescriptor (clT ci k0).2.2.1 = some ty := by rw [c3 k0 f2, hty]
  have e1 : (fl ad ph p0 ci (M p0)).set k0 (cv ad v) = fl ad ph2 p0 ci (fun j => if j = k0 then x else M p0 j) := fl_set f2 (by rw [hv]; simp) (fun j hj => by
    have q := hph p0 j (Or.inr hj)
    unfold fv
    rw [q]
    simp [hj])
  have e2 : (wl cy ad N ph M).set p0 (ad p0, .inr (ci, (fl ad ph p0 ci (M p0)).set k0 (cv ad v))) = wl cy ad N ph2 (up M p0 k0 x) := by
    rw [← up_mset]
    exact wl_setP _ hp rfl (by rw [cell_obj hc f1, e1]) (fun q hq j => hph q j (Or.inl hq))
  have kk : ∀ (H1 : Heap) (locs1 : List Loc), va_P D vwCl ((wl cy ad N ph M).set p0 (ad p0, .inr (ci, (fl ad ph p0 ci (M p0)).set k0 (cv ad v)))) H1 → va_D A ((wl cy ad N ph M).set p0 (ad p0, .inr (ci, (fl ad ph p0 ci (M p0)).set k0 (cv ad v)))) → va_S A s.heap H1 locs1 → W p l e R s m args below meth c H1 locs1 cs.1 cs.2 Q (F0 m (pc + 3) Ls (st.map (cv ad))) := fun H1 locs1 a1 a2 a3 => k h1 h2 H1 locs1 Ls (by rw [e2] at a1; exact a1) a3 hl
  rcases f3 with f3 | ⟨host, f3⟩
  · exact va_put hx hb hts c2 (clTy ci) c3 c4 hown hK hP (wl_D h1 h2) hS p0 he c1 k0 f2 (hts _ f3) hs hf hd hn hfit (by rw [fl_len]; exact f2) d kk
  · exact va_putN hx hb hts c2 (clTy ci) c3 c4 hown hK hP (wl_D h1 h2) hS p0 he c1 k0 f2 (va_Nw.use rfl (hnw.1 _ f3)) hs hf hd hn hfit (by rw [fl_len]; exact f2) d kk
theorem okt_0 {ty : FieldType} {b : Bool} (h : okt 0 ty b = true) : ty = .int ∧ b = false := by
  unfold okt at h; split at h <;> simp_all
theorem okt_1 {ty : FieldType} {b : Bool} (h : okt 1 ty b = true) : ty = .boolean ∧ b = false := by
  unfold okt at h; split at h <;> simp_all
theorem okt_2 {ty : FieldType} {b : Bool} (h : okt 2 ty b = true) : ty = .long ∧ b = false := by
  unfold okt at h; split at h <;> simp_all
theorem okt_3 {ty : FieldType} {b : Bool} (h : okt 3 ty b = true) : ((∃ n, ty = .object n) ∨ ∃ t, ty = .array t) ∧ b = false := by
  unfold okt at h; split at h <;> simp_all
theorem okt_4 {ty : FieldType} {b : Bool} (h : okt 4 ty b = true) : ((∃ n, ty = .object n) ∨ ∃ t, ty = .array t) ∧ b = true := by
  unfold okt at h; split at h <;> simp_all
theorem nb_01 {x : Int} (h : x = 0 ∨ x = 1) : narrow .boolean (.int (Int32.ofInt x)) = .int (Int32.ofInt x) ∧ fits .boolean (.int (Int32.ofInt x)) = true ∧ vp_nar .boolean (Int32.ofInt x) = Int32.ofInt x := by
  rcases h with rfl | rfl <;> refine ⟨by decide +kernel, by decide +kernel, by decide +kernel⟩

theorem e_putI {κ : KT} {own : String} {cc : ByteArray} {nL : Nat} {rm : Room} {ad : Nat → Nat} {N : Nat} {ph : Phs} {M : Mem} {pc : Nat} {ls : List (Option AV)} {st : List AV} {cs : Nat × Nat} {Q : State → Prop} (h : Ok κ own cc nL rm) {idx ci k0 p0 : Nat} (f : FL own idx ci k0) (d : decode cc pc = .ok (.putfield idx, 3)) (hc : pcl p0 = ci) (hp : p0 < N) (hk : kd ci k0 = 0) {x : Int} (k : E κ ad N ph (up M p0 k0 x) (pc + 3) ls st cs Q) : E κ ad N ph M pc ls (vi x :: vr p0 :: st) cs Q := by
  obtain ⟨q1, q2⟩ := okt_0 (hk ▸ (CFall ci f.1).2.2.2.2.2 k0 f.2.1)
  exact e_put (ph2 := ph) h f d hc hp q2 q1 rfl rfl (by rw [hk]; rfl) (fun _ _ _ => rfl) k
theorem e_putZ {κ : KT} {own : String} {cc : ByteArray} {nL : Nat} {rm : Room} {ad : Nat → Nat} {N : Nat} {ph : Phs} {M : Mem} {pc : Nat} {ls : List (Option AV)} {st : List AV} {cs : Nat × Nat} {Q : State → Prop} (h : Ok κ own cc nL rm) {idx ci k0 p0 : Nat} (f : FL own idx ci k0) (d : decode cc pc = .ok (.putfield idx, 3)) (hc : pcl p0 = ci) (hp : p0 < N) (hk : kd ci k0 = 1) {x : Int} (hx : x = 0 ∨ x = 1) (k : E κ ad N ph (up M p0 k0 x) (pc + 3) ls st cs Q) : E κ ad N ph M pc ls (vi x :: vr p0 :: st) cs Q := by
  obtain ⟨q1, q2⟩ := okt_1 (hk ▸ (CFall ci f.1).2.2.2.2.2 k0 f.2.1)
  exact e_put (ph2 := ph) h f d hc hp q2 q1 (nb_01 hx).1 (nb_01 hx).2.1 (by rw [hk]; rfl) (fun _ _ _ => rfl) k
theorem e_putJ {κ : KT} {own : String} {cc : ByteArray} {nL : Nat} {rm : Room} {ad : Nat → Nat} {N : Nat} {ph : Phs} {M : Mem} {pc : Nat} {ls : List (Option AV)} {st : List AV} {cs : Nat × Nat} {Q : State → Prop} (h : Ok κ own cc nL rm) {idx ci k0 p0 : Nat} (f : FL own idx ci k0) (d : decode cc pc = .ok (.putfield idx, 3)) (hc : pcl p0 = ci) (hp : p0 < N) (hk : kd ci k0 = 2) {x : Int} (k : E κ ad N ph (up M p0 k0 x) (pc + 3) ls st cs Q) : E κ ad N ph M pc ls (vj x :: vr p0 :: st) cs Q := by
  obtain ⟨q1, q2⟩ := okt_2 (hk ▸ (CFall ci f.1).2.2.2.2.2 k0 f.2.1)
  exact e_put (ph2 := ph) h f d hc hp q2 q1 rfl rfl (by rw [hk]; rfl) (fun _ _ _ => rfl) k
def phs (ph : Phs) (p k : Nat) : Phs := fun q j => if q = p ∧ j = k then true else ph q j
theorem phs_eq (ph : Phs) (p k : Nat) : phs ph p k p k = true := by simp [phs]
theorem phs_ne {ph : Phs} {p k q j : Nat} (h : q ≠ p ∨ j ≠ k) : phs ph p k q j = ph q j := by
  unfold phs
  rw [if_neg (by omega)]

theorem e_putR0 {κ : KT} {own : String} {cc : ByteArray} {nL : Nat} {rm : Room} {ad : Nat → Nat} {N : Nat} {ph : Phs} {M : Mem} {pc : Nat} {ls : List (Option AV)} {st : List AV} {cs : Nat × Nat} {Q : State → Prop} (h : Ok κ own cc nL rm) {idx ci k0 p0 : Nat} (f : FL own idx ci k0) (d : decode cc pc = .ok (.putfield idx, 3)) (hc : pcl p0 = ci) (hp : p0 < N) (hk : kd ci k0 = 3) {x : Nat} (k : E κ ad N (phs ph p0 k0) (up M p0 k0 (x : Int)) (pc + 3) ls st cs Q) : E κ ad N ph M pc ls (vr x :: vr p0 :: st) cs Q := by
  obtain ⟨q1, q2⟩ := okt_3 (hk ▸ (CFall ci f.1).2.2.2.2.2 k0 f.2.1)
  have e : cv ad (vr x) = fv ad (phs ph p0 k0) p0 k0 (kd ci k0) (x : Int) := by
    rw [hk]
    show _ = (if phs ph p0 k0 p0 k0 = true then _ else _)
    rw [if_pos (phs_eq _ _ _)]
    rfl
  rcases q1 with ⟨n, q1⟩ | ⟨t, q1⟩
  · exact e_put h f d hc hp q2 q1 rfl rfl e (fun q j hq => phs_ne hq) k
  · exact e_put h f d hc hp q2 q1 rfl rfl e (fun q j hq => phs_ne hq) k
theorem e_putR {κ : KT} {own : String} {cc : ByteArray} {nL : Nat} {rm : Room} {ad : Nat → Nat} {N : Nat} {ph : Phs} {M : Mem} {pc : Nat} {ls : List (Option AV)} {st : List AV} {cs : Nat × Nat} {Q : State → Prop} (h : Ok κ own cc nL rm) {idx ci k0 p0 : Nat} (f : FL own idx ci k0) (d : decode cc pc = .ok (.putfield idx, 3)) (hc : pcl p0 = ci) (hp : p0 < N) (hk : kd ci k0 = 3) (hh : ph p0 k0 = true) {x : Nat} (k : E κ ad N ph (up M p0 k0 (x : Int)) (pc + 3) ls st cs Q) : E κ ad N ph M pc ls (vr x :: vr p0 :: st) cs Q := by
  refine e_putR0 h f d hc hp hk ?_
  have : phs ph p0 k0 = ph := by
    funext q j
    by_cases z : q = p0 ∧ j = k0
    · obtain ⟨rfl, rfl⟩ := z
      rw [phs_eq, hh]
    · exact phs_ne (by omega)
  rw [this]
  exact k
def In (κ : KT) : Prop := match κ with
  | (p, l, e, R, s, m, args, below, meth, c, D, cy, A) => meth.name = "<init>"
theorem e_putF {κ : KT} {own : String} {cc : ByteArray} {nL : Nat} {rm : Room} {ad : Nat → Nat} {N : Nat} {ph : Phs} {M : Mem} {pc : Nat} {ls : List (Option AV)} {st : List AV} {cs : Nat × Nat} {Q : State → Prop} (h : Ok κ own cc nL rm) (hin : In κ) {idx ci k0 p0 : Nat} (f : FL own idx ci k0) (d : decode cc pc = .ok (.putfield idx, 3)) (hc : pcl p0 = ci) (hp : p0 < N) (ho : clR ci = own) (hk : kd ci k0 = 4) {r : Nat} (hr : pcr p0 k0 = r) (fp : Cond.fieldLink own idx (clR ci) (clT ci k0).2.1 (clT ci k0).2.2.1 ∈ U) (k : E κ ad N (phs ph p0 k0) M (pc + 3) ls st cs Q) : E κ ad N ph M pc ls (vr r :: vr p0 :: st) cs Q := by
  obtain ⟨q1, q2⟩ := okt_4 (hk ▸ (CFall ci f.1).2.2.2.2.2 k0 f.2.1)
  obtain ⟨p, l, e, R, s, m, args, below, meth, c, D, cy, A⟩ := κ
  obtain ⟨hx, hb, hml, hown, hts, hnw, hlk, hK, hR⟩ := h
  intro h1 h2 H locs Ls hP hS hl
  subst hr
  obtain ⟨f1, f2, f3⟩ := f
  obtain ⟨c1, c2, c3, c4, c5, c6⟩ := CFall ci f1
  have he : (wl cy ad N ph M)[p0]? = some (ad p0, .inr (ci, fl ad ph p0 ci (M p0))) := by rw [wl_get hp, cell_obj hc f1]
  have hs : ∀ x, s.fieldFound? (clT ci k0).1 (clT ci k0).2.1 (clT ci k0).2.2.1 = some x → s.fieldFound? (clR ci) (clT ci k0).2.1 (clT ci k0).2.2.1 = some x := fun x hx => by rw [← c5 k0 f2]; exact hx
  have e1 : (fl ad ph p0 ci (M p0)).set k0 (.ref (ad (pcr p0 k0))) = fl ad (phs ph p0 k0) p0 ci (M p0) := fl_set f2 (by
    rw [hk]
    show _ = (if phs ph p0 k0 p0 k0 = true then _ else _)
    rw [if_pos (phs_eq _ _ _)]) (fun j hj => by
    have q : phs ph p0 k0 p0 j = ph p0 j := phs_ne (Or.inr hj)
    unfold fv
    rw [q])
  have e2 : (wl cy ad N ph M).set p0 (ad p0, .inr (ci, (fl ad ph p0 ci (M p0)).set k0 (.ref (ad (pcr p0 k0))))) = wl cy ad N (phs ph p0 k0) M := by
    have := wl_setP (cy := cy) (ad := ad) (ph := ph) (ph' := phs ph p0 k0) (M := M) (M p0) hp rfl (by rw [cell_obj hc f1, e1]) (fun q hq j => phs_ne (Or.inl hq)) (e := .inr (ci, (fl ad ph p0 ci (M p0)).set k0 (.ref (ad (pcr p0 k0)))))
    rw [this]
    congr 1
    funext q
    unfold mset
    by_cases hq : q = p0
    · rw [if_pos hq, hq]
    · rw [if_neg hq]
  have kk : ∀ (H1 : Heap) (locs1 : List Loc), va_P D vwCl ((wl cy ad N ph M).set p0 (ad p0, .inr (ci, (fl ad ph p0 ci (M p0)).set k0 (.ref (ad (pcr p0 k0)))))) H1 → va_D A ((wl cy ad N ph M).set p0 (ad p0, .inr (ci, (fl ad ph p0 ci (M p0)).set k0 (.ref (ad (pcr p0 k0)))))) → va_S A s.heap H1 locs1 → W p l e R s m args below meth c H1 locs1 cs.1 cs.2 Q (F0 m (pc + 3) Ls (st.map (cv ad))) := fun H1 locs1 a1 a2 a3 => k h1 h2 H1 locs1 Ls (by rw [e2] at a1; exact a1) a3 hl
  have hdc : (clT ci k0).1 = own := (c5 k0 f2).trans ho
  rcases q1 with ⟨n, q1⟩ | ⟨t, q1⟩
  · exact va_putF hx hb hts c2 (clTy ci) c3 c4 hown hK hP (wl_D h1 h2) hS p0 he c1 k0 f2 (hts _ fp) hs q2 hin hdc (by rw [c3 k0 f2, q1]) rfl rfl (by rw [fl_len]; exact f2) d kk
  · exact va_putF hx hb hts c2 (clTy ci) c3 c4 hown hK hP (wl_D h1 h2) hS p0 he c1 k0 f2 (hts _ fp) hs q2 hin hdc (by rw [c3 k0 f2, q1]) rfl rfl (by rw [fl_len]; exact f2) d kk
theorem plen_le (p : Nat) : plen p ≤ 1000 := by
  unfold plen
  by_cases h : p < plenL.length
  · have := co_dec (N := plenL.length) (P := fun p => plenL.getD p 0 ≤ 1000) (by decide +kernel) h
    exact this
  · rw [List.getD_eq_getElem?_getD, List.getElem?_eq_none (by omega)]
    decide

theorem e_iald {κ : KT} {own : String} {cc : ByteArray} {nL : Nat} {rm : Room} {ad : Nat → Nat} {N : Nat} {ph : Phs} {M : Mem} {pc : Nat} {ls : List (Option AV)} {st : List AV} {cs : Nat × Nat} {Q : State → Prop} (h : Ok κ own cc nL rm) {p0 : Nat} (d : decode cc pc = .ok (.iaload, 1)) (hc : pcl p0 = 100) (hp : p0 < N) {i : Int} {j : Nat} (hi : i = (j : Int)) (hj : j < plen p0) (k : E κ ad N ph M (pc + 1) ls (vi (M p0 j) :: st) cs Q) : E κ ad N ph M pc ls (vi i :: vr p0 :: st) cs Q := by
  obtain ⟨p, l, e, R, s, m, args, below, meth, c, D, cy, A⟩ := κ
  obtain ⟨hx, hb, hml, hown, hts, hnw, hlk, hK, hR⟩ := h
  intro h1 h2 H locs Ls hP hS hl
  subst hi
  have kk := k h1 h2 H locs Ls hP hS hl
  have hb0 : plen p0 ≤ 1000 := plen_le p0
  obtain ⟨g1, g2⟩ := i_in (x := (j : Int)) (n := plen p0) (by omega) hb0
  refine va_iald hx hb hK hP p0 0 (by rw [wl_get hp, cell_arr hc (by decide)]; rfl) rfl g1 d ?_
  rw [g2, Int.toNat_natCast]
  exact kk
theorem e_bald {κ : KT} {own : String} {cc : ByteArray} {nL : Nat} {rm : Room} {ad : Nat → Nat} {N : Nat} {ph : Phs} {M : Mem} {pc : Nat} {ls : List (Option AV)} {st : List AV} {cs : Nat × Nat} {Q : State → Prop} (h : Ok κ own cc nL rm) {p0 : Nat} (d : decode cc pc = .ok (.baload, 1)) (hc : pcl p0 = 102) (hp : p0 < N) {i : Int} {j : Nat} (hi : i = (j : Int)) (hj : j < plen p0) (k : E κ ad N ph M (pc + 1) ls (vi (M p0 j) :: st) cs Q) : E κ ad N ph M pc ls (vi i :: vr p0 :: st) cs Q := by
  obtain ⟨p, l, e, R, s, m, args, below, meth, c, D, cy, A⟩ := κ
  obtain ⟨hx, hb, hml, hown, hts, hnw, hlk, hK, hR⟩ := h
  intro h1 h2 H locs Ls hP hS hl
  subst hi
  have kk := k h1 h2 H locs Ls hP hS hl
  have hb0 : plen p0 ≤ 1000 := plen_le p0
  obtain ⟨g1, g2⟩ := i_in (x := (j : Int)) (n := plen p0) (by omega) hb0
  refine va_zald hx hb hK hP p0 2 (by rw [wl_get hp, cell_arr hc (by decide)]; rfl) rfl g1 d ?_
  rw [g2, Int.toNat_natCast]
  exact kk
theorem e_lald {κ : KT} {own : String} {cc : ByteArray} {nL : Nat} {rm : Room} {ad : Nat → Nat} {N : Nat} {ph : Phs} {M : Mem} {pc : Nat} {ls : List (Option AV)} {st : List AV} {cs : Nat × Nat} {Q : State → Prop} (h : Ok κ own cc nL rm) {p0 : Nat} (d : decode cc pc = .ok (.laload, 1)) (hc : pcl p0 = 101) (hp : p0 < N) {i : Int} {j : Nat} (hi : i = (j : Int)) (hj : j < plen p0) (k : E κ ad N ph M (pc + 1) ls (vj (M p0 j) :: st) cs Q) : E κ ad N ph M pc ls (vi i :: vr p0 :: st) cs Q := by
  obtain ⟨p, l, e, R, s, m, args, below, meth, c, D, cy, A⟩ := κ
  obtain ⟨hx, hb, hml, hown, hts, hnw, hlk, hK, hR⟩ := h
  intro h1 h2 H locs Ls hP hS hl
  subst hi
  have kk := k h1 h2 H locs Ls hP hS hl
  have hb0 : plen p0 ≤ 1000 := plen_le p0
  obtain ⟨g1, g2⟩ := i_in (x := (j : Int)) (n := plen p0) (by omega) hb0
  refine va_lald hx hb hK hP p0 1 (by rw [wl_get hp, cell_arr hc (by decide)]; rfl) rfl g1 d ?_
  rw [g2, Int.toNat_natCast]
  exact kk
theorem e_iast {κ : KT} {own : String} {cc : ByteArray} {nL : Nat} {rm : Room} {ad : Nat → Nat} {N : Nat} {ph : Phs} {M : Mem} {pc : Nat} {ls : List (Option AV)} {st : List AV} {cs : Nat × Nat} {Q : State → Prop} (h : Ok κ own cc nL rm) {p0 : Nat} (d : decode cc pc = .ok (.iastore, 1)) (hc : pcl p0 = 100) (hp : p0 < N) {i : Int} {j : Nat} (hi : i = (j : Int)) (hj : j < plen p0) {x : Int}  (k : E κ ad N ph (up M p0 j x) (pc + 1) ls st cs Q) : E κ ad N ph M pc ls (vi x :: vi i :: vr p0 :: st) cs Q := by
  obtain ⟨p, l, e, R, s, m, args, below, meth, c, D, cy, A⟩ := κ
  obtain ⟨hx, hb, hml, hown, hts, hnw, hlk, hK, hR⟩ := h
  intro h1 h2 H locs Ls hP hS hl
  subst hi
  have hb0 : plen p0 ≤ 1000 := plen_le p0
  obtain ⟨g1, g2⟩ := i_in (x := (j : Int)) (n := plen p0) (by omega) hb0
  rw [Int.toNat_natCast] at g2
  have e2 : (wl cy ad N ph M).set p0 (ad p0, .inl (cy 100, plen p0, .inl (upd (fun j => Int32.ofInt (M p0 j)) (Int32.ofInt (j : Int)).toNatClampNeg (Int32.ofInt x)))) = wl cy ad N ph (up M p0 j x) := by
    rw [← up_mset]
    refine wl_set _ hp rfl ?_
    have hf : (upd (fun j => Int32.ofInt (M p0 j)) (Int32.ofInt (j : Int)).toNatClampNeg (Int32.ofInt x)) = (fun q => Int32.ofInt (if q = j then x else M p0 q)) := by
      rw [g2]
      funext q
      by_cases hq : q = j
      · subst hq
        simp [upd]
        
      · simp [upd, hq]
    rw [cell_arr hc (by decide), hf]
    rfl
  exact va_iast hx hb hK hP (wl_D h1 h2) hS p0 0 (by rw [wl_get hp, cell_arr hc (by decide)]; rfl) rfl g1 d (fun H1 locs1 a1 a2 a3 => k h1 h2 H1 locs1 Ls (by rw [e2] at a1; exact a1) a3 hl)
theorem e_bast {κ : KT} {own : String} {cc : ByteArray} {nL : Nat} {rm : Room} {ad : Nat → Nat} {N : Nat} {ph : Phs} {M : Mem} {pc : Nat} {ls : List (Option AV)} {st : List AV} {cs : Nat × Nat} {Q : State → Prop} (h : Ok κ own cc nL rm) {p0 : Nat} (d : decode cc pc = .ok (.bastore, 1)) (hc : pcl p0 = 102) (hp : p0 < N) {i : Int} {j : Nat} (hi : i = (j : Int)) (hj : j < plen p0) {x : Int} (hz : x = 0 ∨ x = 1) (k : E κ ad N ph (up M p0 j x) (pc + 1) ls st cs Q) : E κ ad N ph M pc ls (vi x :: vi i :: vr p0 :: st) cs Q := by
  obtain ⟨p, l, e, R, s, m, args, below, meth, c, D, cy, A⟩ := κ
  obtain ⟨hx, hb, hml, hown, hts, hnw, hlk, hK, hR⟩ := h
  intro h1 h2 H locs Ls hP hS hl
  subst hi
  have hb0 : plen p0 ≤ 1000 := plen_le p0
  obtain ⟨g1, g2⟩ := i_in (x := (j : Int)) (n := plen p0) (by omega) hb0
  rw [Int.toNat_natCast] at g2
  have e2 : (wl cy ad N ph M).set p0 (ad p0, .inl (cy 102, plen p0, .inl (upd (fun j => Int32.ofInt (M p0 j)) (Int32.ofInt (j : Int)).toNatClampNeg (vp_nar .boolean (Int32.ofInt x))))) = wl cy ad N ph (up M p0 j x) := by
    rw [← up_mset]
    refine wl_set _ hp rfl ?_
    have hf : (upd (fun j => Int32.ofInt (M p0 j)) (Int32.ofInt (j : Int)).toNatClampNeg (vp_nar .boolean (Int32.ofInt x))) = (fun q => Int32.ofInt (if q = j then x else M p0 q)) := by
      rw [g2]
      funext q
      by_cases hq : q = j
      · subst hq
        simp [upd]
        exact (nb_01 hz).2.2
      · simp [upd, hq]
    rw [cell_arr hc (by decide), hf]
    rfl
  exact va_zast hx hb hK hP (wl_D h1 h2) hS p0 2 (by rw [wl_get hp, cell_arr hc (by decide)]; rfl) rfl g1 d (fun H1 locs1 a1 a2 a3 => k h1 h2 H1 locs1 Ls (by rw [e2] at a1; exact a1) a3 hl)
theorem e_last {κ : KT} {own : String} {cc : ByteArray} {nL : Nat} {rm : Room} {ad : Nat → Nat} {N : Nat} {ph : Phs} {M : Mem} {pc : Nat} {ls : List (Option AV)} {st : List AV} {cs : Nat × Nat} {Q : State → Prop} (h : Ok κ own cc nL rm) {p0 : Nat} (d : decode cc pc = .ok (.lastore, 1)) (hc : pcl p0 = 101) (hp : p0 < N) {i : Int} {j : Nat} (hi : i = (j : Int)) (hj : j < plen p0) {x : Int}  (k : E κ ad N ph (up M p0 j x) (pc + 1) ls st cs Q) : E κ ad N ph M pc ls (vj x :: vi i :: vr p0 :: st) cs Q := by
  obtain ⟨p, l, e, R, s, m, args, below, meth, c, D, cy, A⟩ := κ
  obtain ⟨hx, hb, hml, hown, hts, hnw, hlk, hK, hR⟩ := h
  intro h1 h2 H locs Ls hP hS hl
  subst hi
  have hb0 : plen p0 ≤ 1000 := plen_le p0
  obtain ⟨g1, g2⟩ := i_in (x := (j : Int)) (n := plen p0) (by omega) hb0
  rw [Int.toNat_natCast] at g2
  have e2 : (wl cy ad N ph M).set p0 (ad p0, .inl (cy 101, plen p0, .inr (.inl (vp_updL (fun j => Int64.ofInt (M p0 j)) (Int32.ofInt (j : Int)).toNatClampNeg (Int64.ofInt x))))) = wl cy ad N ph (up M p0 j x) := by
    rw [← up_mset]
    refine wl_set _ hp rfl ?_
    have hf : (vp_updL (fun j => Int64.ofInt (M p0 j)) (Int32.ofInt (j : Int)).toNatClampNeg (Int64.ofInt x)) = (fun q => Int64.ofInt (if q = j then x else M p0 q)) := by
      rw [g2]
      funext q
      by_cases hq : q = j
      · subst hq
        simp [vp_updL]
        
      · simp [vp_updL, hq]
    rw [cell_arr hc (by decide), hf]
    rfl
  exact va_last hx hb hK hP (wl_D h1 h2) hS p0 1 (by rw [wl_get hp, cell_arr hc (by decide)]; rfl) rfl g1 d (fun H1 locs1 a1 a2 a3 => k h1 h2 H1 locs1 Ls (by rw [e2] at a1; exact a1) a3 hl)
theorem e_aald3 {κ : KT} {own : String} {cc : ByteArray} {nL : Nat} {rm : Room} {ad : Nat → Nat} {N : Nat} {ph : Phs} {M : Mem} {pc : Nat} {ls : List (Option AV)} {st : List AV} {cs : Nat × Nat} {Q : State → Prop} (h : Ok κ own cc nL rm) {p0 : Nat} (d : decode cc pc = .ok (.aaload, 1)) (hc : pcl p0 = 103) (hp : p0 < N) {i : Int} {j : Nat} (hi : i = (j : Int)) (hj : j < plen p0) (hh : ph p0 j = true) {r : Nat} (hr : pcr p0 j = r) (k : E κ ad N ph M (pc + 1) ls (vr r :: st) cs Q) : E κ ad N ph M pc ls (vi i :: vr p0 :: st) cs Q := by
  obtain ⟨p, l, e, R, s, m, args, below, meth, c, D, cy, A⟩ := κ
  obtain ⟨hx, hb, hml, hown, hts, hnw, hlk, hK, hR⟩ := h
  intro h1 h2 H locs Ls hP hS hl
  subst hi
  subst hr
  have kk := k h1 h2 H locs Ls hP hS hl
  have hb0 : plen p0 ≤ 1000 := plen_le p0
  obtain ⟨g1, g2⟩ := i_in (x := (j : Int)) (n := plen p0) (by omega) hb0
  refine va_aldq hx hb hK hP p0 3 (by rw [wl_get hp, cell_arr hc (by decide)]; rfl) rfl g1 d ?_
  rw [g2, Int.toNat_natCast]
  show W p l e R s m args below meth c H locs cs.1 cs.2 Q (F0 m (pc + 1) Ls (va_rf (if ph p0 j = true then some (ad (pcr p0 j)) else none) :: st.map (cv ad)))
  rw [if_pos hh]
  exact kk
theorem e_aald4 {κ : KT} {own : String} {cc : ByteArray} {nL : Nat} {rm : Room} {ad : Nat → Nat} {N : Nat} {ph : Phs} {M : Mem} {pc : Nat} {ls : List (Option AV)} {st : List AV} {cs : Nat × Nat} {Q : State → Prop} (h : Ok κ own cc nL rm) {p0 : Nat} (d : decode cc pc = .ok (.aaload, 1)) (hc : pcl p0 = 104) (hp : p0 < N) {i : Int} {j : Nat} (hi : i = (j : Int)) (hj : j < plen p0) (hh : ph p0 j = true) {r : Nat} (hr : pcr p0 j = r) (k : E κ ad N ph M (pc + 1) ls (vr r :: st) cs Q) : E κ ad N ph M pc ls (vi i :: vr p0 :: st) cs Q := by
  obtain ⟨p, l, e, R, s, m, args, below, meth, c, D, cy, A⟩ := κ
  obtain ⟨hx, hb, hml, hown, hts, hnw, hlk, hK, hR⟩ := h
  intro h1 h2 H locs Ls hP hS hl
  subst hi
  subst hr
  have kk := k h1 h2 H locs Ls hP hS hl
  have hb0 : plen p0 ≤ 1000 := plen_le p0
  obtain ⟨g1, g2⟩ := i_in (x := (j : Int)) (n := plen p0) (by omega) hb0
  refine va_aldq hx hb hK hP p0 4 (by rw [wl_get hp, cell_arr hc (by decide)]; rfl) rfl g1 d ?_
  rw [g2, Int.toNat_natCast]
  show W p l e R s m args below meth c H locs cs.1 cs.2 Q (F0 m (pc + 1) Ls (va_rf (if ph p0 j = true then some (ad (pcr p0 j)) else none) :: st.map (cv ad)))
  rw [if_pos hh]
  exact kk
theorem e_alenI {κ : KT} {own : String} {cc : ByteArray} {nL : Nat} {rm : Room} {ad : Nat → Nat} {N : Nat} {ph : Phs} {M : Mem} {pc : Nat} {ls : List (Option AV)} {st : List AV} {cs : Nat × Nat} {Q : State → Prop} (h : Ok κ own cc nL rm) {p0 : Nat} (d : decode cc pc = .ok (.arraylength, 1)) (hc : pcl p0 = 100) (hp : p0 < N) {n : Nat} (hn : plen p0 = n) (k : E κ ad N ph M (pc + 1) ls (vi (n : Int) :: st) cs Q) : E κ ad N ph M pc ls (vr p0 :: st) cs Q := by
  obtain ⟨p, l, e, R, s, m, args, below, meth, c, D, cy, A⟩ := κ
  obtain ⟨hx, hb, hml, hown, hts, hnw, hlk, hK, hR⟩ := h
  intro h1 h2 H locs Ls hP hS hl
  subst hn
  have kk := k h1 h2 H locs Ls hP hS hl
  refine va_alen hx hb hK hP p0 0 (by rw [wl_get hp, cell_arr hc (by decide)]) rfl (v := Int32.ofInt (plen p0 : Int)) ?_ d kk
  show Int32.ofNat (plen p0) = _
  exact (Int32.ofInt_eq_ofNat).symm
theorem e_alenJ {κ : KT} {own : String} {cc : ByteArray} {nL : Nat} {rm : Room} {ad : Nat → Nat} {N : Nat} {ph : Phs} {M : Mem} {pc : Nat} {ls : List (Option AV)} {st : List AV} {cs : Nat × Nat} {Q : State → Prop} (h : Ok κ own cc nL rm) {p0 : Nat} (d : decode cc pc = .ok (.arraylength, 1)) (hc : pcl p0 = 101) (hp : p0 < N) {n : Nat} (hn : plen p0 = n) (k : E κ ad N ph M (pc + 1) ls (vi (n : Int) :: st) cs Q) : E κ ad N ph M pc ls (vr p0 :: st) cs Q := by
  obtain ⟨p, l, e, R, s, m, args, below, meth, c, D, cy, A⟩ := κ
  obtain ⟨hx, hb, hml, hown, hts, hnw, hlk, hK, hR⟩ := h
  intro h1 h2 H locs Ls hP hS hl
  subst hn
  have kk := k h1 h2 H locs Ls hP hS hl
  refine va_alen hx hb hK hP p0 1 (by rw [wl_get hp, cell_arr hc (by decide)]) rfl (v := Int32.ofInt (plen p0 : Int)) ?_ d kk
  show Int32.ofNat (plen p0) = _
  exact (Int32.ofInt_eq_ofNat).symm
/-! contracts -/
abbrev GT : Type := Launch × va_G × (Nat → ClassId)
def kg (κ : KT) : GT := match κ with
  | (p, l, e, R, s, m, args, below, meth, c, D, cy, A) => (l, D, cy)
def AA (ad : Nat → Nat) (N : Nat) : Nat → Prop := fun q => ∃ k, k < N ∧ q = ad k
def PcW (g : GT) (as : List AV) (ad : Nat → Nat) (N : Nat) (ph : Phs) (M : Mem) : Array Value → State → Prop := va_Pc (as.map (cv ad)) (fun u => (∀ i j, i < N → j < N → ad i = ad j → i = j) ∧ va_P g.2.1 vwCl (wl g.2.2 ad N ph M) u.heap ∧ va_K g.2.1 vwCl (cyl g.2.2) u ∧ GX u)
def QcW (g : GT) (ad : Nat → Nat) (N : Nat) (ph : Phs) (Post : Option AV → Mem → Prop) : Array Value → State → Outcome → State → Prop := fun _ st oc t => (∃ (r : Option AV) (M' : Mem), oc = .returned (r.map (cv ad)) ∧ va_P g.2.1 vwCl (wl g.2.2 ad N ph M') t.heap ∧ Post r M') ∧ va_F (AA ad N) st t
/-- a method's contract: from that memory, with those arguments, it returns, and what comes back is in Post -/
def Sp (g : GT) (y : MethodName) (cc : ByteArray) (maxL : Nat) (ret : Option FieldType) (rm : Room) (as : List AV) (ad : Nat → Nat) (N : Nat) (ph : Phs) (M : Mem) (Post : Option AV → Mem → Prop) : Prop := Met g.1 y (.code y cc maxL ret :: U) rm (PcW g as ad N ph M) (QcW g ad N ph Post) 0 0 (AA ad N)
/-- where a method ends -/
def QR (κ : KT) (ad : Nat → Nat) (N : Nat) (ph : Phs) (Post : Option AV → Mem → Prop) : State → Prop := match κ with
  | (p, l, e, R, s, m, args, below, meth, c, D, cy, A) => MQ below (QcW (l, D, cy) ad N ph Post) args s 0 0 (AA ad N)
def KA (κ : KT) (ad : Nat → Nat) (N : Nat) : Prop := match κ with
  | (p, l, e, R, s, m, args, below, meth, c, D, cy, A) => A = AA ad N
def entryL (as : List AV) (n : Nat) : List (Option AV) := (as.flatMap fun v => if ct v = 2 then [some v, none] else [some v]) ++ List.replicate (n - (as.flatMap fun v => if ct v = 2 then [some v, none] else [some v]).length) none
theorem lc_none {ad : Nat → Nat} : ∀ (n b : Nat), lc ad b (List.replicate n none) = []
  | 0, b => rfl
  | n + 1, b => by rw [List.replicate_succ]; exact lc_none n (b + 1)
theorem lc_entry {ad : Nat → Nat} (n : Nat) : ∀ (as : List AV) (b : Nat), lc ad b ((as.flatMap fun v => if ct v = 2 then [some v, none] else [some v]) ++ List.replicate n none) = lv_args b (as.map (cv ad))
  | [], b => by
    show lc ad b ([] ++ _) = _
    rw [List.nil_append, lc_none]
    rfl
  | v :: t, b => by
    rw [List.flatMap_cons, List.map_cons]
    unfold lv_args
    rw [cv_cat]
    by_cases h : ct v = 2
    · rw [if_pos h, if_pos h, List.append_assoc]
      exact congrArg (fun z => (b, cv ad v) :: z) (lc_entry n t (b + 2))
    · rw [if_neg h, if_neg h, List.append_assoc]
      exact congrArg (fun z => (b, cv ad v) :: z) (lc_entry n t (b + 1))
theorem lg_len (ad : Nat → Nat) : ∀ as : List AV, (lg_sl (as.map (cv ad))).length = (as.flatMap fun v => if ct v = 2 then [some v, none] else [some v]).length
  | [] => rfl
  | v :: t => by
    have ih := lg_len ad t
    unfold lg_sl at ih ⊢
    rw [List.map_cons, List.flatMap_cons, List.flatMap_cons, List.length_append, List.length_append, ih, cv_cat]
    by_cases h : ct v = 2
    · rw [if_pos h, if_pos h]; rfl
    · rw [if_neg h, if_neg h]; rfl
theorem Sp.intro {g : GT} {y : MethodName} {cc : ByteArray} {maxL : Nat} {ret : Option FieldType} {rm : Room} {as : List AV} {ad : Nat → Nat} {N : Nat} {ph : Phs} {M : Mem} {Post : Option AV → Mem → Prop} (hy : plainName y.cls = true) {ls : List (Option AV)} (hls : entryL as maxL = ls) (hln : (as.flatMap fun v => if ct v = 2 then [some v, none] else [some v]).length ≤ maxL)
    (k : ∀ κ : KT, kg κ = g → Ok κ y.cls cc maxL rm → Rt κ ret → KA κ ad N → E κ ad N ph M 0 ls [] (0, 0) (QR κ ad N ph Post)) : Sp g y cc maxL ret rm as ad N ph M Post := by
  subst hls
  refine Met.ofW (cc := cc) (maxL := maxL) (ret := ret) hy rfl ?_
  intro p e s m args below meth c s₁ B hml hv
  obtain ⟨rfl, hinj, hP, hK, hG⟩ := hv
  obtain ⟨l, D, cy⟩ := g
  have hts := atoms_spec (ws := Cond.code y cc maxL ret :: U) B.pre
  have hown : s.vm.findClass y.cls = some m.cls := findClass_of_methodNamed B.named
  have hl := lv_entry (as.map (cv ad)) (n := maxL) (by rw [lg_len]; exact hln)
  rw [lg_entry_eq]
  have K := k (p, l, e, rm, s, m, (as.map (cv ad)).toArray, below, meth, c, D, cy, AA ad N) rfl ⟨B.exec, B.bytes, hml, hown, fun w hw => hts w (List.mem_cons_of_mem _ hw), hG, B.notSynchronized, hK, rfl⟩ B.returns rfl
  refine K hinj (fun i hi => ⟨i, hi, rfl⟩) s.heap [] _ hP va_S.rf ?_
  rw [hml]
  unfold entryL
  rw [lc_entry]
  exact hl

theorem e_iret {κ : KT} {own : String} {cc : ByteArray} {nL : Nat} {rm : Room} {ad : Nat → Nat} {N : Nat} {ph : Phs} {M : Mem} {pc : Nat} {ls : List (Option AV)} {Post : Option AV → Mem → Prop} (h : Ok κ own cc nL rm) (hr : Rt κ (some .int)) (ha : KA κ ad N) (d : decode cc pc = .ok (.ireturn, 1)) {x : Int} (k : Post (some (vi x)) M) : E κ ad N ph M pc ls [vi x] (0, 0) (QR κ ad N ph Post) := by
  obtain ⟨p, l, e, R, s, m, args, below, meth, c, D, cy, A⟩ := κ
  obtain ⟨hx, hb, hml, hown, hts, hnw, hlk, hK, hR⟩ := h
  intro h1 h2 H locs Ls hP hS hl
  have ha2 : A = AA ad N := ha
  exact W.iret hx hb hr (fun t ht hW => ⟨⟨some (vi x), M, rfl, by rw [ht]; exact hP, k⟩, by rw [← ha2]; exact hS.F ht⟩) (fun q hq => by rw [← ha2]; exact hS.2.2 q hq) d hlk
theorem e_zret {κ : KT} {own : String} {cc : ByteArray} {nL : Nat} {rm : Room} {ad : Nat → Nat} {N : Nat} {ph : Phs} {M : Mem} {pc : Nat} {ls : List (Option AV)} {Post : Option AV → Mem → Prop} (h : Ok κ own cc nL rm) (hr : Rt κ (some .boolean)) (ha : KA κ ad N) (d : decode cc pc = .ok (.ireturn, 1)) {x : Int} (hx01 : x = 0 ∨ x = 1) (k : Post (some (vi x)) M) : E κ ad N ph M pc ls [vi x] (0, 0) (QR κ ad N ph Post) := by
  obtain ⟨p, l, e, R, s, m, args, below, meth, c, D, cy, A⟩ := κ
  obtain ⟨hx, hb, hml, hown, hts, hnw, hlk, hK, hR⟩ := h
  intro h1 h2 H locs Ls hP hS hl
  have ha2 : A = AA ad N := ha
  exact W.zret hx hb hr (nb_01 hx01).1 (fun t ht hW => ⟨⟨some (vi x), M, rfl, by rw [ht]; exact hP, k⟩, by rw [← ha2]; exact hS.F ht⟩) (fun q hq => by rw [← ha2]; exact hS.2.2 q hq) d hlk
theorem e_lret {κ : KT} {own : String} {cc : ByteArray} {nL : Nat} {rm : Room} {ad : Nat → Nat} {N : Nat} {ph : Phs} {M : Mem} {pc : Nat} {ls : List (Option AV)} {Post : Option AV → Mem → Prop} (h : Ok κ own cc nL rm) (hr : Rt κ (some .long)) (ha : KA κ ad N) (d : decode cc pc = .ok (.lreturn, 1)) {x : Int} (k : Post (some (vj x)) M) : E κ ad N ph M pc ls [vj x] (0, 0) (QR κ ad N ph Post) := by
  obtain ⟨p, l, e, R, s, m, args, below, meth, c, D, cy, A⟩ := κ
  obtain ⟨hx, hb, hml, hown, hts, hnw, hlk, hK, hR⟩ := h
  intro h1 h2 H locs Ls hP hS hl
  have ha2 : A = AA ad N := ha
  exact W.lret hx hb hr (fun t ht hW => ⟨⟨some (vj x), M, rfl, by rw [ht]; exact hP, k⟩, by rw [← ha2]; exact hS.F ht⟩) (fun q hq => by rw [← ha2]; exact hS.2.2 q hq) d hlk
theorem e_vret {κ : KT} {own : String} {cc : ByteArray} {nL : Nat} {rm : Room} {ad : Nat → Nat} {N : Nat} {ph : Phs} {M : Mem} {pc : Nat} {ls : List (Option AV)} {Post : Option AV → Mem → Prop} (h : Ok κ own cc nL rm) (hr : Rt κ none) (ha : KA κ ad N) (d : decode cc pc = .ok (.return_, 1))  (k : Post none M) : E κ ad N ph M pc ls [] (0, 0) (QR κ ad N ph Post) := by
  obtain ⟨p, l, e, R, s, m, args, below, meth, c, D, cy, A⟩ := κ
  obtain ⟨hx, hb, hml, hown, hts, hnw, hlk, hK, hR⟩ := h
  intro h1 h2 H locs Ls hP hS hl
  have ha2 : A = AA ad N := ha
  exact W.vret hx hb hr (fun t ht hW => ⟨⟨none, M, rfl, by rw [ht]; exact hP, k⟩, by rw [← ha2]; exact hS.F ht⟩) (fun q hq => by rw [← ha2]; exact hS.2.2 q hq) d hlk
theorem e_aret {κ : KT} {own : String} {cc : ByteArray} {nL : Nat} {rm : Room} {ad : Nat → Nat} {N : Nat} {ph : Phs} {M : Mem} {pc : Nat} {ls : List (Option AV)} {Post : Option AV → Mem → Prop} {C : String} (h : Ok κ own cc nL rm) (hr : Rt κ (some (.object C))) (ha : KA κ ad N) (d : decode cc pc = .ok (.areturn, 1)) {x : Nat} (k : Post (some (vr x)) M) : E κ ad N ph M pc ls [vr x] (0, 0) (QR κ ad N ph Post) := by
  obtain ⟨p, l, e, R, s, m, args, below, meth, c, D, cy, A⟩ := κ
  obtain ⟨hx, hb, hml, hown, hts, hnw, hlk, hK, hR⟩ := h
  intro h1 h2 H locs Ls hP hS hl
  have ha2 : A = AA ad N := ha
  exact W.aret hx hb hr (Or.inl ⟨_, rfl⟩) (Or.inr ⟨_, rfl⟩) (fun t ht hW => ⟨⟨some (vr x), M, rfl, by rw [ht]; exact hP, k⟩, by rw [← ha2]; exact hS.F ht⟩) (fun q hq => by rw [← ha2]; exact hS.2.2 q hq) d hlk
theorem run_go {p : Program} {l : Launch} {e : Env} {R : Room} {s : State} {m : MethodId} {args : Array Value} {below : List Frame} {meth : Method} {c : Code} {D : va_G} {cy : Nat → ClassId} {A : Nat → Prop} {H : Heap} {locs : List Loc} {c0 s0 pc : Nat} {Ls : Array Slot} {st0 rest : List Value} {ad : Nat → Nat} {N : Nat} {ph : Phs} {Post : Option AV → Mem → Prop} {a : Array Value} {Q : State → Prop}
    (hr : va_Run p l e R s m args below meth c H locs c0 s0 0 0 (F0 m pc Ls st0) rest (QcW (l, D, cy) ad N ph Post a) (AA ad N)) (hS : va_S A s.heap H locs) (h2 : ∀ i, i < N → A (ad i))
    (kk : ∀ (r : Option AV) (M' : Mem) (H1 : Heap) (locs1 : List Loc), va_P D vwCl (wl cy ad N ph M') H1 → va_S A s.heap H1 locs1 → Post r M' → W p l e R s m args below meth c H1 locs1 c0 s0 Q (F0 m (pc + 3) Ls ((r.map (cv ad)).toList ++ rest))) : W p l e R s m args below meth c H locs c0 s0 Q (F0 m pc Ls st0) := by
  intro T hT X
  obtain ⟨v, st₀, t, T', L, g0, X', hL, e1, e2, ⟨⟨r, M', hv, hP', hp⟩, hz, hk⟩, st⟩ := hr T hT X
  cases hv
  rw [g0] at hz hk
  have hA : ∀ q, AA ad N q → A q := fun q ⟨k, hk, e⟩ => by rw [e]; exact h2 k hk
  obtain ⟨t2, a1, b1⟩ := kk r M' T'.heap (locs ++ L) (by rw [e1]; exact hP') ⟨Nat.le_trans hS.1 (by rw [e1]; exact hz), fun q h1 h2 => by rw [e1, hk q (Nat.lt_of_lt_of_le h1 hS.1) (fun z => h2 (hA q z))]; exact hS.2.1 q h1 h2, fun q hq => by
      rcases List.mem_append.mp hq with h | h
      · exact hS.2.2 q h
      · exact hA _ (hL q h)⟩ hp T' rfl X'
  exact ⟨t2, st t2 a1, b1⟩
theorem PcW_blind {g : GT} {as : List AV} {ad : Nat → Nat} {N : Nat} {ph : Phs} {M : Mem} : FrameBlind (PcW g as ad N ph M) := fun a u f mk q => by
  obtain ⟨q0, q1, q2, q3, q4⟩ := q
  exact ⟨q0, q1, q2, va_K.moved (u := u) (U := u.calling f mk a) (Vm.Alike.refl u.vm) q3, GX_same (u := u) rfl q4⟩
theorem mapr {ad : Nat → Nat} (r : Option AV) (st : List AV) : (r.map (cv ad)).toList ++ st.map (cv ad) = (r.toList ++ st).map (cv ad) := by cases r <;> rfl
theorem u_goodU {ws : List Cond} (h : ∀ w ∈ ws, w ∈ U) : GoodIn U ws := fun w hw => ⟨h w hw, good_of_word (List.mem_filter.mp (h w hw)).2⟩

theorem e_callV {κ : KT} {own : String} {cc : ByteArray} {nL : Nat} {rm : Room} {ad : Nat → Nat} {N : Nat} {ph : Phs} {M : Mem} {pc : Nat} {ls : List (Option AV)} {st : List AV} {cs : Nat × Nat} {Q : State → Prop} {idx : Nat} {y : MethodName} {ccY : ByteArray} {maxL n : Nat} {ret : Option FieldType} {rmY : Room} {as : List AV} (lk : LK own idx y) (mv : MV y ccY maxL ret n) (d : decode cc pc = .ok (.invokevirtual idx, 3)) (hn : as.length = n) {p0 : Nat} (hcl : clR (pcl p0) = y.cls) (hc : pcl p0 < 12) (hp : p0 < N) (hst : (st.map ct).sum ≤ 8) (hrm : rmY.frames + 1 ≤ rm.frames ∧ 8 + (maxL + 11) + rmY.locals ≤ rm.locals ∧ rmY.cells = 0 ∧ rmY.slots = 0 ∧ cs.1 ≤ rm.cells ∧ cs.2 ≤ rm.slots) (h : Ok κ own cc nL rm) (S : Sp (kg κ) y ccY maxL ret rmY (vr p0 :: as) ad N ph M (fun r M2 => E κ ad N ph M2 (pc + 3) ls (r.toList ++ st) cs Q)) : E κ ad N ph M pc ls (as.reverse ++ vr p0 :: st) cs Q := by
  obtain ⟨p, l, e, R, s, m, args, below, meth, c, D, cy, A⟩ := κ
  obtain ⟨hx, hb, hml, hown, hts, hnw, hlk, hK, hR⟩ := h
  intro h1 h2 H locs Ls hP hS hl
  subst hR
  obtain ⟨v1, v2, v3, v4, v5⟩ := mv
  obtain ⟨r1, r2, r3, r4, r5, r6⟩ := hrm
  have hG : GoodIn U (Cond.code y ccY maxL ret :: U) := u_goodU (fun w hw => (List.mem_cons.mp hw).elim (fun q => q ▸ v4) id)
  have hfix : CallFix p m c cc nL s args U own := ⟨hx, hb, hml, hown, hts⟩
  obtain ⟨c1, -⟩ := CFall (pcl p0) hc
  have hpre : PreV s H y.cls (ad p0) (PcW (l, D, cy) (vr p0 :: as) ad N ph M) (as.map (cv ad)) := by
    refine ⟨PcW_blind, ?_, fun u hU hW => ⟨rfl, h1, by rw [hU]; exact hP, va_K.moved hW.alike hK, GX_warm hW hnw⟩⟩
    rw [← hcl]
    exact va_recv hK hP (q0 := p0) c1 (by rw [wl_get hp, cell_obj rfl hc])
  have hsz : Ls.size = nL := by rw [hl.1, hml]
  have hstk : ((as.reverse ++ vr p0 :: st).map (cv ad)) = (as.map (cv ad)).reverse ++ Value.ref (ad p0) :: st.map (cv ad) := by
    rw [List.map_append, List.map_reverse]; rfl
  have hsum : 2 * (F0 m pc Ls ((as.reverse ++ vr p0 :: st).map (cv ad))).monitorRoom + ((st.map (cv ad)).map fun v => v.category).sum ≤ 8 := lv_room (by rw [ct_sum]; exact hst)
  rcases lk with lk | ⟨host, lk⟩
  · refine run_go (va_runV (C := y.cls) (g := F0 m pc Ls _) hfix S ⟨callB_of n hts hG rfl r3 r4 (hts _ v3) (hts _ lk) v5 ⟨r1, r2⟩, hts _ v1, hts _ v2⟩ hpre rfl (by rw [List.length_map]; exact hn) hsz hstk hsum d ⟨r5, r6⟩) hS h2 ?_
    intro r M2 H1 locs1 a1 a2 a3
    rw [mapr]
    exact a3 h1 h2 H1 locs1 Ls a1 a2 hl
  · refine run_go (va_runVN (C := y.cls) (g := F0 m pc Ls _) hfix S ⟨va_cnB n hts hG rfl r3 r4 (hnw.1 _ lk) (hts _ v3) v5 ⟨r1, r2⟩, hts _ v1, hts _ v2⟩ hpre rfl (by rw [List.length_map]; exact hn) hsz hstk hsum d ⟨r5, r6⟩) hS h2 ?_
    intro r M2 H1 locs1 a1 a2 a3
    rw [mapr]
    exact a3 h1 h2 H1 locs1 Ls a1 a2 hl
theorem e_callS {κ : KT} {own : String} {cc : ByteArray} {nL : Nat} {rm : Room} {ad : Nat → Nat} {N : Nat} {ph : Phs} {M : Mem} {pc : Nat} {ls : List (Option AV)} {st : List AV} {cs : Nat × Nat} {Q : State → Prop} {idx : Nat} {y : MethodName} {ccY : ByteArray} {maxL n : Nat} {ret : Option FieldType} {rmY : Room} {as : List AV} (lk : LK own idx y) (mv : MS y ccY maxL ret n) (d : decode cc pc = .ok (.invokestatic idx, 3)) (hn : as.length = n) (hst : (st.map ct).sum ≤ 8) (hrm : rmY.frames + 1 ≤ rm.frames ∧ 8 + (maxL + 11) + rmY.locals ≤ rm.locals ∧ rmY.cells = 0 ∧ rmY.slots = 0 ∧ cs.1 ≤ rm.cells ∧ cs.2 ≤ rm.slots) (h : Ok κ own cc nL rm) (S : Sp (kg κ) y ccY maxL ret rmY as ad N ph M (fun r M2 => E κ ad N ph M2 (pc + 3) ls (r.toList ++ st) cs Q)) : E κ ad N ph M pc ls (as.reverse ++ st) cs Q := by
  obtain ⟨p, l, e, R, s, m, args, below, meth, c, D, cy, A⟩ := κ
  obtain ⟨hx, hb, hml, hown, hts, hnw, hlk, hK, hR⟩ := h
  intro h1 h2 H locs Ls hP hS hl
  subst hR
  obtain ⟨v1, v3, v4, v5⟩ := mv
  obtain ⟨r1, r2, r3, r4, r5, r6⟩ := hrm
  have hG : GoodIn U (Cond.code y ccY maxL ret :: U) := u_goodU (fun w hw => (List.mem_cons.mp hw).elim (fun q => q ▸ v4) id)
  have hfix : CallFix p m c cc nL s args U own := ⟨hx, hb, hml, hown, hts⟩
  have hpre : PreS s H (PcW (l, D, cy) as ad N ph M) (as.map (cv ad)) := ⟨PcW_blind, fun u hU hW => ⟨rfl, h1, by rw [hU]; exact hP, va_K.moved hW.alike hK, GX_warm hW hnw⟩⟩
  have hsz : Ls.size = nL := by rw [hl.1, hml]
  have hstk : ((as.reverse ++ st).map (cv ad)) = (as.map (cv ad)).reverse ++ st.map (cv ad) := by
    rw [List.map_append, List.map_reverse]
  have hsum : 2 * (F0 m pc Ls ((as.reverse ++ st).map (cv ad))).monitorRoom + ((st.map (cv ad)).map fun v => v.category).sum ≤ 8 := lv_room (by rw [ct_sum]; exact hst)
  rcases lk with lk | ⟨host, lk⟩
  · refine run_go (va_runS (g := F0 m pc Ls _) hfix S ⟨callB_of n hts hG rfl r3 r4 (hts _ v3) (hts _ lk) v5 ⟨r1, r2⟩, hts _ v1⟩ hpre rfl (by rw [List.length_map]; exact hn) hsz hstk hsum d ⟨r5, r6⟩) hS h2 ?_
    intro r M2 H1 locs1 a1 a2 a3
    rw [mapr]
    exact a3 h1 h2 H1 locs1 Ls a1 a2 hl
  · refine run_go (va_runSN (g := F0 m pc Ls _) hfix S ⟨va_cnB n hts hG rfl r3 r4 (hnw.1 _ lk) (hts _ v3) v5 ⟨r1, r2⟩, hts _ v1, trivial⟩ hpre rfl (by rw [List.length_map]; exact hn) hsz hstk hsum d ⟨r5, r6⟩) hS h2 ?_
    intro r M2 H1 locs1 a1 a2 a3
    rw [mapr]
    exact a3 h1 h2 H1 locs1 Ls a1 a2 hl
theorem e_callV0 {κ : KT} {own : String} {cc : ByteArray} {nL : Nat} {rm : Room} {ad : Nat → Nat} {N : Nat} {ph : Phs} {M : Mem} {pc : Nat} {ls : List (Option AV)} {st : List AV} {cs : Nat × Nat} {Q : State → Prop} {idx : Nat} {y : MethodName} {ccY : ByteArray} {maxL : Nat} {ret : Option FieldType} {rmY : Room} (lk : LK own idx y) (mv : MV y ccY maxL ret 0) (d : decode cc pc = .ok (.invokevirtual idx, 3)) {p0 : Nat}  (hcl : clR (pcl p0) = y.cls) (hc : pcl p0 < 12) (hp : p0 < N) (hst : (st.map ct).sum ≤ 8) (hrm : rmY.frames + 1 ≤ rm.frames ∧ 8 + (maxL + 11) + rmY.locals ≤ rm.locals ∧ rmY.cells = 0 ∧ rmY.slots = 0 ∧ cs.1 ≤ rm.cells ∧ cs.2 ≤ rm.slots) (h : Ok κ own cc nL rm) (S : Sp (kg κ) y ccY maxL ret rmY [vr p0] ad N ph M (fun r M2 => E κ ad N ph M2 (pc + 3) ls (r.toList ++ st) cs Q)) : E κ ad N ph M pc ls (vr p0 :: st) cs Q :=
  e_callV (as := []) lk mv d rfl hcl hc hp hst hrm h S
theorem e_callS0 {κ : KT} {own : String} {cc : ByteArray} {nL : Nat} {rm : Room} {ad : Nat → Nat} {N : Nat} {ph : Phs} {M : Mem} {pc : Nat} {ls : List (Option AV)} {st : List AV} {cs : Nat × Nat} {Q : State → Prop} {idx : Nat} {y : MethodName} {ccY : ByteArray} {maxL : Nat} {ret : Option FieldType} {rmY : Room} (lk : LK own idx y) (mv : MS y ccY maxL ret 0) (d : decode cc pc = .ok (.invokestatic idx, 3))  (hst : (st.map ct).sum ≤ 8) (hrm : rmY.frames + 1 ≤ rm.frames ∧ 8 + (maxL + 11) + rmY.locals ≤ rm.locals ∧ rmY.cells = 0 ∧ rmY.slots = 0 ∧ cs.1 ≤ rm.cells ∧ cs.2 ≤ rm.slots) (h : Ok κ own cc nL rm) (S : Sp (kg κ) y ccY maxL ret rmY [] ad N ph M (fun r M2 => E κ ad N ph M2 (pc + 3) ls (r.toList ++ st) cs Q)) : E κ ad N ph M pc ls (st) cs Q :=
  e_callS (as := []) lk mv d rfl hst hrm h S
theorem e_callV1 {κ : KT} {own : String} {cc : ByteArray} {nL : Nat} {rm : Room} {ad : Nat → Nat} {N : Nat} {ph : Phs} {M : Mem} {pc : Nat} {ls : List (Option AV)} {st : List AV} {cs : Nat × Nat} {Q : State → Prop} {idx : Nat} {y : MethodName} {ccY : ByteArray} {maxL : Nat} {ret : Option FieldType} {rmY : Room} (lk : LK own idx y) (mv : MV y ccY maxL ret 1) (d : decode cc pc = .ok (.invokevirtual idx, 3)) {p0 : Nat} {a1 : AV} (hcl : clR (pcl p0) = y.cls) (hc : pcl p0 < 12) (hp : p0 < N) (hst : (st.map ct).sum ≤ 8) (hrm : rmY.frames + 1 ≤ rm.frames ∧ 8 + (maxL + 11) + rmY.locals ≤ rm.locals ∧ rmY.cells = 0 ∧ rmY.slots = 0 ∧ cs.1 ≤ rm.cells ∧ cs.2 ≤ rm.slots) (h : Ok κ own cc nL rm) (S : Sp (kg κ) y ccY maxL ret rmY [vr p0, a1] ad N ph M (fun r M2 => E κ ad N ph M2 (pc + 3) ls (r.toList ++ st) cs Q)) : E κ ad N ph M pc ls (a1 :: vr p0 :: st) cs Q :=
  e_callV (as := [a1]) lk mv d rfl hcl hc hp hst hrm h S
theorem e_callS1 {κ : KT} {own : String} {cc : ByteArray} {nL : Nat} {rm : Room} {ad : Nat → Nat} {N : Nat} {ph : Phs} {M : Mem} {pc : Nat} {ls : List (Option AV)} {st : List AV} {cs : Nat × Nat} {Q : State → Prop} {idx : Nat} {y : MethodName} {ccY : ByteArray} {maxL : Nat} {ret : Option FieldType} {rmY : Room} (lk : LK own idx y) (mv : MS y ccY maxL ret 1) (d : decode cc pc = .ok (.invokestatic idx, 3)) {a1 : AV} (hst : (st.map ct).sum ≤ 8) (hrm : rmY.frames + 1 ≤ rm.frames ∧ 8 + (maxL + 11) + rmY.locals ≤ rm.locals ∧ rmY.cells = 0 ∧ rmY.slots = 0 ∧ cs.1 ≤ rm.cells ∧ cs.2 ≤ rm.slots) (h : Ok κ own cc nL rm) (S : Sp (kg κ) y ccY maxL ret rmY [a1] ad N ph M (fun r M2 => E κ ad N ph M2 (pc + 3) ls (r.toList ++ st) cs Q)) : E κ ad N ph M pc ls (a1 :: st) cs Q :=
  e_callS (as := [a1]) lk mv d rfl hst hrm h S
theorem e_callV2 {κ : KT} {own : String} {cc : ByteArray} {nL : Nat} {rm : Room} {ad : Nat → Nat} {N : Nat} {ph : Phs} {M : Mem} {pc : Nat} {ls : List (Option AV)} {st : List AV} {cs : Nat × Nat} {Q : State → Prop} {idx : Nat} {y : MethodName} {ccY : ByteArray} {maxL : Nat} {ret : Option FieldType} {rmY : Room} (lk : LK own idx y) (mv : MV y ccY maxL ret 2) (d : decode cc pc = .ok (.invokevirtual idx, 3)) {p0 : Nat} {a1 a2 : AV} (hcl : clR (pcl p0) = y.cls) (hc : pcl p0 < 12) (hp : p0 < N) (hst : (st.map ct).sum ≤ 8) (hrm : rmY.frames + 1 ≤ rm.frames ∧ 8 + (maxL + 11) + rmY.locals ≤ rm.locals ∧ rmY.cells = 0 ∧ rmY.slots = 0 ∧ cs.1 ≤ rm.cells ∧ cs.2 ≤ rm.slots) (h : Ok κ own cc nL rm) (S : Sp (kg κ) y ccY maxL ret rmY [vr p0, a1, a2] ad N ph M (fun r M2 => E κ ad N ph M2 (pc + 3) ls (r.toList ++ st) cs Q)) : E κ ad N ph M pc ls (a2 :: a1 :: vr p0 :: st) cs Q :=
  e_callV (as := [a1, a2]) lk mv d rfl hcl hc hp hst hrm h S
theorem e_callS2 {κ : KT} {own : String} {cc : ByteArray} {nL : Nat} {rm : Room} {ad : Nat → Nat} {N : Nat} {ph : Phs} {M : Mem} {pc : Nat} {ls : List (Option AV)} {st : List AV} {cs : Nat × Nat} {Q : State → Prop} {idx : Nat} {y : MethodName} {ccY : ByteArray} {maxL : Nat} {ret : Option FieldType} {rmY : Room} (lk : LK own idx y) (mv : MS y ccY maxL ret 2) (d : decode cc pc = .ok (.invokestatic idx, 3)) {a1 a2 : AV} (hst : (st.map ct).sum ≤ 8) (hrm : rmY.frames + 1 ≤ rm.frames ∧ 8 + (maxL + 11) + rmY.locals ≤ rm.locals ∧ rmY.cells = 0 ∧ rmY.slots = 0 ∧ cs.1 ≤ rm.cells ∧ cs.2 ≤ rm.slots) (h : Ok κ own cc nL rm) (S : Sp (kg κ) y ccY maxL ret rmY [a1, a2] ad N ph M (fun r M2 => E κ ad N ph M2 (pc + 3) ls (r.toList ++ st) cs Q)) : E κ ad N ph M pc ls (a2 :: a1 :: st) cs Q :=
  e_callS (as := [a1, a2]) lk mv d rfl hst hrm h S
theorem e_callV3 {κ : KT} {own : String} {cc : ByteArray} {nL : Nat} {rm : Room} {ad : Nat → Nat} {N : Nat} {ph : Phs} {M : Mem} {pc : Nat} {ls : List (Option AV)} {st : List AV} {cs : Nat × Nat} {Q : State → Prop} {idx : Nat} {y : MethodName} {ccY : ByteArray} {maxL : Nat} {ret : Option FieldType} {rmY : Room} (lk : LK own idx y) (mv : MV y ccY maxL ret 3) (d : decode cc pc = .ok (.invokevirtual idx, 3)) {p0 : Nat} {a1 a2 a3 : AV} (hcl : clR (pcl p0) = y.cls) (hc : pcl p0 < 12) (hp : p0 < N) (hst : (st.map ct).sum ≤ 8) (hrm : rmY.frames + 1 ≤ rm.frames ∧ 8 + (maxL + 11) + rmY.locals ≤ rm.locals ∧ rmY.cells = 0 ∧ rmY.slots = 0 ∧ cs.1 ≤ rm.cells ∧ cs.2 ≤ rm.slots) (h : Ok κ own cc nL rm) (S : Sp (kg κ) y ccY maxL ret rmY [vr p0, a1, a2, a3] ad N ph M (fun r M2 => E κ ad N ph M2 (pc + 3) ls (r.toList ++ st) cs Q)) : E κ ad N ph M pc ls (a3 :: a2 :: a1 :: vr p0 :: st) cs Q :=
  e_callV (as := [a1, a2, a3]) lk mv d rfl hcl hc hp hst hrm h S
theorem e_callS3 {κ : KT} {own : String} {cc : ByteArray} {nL : Nat} {rm : Room} {ad : Nat → Nat} {N : Nat} {ph : Phs} {M : Mem} {pc : Nat} {ls : List (Option AV)} {st : List AV} {cs : Nat × Nat} {Q : State → Prop} {idx : Nat} {y : MethodName} {ccY : ByteArray} {maxL : Nat} {ret : Option FieldType} {rmY : Room} (lk : LK own idx y) (mv : MS y ccY maxL ret 3) (d : decode cc pc = .ok (.invokestatic idx, 3)) {a1 a2 a3 : AV} (hst : (st.map ct).sum ≤ 8) (hrm : rmY.frames + 1 ≤ rm.frames ∧ 8 + (maxL + 11) + rmY.locals ≤ rm.locals ∧ rmY.cells = 0 ∧ rmY.slots = 0 ∧ cs.1 ≤ rm.cells ∧ cs.2 ≤ rm.slots) (h : Ok κ own cc nL rm) (S : Sp (kg κ) y ccY maxL ret rmY [a1, a2, a3] ad N ph M (fun r M2 => E κ ad N ph M2 (pc + 3) ls (r.toList ++ st) cs Q)) : E κ ad N ph M pc ls (a3 :: a2 :: a1 :: st) cs Q :=
  e_callS (as := [a1, a2, a3]) lk mv d rfl hst hrm h S
theorem e_callV4 {κ : KT} {own : String} {cc : ByteArray} {nL : Nat} {rm : Room} {ad : Nat → Nat} {N : Nat} {ph : Phs} {M : Mem} {pc : Nat} {ls : List (Option AV)} {st : List AV} {cs : Nat × Nat} {Q : State → Prop} {idx : Nat} {y : MethodName} {ccY : ByteArray} {maxL : Nat} {ret : Option FieldType} {rmY : Room} (lk : LK own idx y) (mv : MV y ccY maxL ret 4) (d : decode cc pc = .ok (.invokevirtual idx, 3)) {p0 : Nat} {a1 a2 a3 a4 : AV} (hcl : clR (pcl p0) = y.cls) (hc : pcl p0 < 12) (hp : p0 < N) (hst : (st.map ct).sum ≤ 8) (hrm : rmY.frames + 1 ≤ rm.frames ∧ 8 + (maxL + 11) + rmY.locals ≤ rm.locals ∧ rmY.cells = 0 ∧ rmY.slots = 0 ∧ cs.1 ≤ rm.cells ∧ cs.2 ≤ rm.slots) (h : Ok κ own cc nL rm) (S : Sp (kg κ) y ccY maxL ret rmY [vr p0, a1, a2, a3, a4] ad N ph M (fun r M2 => E κ ad N ph M2 (pc + 3) ls (r.toList ++ st) cs Q)) : E κ ad N ph M pc ls (a4 :: a3 :: a2 :: a1 :: vr p0 :: st) cs Q :=
  e_callV (as := [a1, a2, a3, a4]) lk mv d rfl hcl hc hp hst hrm h S
theorem e_callS4 {κ : KT} {own : String} {cc : ByteArray} {nL : Nat} {rm : Room} {ad : Nat → Nat} {N : Nat} {ph : Phs} {M : Mem} {pc : Nat} {ls : List (Option AV)} {st : List AV} {cs : Nat × Nat} {Q : State → Prop} {idx : Nat} {y : MethodName} {ccY : ByteArray} {maxL : Nat} {ret : Option FieldType} {rmY : Room} (lk : LK own idx y) (mv : MS y ccY maxL ret 4) (d : decode cc pc = .ok (.invokestatic idx, 3)) {a1 a2 a3 a4 : AV} (hst : (st.map ct).sum ≤ 8) (hrm : rmY.frames + 1 ≤ rm.frames ∧ 8 + (maxL + 11) + rmY.locals ≤ rm.locals ∧ rmY.cells = 0 ∧ rmY.slots = 0 ∧ cs.1 ≤ rm.cells ∧ cs.2 ≤ rm.slots) (h : Ok κ own cc nL rm) (S : Sp (kg κ) y ccY maxL ret rmY [a1, a2, a3, a4] ad N ph M (fun r M2 => E κ ad N ph M2 (pc + 3) ls (r.toList ++ st) cs Q)) : E κ ad N ph M pc ls (a4 :: a3 :: a2 :: a1 :: st) cs Q :=
  e_callS (as := [a1, a2, a3, a4]) lk mv d rfl hst hrm h S
theorem e_callV5 {κ : KT} {own : String} {cc : ByteArray} {nL : Nat} {rm : Room} {ad : Nat → Nat} {N : Nat} {ph : Phs} {M : Mem} {pc : Nat} {ls : List (Option AV)} {st : List AV} {cs : Nat × Nat} {Q : State → Prop} {idx : Nat} {y : MethodName} {ccY : ByteArray} {maxL : Nat} {ret : Option FieldType} {rmY : Room} (lk : LK own idx y) (mv : MV y ccY maxL ret 5) (d : decode cc pc = .ok (.invokevirtual idx, 3)) {p0 : Nat} {a1 a2 a3 a4 a5 : AV} (hcl : clR (pcl p0) = y.cls) (hc : pcl p0 < 12) (hp : p0 < N) (hst : (st.map ct).sum ≤ 8) (hrm : rmY.frames + 1 ≤ rm.frames ∧ 8 + (maxL + 11) + rmY.locals ≤ rm.locals ∧ rmY.cells = 0 ∧ rmY.slots = 0 ∧ cs.1 ≤ rm.cells ∧ cs.2 ≤ rm.slots) (h : Ok κ own cc nL rm) (S : Sp (kg κ) y ccY maxL ret rmY [vr p0, a1, a2, a3, a4, a5] ad N ph M (fun r M2 => E κ ad N ph M2 (pc + 3) ls (r.toList ++ st) cs Q)) : E κ ad N ph M pc ls (a5 :: a4 :: a3 :: a2 :: a1 :: vr p0 :: st) cs Q :=
  e_callV (as := [a1, a2, a3, a4, a5]) lk mv d rfl hcl hc hp hst hrm h S
theorem e_callS5 {κ : KT} {own : String} {cc : ByteArray} {nL : Nat} {rm : Room} {ad : Nat → Nat} {N : Nat} {ph : Phs} {M : Mem} {pc : Nat} {ls : List (Option AV)} {st : List AV} {cs : Nat × Nat} {Q : State → Prop} {idx : Nat} {y : MethodName} {ccY : ByteArray} {maxL : Nat} {ret : Option FieldType} {rmY : Room} (lk : LK own idx y) (mv : MS y ccY maxL ret 5) (d : decode cc pc = .ok (.invokestatic idx, 3)) {a1 a2 a3 a4 a5 : AV} (hst : (st.map ct).sum ≤ 8) (hrm : rmY.frames + 1 ≤ rm.frames ∧ 8 + (maxL + 11) + rmY.locals ≤ rm.locals ∧ rmY.cells = 0 ∧ rmY.slots = 0 ∧ cs.1 ≤ rm.cells ∧ cs.2 ≤ rm.slots) (h : Ok κ own cc nL rm) (S : Sp (kg κ) y ccY maxL ret rmY [a1, a2, a3, a4, a5] ad N ph M (fun r M2 => E κ ad N ph M2 (pc + 3) ls (r.toList ++ st) cs Q)) : E κ ad N ph M pc ls (a5 :: a4 :: a3 :: a2 :: a1 :: st) cs Q :=
  e_callS (as := [a1, a2, a3, a4, a5]) lk mv d rfl hst hrm h S
theorem e_callV6 {κ : KT} {own : String} {cc : ByteArray} {nL : Nat} {rm : Room} {ad : Nat → Nat} {N : Nat} {ph : Phs} {M : Mem} {pc : Nat} {ls : List (Option AV)} {st : List AV} {cs : Nat × Nat} {Q : State → Prop} {idx : Nat} {y : MethodName} {ccY : ByteArray} {maxL : Nat} {ret : Option FieldType} {rmY : Room} (lk : LK own idx y) (mv : MV y ccY maxL ret 6) (d : decode cc pc = .ok (.invokevirtual idx, 3)) {p0 : Nat} {a1 a2 a3 a4 a5 a6 : AV} (hcl : clR (pcl p0) = y.cls) (hc : pcl p0 < 12) (hp : p0 < N) (hst : (st.map ct).sum ≤ 8) (hrm : rmY.frames + 1 ≤ rm.frames ∧ 8 + (maxL + 11) + rmY.locals ≤ rm.locals ∧ rmY.cells = 0 ∧ rmY.slots = 0 ∧ cs.1 ≤ rm.cells ∧ cs.2 ≤ rm.slots) (h : Ok κ own cc nL rm) (S : Sp (kg κ) y ccY maxL ret rmY [vr p0, a1, a2, a3, a4, a5, a6] ad N ph M (fun r M2 => E κ ad N ph M2 (pc + 3) ls (r.toList ++ st) cs Q)) : E κ ad N ph M pc ls (a6 :: a5 :: a4 :: a3 :: a2 :: a1 :: vr p0 :: st) cs Q :=
  e_callV (as := [a1, a2, a3, a4, a5, a6]) lk mv d rfl hcl hc hp hst hrm h S
theorem e_callS6 {κ : KT} {own : String} {cc : ByteArray} {nL : Nat} {rm : Room} {ad : Nat → Nat} {N : Nat} {ph : Phs} {M : Mem} {pc : Nat} {ls : List (Option AV)} {st : List AV} {cs : Nat × Nat} {Q : State → Prop} {idx : Nat} {y : MethodName} {ccY : ByteArray} {maxL : Nat} {ret : Option FieldType} {rmY : Room} (lk : LK own idx y) (mv : MS y ccY maxL ret 6) (d : decode cc pc = .ok (.invokestatic idx, 3)) {a1 a2 a3 a4 a5 a6 : AV} (hst : (st.map ct).sum ≤ 8) (hrm : rmY.frames + 1 ≤ rm.frames ∧ 8 + (maxL + 11) + rmY.locals ≤ rm.locals ∧ rmY.cells = 0 ∧ rmY.slots = 0 ∧ cs.1 ≤ rm.cells ∧ cs.2 ≤ rm.slots) (h : Ok κ own cc nL rm) (S : Sp (kg κ) y ccY maxL ret rmY [a1, a2, a3, a4, a5, a6] ad N ph M (fun r M2 => E κ ad N ph M2 (pc + 3) ls (r.toList ++ st) cs Q)) : E κ ad N ph M pc ls (a6 :: a5 :: a4 :: a3 :: a2 :: a1 :: st) cs Q :=
  e_callS (as := [a1, a2, a3, a4, a5, a6]) lk mv d rfl hst hrm h S
theorem e_max {κ : KT} {own : String} {cc : ByteArray} {nL : Nat} {rm : Room} {ad : Nat → Nat} {N : Nat} {ph : Phs} {M : Mem} {pc : Nat} {ls : List (Option AV)} {st : List AV} {cs : Nat × Nat} {Q : State → Prop} {idx : Nat} (lk : Cond.methodLink own idx Lib.Math.max.name ∈ U) (d : decode cc pc = .ok (.invokestatic idx, 3)) (hst : (st.map ct).sum + 13 ≤ rm.locals) (hfr : 1 ≤ rm.frames ∧ cs.1 ≤ rm.cells ∧ cs.2 ≤ rm.slots) (h : Ok κ own cc nL rm) {x y : Int} (hx0 : -2147483648 ≤ x ∧ x ≤ 2147483647) (hy0 : -2147483648 ≤ y ∧ y ≤ 2147483647) (k : E κ ad N ph M (pc + 3) ls (vi (max x y) :: st) cs Q) : E κ ad N ph M pc ls (vi y :: vi x :: st) cs Q := by
  obtain ⟨p, l, e, R, s, m, args, below, meth, c, D, cy, A⟩ := κ
  obtain ⟨hx, hb, hml, hown, hts, hnw, hlk, hK, hR⟩ := h
  intro h1 h2 H locs Ls hP hS hl
  subst hR
  have kk := k h1 h2 H locs Ls hP hS hl
  · refine va_mmax hx hb (by rw [hl.1]) hown (hts _ lk) (hts _ st_max) (hts _ iz_Math) (hts _ cd_max) hfr.1 (by rw [ct_sum]; exact hst) hfr.2.1 hfr.2.2 d ?_
    have e : (if Int32.ofInt x < Int32.ofInt y then Int32.ofInt y else Int32.ofInt x) = Int32.ofInt (max x y) := by
      by_cases z : x < y
      · rw [if_pos ((i_lt hx0 hy0).mpr z)]; congr 1; omega
      · rw [if_neg (fun q => z ((i_lt hx0 hy0).mp q))]; congr 1; omega
    rw [e]
    exact kk
theorem e_min {κ : KT} {own : String} {cc : ByteArray} {nL : Nat} {rm : Room} {ad : Nat → Nat} {N : Nat} {ph : Phs} {M : Mem} {pc : Nat} {ls : List (Option AV)} {st : List AV} {cs : Nat × Nat} {Q : State → Prop} {idx : Nat} (lk : Cond.methodLink own idx Lib.Math.min.name ∈ U) (d : decode cc pc = .ok (.invokestatic idx, 3)) (hst : (st.map ct).sum + 13 ≤ rm.locals) (hfr : 1 ≤ rm.frames ∧ cs.1 ≤ rm.cells ∧ cs.2 ≤ rm.slots) (h : Ok κ own cc nL rm) {x y : Int} (hx0 : -2147483648 ≤ x ∧ x ≤ 2147483647) (hy0 : -2147483648 ≤ y ∧ y ≤ 2147483647) (k : E κ ad N ph M (pc + 3) ls (vi (min x y) :: st) cs Q) : E κ ad N ph M pc ls (vi y :: vi x :: st) cs Q := by
  obtain ⟨p, l, e, R, s, m, args, below, meth, c, D, cy, A⟩ := κ
  obtain ⟨hx, hb, hml, hown, hts, hnw, hlk, hK, hR⟩ := h
  intro h1 h2 H locs Ls hP hS hl
  subst hR
  have kk := k h1 h2 H locs Ls hP hS hl
  · refine va_mmin hx hb (by rw [hl.1]) hown (hts _ lk) (hts _ st_min) (hts _ iz_Math) (hts _ cd_min) hfr.1 (by rw [ct_sum]; exact hst) hfr.2.1 hfr.2.2 d ?_
    have e : (if Int32.ofInt y < Int32.ofInt x then Int32.ofInt y else Int32.ofInt x) = Int32.ofInt (min x y) := by
      by_cases z : y < x
      · rw [if_pos ((i_lt hy0 hx0).mpr z)]; congr 1; omega
      · rw [if_neg (fun q => z ((i_lt hy0 hx0).mp q))]; congr 1; omega
    rw [e]
    exact kk
