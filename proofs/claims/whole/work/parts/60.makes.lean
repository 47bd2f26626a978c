/-! worlds that grow -/
def tg (p j : Nat) (x : Int) : Nat := if kd (pcl p) j = 3 then x.toNat else pcr p j
/-- slots that hold references -/
def rf (p j : Nat) : Bool := if pcl p < 12 then decide (3 ≤ kd (pcl p) j) else decide ((pcl p = 103 ∨ pcl p = 104) ∧ j < plen p)
theorem fv_ext {ad ad2 : Nat → Nat} {ph ph2 : Phs} {p j kind : Nat} {x : Int} (h : 3 ≤ kind → ph2 p j = ph p j ∧ (ph p j = true → ad2 (if kind = 3 then x.toNat else pcr p j) = ad (if kind = 3 then x.toNat else pcr p j))) : fv ad2 ph2 p j kind x = fv ad ph p j kind x := by
  match kind, h with
  | 0, _ => rfl
  | 1, _ => rfl
  | 2, _ => rfl
  | 3, h =>
    obtain ⟨a, b⟩ := h (by decide)
    show (if ph2 p j = true then Value.ref (ad2 x.toNat) else .null) = (if ph p j = true then Value.ref (ad x.toNat) else .null)
    rw [a]
    by_cases e : ph p j = true
    · rw [if_pos e, if_pos e]
      have z := b e
      rw [if_pos rfl] at z
      rw [z]
    · rw [if_neg e, if_neg e]
  | k + 4, h =>
    obtain ⟨a, b⟩ := h (by omega)
    show (if ph2 p j = true then Value.ref (ad2 (pcr p j)) else .null) = (if ph p j = true then Value.ref (ad (pcr p j)) else .null)
    rw [a]
    by_cases e : ph p j = true
    · rw [if_pos e, if_pos e]
      have z := b e
      rw [if_neg (by omega)] at z
      rw [z]
    · rw [if_neg e, if_neg e]
theorem arrV_congr {c : ClassId} {N : Nat} {f g : Nat → Value} (h : ∀ j, j < N → f j = g j) : arrV c N f = arrV c N g := by
  unfold arrV
  congr 2
  funext j
  exact h j.val j.isLt
theorem kd_103 (j : Nat) : kd 103 j = 0 := rfl
theorem kd_104 (j : Nat) : kd 104 j = 0 := rfl
theorem cell_q {c : ClassId} {n : Nat} {f g : Nat → Option Nat} (h : ∀ j, j < n → f j = g j) : vp_cell c (n, .inr (.inr (.inr (.inr f)))) = vp_cell c (n, .inr (.inr (.inr (.inr g)))) := by
  rw [vp_cell_q, vp_cell_q]
  exact arrV_congr (fun j hj => by rw [h j hj])
theorem aE_same {ad ad2 : Nat → Nat} {ph ph2 : Phs} {p k : Nat} {m : Nat → Int} (h3 : k ≠ 103) (h4 : k ≠ 104) : aE ad2 ph2 p k m = aE ad ph p k m := by
  unfold aE
  split
  · rfl
  · exact absurd rfl h3
  · exact absurd rfl h4
  · rfl
theorem fl_ext {ad ad2 : Nat → Nat} {ph ph2 : Phs} {p : Nat} {m : Nat → Int} (hc : pcl p < 12) (hr : ∀ j, rf p j = true → (ph2 p j = ph p j ∧ (ph p j = true → ad2 (tg p j (m j)) = ad (tg p j (m j))))) : fl ad2 ph2 p (pcl p) m = fl ad ph p (pcl p) m := by
  unfold fl
  apply List.map_congr_left
  intro j _
  exact fv_ext (fun h3 => hr j (by unfold rf; rw [if_pos hc]; exact decide_eq_true h3))
theorem wlP {D : va_G} {cy : Nat → ClassId} {ad ad2 : Nat → Nat} {N : Nat} {ph ph2 : Phs} {M : Mem} {H : Heap} (h : ∀ p, p < N → ad2 p = ad p) (hr : ∀ p j, p < N → rf p j = true → (ph2 p j = ph p j ∧ (ph p j = true → ad2 (tg p j (M p j)) = ad (tg p j (M p j))))) (hP : va_P D vwCl (wl cy ad N ph M) H) : va_P D vwCl (wl cy ad2 N ph2 M) H := by
  intro k q hq
  obtain ⟨hk, rfl⟩ := wl_inv hq
  have h0 := hP k _ (wl_get hk)
  rw [h k hk]
  by_cases hc : pcl k < 12
  · rw [cell_obj rfl hc] at h0 ⊢
    rw [fl_ext hc (fun j hj => hr k j hk hj)]
    exact h0
  · rw [cell_arr rfl (by omega)] at h0 ⊢
    have e : vp_cell (cy (pcl k)) (plen k, aE ad2 ph2 k (pcl k) (M k)) = vp_cell (cy (pcl k)) (plen k, aE ad ph k (pcl k) (M k)) := by
      have hrf : (pcl k = 103 ∨ pcl k = 104) → ∀ j, j < plen k → rf k j = true := fun hq j hj => by unfold rf; rw [if_neg hc]; exact decide_eq_true ⟨hq, hj⟩
      have two : (pcl k = 103 ∨ pcl k = 104) → ∀ j, kd (pcl k) j ≠ 3 → j < plen k → (if ph2 k j = true then some (ad2 (pcr k j)) else none) = (if ph k j = true then some (ad (pcr k j)) else none) := fun hq j h3 hj => by
        obtain ⟨a, b⟩ := hr k j hk (hrf hq j hj)
        rw [a]
        by_cases e : ph k j = true
        · rw [if_pos e, if_pos e]
          have z := b e
          unfold tg at z
          rw [if_neg h3] at z
          rw [z]
        · rw [if_neg e, if_neg e]
      by_cases h3 : pcl k = 103
      · rw [h3]
        exact cell_q (fun j hj => two (Or.inl h3) j (by rw [h3]; exact (by decide : (0 : Nat) ≠ 3)) hj)
      · by_cases h4 : pcl k = 104
        · rw [h4]
          exact cell_q (fun j hj => two (Or.inr h4) j (by rw [h4]; exact (by decide : (0 : Nat) ≠ 3)) hj)
        · rw [aE_same h3 h4]
    show H[ad k]? = some (vp_cell _ (plen k, aE ad2 ph2 k (pcl k) (M k)))
    rw [e]
    exact h0
theorem wlP1 {D : va_G} {cy : Nat → ClassId} {ad ad2 : Nat → Nat} {N q : Nat} {x : va_E} {ph : Phs} {M : Mem} {H : Heap} (h : ∀ p, p ≠ N → ad2 p = ad p) (hq : ad2 N = q) (hx : x = cellE cy ad2 ph N (M N)) (hr : ∀ p j, p < N → rf p j = true → ph p j = true → tg p j (M p j) < N) (hP : va_P D vwCl (wl cy ad N ph M ++ [(q, x)]) H) : va_P D vwCl (wl cy ad2 (N + 1) ph M) H := by
  intro k r hk
  obtain ⟨hk, rfl⟩ := wl_inv hk
  by_cases e : k < N
  · have h1 : va_P D vwCl (wl cy ad N ph M) H := fun k q hq => hP k q (by rw [List.getElem?_append_left (List.getElem?_eq_some_iff.mp hq).1]; exact hq)
    exact wlP (ad2 := ad2) (ph2 := ph) (fun p hp => h p (by omega)) (fun p j hp hj => ⟨rfl, fun z => h _ (by have := hr p j hp hj z; omega)⟩) h1 k _ (wl_get e)
  · have : k = N := by omega
    subst this
    have z := hP k (q, x) (by rw [List.getElem?_append_right (by rw [wl_len]; exact Nat.le_refl _), wl_len, Nat.sub_self]; rfl)
    rw [hq, ← hx]
    exact z
theorem wlD1 {A : Nat → Prop} {cy : Nat → ClassId} {ad ad2 : Nat → Nat} {N q : Nat} {x : va_E} {ph : Phs} {M : Mem} (h : ∀ p, p ≠ N → ad2 p = ad p) (hq : ad2 N = q) (hD : va_D A (wl cy ad N ph M ++ [(q, x)])) : (∀ i j, i < N + 1 → j < N + 1 → ad2 i = ad2 j → i = j) ∧ ∀ i, i < N + 1 → A (ad2 i) := by
  have g : ∀ i, i < N + 1 → ∃ e, (wl cy ad N ph M ++ [(q, x)])[i]? = some (ad2 i, e) := fun i hi => by
    by_cases e : i < N
    · exact ⟨_, by rw [List.getElem?_append_left (by rw [wl_len]; exact e), wl_get e, h i (by omega)]⟩
    · have : i = N := by omega
      subst this
      exact ⟨x, by rw [List.getElem?_append_right (by rw [wl_len]; exact Nat.le_refl _), wl_len, Nat.sub_self, hq]; rfl⟩
  refine ⟨fun i j hi hj hij => ?_, fun i hi => ?_⟩
  · obtain ⟨e1, g1⟩ := g i hi
    obtain ⟨e2, g2⟩ := g j hj
    exact hD.1 i j _ _ g1 g2 hij
  · obtain ⟨e1, g1⟩ := g i hi
    exact hD.2 i _ g1
/-- closed, and nothing above N -/
def Nw (N : Nat) (ph : Phs) (M : Mem) : Prop := (∀ p j, p < N → rf p j = true → ph p j = true → tg p j (M p j) < N) ∧ ∀ p j, N ≤ p → ph p j = false ∧ M p j = 0
theorem Nw.new {N : Nat} {ph : Phs} {M : Mem} (h : Nw N ph M) : Nw (N + 1) ph M := by
  refine ⟨fun p j hp hj hh => ?_, fun p j hp => h.2 p j (by omega)⟩
  by_cases e : p < N
  · have := h.1 p j e hj hh; omega
  · have z := (h.2 p j (by omega)).1
    rw [z] at hh
    cases hh
theorem Nw.setP {N p k : Nat} {ph : Phs} {M : Mem} (h : Nw N ph M) (hp : p < N) (ht : tg p k (M p k) < N) : Nw N (phs ph p k) M := by
  refine ⟨fun q j hq hj hh => ?_, fun q j hq => ⟨by rw [phs_ne (by omega)]; exact (h.2 q j hq).1, (h.2 q j hq).2⟩⟩
  by_cases e : q = p ∧ j = k
  · obtain ⟨rfl, rfl⟩ := e; exact ht
  · rw [phs_ne (by omega)] at hh; exact h.1 q j hq hj hh
theorem Nw.put {N p k : Nat} {x : Int} {ph : Phs} {M : Mem} (h : Nw N ph M) (hp : p < N) (hk : kd (pcl p) k ≠ 3 ∨ x.toNat < N) : Nw N ph (up M p k x) := by
  refine ⟨fun q j hq hj hh => ?_, fun q j hq => ⟨(h.2 q j hq).1, by rw [up_ne (by omega)]; exact (h.2 q j hq).2⟩⟩
  by_cases e : q = p ∧ j = k
  · obtain ⟨rfl, rfl⟩ := e
    rw [up_eq]
    have z := h.1 q j hq hj hh
    unfold tg at z ⊢
    by_cases e3 : kd (pcl q) j = 3
    · rw [if_pos e3]
      rcases hk with hk | hk
      · exact absurd e3 hk
      · exact hk
    · rw [if_neg e3] at z ⊢
      exact z
  · rw [up_ne (by omega)]; exact h.1 q j hq hj hh
theorem Nw.putR {N p k x : Nat} {ph : Phs} {M : Mem} (h : Nw N ph M) (hp : p < N) (hk : kd (pcl p) k = 3) (hx : x < N) : Nw N (phs ph p k) (up M p k (x : Int)) := by
  refine ⟨fun q j hq hj hh => ?_, fun q j hq => ⟨by rw [phs_ne (by omega)]; exact (h.2 q j hq).1, by rw [up_ne (by omega)]; exact (h.2 q j hq).2⟩⟩
  by_cases e : q = p ∧ j = k
  · obtain ⟨rfl, rfl⟩ := e
    rw [up_eq]
    unfold tg
    rw [if_pos hk]
    exact hx
  · rw [up_ne (by omega)]
    rw [phs_ne (by omega)] at hh
    exact h.1 q j hq hj hh
/-! references that are below, or not of the world -/
def rbA (N N2 : Nat) (v : AV) : Prop := match v with
  | .inr (.inr p) => p < N ∨ N2 ≤ p
  | _ => True
def rbS (N N2 : Nat) : List AV → Prop
  | [] => True
  | v :: t => rbA N N2 v ∧ rbS N N2 t
def rbL (N N2 : Nat) : List (Option AV) → Prop
  | [] => True
  | none :: t => rbL N N2 t
  | some v :: t => rbA N N2 v ∧ rbL N N2 t
theorem cv_ext {ad ad2 : Nat → Nat} {N N2 : Nat} (h : ∀ q, q < N ∨ N2 ≤ q → ad2 q = ad q) {v : AV} (hv : rbA N N2 v) : cv ad2 v = cv ad v := by
  rcases v with x | x | x
  · rfl
  · rfl
  · show Value.ref (ad2 x) = .ref (ad x)
    rw [h x hv]
theorem st_ext {ad ad2 : Nat → Nat} {N N2 : Nat} (h : ∀ q, q < N ∨ N2 ≤ q → ad2 q = ad q) : ∀ {st : List AV}, rbS N N2 st → st.map (cv ad2) = st.map (cv ad)
  | [], _ => rfl
  | v :: t, hs => by rw [List.map_cons, List.map_cons, cv_ext h hs.1, st_ext h hs.2]
theorem lc_ext {ad ad2 : Nat → Nat} {N N2 : Nat} (h : ∀ q, q < N ∨ N2 ≤ q → ad2 q = ad q) : ∀ {ls : List (Option AV)} (i : Nat), rbL N N2 ls → lc ad2 i ls = lc ad i ls
  | [], _, _ => rfl
  | none :: t, i, hs => lc_ext h (i + 1) hs
  | some v :: t, i, hs => by
    show (i, cv ad2 v) :: lc ad2 (i + 1) t = (i, cv ad v) :: lc ad (i + 1) t
    rw [cv_ext h hs.1, lc_ext h (i + 1) hs.2]
theorem rbL_nil {N N2 : Nat} : rbL N N2 [] := trivial
theorem rbL_none {N N2 : Nat} {t : List (Option AV)} (h : rbL N N2 t) : rbL N N2 (none :: t) := h
theorem rbL_some {N N2 : Nat} {v : AV} {t : List (Option AV)} (hv : rbA N N2 v) (h : rbL N N2 t) : rbL N N2 (some v :: t) := ⟨hv, h⟩
theorem rbS_nil {N N2 : Nat} : rbS N N2 [] := trivial
theorem rbS_cons {N N2 : Nat} {v : AV} {t : List AV} (hv : rbA N N2 v) (h : rbS N N2 t) : rbS N N2 (v :: t) := ⟨hv, h⟩
theorem rbA_r {N N2 p : Nat} (h : p < N ∨ N2 ≤ p) : rbA N N2 (vr p) := h
theorem rbA_i {N N2 : Nat} {x : Int} : rbA N N2 (vi x) := trivial
theorem rbA_j {N N2 : Nat} {x : Int} : rbA N N2 (vj x) := trivial
/-! constructors -/
def Fr (κ : KT) : Prop := match κ with
  | (p, l, e, R, s, m, args, below, meth, c, D, cy, A) => ∀ q, s.heap.size ≤ q → A q
def xad (ad : Nat → Nat) (N a : Nat) : Nat → Nat := fun q => if q = N then a else ad q
theorem xad_eq (ad : Nat → Nat) (N a : Nat) : xad ad N a N = a := if_pos rfl
theorem xad_ne {ad : Nat → Nat} {N a p : Nat} (h : p ≠ N) : xad ad N a p = ad p := if_neg h
theorem fl_null {ad ad2 : Nat → Nat} {ph : Phs} {p : Nat} {m : Nat → Int} (hc : pcl p < 12) (hz : ∀ j, ph p j = false) : fl ad2 ph p (pcl p) m = fl ad ph p (pcl p) m := fl_ext hc (fun j _ => ⟨rfl, fun z => by rw [hz j] at z; cases z⟩)
theorem okt_def {kind : Nat} {ty : FieldType} {b : Bool} {ad : Nat → Nat} {ph : Phs} {p j : Nat} (h : okt kind ty b = true) (hz : ph p j = false) : defaultValue ty = fv ad ph p j kind 0 := by
  unfold okt at h
  split at h
  · rfl
  · rfl
  · rfl
  · show _ = (if ph p j = true then _ else _); rw [hz]; rfl
  · show _ = (if ph p j = true then _ else _); rw [hz]; rfl
  · show _ = (if ph p j = true then _ else _); rw [hz]; rfl
  · show _ = (if ph p j = true then _ else _); rw [hz]; rfl
  · cases h
theorem e_ph {κ : KT} {ad : Nat → Nat} {N : Nat} {ph : Phs} {M : Mem} {pc : Nat} {ls : List (Option AV)} {st : List AV} {cs : Nat × Nat} {Q : State → Prop} {ph2 : Phs} (hr : ∀ p j, p < N → rf p j = true → ph2 p j = ph p j) (k : E κ ad N ph2 M pc ls st cs Q) : E κ ad N ph M pc ls st cs Q := by
  obtain ⟨p, l, e, R, s, m, args, below, meth, c, D, cy, A⟩ := κ
  intro h1 h2 H locs Ls hP hS hl
  exact k h1 h2 H locs Ls (wlP (fun _ _ => rfl) (fun p j hp hj => ⟨hr p j hp hj, fun _ => rfl⟩) hP) hS hl
theorem e_new {κ : KT} {own : String} {cc : ByteArray} {nL : Nat} {rm : Room} {ad : Nat → Nat} {N : Nat} {ph : Phs} {M : Mem} {pc : Nat} {ls : List (Option AV)} {st : List AV} {cs : Nat × Nat} {Q : State → Prop} (h : Ok κ own cc nL rm) (hf : Fr κ) (hz : Nw N ph M) {idx ci : Nat} (hcN : pcl N = ci) (hci : ci < 12) (hcl : Cond.classLink own idx (clR ci) ∈ U) (hin : Cond.instantiable (clR ci) (nf ci) ∈ U) (hini : Cond.initialized (clR ci) ∈ U) (d : decode cc pc = .ok (.new idx, 3)) (hcs : cs.1 + 1 ≤ rm.cells ∧ cs.2 + nf ci ≤ rm.slots) (hrl : rbL N (N + 1) ls) (hrs : rbS N (N + 1) st) (k : ∀ ad2 : Nat → Nat, (∀ q, q < N ∨ N + 1 ≤ q → ad2 q = ad q) → E κ ad2 (N + 1) ph M (pc + 3) ls (vr N :: st) (cs.1 + 1, cs.2 + nf ci) Q) : E κ ad N ph M pc ls st cs Q := by
  obtain ⟨p, l, e, R, s, m, args, below, meth, c, D, cy, A⟩ := κ
  obtain ⟨hx, hb, hml, hown, hts, hnw, hlk, hK, hR⟩ := h
  intro h1 h2 H locs Ls hP hS hl
  subst hR
  subst hcN
  obtain ⟨c1, c2, c3, c4, c5, c6⟩ := CFall (pcl N) hci
  have hz0 : ∀ j, ph N j = false := fun j => (hz.2 N j (Nat.le_refl _)).1
  have hm0 : ∀ j, M N j = 0 := fun j => (hz.2 N j (Nat.le_refl _)).2
  refine va_new hx hb hts c2 (clTy (pcl N)) c3 hown (hts _ hcl) (hts _ hin) (hts _ hini) hK hP (wl_D h1 h2) hS hf c1 (fs := fl ad ph N (pcl N) (M N)) (fun j hj => ?_) hcs.1 hcs.2 d (fun q H1 hP1 hD1 hS1 => ?_)
  · show _ = (fl ad ph N (pcl N) (M N)).getD j .null
    rw [List.getD_eq_getElem?_getD, fl_get hj]
    show _ = fv ad ph N j (kd (pcl N) j) (M N j)
    rw [hm0]
    exact okt_def (c6 j hj) (hz0 j)
  · have hag : ∀ p, p ≠ N → xad ad N q p = ad p := fun p hp => xad_ne hp
    have hag2 : ∀ p, p < N ∨ N + 1 ≤ p → xad ad N q p = ad p := fun p hp => xad_ne (by omega)
    obtain ⟨i1, i2⟩ := wlD1 hag (xad_eq ad N q) hD1
    have hP2 := wlP1 (cy := cy) hag (xad_eq ad N q) (by rw [cell_obj rfl hci, fl_null hci hz0]) hz.1 hP1
    have K := k (xad ad N q) hag2 i1 i2 H1 locs Ls hP2 hS1 (by rw [lc_ext hag2 0 hrl]; exact hl)
    rw [List.map_cons, st_ext hag2 hrs] at K
    rw [show cv (xad ad N q) (vr N) = .ref q by show Value.ref (xad ad N q N) = _; rw [xad_eq]] at K
    exact K
theorem i_cl {x : Int} {n : Nat} (hx : x = (n : Int)) (hn : n ≤ 1000) : ¬ Int32.ofInt x < 0 ∧ (Int32.ofInt x).toNatClampNeg = n := by
  subst hx
  have h := i_toInt (x := (n : Int)) (by omega)
  refine ⟨fun q => ?_, ?_⟩
  · rw [Int32.lt_iff_toInt_lt, h, Int32.toInt_zero] at q
    omega
  · show (Int32.ofInt (n : Int)).toInt.toNat = _
    rw [h]
    omega
theorem e_newaI {κ : KT} {own : String} {cc : ByteArray} {nL : Nat} {rm : Room} {ad : Nat → Nat} {N : Nat} {ph : Phs} {M : Mem} {pc : Nat} {ls : List (Option AV)} {st : List AV} {cs : Nat × Nat} {Q : State → Prop} (h : Ok κ own cc nL rm) (hf : Fr κ) (hz : Nw N ph M) (hcN : pcl N = 100) {n : Nat} (hn : plen N = n) (d : decode cc pc = .ok (.newarray .int, 2)) {x : Int} (hx : x = (n : Int)) (hcs : cs.1 + 1 ≤ rm.cells ∧ cs.2 + n ≤ rm.slots) (hrl : rbL N (N + 1) ls) (hrs : rbS N (N + 1) st) (k : ∀ ad2 : Nat → Nat, (∀ q, q < N ∨ N + 1 ≤ q → ad2 q = ad q) → E κ ad2 (N + 1) ph M (pc + 2) ls (vr N :: st) (cs.1 + 1, cs.2 + n) Q) : E κ ad N ph M pc ls (vi x :: st) cs Q := by
  obtain ⟨p, l, e, R, s, m, args, below, meth, c, D, cy, A⟩ := κ
  obtain ⟨hxx, hb, hml, hown, hts, hnw, hlk, hK, hR⟩ := h
  intro h1 h2 H locs Ls hP hS hl
  subst hR
  subst hn
  have hm0 : ∀ j, M N j = 0 := fun j => (hz.2 N j (Nat.le_refl _)).2
  have hb0 : plen N ≤ 1000 := plen_le N
  obtain ⟨g1, g2⟩ := i_cl hx hb0
  refine va_newa (atype := .int) (ty := .int) hxx hb (hts _ ac_int) rfl hK hP (wl_D h1 h2) hS hf (N' := plen N) (a0 := (plen N, aE ad ph N 100 (M N))) (fun cA => ?_) g1 g2 (by show plen N * _ ≤ 536870912; exact Nat.le_trans (Nat.mul_le_mul_right _ hb0) (by decide)) hcs.1 hcs.2 d (fun q cA H1 hK1 hP1 hD1 hS1 => ?_)
  · show arrV cA (plen N) (fun j => Value.int (Int32.ofInt (M N j))) = arrV cA (plen N) (fun _ => defaultValue .int)
    exact arrV_congr (fun j _ => by rw [hm0]; rfl)
  · have e1 : s.vm.findClass ("[" ++ (FieldType.int).toString) = some cA := (hK1.2 5 (cA, .int) rfl).2
    have e2 : s.vm.findClass ("[" ++ (FieldType.int).toString) = some (cy 100) := (hK.2 0 (cy 100, .int) rfl).2
    have e3 : cA = cy 100 := Option.some.inj (e1.symm.trans e2)
    subst e3
    have hag : ∀ p, p ≠ N → xad ad N q p = ad p := fun p hp => xad_ne hp
    have hag2 : ∀ p, p < N ∨ N + 1 ≤ p → xad ad N q p = ad p := fun p hp => xad_ne (by omega)
    obtain ⟨i1, i2⟩ := wlD1 hag (xad_eq ad N q) hD1
    have hP2 := wlP1 (cy := cy) hag (xad_eq ad N q) (by rw [cell_arr hcN (by decide), aE_same (by decide) (by decide)]) hz.1 hP1
    have K := k (xad ad N q) hag2 i1 i2 H1 locs Ls hP2 hS1 (by rw [lc_ext hag2 0 hrl]; exact hl)
    rw [List.map_cons, st_ext hag2 hrs] at K
    rw [show cv (xad ad N q) (vr N) = .ref q by show Value.ref (xad ad N q N) = _; rw [xad_eq]] at K
    exact K
theorem e_newaJ {κ : KT} {own : String} {cc : ByteArray} {nL : Nat} {rm : Room} {ad : Nat → Nat} {N : Nat} {ph : Phs} {M : Mem} {pc : Nat} {ls : List (Option AV)} {st : List AV} {cs : Nat × Nat} {Q : State → Prop} (h : Ok κ own cc nL rm) (hf : Fr κ) (hz : Nw N ph M) (hcN : pcl N = 101) {n : Nat} (hn : plen N = n) (d : decode cc pc = .ok (.newarray .long, 2)) {x : Int} (hx : x = (n : Int)) (hcs : cs.1 + 1 ≤ rm.cells ∧ cs.2 + n ≤ rm.slots) (hrl : rbL N (N + 1) ls) (hrs : rbS N (N + 1) st) (k : ∀ ad2 : Nat → Nat, (∀ q, q < N ∨ N + 1 ≤ q → ad2 q = ad q) → E κ ad2 (N + 1) ph M (pc + 2) ls (vr N :: st) (cs.1 + 1, cs.2 + n) Q) : E κ ad N ph M pc ls (vi x :: st) cs Q := by
  obtain ⟨p, l, e, R, s, m, args, below, meth, c, D, cy, A⟩ := κ
  obtain ⟨hxx, hb, hml, hown, hts, hnw, hlk, hK, hR⟩ := h
  intro h1 h2 H locs Ls hP hS hl
  subst hR
  subst hn
  have hm0 : ∀ j, M N j = 0 := fun j => (hz.2 N j (Nat.le_refl _)).2
  have hb0 : plen N ≤ 1000 := plen_le N
  obtain ⟨g1, g2⟩ := i_cl hx hb0
  refine va_newa (atype := .long) (ty := .long) hxx hb (hts _ ac_long) rfl hK hP (wl_D h1 h2) hS hf (N' := plen N) (a0 := (plen N, aE ad ph N 101 (M N))) (fun cA => ?_) g1 g2 (by show plen N * _ ≤ 536870912; exact Nat.le_trans (Nat.mul_le_mul_right _ hb0) (by decide)) hcs.1 hcs.2 d (fun q cA H1 hK1 hP1 hD1 hS1 => ?_)
  · show arrV cA (plen N) (fun j => Value.long (Int64.ofInt (M N j))) = arrV cA (plen N) (fun _ => defaultValue .long)
    exact arrV_congr (fun j _ => by rw [hm0]; rfl)
  · have e1 : s.vm.findClass ("[" ++ (FieldType.long).toString) = some cA := (hK1.2 5 (cA, .long) rfl).2
    have e2 : s.vm.findClass ("[" ++ (FieldType.long).toString) = some (cy 101) := (hK.2 1 (cy 101, .long) rfl).2
    have e3 : cA = cy 101 := Option.some.inj (e1.symm.trans e2)
    subst e3
    have hag : ∀ p, p ≠ N → xad ad N q p = ad p := fun p hp => xad_ne hp
    have hag2 : ∀ p, p < N ∨ N + 1 ≤ p → xad ad N q p = ad p := fun p hp => xad_ne (by omega)
    obtain ⟨i1, i2⟩ := wlD1 hag (xad_eq ad N q) hD1
    have hP2 := wlP1 (cy := cy) hag (xad_eq ad N q) (by rw [cell_arr hcN (by decide), aE_same (by decide) (by decide)]) hz.1 hP1
    have K := k (xad ad N q) hag2 i1 i2 H1 locs Ls hP2 hS1 (by rw [lc_ext hag2 0 hrl]; exact hl)
    rw [List.map_cons, st_ext hag2 hrs] at K
    rw [show cv (xad ad N q) (vr N) = .ref q by show Value.ref (xad ad N q N) = _; rw [xad_eq]] at K
    exact K
theorem e_newaZ {κ : KT} {own : String} {cc : ByteArray} {nL : Nat} {rm : Room} {ad : Nat → Nat} {N : Nat} {ph : Phs} {M : Mem} {pc : Nat} {ls : List (Option AV)} {st : List AV} {cs : Nat × Nat} {Q : State → Prop} (h : Ok κ own cc nL rm) (hf : Fr κ) (hz : Nw N ph M) (hcN : pcl N = 102) {n : Nat} (hn : plen N = n) (d : decode cc pc = .ok (.newarray .boolean, 2)) {x : Int} (hx : x = (n : Int)) (hcs : cs.1 + 1 ≤ rm.cells ∧ cs.2 + n ≤ rm.slots) (hrl : rbL N (N + 1) ls) (hrs : rbS N (N + 1) st) (k : ∀ ad2 : Nat → Nat, (∀ q, q < N ∨ N + 1 ≤ q → ad2 q = ad q) → E κ ad2 (N + 1) ph M (pc + 2) ls (vr N :: st) (cs.1 + 1, cs.2 + n) Q) : E κ ad N ph M pc ls (vi x :: st) cs Q := by
  obtain ⟨p, l, e, R, s, m, args, below, meth, c, D, cy, A⟩ := κ
  obtain ⟨hxx, hb, hml, hown, hts, hnw, hlk, hK, hR⟩ := h
  intro h1 h2 H locs Ls hP hS hl
  subst hR
  subst hn
  have hm0 : ∀ j, M N j = 0 := fun j => (hz.2 N j (Nat.le_refl _)).2
  have hb0 : plen N ≤ 1000 := plen_le N
  obtain ⟨g1, g2⟩ := i_cl hx hb0
  refine va_newa (atype := .boolean) (ty := .boolean) hxx hb (hts _ ac_boolean) rfl hK hP (wl_D h1 h2) hS hf (N' := plen N) (a0 := (plen N, aE ad ph N 102 (M N))) (fun cA => ?_) g1 g2 (by show plen N * _ ≤ 536870912; exact Nat.le_trans (Nat.mul_le_mul_right _ hb0) (by decide)) hcs.1 hcs.2 d (fun q cA H1 hK1 hP1 hD1 hS1 => ?_)
  · show arrV cA (plen N) (fun j => Value.int (Int32.ofInt (M N j))) = arrV cA (plen N) (fun _ => defaultValue .boolean)
    exact arrV_congr (fun j _ => by rw [hm0]; rfl)
  · have e1 : s.vm.findClass ("[" ++ (FieldType.boolean).toString) = some cA := (hK1.2 5 (cA, .boolean) rfl).2
    have e2 : s.vm.findClass ("[" ++ (FieldType.boolean).toString) = some (cy 102) := (hK.2 2 (cy 102, .boolean) rfl).2
    have e3 : cA = cy 102 := Option.some.inj (e1.symm.trans e2)
    subst e3
    have hag : ∀ p, p ≠ N → xad ad N q p = ad p := fun p hp => xad_ne hp
    have hag2 : ∀ p, p < N ∨ N + 1 ≤ p → xad ad N q p = ad p := fun p hp => xad_ne (by omega)
    obtain ⟨i1, i2⟩ := wlD1 hag (xad_eq ad N q) hD1
    have hP2 := wlP1 (cy := cy) hag (xad_eq ad N q) (by rw [cell_arr hcN (by decide), aE_same (by decide) (by decide)]) hz.1 hP1
    have K := k (xad ad N q) hag2 i1 i2 H1 locs Ls hP2 hS1 (by rw [lc_ext hag2 0 hrl]; exact hl)
    rw [List.map_cons, st_ext hag2 hrs] at K
    rw [show cv (xad ad N q) (vr N) = .ref q by show Value.ref (xad ad N q N) = _; rw [xad_eq]] at K
    exact K
theorem e_newq3 {κ : KT} {own : String} {cc : ByteArray} {nL : Nat} {rm : Room} {ad : Nat → Nat} {N : Nat} {ph : Phs} {M : Mem} {pc : Nat} {ls : List (Option AV)} {st : List AV} {cs : Nat × Nat} {Q : State → Prop} (h : Ok κ own cc nL rm) (hf : Fr κ) (hz : Nw N ph M) (hcN : pcl N = 103) {n : Nat} (hn : plen N = n) {idx : Nat} (hcl : Cond.classLink own idx RX1 ∈ U) (d : decode cc pc = .ok (.anewarray idx, 3)) {x : Int} (hx : x = (n : Int)) (hcs : cs.1 + 1 ≤ rm.cells ∧ cs.2 + n ≤ rm.slots) (hrl : rbL N (N + 1) ls) (hrs : rbS N (N + 1) st) (k : ∀ ad2 : Nat → Nat, (∀ q, q < N ∨ N + 1 ≤ q → ad2 q = ad q) → E κ ad2 (N + 1) ph M (pc + 3) ls (vr N :: st) (cs.1 + 1, cs.2 + n) Q) : E κ ad N ph M pc ls (vi x :: st) cs Q := by
  obtain ⟨p, l, e, R, s, m, args, below, meth, c, D, cy, A⟩ := κ
  obtain ⟨hxx, hb, hml, hown, hts, hnw, hlk, hK, hR⟩ := h
  intro h1 h2 H locs Ls hP hS hl
  subst hR
  subst hn
  have hz0 : ∀ j, ph N j = false := fun j => (hz.2 N j (Nat.le_refl _)).1
  have hb0 : plen N ≤ 1000 := plen_le N
  obtain ⟨g1, g2⟩ := i_cl hx hb0
  refine va_newq hxx hb (C := RX1) hown (hts _ hcl) hnw.2.1 hK hP (wl_D h1 h2) hS hf (N' := plen N) g1 g2 (by exact Nat.le_trans (Nat.mul_le_mul_right _ hb0) (by decide)) hcs.1 hcs.2 d (fun q cA H1 hK1 hP1 hD1 hS1 => ?_)
  have e1 : s.vm.findClass ("[" ++ (FieldType.object RX1).toString) = some cA := by
    obtain ⟨_, _, _, _, _, z⟩ := (hK1.2 5 (cA, .object RX1) rfl).2
    exact z
  have e2 : s.vm.findClass ("[" ++ (FieldType.object RX1).toString) = some (cy 103) := by
    obtain ⟨_, _, _, _, _, z⟩ := (hK.2 3 (cy 103, .object RX1) rfl).2
    exact z
  have e3 : cA = cy 103 := Option.some.inj (e1.symm.trans e2)
  subst e3
  have hag : ∀ p, p ≠ N → xad ad N q p = ad p := fun p hp => xad_ne hp
  have hag2 : ∀ p, p < N ∨ N + 1 ≤ p → xad ad N q p = ad p := fun p hp => xad_ne (by omega)
  obtain ⟨i1, i2⟩ := wlD1 hag (xad_eq ad N q) hD1
  have hP2 := wlP1 (cy := cy) hag (xad_eq ad N q) (by
    rw [cell_arr hcN (by decide)]
    show _ = Sum.inl (cy 103, plen N, Sum.inr (Sum.inr (Sum.inr (Sum.inr (fun j => if ph N j = true then some (xad ad N q (pcr N j)) else none)))))
    rw [show (fun j => if ph N j = true then some (xad ad N q (pcr N j)) else none) = (fun _ => (none : Option Nat)) from funext fun j => by rw [hz0 j]; rfl]) hz.1 hP1
  have K := k (xad ad N q) hag2 i1 i2 H1 locs Ls hP2 hS1 (by rw [lc_ext hag2 0 hrl]; exact hl)
  rw [List.map_cons, st_ext hag2 hrs] at K
  rw [show cv (xad ad N q) (vr N) = .ref q by show Value.ref (xad ad N q N) = _; rw [xad_eq]] at K
  exact K
theorem e_astq3 {κ : KT} {own : String} {cc : ByteArray} {nL : Nat} {rm : Room} {ad : Nat → Nat} {N : Nat} {ph : Phs} {M : Mem} {pc : Nat} {ls : List (Option AV)} {st : List AV} {cs : Nat × Nat} {Q : State → Prop} (h : Ok κ own cc nL rm) {p0 v : Nat} (d : decode cc pc = .ok (.aastore, 1)) (hc : pcl p0 = 103) (hp : p0 < N) (hcv : pcl v = 1) (hv : v < N) {i : Int} {j : Nat} (hi : i = (j : Int)) (hj : j < plen p0) (hr : pcr p0 j = v) (k : E κ ad N (phs ph p0 j) M (pc + 1) ls st cs Q) : E κ ad N ph M pc ls (vr v :: vi i :: vr p0 :: st) cs Q := by
  obtain ⟨p, l, e, R, s, m, args, below, meth, c, D, cy, A⟩ := κ
  obtain ⟨hx, hb, hml, hown, hts, hnw, hlk, hK, hR⟩ := h
  intro h1 h2 H locs Ls hP hS hl
  subst hi
  subst hr
  have hb0 : plen p0 ≤ 1000 := plen_le p0
  obtain ⟨g1, g2⟩ := i_in (x := (j : Int)) (n := plen p0) (by omega) hb0
  obtain ⟨c1, -⟩ := CFall 1 (by decide)
  refine va_astq hx hb hK hP (wl_D h1 h2) hS p0 3 (pcr p0 j) 1 (n := plen p0) (by rw [wl_get hp, cell_arr hc (by decide)]; rfl) rfl (by rw [wl_get hv, cell_obj hcv (by decide)]) c1 g1 d (fun H1 locs1 hP1 hD1 hS1 => ?_)
  refine k h1 h2 H1 locs1 Ls ?_ hS1 hl
  rw [g2] at hP1
  have e := wl_setP (cy := cy) (ad := ad) (ph := ph) (ph' := phs ph p0 j) (M := M) (M p0) hp rfl (by
    rw [cell_arr hc (by decide)]) (fun q hq j => phs_ne (Or.inl hq)) (e := .inl (cy 103, plen p0, aE ad (phs ph p0 j) p0 103 (M p0)))
  have e2 : mset M p0 (M p0) = M := by
    funext q
    unfold mset
    by_cases hq : q = p0
    · rw [if_pos hq, hq]
    · rw [if_neg hq]
  rw [e2] at e
  rw [← e]
  have e3 : (Sum.inl (cy 103, plen p0, Sum.inr (Sum.inr (Sum.inr (Sum.inr (va_up (fun j => if ph p0 j = true then some (ad (pcr p0 j)) else none) ((j : Int)).toNat (some (ad (pcr p0 j)))))))) : va_E) = .inl (cy 103, plen p0, aE ad (phs ph p0 j) p0 103 (M p0)) := by
    show _ = Sum.inl (cy 103, plen p0, Sum.inr (Sum.inr (Sum.inr (Sum.inr (fun q => if phs ph p0 j p0 q = true then some (ad (pcr p0 q)) else none)))))
    rw [show (fun q => if phs ph p0 j p0 q = true then some (ad (pcr p0 q)) else none) = va_up (fun j => if ph p0 j = true then some (ad (pcr p0 j)) else none) ((j : Int)).toNat (some (ad (pcr p0 j))) from funext fun q => by
      unfold va_up
      by_cases hq : q = j
      · subst hq
        rw [if_pos (phs_eq ph p0 q), if_pos (show q = ((q : Int)).toNat by omega)]
      · rw [phs_ne (Or.inr hq), if_neg (show ¬ q = ((j : Int)).toNat by omega)]]
  rw [← e3]
  exact hP1
theorem e_newq4 {κ : KT} {own : String} {cc : ByteArray} {nL : Nat} {rm : Room} {ad : Nat → Nat} {N : Nat} {ph : Phs} {M : Mem} {pc : Nat} {ls : List (Option AV)} {st : List AV} {cs : Nat × Nat} {Q : State → Prop} (h : Ok κ own cc nL rm) (hf : Fr κ) (hz : Nw N ph M) (hcN : pcl N = 104) {n : Nat} (hn : plen N = n) {idx : Nat} (hcl : Cond.classLink own idx RX5 ∈ U) (d : decode cc pc = .ok (.anewarray idx, 3)) {x : Int} (hx : x = (n : Int)) (hcs : cs.1 + 1 ≤ rm.cells ∧ cs.2 + n ≤ rm.slots) (hrl : rbL N (N + 1) ls) (hrs : rbS N (N + 1) st) (k : ∀ ad2 : Nat → Nat, (∀ q, q < N ∨ N + 1 ≤ q → ad2 q = ad q) → E κ ad2 (N + 1) ph M (pc + 3) ls (vr N :: st) (cs.1 + 1, cs.2 + n) Q) : E κ ad N ph M pc ls (vi x :: st) cs Q := by
  obtain ⟨p, l, e, R, s, m, args, below, meth, c, D, cy, A⟩ := κ
  obtain ⟨hxx, hb, hml, hown, hts, hnw, hlk, hK, hR⟩ := h
  intro h1 h2 H locs Ls hP hS hl
  subst hR
  subst hn
  have hz0 : ∀ j, ph N j = false := fun j => (hz.2 N j (Nat.le_refl _)).1
  have hb0 : plen N ≤ 1000 := plen_le N
  obtain ⟨g1, g2⟩ := i_cl hx hb0
  refine va_newq hxx hb (C := RX5) hown (hts _ hcl) hnw.2.2 hK hP (wl_D h1 h2) hS hf (N' := plen N) g1 g2 (by exact Nat.le_trans (Nat.mul_le_mul_right _ hb0) (by decide)) hcs.1 hcs.2 d (fun q cA H1 hK1 hP1 hD1 hS1 => ?_)
  have e1 : s.vm.findClass ("[" ++ (FieldType.object RX5).toString) = some cA := by
    obtain ⟨_, _, _, _, _, z⟩ := (hK1.2 5 (cA, .object RX5) rfl).2
    exact z
  have e2 : s.vm.findClass ("[" ++ (FieldType.object RX5).toString) = some (cy 104) := by
    obtain ⟨_, _, _, _, _, z⟩ := (hK.2 4 (cy 104, .object RX5) rfl).2
    exact z
  have e3 : cA = cy 104 := Option.some.inj (e1.symm.trans e2)
  subst e3
  have hag : ∀ p, p ≠ N → xad ad N q p = ad p := fun p hp => xad_ne hp
  have hag2 : ∀ p, p < N ∨ N + 1 ≤ p → xad ad N q p = ad p := fun p hp => xad_ne (by omega)
  obtain ⟨i1, i2⟩ := wlD1 hag (xad_eq ad N q) hD1
  have hP2 := wlP1 (cy := cy) hag (xad_eq ad N q) (by
    rw [cell_arr hcN (by decide)]
    show _ = Sum.inl (cy 104, plen N, Sum.inr (Sum.inr (Sum.inr (Sum.inr (fun j => if ph N j = true then some (xad ad N q (pcr N j)) else none)))))
    rw [show (fun j => if ph N j = true then some (xad ad N q (pcr N j)) else none) = (fun _ => (none : Option Nat)) from funext fun j => by rw [hz0 j]; rfl]) hz.1 hP1
  have K := k (xad ad N q) hag2 i1 i2 H1 locs Ls hP2 hS1 (by rw [lc_ext hag2 0 hrl]; exact hl)
  rw [List.map_cons, st_ext hag2 hrs] at K
  rw [show cv (xad ad N q) (vr N) = .ref q by show Value.ref (xad ad N q N) = _; rw [xad_eq]] at K
  exact K
theorem e_astq4 {κ : KT} {own : String} {cc : ByteArray} {nL : Nat} {rm : Room} {ad : Nat → Nat} {N : Nat} {ph : Phs} {M : Mem} {pc : Nat} {ls : List (Option AV)} {st : List AV} {cs : Nat × Nat} {Q : State → Prop} (h : Ok κ own cc nL rm) {p0 v : Nat} (d : decode cc pc = .ok (.aastore, 1)) (hc : pcl p0 = 104) (hp : p0 < N) (hcv : pcl v = 5) (hv : v < N) {i : Int} {j : Nat} (hi : i = (j : Int)) (hj : j < plen p0) (hr : pcr p0 j = v) (k : E κ ad N (phs ph p0 j) M (pc + 1) ls st cs Q) : E κ ad N ph M pc ls (vr v :: vi i :: vr p0 :: st) cs Q := by
  obtain ⟨p, l, e, R, s, m, args, below, meth, c, D, cy, A⟩ := κ
  obtain ⟨hx, hb, hml, hown, hts, hnw, hlk, hK, hR⟩ := h
  intro h1 h2 H locs Ls hP hS hl
  subst hi
  subst hr
  have hb0 : plen p0 ≤ 1000 := plen_le p0
  obtain ⟨g1, g2⟩ := i_in (x := (j : Int)) (n := plen p0) (by omega) hb0
  obtain ⟨c1, -⟩ := CFall 5 (by decide)
  refine va_astq hx hb hK hP (wl_D h1 h2) hS p0 4 (pcr p0 j) 5 (n := plen p0) (by rw [wl_get hp, cell_arr hc (by decide)]; rfl) rfl (by rw [wl_get hv, cell_obj hcv (by decide)]) c1 g1 d (fun H1 locs1 hP1 hD1 hS1 => ?_)
  refine k h1 h2 H1 locs1 Ls ?_ hS1 hl
  rw [g2] at hP1
  have e := wl_setP (cy := cy) (ad := ad) (ph := ph) (ph' := phs ph p0 j) (M := M) (M p0) hp rfl (by
    rw [cell_arr hc (by decide)]) (fun q hq j => phs_ne (Or.inl hq)) (e := .inl (cy 104, plen p0, aE ad (phs ph p0 j) p0 104 (M p0)))
  have e2 : mset M p0 (M p0) = M := by
    funext q
    unfold mset
    by_cases hq : q = p0
    · rw [if_pos hq, hq]
    · rw [if_neg hq]
  rw [e2] at e
  rw [← e]
  have e3 : (Sum.inl (cy 104, plen p0, Sum.inr (Sum.inr (Sum.inr (Sum.inr (va_up (fun j => if ph p0 j = true then some (ad (pcr p0 j)) else none) ((j : Int)).toNat (some (ad (pcr p0 j)))))))) : va_E) = .inl (cy 104, plen p0, aE ad (phs ph p0 j) p0 104 (M p0)) := by
    show _ = Sum.inl (cy 104, plen p0, Sum.inr (Sum.inr (Sum.inr (Sum.inr (fun q => if phs ph p0 j p0 q = true then some (ad (pcr p0 q)) else none)))))
    rw [show (fun q => if phs ph p0 j p0 q = true then some (ad (pcr p0 q)) else none) = va_up (fun j => if ph p0 j = true then some (ad (pcr p0 j)) else none) ((j : Int)).toNat (some (ad (pcr p0 j))) from funext fun q => by
      unfold va_up
      by_cases hq : q = j
      · subst hq
        rw [if_pos (phs_eq ph p0 q), if_pos (show q = ((q : Int)).toNat by omega)]
      · rw [phs_ne (Or.inr hq), if_neg (show ¬ q = ((j : Int)).toNat by omega)]]
  rw [← e3]
  exact hP1
theorem e_objInit {κ : KT} {own : String} {cc : ByteArray} {nL : Nat} {rm : Room} {ad : Nat → Nat} {N : Nat} {ph : Phs} {M : Mem} {pc : Nat} {ls : List (Option AV)} {cs : Nat × Nat} {Q : State → Prop} (h : Ok κ own cc nL rm) {idx : Nat} (lp : Cond.methodLink own idx objectInit ∈ U) (d : decode cc pc = .ok (.invokespecial idx, 3)) (hrm : 1 ≤ rm.frames ∧ 12 ≤ rm.locals) {q : Nat} (k : E κ ad N ph M (pc + 3) ls [] cs Q) : E κ ad N ph M pc ls [vr q] cs Q := by
  obtain ⟨p, l, e, R, s, m, args, below, meth, c, D, cy, A⟩ := κ
  obtain ⟨hx, hb, hml, hown, hts, hnw, hlk, hK, hR⟩ := h
  intro h1 h2 H locs Ls hP hS hl
  subst hR
  refine W.objInit hx hb hown (hts _ lp) (hts _ oi_inst) (hts _ oi_code) rfl hl.1 rfl d hrm.1 (by show 2 * 0 + 0 + 12 ≤ R.locals; omega) ?_
  exact k h1 h2 H locs Ls hP hS hl
/-! contracts of constructors: N places before, N2 behind -/
def AI (ad : Nat → Nat) (N sz : Nat) : Nat → Prop := fun q => AA ad N q ∨ sz ≤ q
def PcI (g : GT) (as : List AV) (ad : Nat → Nat) (N : Nat) (ph : Phs) (M : Mem) (Ex : State → Prop) (sz : Nat) : Array Value → State → Prop := va_Pc (as.map (cv ad)) (fun u => u.heap.size = sz ∧ (∀ i j, i < N → j < N → ad i = ad j → i = j) ∧ va_P g.2.1 vwCl (wl g.2.2 ad N ph M) u.heap ∧ va_K g.2.1 vwCl (cyl g.2.2) u ∧ GX u ∧ Ex u)
def QcI (g : GT) (ad : Nat → Nat) (N N2 sz : Nat) (Post : (Nat → Nat) → Phs → Mem → Prop) : Array Value → State → Outcome → State → Prop := fun _ st oc t => (∃ (ad2 : Nat → Nat) (ph2 : Phs) (M2 : Mem), oc = .returned none ∧ (∀ q, q < N ∨ N2 ≤ q → ad2 q = ad q) ∧ (∀ i j, i < N2 → j < N2 → ad2 i = ad2 j → i = j) ∧ (∀ i, i < N2 → AI ad N sz (ad2 i)) ∧ va_P g.2.1 vwCl (wl g.2.2 ad2 N2 ph2 M2) t.heap ∧ Post ad2 ph2 M2) ∧ va_F (AI ad N sz) st t
def SpI (g : GT) (y : MethodName) (cc : ByteArray) (maxL : Nat) (rm : Room) (as : List AV) (ad : Nat → Nat) (N N2 : Nat) (ph : Phs) (M : Mem) (Ex : State → Prop) (mc ms : Nat) (Post : (Nat → Nat) → Phs → Mem → Prop) : Prop := ∀ sz, Met g.1 y (.code y cc maxL none :: U) rm (PcI g as ad N ph M Ex sz) (QcI g ad N N2 sz Post) mc ms (AI ad N sz)
def QI (κ : KT) (ad : Nat → Nat) (N N2 mc ms : Nat) (Post : (Nat → Nat) → Phs → Mem → Prop) : State → Prop := match κ with
  | (p, l, e, R, s, m, args, below, meth, c, D, cy, A) => MQ below (QcI (l, D, cy) ad N N2 s.heap.size Post) args s mc ms (AI ad N s.heap.size)
def KI (κ : KT) (ad : Nat → Nat) (N : Nat) : Prop := match κ with
  | (p, l, e, R, s, m, args, below, meth, c, D, cy, A) => A = AI ad N s.heap.size
def Exh (κ : KT) (Ex : State → Prop) : Prop := match κ with
  | (p, l, e, R, s, m, args, below, meth, c, D, cy, A) => Ex s
/-- what a callee asks for beside the world -/
def ExOK (κ : KT) (Ex : State → Prop) : Prop := match κ with
  | (p, l, e, R, s, m, args, below, meth, c, D, cy, A) => (∀ a U f mk, Ex U → Ex (State.calling U f mk a)) ∧ ∀ (H : Heap) (U : State), U.heap = H → s.WarmedH U.vm → (∀ q, q < s.heap.size → ¬ A q → H[q]? = s.heap[q]?) → s.heap.size ≤ H.size → Ex U
def Tr : State → Prop := fun _ => True
theorem ExOK.tr {κ : KT} : ExOK κ Tr := by
  obtain ⟨p, l, e, R, s, m, args, below, meth, c, D, cy, A⟩ := κ
  exact ⟨fun _ _ _ _ _ => trivial, fun _ _ _ _ _ _ => trivial⟩
theorem SpI.intro {g : GT} {y : MethodName} {cc : ByteArray} {maxL : Nat} {rm : Room} {as : List AV} {ad : Nat → Nat} {N N2 : Nat} {ph : Phs} {M : Mem} {Ex : State → Prop} {mc ms : Nat} {Post : (Nat → Nat) → Phs → Mem → Prop} (hy : plainName y.cls = true) (hyn : y.name = "<init>") {ls : List (Option AV)} (hls : entryL as maxL = ls) (hln : (as.flatMap fun v => if ct v = 2 then [some v, none] else [some v]).length ≤ maxL)
    (k : ∀ κ : KT, kg κ = g → Ok κ y.cls cc maxL rm → Rt κ none → KI κ ad N → Fr κ → In κ → Exh κ Ex → E κ ad N ph M 0 ls [] (0, 0) (QI κ ad N N2 mc ms Post)) : SpI g y cc maxL rm as ad N N2 ph M Ex mc ms Post := by
  subst hls
  intro sz
  refine Met.ofW (cc := cc) (maxL := maxL) (ret := none) hy rfl ?_
  intro p e s m args below meth c s₁ B hml hv
  obtain ⟨rfl, rfl, hinj, hP, hK, hG, hEx⟩ := hv
  obtain ⟨l, D, cy⟩ := g
  have hts := atoms_spec (ws := Cond.code y cc maxL none :: U) B.pre
  have hown : s.vm.findClass y.cls = some m.cls := findClass_of_methodNamed B.named
  have hl := lv_entry (as.map (cv ad)) (n := maxL) (by rw [lg_len]; exact hln)
  rw [lg_entry_eq]
  have K := k (p, l, e, rm, s, m, (as.map (cv ad)).toArray, below, meth, c, D, cy, AI ad N s.heap.size) rfl ⟨B.exec, B.bytes, hml, hown, fun w hw => hts w (List.mem_cons_of_mem _ hw), hG, B.notSynchronized, hK, rfl⟩ B.returns rfl (fun q hq => Or.inr hq) ((name_of_methodNamed B.named B.method).1.trans hyn) hEx
  refine K hinj (fun i hi => Or.inl ⟨i, hi, rfl⟩) s.heap [] _ hP va_S.rf ?_
  rw [hml]
  unfold entryL
  rw [lc_entry]
  exact hl
theorem e_vretI {κ : KT} {own : String} {cc : ByteArray} {nL : Nat} {rm : Room} {ad ad0 : Nat → Nat} {N N0 : Nat} {ph : Phs} {M : Mem} {pc : Nat} {ls : List (Option AV)} {cs : Nat × Nat} {mc ms : Nat} {Post : (Nat → Nat) → Phs → Mem → Prop} (h : Ok κ own cc nL rm) (hr : Rt κ none) (ha : KI κ ad0 N0) (d : decode cc pc = .ok (.return_, 1)) (hag : ∀ q, q < N0 ∨ N ≤ q → ad q = ad0 q) (hcs : cs.1 ≤ mc ∧ cs.2 ≤ ms) (k : Post ad ph M) : E κ ad N ph M pc ls [] cs (QI κ ad0 N0 N mc ms Post) := by
  obtain ⟨p, l, e, R, s, m, args, below, meth, c, D, cy, A⟩ := κ
  obtain ⟨hx, hb, hml, hown, hts, hnw, hlk, hK, hR⟩ := h
  intro h1 h2 H locs Ls hP hS hl
  have ha2 : A = AI ad0 N0 s.heap.size := ha
  refine W.widen hcs.1 hcs.2 ?_
  exact W.vret hx hb hr (fun t ht hW => ⟨⟨ad, ph, M, rfl, hag, h1, fun i hi => ha2 ▸ h2 i hi, by rw [ht]; exact hP, k⟩, by rw [← ha2]; exact hS.F ht⟩) (fun q hq => by rw [← ha2]; exact hS.2.2 q hq) d hlk
theorem run_goI {p : Program} {l : Launch} {e : Env} {R : Room} {s : State} {m : MethodId} {args : Array Value} {below : List Frame} {meth : Method} {c : Code} {D : va_G} {cy : Nat → ClassId} {A : Nat → Prop} {H : Heap} {locs : List Loc} {c0 s0 pc mc ms : Nat} {Ls : Array Slot} {st0 rest : List Value} {ad : Nat → Nat} {N N2 : Nat} {Post : (Nat → Nat) → Phs → Mem → Prop} {a : Array Value} {Q : State → Prop}
    (hr : va_Run p l e R s m args below meth c H locs c0 s0 mc ms (F0 m pc Ls st0) rest (QcI (l, D, cy) ad N N2 H.size Post a) (AI ad N H.size)) (hS : va_S A s.heap H locs) (h2 : ∀ i, i < N → A (ad i)) (hf : ∀ q, s.heap.size ≤ q → A q)
    (kk : ∀ (ad2 : Nat → Nat) (ph2 : Phs) (M2 : Mem) (H1 : Heap) (locs1 : List Loc), (∀ q, q < N ∨ N2 ≤ q → ad2 q = ad q) → (∀ i j, i < N2 → j < N2 → ad2 i = ad2 j → i = j) → (∀ i, i < N2 → A (ad2 i)) → va_P D vwCl (wl cy ad2 N2 ph2 M2) H1 → va_S A s.heap H1 locs1 → Post ad2 ph2 M2 → W p l e R s m args below meth c H1 locs1 (c0 + mc) (s0 + ms) Q (F0 m (pc + 3) Ls rest)) : W p l e R s m args below meth c H locs c0 s0 Q (F0 m pc Ls st0) := by
  intro T hT X
  obtain ⟨v, st₀, t, T', L, g0, X', hL, e1, e2, ⟨⟨ad2, ph2, M2, hv, hag, hinj, hAI, hP', hp⟩, hz, hk⟩, st⟩ := hr T hT X
  cases hv
  rw [g0] at hz hk
  have hA : ∀ q, AI ad N H.size q → A q := fun q hq => by
    rcases hq with ⟨k, hk, e⟩ | hq
    · rw [e]; exact h2 k hk
    · exact hf q (Nat.le_trans hS.1 hq)
  obtain ⟨t2, a1, b1⟩ := kk ad2 ph2 M2 T'.heap (locs ++ L) hag hinj (fun i hi => hA _ (hAI i hi)) (by rw [e1]; exact hP') ⟨Nat.le_trans hS.1 (by rw [e1]; exact hz), fun q h1 h2 => by rw [e1, hk q (Nat.lt_of_lt_of_le h1 hS.1) (fun z => h2 (hA q z))]; exact hS.2.1 q h1 h2, fun q hq => by
      rcases List.mem_append.mp hq with h | h
      · exact hS.2.2 q h
      · exact hA _ (hL q h)⟩ hp T' rfl X'
  exact ⟨t2, st t2 a1, b1⟩
theorem e_callI {κ : KT} {own : String} {cc : ByteArray} {nL : Nat} {rm : Room} {ad : Nat → Nat} {N : Nat} {ph : Phs} {M : Mem} {pc : Nat} {ls : List (Option AV)} {st : List AV} {cs : Nat × Nat} {Q : State → Prop} {idx : Nat} {y : MethodName} {ccY : ByteArray} {maxL : Nat} {rmY : Room} {N2 mc ms p0 : Nat} {Ex : State → Prop} (lk : LK own idx y) (mi : MI y ccY maxL 0) (d : decode cc pc = .ok (.invokespecial idx, 3)) (hst : (st.map ct).sum ≤ 8) (hrm : rmY.frames + 1 ≤ rm.frames ∧ 8 + (maxL + 11) + rmY.locals ≤ rm.locals ∧ rmY.cells = mc ∧ rmY.slots = ms ∧ cs.1 + mc ≤ rm.cells ∧ cs.2 + ms ≤ rm.slots) (h : Ok κ own cc nL rm) (hf : Fr κ) (hex : ExOK κ Ex) (hrl : rbL N N2 ls) (hrs : rbS N N2 st) (S : SpI (kg κ) y ccY maxL rmY [vr p0] ad N N2 ph M Ex mc ms (fun ad2 ph2 M2 => (∀ q, q < N ∨ N2 ≤ q → ad2 q = ad q) → E κ ad2 N2 ph2 M2 (pc + 3) ls st (cs.1 + mc, cs.2 + ms) Q)) : E κ ad N ph M pc ls (vr p0 :: st) cs Q := by
  obtain ⟨p, l, e, R, s, m, args, below, meth, c, D, cy, A⟩ := κ
  obtain ⟨hx, hb, hml, hown, hts, hnw, hlk, hK, hR⟩ := h
  intro h1 h2 H locs Ls hP hS hl
  subst hR
  obtain ⟨v1, v2, v3, v4, v5⟩ := mi
  obtain ⟨r1, r2, r3, r4, r5, r6⟩ := hrm
  have hG : GoodIn U (Cond.code y ccY maxL none :: U) := u_goodU (fun w hw => (List.mem_cons.mp hw).elim (fun q => q ▸ v4) id)
  have hfix : CallFix p m c cc nL s args U own := ⟨hx, hb, hml, hown, hts⟩
  have hpre : PreS s H (PcI (l, D, cy) [vr p0] ad N ph M Ex H.size) [Value.ref (ad p0)] := by
    refine ⟨fun a u f mk q => ?_, fun u hU hW => ⟨rfl, by rw [hU], h1, by rw [hU]; exact hP, va_K.moved hW.alike hK, GX_warm hW hnw, hex.2 H u hU hW (fun q g1 g2 => hS.2.1 q g1 g2) hS.1⟩⟩
    obtain ⟨q0, q1, q2, q3, q4, q5, q6⟩ := q
    exact ⟨q0, q1, q2, q3, va_K.moved (u := u) (U := u.calling f mk a) (Vm.Alike.refl u.vm) q4, GX_same (u := u) rfl q5, hex.1 a u f mk q6⟩
  have hsz : Ls.size = nL := by rw [hl.1, hml]
  have hsum : 2 * (F0 m pc Ls ((vr p0 :: st).map (cv ad))).monitorRoom + ((st.map (cv ad)).map fun v => v.category).sum ≤ 8 := lv_room (by rw [ct_sum]; exact hst)
  rcases lk with lk | ⟨host, lk⟩
  · refine run_goI (va_runI (As := []) (rest := st.map (cv ad)) (g := F0 m pc Ls _) hfix (S H.size) ⟨callB_of 0 hts hG rfl r3 r4 (hts _ v3) (hts _ lk) v5 ⟨r1, r2⟩, v2, hts _ v1⟩ hpre rfl rfl hsz rfl hsum d ⟨r5, r6⟩) hS h2 hf ?_
    intro ad2 ph2 M2 H1 locs1 hag hinj hAA hP1 hS1 hp
    have K := hp hag hinj hAA H1 locs1 Ls hP1 hS1 (by rw [lc_ext hag 0 hrl]; exact hl)
    rw [st_ext hag hrs] at K
    exact K
  · refine run_goI (va_runIN (As := []) (rest := st.map (cv ad)) (g := F0 m pc Ls _) hfix (S H.size) ⟨va_cnB 0 hts hG rfl r3 r4 (hnw.1 _ lk) (hts _ v3) v5 ⟨r1, r2⟩, v2, hts _ v1⟩ hpre rfl rfl hsz rfl hsum d ⟨r5, r6⟩) hS h2 hf ?_
    intro ad2 ph2 M2 H1 locs1 hag hinj hAA hP1 hS1 hp
    have K := hp hag hinj hAA H1 locs1 Ls hP1 hS1 (by rw [lc_ext hag 0 hrl]; exact hl)
    rw [st_ext hag hrs] at K
    exact K
/-- built whole -/
def Bt (o N2 : Nat) (ph : Phs) : Prop := ∀ q j, o ≤ q → q < N2 → rf q j = true → ph q j = true
/-- built, but for the fields of o from a on -/
def Bp (o a N : Nat) (ph : Phs) : Prop := ∀ q j, o ≤ q → q < N → rf q j = true → (q = o → j < a) → ph q j = true
theorem rf_num {q j : Nat} (h : pcl q = 100 ∨ pcl q = 101 ∨ pcl q = 102) : rf q j = false := by
  unfold rf
  rw [if_neg (by omega)]
  exact decide_eq_false (fun z => by omega)
theorem tg_c {p j r : Nat} {x : Int} (hc : kd (pcl p) j ≠ 3) (hr : pcr p j = r) : tg p j x = r := by
  unfold tg
  rw [if_neg hc]
  exact hr
theorem Bp.start {o : Nat} {ph : Phs} : Bp o 0 (o + 1) ph := fun q j h1 h2 _ h3 => absurd (h3 (by omega)) (by omega)
theorem Bp.num {o a N : Nat} {ph : Phs} (h : Bp o a N ph) (hc : pcl N = 100 ∨ pcl N = 101 ∨ pcl N = 102) : Bp o a (N + 1) ph := fun q j h1 h2 h3 h4 => by
  by_cases e : q = N
  · subst e; rw [rf_num hc] at h3; cases h3
  · exact h q j h1 (by omega) h3 h4
theorem Bp.fld {o a N : Nat} {ph : Phs} (h : Bp o a N ph) : Bp o (a + 1) N (phs ph o a) := fun q j h1 h2 h3 h4 => by
  by_cases e : q = o ∧ j = a
  · obtain ⟨rfl, rfl⟩ := e; exact phs_eq _ _ _
  · rw [phs_ne (by omega)]; exact h q j h1 h2 h3 (fun z => by have := h4 z; omega)
/-- behind a constructor at the place N -/
theorem Bp.call {o a N N2 : Nat} {ph ph2 : Phs} (h : Bp o a N ph) (hu : ∀ q j, q < N + 1 → q ≠ N → ph2 q j = ph q j) (hb : Bt N N2 ph2) : Bp o a N2 ph2 := fun q j h1 h2 h3 h4 => by
  by_cases e : q < N
  · rw [hu q j (by omega) (by omega)]; exact h q j h1 e h3 h4
  · exact hb q j (by omega) h2 h3
theorem Bp.all {o a N : Nat} {ph : Phs} (h : Bp o a N ph) (ha : ∀ j, rf o j = true → j < a) : Bt o N ph := fun q j h1 h2 h3 => h q j h1 h2 h3 (fun z => by subst z; exact ha j h3)
theorem rf_lt {o ci a : Nat} (hc : pcl o = ci) (hci : ci < 12) (h : ∀ j, 3 ≤ kd ci j → j < a) : ∀ j, rf o j = true → j < a := fun j hj => by
  subst hc
  unfold rf at hj
  rw [if_pos hci] at hj
  exact h j (of_decide_eq_true hj)
theorem kd_lt {ci n a : Nat} (hn : (kdL.getD ci []).length = n) (h : (List.range n).all (fun j => decide (3 ≤ kd ci j → j < a)) = true) : ∀ j, 3 ≤ kd ci j → j < a := fun j hj => by
  by_cases e : j < n
  · exact of_decide_eq_true (List.all_eq_true.mp h j (List.mem_range.mpr e)) hj
  · have z : kd ci j = 0 := by
      unfold kd
      rw [List.getD_eq_getElem?_getD, List.getElem?_eq_none (by omega)]
      rfl
    rw [z] at hj
    exact absurd hj (by decide)
