theorem BO.to {M M2 : Mem} {q : Nat} (h : BO M q) (e : M2 q = M q) : BO M2 q := fun k hk => by rw [e]; exact h k hk
theorem JB.to {M M2 : Mem} {q : Nat} (h : JB M q) (e : M2 q = M q) : JB M2 q := fun k hk => by rw [e]; exact h k hk
theorem HR.to {h : Nat} {f g : Nat → Int} {M M2 : Mem} (q : HR h f g M) (e1 : M2 67 = M 67) (e2 : M2 68 = M 68) (e3 : M2 69 = M 69) : HR h f g M2 := by
  unfold HR
  rw [e1, e2, e3]
  exact q
theorem OddsP.to {M M2 : Mem} (h : OddsP M) (e : M2 64 = M 64) : OddsP M2 := by unfold OddsP; rw [e]; exact h
theorem ChaseP.to {M M2 : Mem} (h : ChaseP M) (e : M2 61 = M 61) : ChaseP M2 := by unfold ChaseP; rw [e]; exact h
def cE (g : Nat → Int) : Nat → Nat
  | 0 => 0
  | k + 1 => cE g k + if g k = -1 then 1 else 0
/-- what the history may hold -/
def HW (O : SD) (T h0 : Nat) (f g : Nat → Int) : Prop := cE g h0 ≤ oE O ∧ ∀ k, k < h0 → g k = -1 ∨ (0 ≤ g k ∧ g k ≤ 60 ∧ ∃ i : Nat, i < T ∧ f k = i)
def KP (S : SD) (K : Nat → SD) (z : Nat) (M : Mem) : Prop := ∀ k, k < z → OR (K k) (sT S) M (72 + 5 * k) (72 + 5 * k + 1) (72 + 5 * k + 2) (72 + 5 * k + 3) (72 + 5 * k + 4) ∧ WO (K k) (sT S) ∧ BO M (72 + 5 * k + 3)
theorem KP.to {S : SD} {K : Nat → SD} {z : Nat} {M M2 : Mem} (h : KP S K z M) (hz : z ≤ 2) (e : ∀ p, 72 ≤ p → p < 82 → M2 p = M p) : KP S K z M2 := fun k hk =>
  ⟨(h k hk).1.to (e _ (by omega) (by omega)) (e _ (by omega) (by omega)) (e _ (by omega) (by omega)) (e _ (by omega) (by omega)) (e _ (by omega) (by omega)), (h k hk).2.1, (h k hk).2.2.to (e _ (by omega) (by omega))⟩
def FLT (S O : SD) (M : Mem) : Prop := M 5 1 = sT S ∧ ∀ i, i < sT S → CR S O i (sH S i) (sF S i) M (7 + 4 * i)
def FC (S O : SD) (M : Mem) : Prop := M 0 11 = 1 ∨ (M 0 11 = 0 ∧ FLT S O M)
theorem FLT.to {S O : SD} {M M2 : Mem} (h : FLT S O M) (hT : sT S ≤ 6) (e : ∀ p, 5 ≤ p → p < 31 → M2 p = M p) : FLT S O M2 :=
  ⟨by rw [e 5 (by omega) (by omega)]; exact h.1, fun i hi => (h.2 i hi).to (fun p a b => e p (by omega) (by omega))⟩
theorem cE_le {g : Nat → Int} : ∀ m, cE (fun k => g (k + 1)) m ≤ cE g (m + 1)
  | 0 => Nat.zero_le _
  | m + 1 => by
    have := cE_le (g := g) m
    show cE (fun k => g (k + 1)) m + _ ≤ cE g (m + 1) + _
    exact Nat.add_le_add this (Nat.le_refl _)
theorem cE_eq {g g2 : Nat → Int} : ∀ m, (∀ k, k < m → g2 k = g k) → cE g2 m = cE g m
  | 0, _ => rfl
  | m + 1, h => by
    show cE g2 m + _ = cE g m + _
    rw [cE_eq m (fun k hk => h k (by omega)), h m (by omega)]
theorem cE_mono {g : Nat → Int} (m : Nat) : cE g m ≤ cE g (m + 1) := Nat.le_add_right _ _
theorem cE_pushA {g : Nat → Int} {x : Int} {h0 : Nat} (h8 : h0 ≤ 8) : cE (pushH h0 g x) (if h0 < 8 then h0 + 1 else 8) ≤ cE g h0 + if x = -1 then 1 else 0 := by
  by_cases q : h0 < 8
  · rw [if_pos q]
    show cE (pushH h0 g x) h0 + _ ≤ _
    rw [cE_eq h0 (fun k hk => pushH_b q (by omega)), pushH_a q]
    exact Nat.le_refl _
  · rw [if_neg q]
    have h88 : h0 = 8 := by omega
    subst h88
    show cE (pushH 8 g x) 7 + _ ≤ _
    rw [cE_eq (g := fun k => g (k + 1)) 7 (fun k hk => pushH_d q (by omega)), pushH_c q]
    exact Nat.add_le_add (cE_le 7) (Nat.le_refl _)
theorem cE_push {g : Nat → Int} {x : Int} {h0 : Nat} (h8 : h0 ≤ 8) : cE (pushH h0 g x) (if h0 < 8 then h0 + 1 else 8) ≤ cE g h0 + 1 := by
  have := cE_pushA (g := g) (x := x) h8
  have h2 : (if x = -1 then 1 else 0) ≤ 1 := by split <;> omega
  omega
theorem cE_push2 {g : Nat → Int} {x : Int} {h0 : Nat} (h8 : h0 ≤ 8) (hx : x ≠ -1) : cE (pushH h0 g x) (if h0 < 8 then h0 + 1 else 8) ≤ cE g h0 := by
  have := cE_pushA (g := g) (x := x) h8
  rw [if_neg hx] at this
  exact this
theorem HW_get {h0 : Nat} {f g : Nat → Int} {x y : Int} (h8 : h0 ≤ 8) {P : Int → Int → Prop} (h : ∀ k, k < h0 → P (f k) (g k)) (hxy : P x y) : ∀ k, k < (if h0 < 8 then h0 + 1 else 8) → P (pushH h0 f x k) (pushH h0 g y k) := by
  intro k hk
  by_cases q : h0 < 8
  · rw [if_pos q] at hk
    by_cases e : k = h0
    · subst e; rw [pushH_a q, pushH_a q]; exact hxy
    · rw [pushH_b q e, pushH_b q e]; exact h k (by omega)
  · rw [if_neg q] at hk
    by_cases e : k = 7
    · subst e; rw [pushH_c q, pushH_c q]; exact hxy
    · rw [pushH_d q e, pushH_d q e]; exact h (k + 1) (by omega)
def RepC (so dr n : Nat) (b : TB) (S O : SD) (h0 : Nat) (f g : Nat → Int) (z : Nat) (K : Nat → SD) (M : Mem) : Prop := (so = 82 ∧ dr = 96 ∨ so = 96 ∧ dr = 82) ∧ M 0 9 = (so : Int) ∧ M 0 10 = (dr : Int) ∧ TX b n M ∧ SO S O M so ∧ WS S ∧ WO O (sT S) ∧ BO M (so + 12) ∧ BO M (dr + 12) ∧ HR h0 f g M ∧ h0 ≤ 8 ∧ HW O (sT S) h0 f g ∧ M 70 1 = (z : Int) ∧ z ≤ 2 ∧ KP S K z M ∧ FC S O M ∧ OddsP M ∧ ChaseP M ∧ JB M 62 ∧ JB M 63
theorem RepC.ds {so dr n : Nat} {b : TB} {S O : SD} {h0 : Nat} {f g : Nat → Int} {z : Nat} {K : Nat → SD} {M : Mem} (h : RepC so dr n b S O h0 f g z K M) : (so = 82 ∧ dr = 96 ∨ so = 96 ∧ dr = 82) := h.1
theorem RepC.m9 {so dr n : Nat} {b : TB} {S O : SD} {h0 : Nat} {f g : Nat → Int} {z : Nat} {K : Nat → SD} {M : Mem} (h : RepC so dr n b S O h0 f g z K M) : M 0 9 = (so : Int) := h.2.1
theorem RepC.m10 {so dr n : Nat} {b : TB} {S O : SD} {h0 : Nat} {f g : Nat → Int} {z : Nat} {K : Nat → SD} {M : Mem} (h : RepC so dr n b S O h0 f g z K M) : M 0 10 = (dr : Int) := h.2.2.1
theorem RepC.tx {so dr n : Nat} {b : TB} {S O : SD} {h0 : Nat} {f g : Nat → Int} {z : Nat} {K : Nat → SD} {M : Mem} (h : RepC so dr n b S O h0 f g z K M) : TX b n M := h.2.2.2.1
theorem RepC.so {so dr n : Nat} {b : TB} {S O : SD} {h0 : Nat} {f g : Nat → Int} {z : Nat} {K : Nat → SD} {M : Mem} (h : RepC so dr n b S O h0 f g z K M) : SO S O M so := h.2.2.2.2.1
theorem RepC.ws {so dr n : Nat} {b : TB} {S O : SD} {h0 : Nat} {f g : Nat → Int} {z : Nat} {K : Nat → SD} {M : Mem} (h : RepC so dr n b S O h0 f g z K M) : WS S := h.2.2.2.2.2.1
theorem RepC.wo {so dr n : Nat} {b : TB} {S O : SD} {h0 : Nat} {f g : Nat → Int} {z : Nat} {K : Nat → SD} {M : Mem} (h : RepC so dr n b S O h0 f g z K M) : WO O (sT S) := h.2.2.2.2.2.2.1
theorem RepC.bs {so dr n : Nat} {b : TB} {S O : SD} {h0 : Nat} {f g : Nat → Int} {z : Nat} {K : Nat → SD} {M : Mem} (h : RepC so dr n b S O h0 f g z K M) : BO M (so + 12) := h.2.2.2.2.2.2.2.1
theorem RepC.bd {so dr n : Nat} {b : TB} {S O : SD} {h0 : Nat} {f g : Nat → Int} {z : Nat} {K : Nat → SD} {M : Mem} (h : RepC so dr n b S O h0 f g z K M) : BO M (dr + 12) := h.2.2.2.2.2.2.2.2.1
theorem RepC.hr {so dr n : Nat} {b : TB} {S O : SD} {h0 : Nat} {f g : Nat → Int} {z : Nat} {K : Nat → SD} {M : Mem} (h : RepC so dr n b S O h0 f g z K M) : HR h0 f g M := h.2.2.2.2.2.2.2.2.2.1
theorem RepC.h8 {so dr n : Nat} {b : TB} {S O : SD} {h0 : Nat} {f g : Nat → Int} {z : Nat} {K : Nat → SD} {M : Mem} (h : RepC so dr n b S O h0 f g z K M) : h0 ≤ 8 := h.2.2.2.2.2.2.2.2.2.2.1
theorem RepC.hw {so dr n : Nat} {b : TB} {S O : SD} {h0 : Nat} {f g : Nat → Int} {z : Nat} {K : Nat → SD} {M : Mem} (h : RepC so dr n b S O h0 f g z K M) : HW O (sT S) h0 f g := h.2.2.2.2.2.2.2.2.2.2.2.1
theorem RepC.m70 {so dr n : Nat} {b : TB} {S O : SD} {h0 : Nat} {f g : Nat → Int} {z : Nat} {K : Nat → SD} {M : Mem} (h : RepC so dr n b S O h0 f g z K M) : M 70 1 = (z : Int) := h.2.2.2.2.2.2.2.2.2.2.2.2.1
theorem RepC.z2 {so dr n : Nat} {b : TB} {S O : SD} {h0 : Nat} {f g : Nat → Int} {z : Nat} {K : Nat → SD} {M : Mem} (h : RepC so dr n b S O h0 f g z K M) : z ≤ 2 := h.2.2.2.2.2.2.2.2.2.2.2.2.2.1
theorem RepC.kp {so dr n : Nat} {b : TB} {S O : SD} {h0 : Nat} {f g : Nat → Int} {z : Nat} {K : Nat → SD} {M : Mem} (h : RepC so dr n b S O h0 f g z K M) : KP S K z M := h.2.2.2.2.2.2.2.2.2.2.2.2.2.2.1
theorem RepC.fc {so dr n : Nat} {b : TB} {S O : SD} {h0 : Nat} {f g : Nat → Int} {z : Nat} {K : Nat → SD} {M : Mem} (h : RepC so dr n b S O h0 f g z K M) : FC S O M := h.2.2.2.2.2.2.2.2.2.2.2.2.2.2.2.1
theorem RepC.od {so dr n : Nat} {b : TB} {S O : SD} {h0 : Nat} {f g : Nat → Int} {z : Nat} {K : Nat → SD} {M : Mem} (h : RepC so dr n b S O h0 f g z K M) : OddsP M := h.2.2.2.2.2.2.2.2.2.2.2.2.2.2.2.2.1
theorem RepC.ch {so dr n : Nat} {b : TB} {S O : SD} {h0 : Nat} {f g : Nat → Int} {z : Nat} {K : Nat → SD} {M : Mem} (h : RepC so dr n b S O h0 f g z K M) : ChaseP M := h.2.2.2.2.2.2.2.2.2.2.2.2.2.2.2.2.2.1
theorem RepC.ja {so dr n : Nat} {b : TB} {S O : SD} {h0 : Nat} {f g : Nat → Int} {z : Nat} {K : Nat → SD} {M : Mem} (h : RepC so dr n b S O h0 f g z K M) : JB M 62 := h.2.2.2.2.2.2.2.2.2.2.2.2.2.2.2.2.2.2.1
theorem RepC.jb {so dr n : Nat} {b : TB} {S O : SD} {h0 : Nat} {f g : Nat → Int} {z : Nat} {K : Nat → SD} {M : Mem} (h : RepC so dr n b S O h0 f g z K M) : JB M 63 := h.2.2.2.2.2.2.2.2.2.2.2.2.2.2.2.2.2.2.2

theorem FC.to {S O : SD} {M M2 : Mem} (h : FC S O M) (hT : sT S ≤ 6) (e0 : M2 0 11 = M 0 11) (e : ∀ p, 5 ≤ p → p < 31 → M2 p = M p) : FC S O M2 := by
  unfold FC
  rw [e0]
  rcases h with h | h
  · exact Or.inl h
  · exact Or.inr ⟨h.1, h.2.to hT e⟩
theorem RepC.isS {so dr n : Nat} {b : TB} {S O : SD} {h0 : Nat} {f g : Nat → Int} {z : Nat} {K : Nat → SD} {M : Mem} {N : Nat} (hN : 110 ≤ N) (h : RepC so dr n b S O h0 f g z K M) : IsS so N ∧ IsS dr N ∧ 82 ≤ so ∧ 82 ≤ dr ∧ (so + 14 ≤ dr ∨ dr + 14 ≤ so) ∧ so ≤ 96 ∧ dr ≤ 96 := by
  rcases h.ds with ⟨rfl, rfl⟩ | ⟨rfl, rfl⟩
  · exact ⟨isS_a hN, isS_b hN, by omega, by omega, by omega, by omega, by omega⟩
  · exact ⟨isS_b hN, isS_a hN, by omega, by omega, by omega, by omega, by omega⟩
theorem HW_errand {O O2 : SD} {T h0 : Nat} {f g : Nat → Int} {x : Int} (h : HW O T h0 f g) (h8 : h0 ≤ 8) (hO : oE O2 = oE O + 1) : HW O2 T (if h0 < 8 then h0 + 1 else 8) (pushH h0 f x) (pushH h0 g (-1)) := by
  refine ⟨?_, ?_⟩
  · rw [hO]
    have := cE_push (g := g) (x := -1) h8
    have := h.1
    omega
  · intro k hk
    exact HW_get h8 (P := fun a c => c = -1 ∨ (0 ≤ c ∧ c ≤ 60 ∧ ∃ i : Nat, i < T ∧ a = i)) h.2 (Or.inl rfl) k hk
theorem HW_fill {O O2 : SD} {T h0 i : Nat} {f g : Nat → Int} {x y : Int} (h : HW O T h0 f g) (h8 : h0 ≤ 8) (hO : oE O2 = oE O) (hi : i < T) (hx : x = i) (hy : 0 ≤ y ∧ y ≤ 60) : HW O2 T (if h0 < 8 then h0 + 1 else 8) (pushH h0 f x) (pushH h0 g y) := by
  refine ⟨?_, ?_⟩
  · rw [hO]
    have := cE_push2 (g := g) (x := y) h8 (by omega)
    have := h.1
    omega
  · intro k hk
    exact HW_get h8 (P := fun a c => c = -1 ∨ (0 ≤ c ∧ c ≤ 60 ∧ ∃ i : Nat, i < T ∧ a = i)) h.2 (Or.inr ⟨hy.1, hy.2, i, hi, hx⟩) k hk
set_option maxRecDepth 100000 in
set_option maxHeartbeats 4000000 in
theorem c_append {gg : GT} {ad : Nat → Nat} {N : Nat} {M : Mem} {Post : Option AV → Mem → Prop} {n x : Nat}  {xx : Int} (hxx : xx = (x : Int))  (hN : 110 ≤ N) (hn : M 1 1 = n) (hn3 : n < 300) (K : Post none (up (up M 2 n (x : Int)) 1 1 (M 1 1 + 1))) : Sp gg yX9_append cX9_append 2 none rmX9_append [vr 1, vi xx] ad N pT M Post := by
  refine Sp.intro (ls := [some (vr 1), some (vi xx)]) (by decide +kernel) rfl (Nat.le_of_ble_eq_true rfl) fun κ hgg h hr ha => ?_
  have h : Ok κ RX9 cX9_append 2 rmX9_append := h
  subst hgg
  subst hxx
  refine e_aload_n h dX9_append_0 (pc := 0) rfl ?_
  refine e_getI h fl_X9_15 dX9_append_1 (pc := 1) rfl (Nat.lt_of_lt_of_le (by decide) hN) (by decide) ?_
  refine e_sipush h dX9_append_4 (pc := 4) (by decide +kernel) ?_
  refine e_icmp_ge h (tgt := 30) dX9_append_7 (pc := 7) (by decide) (by omega) (by decide) (fun hb7 => absurd hb7 (by omega)) (fun hb7 => ?_)
  refine e_aload_n h dX9_append_10 (pc := 10) rfl ?_
  refine e_getC h fl_X9_9 dX9_append_11 (pc := 11) rfl (Nat.lt_of_lt_of_le (by decide) hN) rfl rfl (r := 2) rfl ?_
  refine e_aload_n h dX9_append_14 (pc := 14) rfl ?_
  refine e_getI h fl_X9_15 dX9_append_15 (pc := 15) rfl (Nat.lt_of_lt_of_le (by decide) hN) (by decide) ?_
  refine e_iload_n h dX9_append_18 (pc := 18) rfl ?_
  refine e_iast h dX9_append_19 (pc := 19) rfl (Nat.lt_of_lt_of_le (by decide) hN) (j := n) (by omega) (by show _ < 300; omega) ?_
  refine e_aload_n h dX9_append_20 (pc := 20) rfl ?_
  refine e_dup h dX9_append_21 (pc := 21) rfl ?_
  refine e_getI h fl_X9_15 dX9_append_22 (pc := 22) rfl (Nat.lt_of_lt_of_le (by decide) hN) (by decide) ?_
  simp (disch := omega) only [up_ne]
  refine e_iconst h dX9_append_25 (pc := 25)  ?_
  refine e_iadd h dX9_append_26 (pc := 26)  ?_
  refine e_putI h fl_X9_15 dX9_append_27 (pc := 27) rfl (Nat.lt_of_lt_of_le (by decide) hN) rfl ?_
  refine e_vret h hr ha dX9_append_30 (pc := 30) ?_
  exact K
set_option maxRecDepth 100000 in
set_option maxHeartbeats 4000000 in
theorem c_tclear {gg : GT} {ad : Nat → Nat} {N : Nat} {M : Mem} {Post : Option AV → Mem → Prop}   (hN : 110 ≤ N) (K : Post none (up M 1 1 0)) : Sp gg yX9_clear cX9_clear 1 none rmX9_clear [vr 1] ad N pT M Post := by
  refine Sp.intro (ls := [some (vr 1)]) (by decide +kernel) rfl (Nat.le_of_ble_eq_true rfl) fun κ hgg h hr ha => ?_
  have h : Ok κ RX9 cX9_clear 1 rmX9_clear := h
  subst hgg
  refine e_aload_n h dX9_clear_0 (pc := 0) rfl ?_
  refine e_iconst h dX9_clear_1 (pc := 1)  ?_
  refine e_putI h fl_X9_15 dX9_clear_2 (pc := 2) rfl (Nat.lt_of_lt_of_le (by decide) hN) rfl ?_
  refine e_vret h hr ha dX9_clear_5 (pc := 5) ?_
  exact K
def whole (S : SD) : Prop := (∀ i, i < sT S → sH S i < sL S) ∧ (∀ k, k < sB S → sC S k < sL S) ∧ 0 < sL S ∧ 0 < sT S
theorem whole_ws {S O : SD} (h : PW S O) (w : whole S) : WS S ∧ WO O (sT S) := by
  obtain ⟨h1, h2, h3, h4, h5, h6, h7, h8⟩ := h
  obtain ⟨w1, w2, w3, w4⟩ := w
  exact ⟨⟨⟨w3, h1⟩, ⟨w4, h2⟩, h3, h5, fun i hi => ⟨w1 i hi, (h6 i hi).2.1, (h6 i hi).2.2.1, (h6 i hi).2.2.2.1, (h6 i hi).2.2.2.2.1⟩, fun k hk => ⟨w2 k hk, (h7 k hk).2⟩⟩, h4, h8, fun i hi => (h6 i hi).2.2.2.2.2⟩
set_option maxRecDepth 100000 in
set_option maxHeartbeats 4000000 in
theorem c_isWhole {gg : GT} {ad : Nat → Nat} {N : Nat} {M : Mem} {Post : Option AV → Mem → Prop} {S : SD} {so : Nat}   (hs : IsS so N) (hS : SR S M so) (hP : sL S ≤ 6 ∧ sT S ≤ 6 ∧ sB S ≤ 5 ∧ (∀ i, i < sT S → sH S i ≤ 5) ∧ ∀ k, k < sB S → sC S k ≤ 5) (kt : whole S → Post (some (vi 1)) M) (kf : ¬ whole S → Post (some (vi 0)) M) : Sp gg yX8_isWhole cX8_isWhole 2 (some .boolean) rmX8_isWhole [vr so] ad N pT M Post := by
  refine Sp.intro (ls := [some (vr so), none]) (by decide +kernel) rfl (Nat.le_of_ble_eq_true rfl) fun κ hgg h hr ha => ?_
  have h : Ok κ RX8 cX8_isWhole 2 rmX8_isWhole := h
  subst hgg
  have r0 := hS.1
  have r1 := hS.2.1
  have r2 := hS.2.2.1
  have fin : (∀ i, i < sT S → sH S i < sL S) → E κ ad N pT M 31 [some (vr so), some (vi (sT S : Int))] [] (0, 0) (QR κ ad N pT Post) := by
    intro hwT
    have loop2 : ∀ (n k : Nat), k ≤ sB S → sB S < k + n → (∀ i, i < k → sC S i < sL S) → E κ ad N pT M 33 [some (vr so), some (vi (k : Int))] [] (0, 0) (QR κ ad N pT Post) := by
      intro n
      induction n with
      | zero => intro k h1 h2; exact absurd h2 (by omega)
      | succ n ih =>
        intro k hk hn hw
        refine e_iload_n h dX8_isWhole_33 (pc := 33) rfl ?_
        refine e_aload_n h dX8_isWhole_34 (pc := 34) rfl ?_
        refine e_getI h fl_X8_50 dX8_isWhole_35 (pc := 35) hs.c0 hs.p0 (by decide) ?_
        refine e_icmp_ge h (tgt := 62) dX8_isWhole_38 (pc := 38) (by decide) (by omega) (by omega) (fun hb38 => ?_) (fun hb38 => ?_)
        · refine e_aload_n h dX8_isWhole_62 (pc := 62) rfl ?_
          refine e_getI h fl_X8_43 dX8_isWhole_63 (pc := 63) hs.c0 hs.p0 (by decide) ?_
          refine e_if_le h (tgt := 80) dX8_isWhole_66 (pc := 66) (by decide) (by omega) (fun hb66 => ?_) (fun hb66 => ?_)
          · refine e_iconst h dX8_isWhole_80 (pc := 80)  ?_
            refine e_zret h hr ha dX8_isWhole_81 (pc := 81) (by decide) ?_
            first | exact kf (fun w => absurd w.2.2.1 (by omega)) | exact kf (fun w => absurd w.2.2.2 (by omega)) | exact kt ⟨hwT, fun i hi => hw i (by omega), by omega, by omega⟩
          · refine e_aload_n h dX8_isWhole_69 (pc := 69) rfl ?_
            refine e_getI h fl_X8_47 dX8_isWhole_70 (pc := 70) hs.c0 hs.p0 (by decide) ?_
            refine e_if_le h (tgt := 80) dX8_isWhole_73 (pc := 73) (by decide) (by omega) (fun hb73 => ?_) (fun hb73 => ?_)
            · refine e_iconst h dX8_isWhole_80 (pc := 80)  ?_
              refine e_zret h hr ha dX8_isWhole_81 (pc := 81) (by decide) ?_
              first | exact kf (fun w => absurd w.2.2.1 (by omega)) | exact kf (fun w => absurd w.2.2.2 (by omega)) | exact kt ⟨hwT, fun i hi => hw i (by omega), by omega, by omega⟩
            · refine e_iconst h dX8_isWhole_76 (pc := 76)  ?_
              refine e_goto h dX8_isWhole_77 (pc := 77) (tgt := 81) (by decide) ?_
              refine e_zret h hr ha dX8_isWhole_81 (pc := 81) (by decide) ?_
              first | exact kf (fun w => absurd w.2.2.1 (by omega)) | exact kf (fun w => absurd w.2.2.2 (by omega)) | exact kt ⟨hwT, fun i hi => hw i (by omega), by omega, by omega⟩
        · have r7 := (hS.2.2.2.2.2 k (by omega)).1
          have p7 := hP.2.2.2.2 k (by omega)
          refine e_aload_n h dX8_isWhole_41 (pc := 41) rfl ?_
          refine e_getC h fl_X8_30 dX8_isWhole_42 (pc := 42) hs.c0 hs.p0 rfl rfl (r := (so + 7)) (pcr_d (by rw [hs.c0]; decide) 6) ?_
          refine e_iload_n h dX8_isWhole_45 (pc := 45) rfl ?_
          refine e_iald h dX8_isWhole_46 (pc := 46) hs.c7 hs.p7 rfl (by rw [hs.l7]; omega) ?_
          refine e_aload_n h dX8_isWhole_47 (pc := 47) rfl ?_
          refine e_getI h fl_X8_43 dX8_isWhole_48 (pc := 48) hs.c0 hs.p0 (by decide) ?_
          refine e_icmp_lt h (tgt := 56) dX8_isWhole_51 (pc := 51) (by decide) (by omega) (by omega) (fun hb51 => ?_) (fun hb51 => ?_)
          · refine e_iinc1 h dX8_isWhole_56 (pc := 56) (by decide) rfl ?_
            refine e_goto h dX8_isWhole_59 (pc := 59) (tgt := 33) (by decide) ?_
            rw [show (k : Int) + 1 = ((k + 1 : Nat) : Int) by omega]
            exact ih (k + 1) (by omega) (by omega) (fun i hi => by
              by_cases e : i = k
              · subst e; omega
              · exact hw i (by omega))
          · refine e_iconst h dX8_isWhole_54 (pc := 54)  ?_
            refine e_zret h hr ha dX8_isWhole_55 (pc := 55) (by decide) ?_
            exact kf (fun w => absurd (w.2.1 k (by omega)) (by omega))
    refine e_iconst h dX8_isWhole_31 (pc := 31)  ?_
    refine e_istore1 h dX8_isWhole_32 (pc := 32) (by decide) rfl ?_
    exact loop2 (sB S + 1) 0 (by omega) (by omega) (fun i hi => absurd hi (by omega))
  have loop : ∀ (n k : Nat), k ≤ sT S → sT S < k + n → (∀ i, i < k → sH S i < sL S) → E κ ad N pT M 2 [some (vr so), some (vi (k : Int))] [] (0, 0) (QR κ ad N pT Post) := by
    intro n
    induction n with
    | zero => intro k h1 h2; exact absurd h2 (by omega)
    | succ n ih =>
      intro k hk hn hw
      refine e_iload_n h dX8_isWhole_2 (pc := 2) rfl ?_
      refine e_aload_n h dX8_isWhole_3 (pc := 3) rfl ?_
      refine e_getI h fl_X8_47 dX8_isWhole_4 (pc := 4) hs.c0 hs.p0 (by decide) ?_
      refine e_icmp_ge h (tgt := 31) dX8_isWhole_7 (pc := 7) (by decide) (by omega) (by omega) (fun hb7 => ?_) (fun hb7 => ?_)
      · have hkT : k = sT S := by omega
        subst hkT
        exact fin hw
      · have r5 := (hS.2.2.2.2.1 k (by omega)).1
        have p6 := hP.2.2.2.1 k (by omega)
        refine e_aload_n h dX8_isWhole_10 (pc := 10) rfl ?_
        refine e_getC h fl_X8_18 dX8_isWhole_11 (pc := 11) hs.c0 hs.p0 rfl rfl (r := (so + 3)) (pcr_d (by rw [hs.c0]; decide) 2) ?_
        refine e_iload_n h dX8_isWhole_14 (pc := 14) rfl ?_
        refine e_iald h dX8_isWhole_15 (pc := 15) hs.c3 hs.p3 rfl (by rw [hs.l3]; omega) ?_
        refine e_aload_n h dX8_isWhole_16 (pc := 16) rfl ?_
        refine e_getI h fl_X8_43 dX8_isWhole_17 (pc := 17) hs.c0 hs.p0 (by decide) ?_
        refine e_icmp_lt h (tgt := 25) dX8_isWhole_20 (pc := 20) (by decide) (by omega) (by omega) (fun hb20 => ?_) (fun hb20 => ?_)
        · refine e_iinc1 h dX8_isWhole_25 (pc := 25) (by decide) rfl ?_
          refine e_goto h dX8_isWhole_28 (pc := 28) (tgt := 2) (by decide) ?_
          rw [show (k : Int) + 1 = ((k + 1 : Nat) : Int) by omega]
          exact ih (k + 1) (by omega) (by omega) (fun i hi => by
            by_cases e : i = k
            · subst e; omega
            · exact hw i (by omega))
        · refine e_iconst h dX8_isWhole_23 (pc := 23)  ?_
          refine e_zret h hr ha dX8_isWhole_24 (pc := 24) (by decide) ?_
          exact kf (fun w => absurd (w.1 k (by omega)) (by omega))
  refine e_iconst h dX8_isWhole_0 (pc := 0)  ?_
  refine e_istore1 h dX8_isWhole_1 (pc := 1) (by decide) rfl ?_
  exact loop (sT S + 1) 0 (by omega) (by omega) (fun i hi => absurd hi (by omega))
