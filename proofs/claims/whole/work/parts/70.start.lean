theorem arr_of {args : Array Value} {s : State} {ty : FieldType} (h : (Cond.arrayClass ty).before args s = true) : ∃ cA : ClassId, ArrOfT s cA ty ∧ s.vm.findClass ("[" ++ ty.toString) = some cA := by
  simp only [Cond.before, Cond.holds, Cond.value] at h
  cases hf : s.vm.findClass ("[" ++ ty.toString) with
  | none => simp [hf] at h
  | some cA =>
    cases hk : s.vm.classes[cA]? with
    | none => simp [hf, hk] at h
    | some k =>
      cases hkind : k.kind with
      | array comp ty2 =>
        simp [hf, hk, hkind] at h
        subst h
        exact ⟨cA, fun n z => ⟨fun k h => (by cases h), k, hk, comp, hkind⟩, rfl⟩
      | _ => simp [hf, hk, hkind] at h
theorem arq_of {args : Array Value} {s : State} {C : String} (h : (Cond.arrayOver (.object C)).before args s = true) : ∃ cA : ClassId, ArrOfT s cA (.object C) ∧ va_RA s cA (.object C) := by
  obtain ⟨comp, c, k, h1, h2, h3, h4, h5⟩ := Cond.arrayOver_spec h
  exact ⟨c, fun n z => ⟨fun k h => (by cases h), k, h3, comp, h4⟩, k, comp, h3, h4, h1, h5⟩
theorem ia_all : ∀ ci, ci < 12 → ∃ n, Cond.instantiable (clR ci) n ∈ U := fun ci h => match ci, h with
  | 0, _ => ⟨_, ia_X0⟩
  | 1, _ => ⟨_, ia_X1⟩
  | 2, _ => ⟨_, ia_X2⟩
  | 3, _ => ⟨_, ia_X3⟩
  | 4, _ => ⟨_, ia_X4⟩
  | 5, _ => ⟨_, ia_X5⟩
  | 6, _ => ⟨_, ia_X6⟩
  | 7, _ => ⟨_, ia_X7⟩
  | 8, _ => ⟨_, ia_X8⟩
  | 9, _ => ⟨_, ia_X9⟩
  | 10, _ => ⟨_, ia_X10⟩
  | 11, _ => ⟨_, ia_X11⟩
  | k + 12, h => absurd h (by omega)
/-- the classes are known -/
theorem know {args : Array Value} {s : State} (htU : ∀ w ∈ U, w.before args s = true) (htT : ∀ w ∈ tables_1, w.before args s = true) : ∃ (D : va_G) (cy : Nat → ClassId), va_K D vwCl (cyl cy) s := by
  have h1 : ∀ ci : Nat, ∃ q : ClassId × (Nat → Nat), ci < 12 → u_Kn s (clR ci) (clT ci) (nf ci) q.1 q.2 := fun ci => by
    by_cases hci : ci < 12
    · obtain ⟨n, hn⟩ := ia_all ci hci
      obtain ⟨cC, iS, hq⟩ := u_known htU (CFall ci hci).2.1 (htU _ hn)
      exact ⟨(cC, iS), fun _ => hq⟩
    · exact ⟨(0, fun _ => 0), fun z => absurd z hci⟩
  obtain ⟨F, hF⟩ := Classical.axiomOfChoice h1
  obtain ⟨cI, i1, i2⟩ := arr_of (htU _ ac_int)
  obtain ⟨cJ, j1, j2⟩ := arr_of (htU _ ac_long)
  obtain ⟨cZ, z1, z2⟩ := arr_of (htU _ ac_boolean)
  obtain ⟨c3, q1, q2⟩ := arq_of (htT (.arrayOver (.object RX1)) (List.mem_of_getElem? (i := 65) (by decide +kernel)))
  obtain ⟨c4, r1, r2⟩ := arq_of (htT (.arrayOver (.object RX5)) (List.mem_of_getElem? (i := 177) (by decide +kernel)))
  refine ⟨(fun ci => (F ci).1, fun ci => (F ci).2), fun k => if k = 100 then cI else if k = 101 then cJ else if k = 102 then cZ else if k = 103 then c3 else c4, fun ci q hq => ?_, fun k q hq => ?_⟩
  · have hlt : ci < 12 := (List.getElem?_eq_some_iff.mp hq).1
    rw [(CFall ci hlt).1] at hq
    cases hq
    exact hF ci hlt
  · match k, hq with
    | 0, hq => cases hq; exact ⟨i1, i2⟩
    | 1, hq => cases hq; exact ⟨j1, j2⟩
    | 2, hq => cases hq; exact ⟨z1, z2⟩
    | 3, hq => cases hq; exact ⟨q1, q2⟩
    | 4, hq => cases hq; exact ⟨r1, r2⟩
    | k + 5, hq => simp [cyl] at hq
theorem gx_of {args : Array Value} {s : State} (htT : ∀ w ∈ tables_1, w.before args s = true) : GX s := by
  refine ⟨fun w hw => ?_, va_AO.of (htT (.arrayOver (.object RX1)) (List.mem_of_getElem? (i := 65) (by decide +kernel))), va_AO.of (htT (.arrayOver (.object RX5)) (List.mem_of_getElem? (i := 177) (by decide +kernel)))⟩
  have h1 := (List.mem_filter.mp hw).2
  have h2 := htT w (List.mem_filter.mp hw).1
  cases w <;> first | (simp [isNest] at h1; done) | exact va_Nw.of rfl h2
abbrev tmS : Term := Term.string "HungInStorm" 82
theorem elS : ∀ j, j < 34 → Cond.eq (.elem (.field tmS "java/lang/String" "value" "[B") (.int (Int32.ofNat j))) (.int (bytS.getD j 0)) ∈ flatC (Jvm.Cond.and given_1 narrow_1) := by decide +kernel
theorem strs {b : Nat} {s : State} (htT : ∀ w ∈ tables_1, w.before #[Value.ref b] s = true) (hgv : (Jvm.Cond.and given_1 narrow_1).before #[Value.ref b] s = true) : ∃ a t : Nat, SFA (fun q => s.heap.size ≤ q) a t s s.heap ∧ vk_R RX10 82 "v2,0;v5,1;t0,0,20,2,0;t1,6,20,3,0;" a s := by
  have hs := flat_of_before _ hgv
  have hA : ∀ a : Nat, a < s.heap.size → ¬ (fun q => s.heap.size ≤ q) a := fun a h => Nat.not_le.mpr h
  obtain ⟨adK, adV, h1, h2⟩ := vk_Sof (args := #[Value.ref b]) (s := s) (N := 1) (tm := fun _ => tmS) (len := [34]) (byt := [bytS]) (A := fun q => s.heap.size ≤ q) (fun i hi => by
      obtain rfl : i = 0 := by omega
      decide) (fun i _ => hs _ (by decide +kernel)) (fun i _ => hs _ (by decide +kernel)) (fun i _ => hs _ (by decide +kernel)) (fun i hi => by
      obtain rfl : i = 0 := by omega
      exact hs _ (by decide +kernel)) (fun i hi j hj => by
      obtain rfl : i = 0 := by omega
      exact hs _ (elS j hj)) (fun i j hi hj hij => absurd (show i = j by omega) hij) hA
  have e2 := h2 0 (by decide)
  obtain ⟨v, hv, hvr⟩ := Cond.isRef_spec (hs (Cond.isRef (Term.static "jdk/internal/util/Preconditions" "SIOOBE_FORMATTER" "Ljava/util/function/BiFunction;")) (by decide +kernel))
  refine ⟨adK 0, adV 0, ⟨⟨fun i hi => ?_, fun i j hi hj _ => by omega⟩, ?_, v, ?_, ?_⟩, ?_⟩
  · obtain rfl : i = 0 := by omega
    exact h1.1 0 (by decide)
  · exact va_Zof (htT _ (List.mem_of_getElem? (i := 295) (by decide +kernel))) (htT _ (List.mem_of_getElem? (i := 12) (by decide +kernel))) (va_eqi (hs _ (by decide +kernel))) hA
  · cases v <;> first | rfl | (simp [Value.isRef] at hvr)
  · exact va_Zof (htT _ (List.mem_of_getElem? (i := 311) (by decide +kernel))) (htT _ (List.mem_of_getElem? (i := 14) (by decide +kernel))) hv hA
  · exact vk_R.of (htT (.stringRef "HungInStorm" 82 "v2,0;v5,1;t0,0,20,2,0;t1,6,20,3,0;") (List.mem_of_getElem? (i := 285) (by decide +kernel))) e2
def AK (κ : KT) : Nat → Prop := match κ with
  | (p, l, e, R, s, m, args, below, meth, c, D, cy, A) => A
theorem e_A {κ : KT} {ad : Nat → Nat} {N : Nat} {ph : Phs} {M : Mem} {pc : Nat} {ls : List (Option AV)} {st : List AV} {cs : Nat × Nat} {Q : State → Prop} (k : (∀ i, i < N → AK κ (ad i)) → E κ ad N ph M pc ls st cs Q) : E κ ad N ph M pc ls st cs Q := by
  obtain ⟨p, l, e, R, s, m, args, below, meth, c, D, cy, A⟩ := κ
  intro h1 h2
  exact k h2 h1 h2
/-- the component's world is closed -/
def cloQ (p j : Nat) : Bool := !rf p j || (if kd (pcl p) j = 3 then ((p == 0 && (j == 9 || j == 10)) || (p == 61 && j < 2) || (p == 64 && j < 2)) else decide (pcr p j < 110))
theorem cloA : (List.range 110).all (fun p => (List.range 12).all (fun j => cloQ p j)) = true := by decide +kernel
theorem clo1 (p : Nat) (hp : p < 110) (j : Nat) (hj : j < 12) (h : rf p j = true) : (kd (pcl p) j = 3 ∧ ((p = 0 ∧ (j = 9 ∨ j = 10)) ∨ (p = 61 ∧ j < 2) ∨ (p = 64 ∧ j < 2))) ∨ (kd (pcl p) j ≠ 3 ∧ pcr p j < 110) := by
  have h1 := List.all_eq_true.mp (List.all_eq_true.mp cloA p (List.mem_range.mpr hp)) j (List.mem_range.mpr hj)
  unfold cloQ at h1
  rw [h] at h1
  by_cases h3 : kd (pcl p) j = 3
  · rw [if_pos h3] at h1
    refine Or.inl ⟨h3, ?_⟩
    simp at h1
    omega
  · rw [if_neg h3] at h1
    refine Or.inr ⟨h3, ?_⟩
    simp at h1
    exact h1
theorem clo2 : ∀ p, p < 110 → (kdL.getD (pcl p) []).length ≤ 12 ∧ (pcl p = 103 ∨ pcl p = 104 → plen p ≤ 12) := by decide +kernel
theorem rf_12 {p j : Nat} (hp : p < 110) (h : rf p j = true) : j < 12 := by
  unfold rf at h
  split at h
  · have h3 := of_decide_eq_true h
    by_cases e : j < 12
    · exact e
    · have z : kd (pcl p) j = 0 := by
        unfold kd
        rw [List.getD_eq_getElem?_getD, List.getElem?_eq_none (by have := (clo2 p hp).1; omega)]
        rfl
      rw [z] at h3
      exact absurd h3 (by decide)
  · have h3 := of_decide_eq_true h
    have := (clo2 p hp).2 h3.1
    omega
theorem nw110 {n : Nat} {b : TB} {S O : SD} {h0 : Nat} {f g : Nat → Int} {z : Nat} {K : Nat → SD} {M : Mem} (hR : RepC 82 96 n b S O h0 f g z K M) (hz : ∀ p j, 110 ≤ p → M p j = 0) : Nw 110 (pN 110) M := by
  refine ⟨fun p j hp hj _ => ?_, fun p j hp => ⟨decide_eq_false (by omega), hz p j hp⟩⟩
  unfold tg
  rcases clo1 p hp j (rf_12 hp hj) hj with ⟨h3, hc⟩ | ⟨h3, hc⟩
  · rw [if_pos h3]
    have m9 := hR.m9
    have m10 := hR.m10
    have od := hR.od
    have ch := hR.ch
    unfold OddsP at od
    unfold ChaseP at ch
    rcases hc with ⟨rfl, rfl | rfl⟩ | ⟨rfl, hj2⟩ | ⟨rfl, hj2⟩
    · rw [m9]; decide
    · rw [m10]; decide
    · rcases (show j = 0 ∨ j = 1 by omega) with rfl | rfl <;> omega
    · rcases (show j = 0 ∨ j = 1 by omega) with rfl | rfl <;> omega
  · rw [if_neg h3]; exact hc
set_option maxRecDepth 100000 in
set_option maxHeartbeats 4000000 in
theorem whole_start {p : Program} {e : Env} {s : State} {m : MethodId} {below : List Frame} {meth : Method} {c : Code} (l : Launch) (hflags : l.flags = flags0) {b L : Nat} {xs : Nat → Int32} (hL : L ≤ 384) (C0 : lw_At p s m meth c b L xs) : W p l e room_1 s m #[Value.ref b] below meth c s.heap [] 0 0 (lw_Z below #[Value.ref b] s) (entryFrame m ([Value.ref b] : List Value).toArray 4) := by
  obtain ⟨hx, hb, hr, hml, hown, hts, hX, hbl, hlocks, hgv⟩ := id C0
  have htU : ∀ w ∈ U, w.before #[Value.ref b] s = true := fun w hw => hts w (u_in hw)
  have htT : ∀ w ∈ tables_1, w.before #[Value.ref b] s = true := fun w hw => hts w (List.mem_append_right _ hw)
  obtain ⟨D, cy, hK⟩ := know htU htT
  have hG := gx_of htT
  obtain ⟨a, t, hSF, hVR⟩ := strs htT hgv
  have h : Ok (p, l, e, room_1, s, m, #[Value.ref b], below, meth, c, D, cy, fun q => s.heap.size ≤ q) RL cL_law 4 room_1 := ⟨hx, hb, hml, hown, htU, hG, hlocks, hK, rfl⟩
  have hf : Fr (p, l, e, room_1, s, m, #[Value.ref b], below, meth, c, D, cy, fun q => s.heap.size ≤ q) := fun q hq => hq
  have hex : ExOK (p, l, e, room_1, s, m, #[Value.ref b], below, meth, c, D, cy, fun q => s.heap.size ≤ q) (ExX s.heap.size a t) := by
    refine ⟨fun x u f mk q => ?_, fun H u hU hW hk hsz => ?_⟩
    · obtain ⟨⟨q1, q2, v, q3, q4⟩, q5, q6⟩ := q
      exact ⟨⟨vk_S.moved (u := u) (U := u.calling f mk x) (Vm.Alike.refl u.vm) q1, va_Z.moved (u := u) (U := u.calling f mk x) (Vm.Alike.refl u.vm) q2, v, q3, va_Z.moved (u := u) (U := u.calling f mk x) (Vm.Alike.refl u.vm) q4⟩, vk_R.same (u := u) (U := u.calling f mk x) rfl q5, q6⟩
    · obtain ⟨q1, q2, v, q3, q4⟩ := hSF
      have hk2 : ∀ q : Nat, q < s.heap.size → ¬ (fun q => s.heap.size ≤ q) q → u.heap[q]? = s.heap[q]? := fun q g1 g2 => by rw [hU]; exact hk q g1 g2
      exact ⟨⟨(q1.kept hk2).moved hW.alike, (q2.kept hk2).moved hW.alike, v, q3, (q4.kept hk2).moved hW.alike⟩, hVR.warm hW, by rw [hU]; exact hsz⟩
  have key : E (p, l, e, room_1, s, m, #[Value.ref b], below, meth, c, D, cy, fun q => s.heap.size ≤ q) (fun q => if q = 200 then b else if q = 201 then a else 0) 0 (fun _ _ => false) (fun _ _ => 0) 0 [some (vr 200), none, none, none] [] (0, 0) (lw_Z below #[Value.ref b] s) := by
    have hz : Nw 0 (fun _ _ => false) (fun _ _ => 0) := ⟨fun p j hp => absurd hp (by omega), fun p j _ => ⟨rfl, rfl⟩⟩
    refine e_new h hf hz (ci := 10) rfl (by decide) cl_L_7 ia_X10 iz_X10 dL_law_0 (by decide) (rbL_some (rbA_r (Or.inr (by omega))) (rbL_none (rbL_none (rbL_none rbL_nil)))) rbS_nil (fun ad1 hg1 => ?_)
    refine e_A (fun hA1 => ?_)
    have h00 : s.heap.size ≤ ad1 0 := hA1 0 (by decide)
    have h201 : ad1 201 = a := by rw [hg1 201 (by omega)]; rfl
    have hz : Nw 1 (fun _ _ => false) (fun _ _ => 0) := hz.new
    refine e_dup h dL_law_3 rfl ?_
    refine e_callI (rmY := rmX10_init) (N2 := 110) (mc := 109) (ms := 3383) lk_L_9 mi_X10_init dL_law_4 (Nat.le_of_ble_eq_true rfl) (by decide) h hf hex (rbL_some (rbA_r (Or.inr (by omega))) (rbL_none (rbL_none (rbL_none rbL_nil)))) (rbS_cons (rbA_r (Or.inl (by omega))) rbS_nil) ?_
    refine c_X10_init (t := t) hz h00 h201 (fun ad2 M2 hR hz2 => ?_)
    intro hg2
    refine e_astore1 h dL_law_7 (by decide) rfl ?_
    have hz := nw110 hR hz2
    refine e_new h hf hz (ci := 11) rfl (by decide) cl_L_10 ia_X11 iz_X11 dL_law_8 (by decide) (rbL_some (rbA_r (Or.inr (by omega))) (rbL_some (rbA_r (Or.inl (by omega))) (rbL_none (rbL_none rbL_nil)))) rbS_nil (fun ad3 hg3 => ?_)
    have hz : Nw 111 (pN 110) M2 := hz.new
    refine e_dup h dL_law_11 rfl ?_
    refine e_callI (rmY := rmX11_init) (N2 := 139) (mc := 28) (ms := 873) lk_L_12 mi_X11_init dL_law_12 (Nat.le_of_ble_eq_true rfl) (by decide) h hf ExOK.tr (rbL_some (rbA_r (Or.inr (by omega))) (rbL_some (rbA_r (Or.inl (by omega))) (rbL_none (rbL_none rbL_nil)))) (rbS_cons (rbA_r (Or.inl (by omega))) rbS_nil) ?_
    refine c_X11_init hz hz2 (fun p j hp _ => decide_eq_true hp) (fun ad4 M4 hM hf4 => ?_)
    intro hg4
    refine e_astore2 h dL_law_15 (by decide) rfl ?_
    refine e_iconst h dL_law_16 ?_
    refine e_istore3 h dL_law_17 (by decide) rfl ?_
    have h200 : ad4 200 = b := by rw [hg4 200 (by omega), hg3 200 (by omega), hg2 200 (by omega), hg1 200 (by omega)]; rfl
    have hs : Sc (p, l, e, room_1, s, m, #[Value.ref b], below, meth, c, D, cy, fun q => s.heap.size ≤ q) (ad4 200) L xs := by rw [h200]; exact ⟨hX, hbl, Nat.not_le.mpr hbl⟩
    refine law_loop h hs hL (by decide) (fun M i => ?_) (L + 1) 0 M4 ⟨_, _, _, _, _, _, _, _, _, _, _, hR.kept hf4, hM⟩ (by omega) (by omega)
    intro h1 h2 H locs Ls hP hS hl
    refine lv_iconst (v := 1) hx hb dL_law_989 (by decide) ?_
    refine va_forget (fun q hq => hS.2.2 q hq) ?_
    refine W.widen (k := 600000) (n := 7302250) (by decide) (by decide) ?_
    exact lw_ret hx hb hr hlocks dL_law_990
  have hl := lv_entry ([Value.ref b]) (n := 4) (Nat.le_of_ble_eq_true rfl)
  rw [lg_entry_eq]
  refine key (fun i j hi => absurd hi (by omega)) (fun i hi => absurd hi (by omega)) s.heap [] _ (fun k q hq => by simp [wl] at hq) va_S.rf ?_
  rw [hml]
  exact hl

