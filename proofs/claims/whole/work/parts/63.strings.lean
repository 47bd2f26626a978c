def fsL : List Nat := [118, 50, 44, 48, 59, 118, 53, 44, 49, 59, 116, 48, 44, 48, 44, 50, 48, 44, 50, 44, 48, 59, 116, 49, 44, 54, 44, 50, 48, 44, 51, 44, 48, 59]
def bytS : List Int32 := [118, 50, 44, 48, 59, 118, 53, 44, 49, 59, 116, 48, 44, 48, 44, 50, 48, 44, 50, 44, 48, 59, 116, 49, 44, 54, 44, 50, 48, 44, 51, 44, 48, 59]
theorem mv_J0_length_8abf5 : MV yJ0_length_8abf5 cJ0_length_8abf5 1 (some .int) 0 := ⟨u_mem 287 (by decide +kernel) rfl, u_mem 288 (by decide +kernel) rfl, u_mem 12 (by decide +kernel) rfl, u_mem 289 (by decide +kernel) rfl, ⟨by decide +kernel, by decide +kernel, by decide +kernel⟩⟩
abbrev rmJ0_length_8abf5 : Room := { frames := 1, cells := 0, slots := 0, locals := 20 }
theorem mv_J0_charAt_5068e : MV yJ0_charAt_5068e cJ0_charAt_5068e 2 (some .char) 1 := ⟨u_mem 297 (by decide +kernel) rfl, u_mem 298 (by decide +kernel) rfl, u_mem 12 (by decide +kernel) rfl, u_mem 299 (by decide +kernel) rfl, ⟨by decide +kernel, by decide +kernel, by decide +kernel⟩⟩
abbrev rmJ0_charAt_5068e : Room := { frames := 3, cells := 0, slots := 0, locals := 64 }
theorem mv_J0_coder_7d493 : MV yJ0_coder_7d493 cJ0_coder_7d493 1 (some .byte) 0 := ⟨u_mem 291 (by decide +kernel) rfl, u_mem 292 (by decide +kernel) rfl, u_mem 12 (by decide +kernel) rfl, u_mem 293 (by decide +kernel) rfl, ⟨by decide +kernel, by decide +kernel, by decide +kernel⟩⟩
abbrev rmJ0_coder_7d493 : Room := { frames := 0, cells := 0, slots := 0, locals := 0 }
theorem mv_J0_isLatin1_aae02 : MV yJ0_isLatin1_aae02 cJ0_isLatin1_aae02 1 (some .boolean) 0 := ⟨u_mem 301 (by decide +kernel) rfl, u_mem 302 (by decide +kernel) rfl, u_mem 12 (by decide +kernel) rfl, u_mem 303 (by decide +kernel) rfl, ⟨by decide +kernel, by decide +kernel, by decide +kernel⟩⟩
abbrev rmJ0_isLatin1_aae02 : Room := { frames := 0, cells := 0, slots := 0, locals := 0 }
theorem ms_J0_checkIndex_df160 : MS yJ0_checkIndex_df160 cJ0_checkIndex_df160 2 none 2 := ⟨u_mem 308 (by decide +kernel) rfl, u_mem 12 (by decide +kernel) rfl, u_mem 309 (by decide +kernel) rfl, ⟨by decide +kernel, by decide +kernel, by decide +kernel⟩⟩
abbrev rmJ0_checkIndex_df160 : Room := { frames := 1, cells := 0, slots := 0, locals := 22 }
theorem ms_J1_charAt_3b067 : MS yJ1_charAt_3b067 cJ1_charAt_3b067 2 (some .char) 2 := ⟨u_mem 305 (by decide +kernel) rfl, u_mem 13 (by decide +kernel) rfl, u_mem 306 (by decide +kernel) rfl, ⟨by decide +kernel, by decide +kernel, by decide +kernel⟩⟩
abbrev rmJ1_charAt_3b067 : Room := { frames := 2, cells := 0, slots := 0, locals := 43 }
theorem ms_J3_checkIndex_8e157 : MS yJ3_checkIndex_8e157 cJ3_checkIndex_8e157 3 (some .int) 3 := ⟨u_mem 313 (by decide +kernel) rfl, u_mem 14 (by decide +kernel) rfl, u_mem 314 (by decide +kernel) rfl, ⟨by decide +kernel, by decide +kernel, by decide +kernel⟩⟩
abbrev rmJ3_checkIndex_8e157 : Room := { frames := 0, cells := 0, slots := 0, locals := 0 }
theorem ml_335 : Cond.methodLink RJ0 335 yJ0_coder_7d493 ∈ U := u_mem 290 (by decide +kernel) rfl
theorem ml_492 : Cond.methodLink RJ0 492 yJ0_isLatin1_aae02 ∈ U := u_mem 300 (by decide +kernel) rfl
theorem ml_495 : Cond.methodLink RJ0 495 yJ1_charAt_3b067 ∈ U := u_mem 304 (by decide +kernel) rfl
theorem ml_9 : Cond.methodLink RJ1 9 yJ0_checkIndex_df160 ∈ U := u_mem 307 (by decide +kernel) rfl
theorem ml_1059 : Cond.methodLink RJ0 1059 yJ3_checkIndex_8e157 ∈ U := u_mem 312 (by decide +kernel) rfl
theorem fs_38 : Cond.fieldLink RJ0 38 "java/lang/String" "COMPACT_STRINGS" "Z" ∈ U := u_mem 294 (by decide +kernel) rfl
theorem fs_1053 : Cond.fieldLink RJ0 1053 "jdk/internal/util/Preconditions" "SIOOBE_FORMATTER" "Ljava/util/function/BiFunction;" ∈ U := u_mem 310 (by decide +kernel) rfl
theorem fs_9 : Cond.fieldLink RJ0 9 "java/lang/String" "value" "[B" ∈ U := u_mem 1048 (by decide +kernel) rfl
theorem fs_15 : Cond.fieldLink RJ0 15 "java/lang/String" "coder" "B" ∈ U := u_mem 1049 (by decide +kernel) rfl
def SFA (A : Nat → Prop) (a t : Nat) (u : State) (H : Heap) : Prop := vk_S 1 [34] [bytS] (fun _ => a) (fun _ => t) A u H ∧ va_Z "java/lang/String" "COMPACT_STRINGS" "Z" (.int 1) A u H ∧ ∃ v : Value, v.category = 1 ∧ va_Z "jdk/internal/util/Preconditions" "SIOOBE_FORMATTER" "Ljava/util/function/BiFunction;" v A u H
def NoA : Nat → Prop := fun _ => False
def SF (a t : Nat) (u : State) : Prop := SFA NoA a t u u.heap
theorem SFA.call {A : Nat → Prop} {a t : Nat} {s u : State} {H : Heap} {locs : List Loc} (h : SFA A a t s s.heap) (hS : va_S A s.heap H locs) (hU : u.heap = H) (hW : s.WarmedH u.vm) : SF a t u := by
  obtain ⟨h1, h2, v, h3, h4⟩ := h
  have hk : ∀ q, q < s.heap.size → ¬ A q → u.heap[q]? = s.heap[q]? := fun q g1 g2 => by rw [hU]; exact hS.2.1 q g1 g2
  have hn : ∀ q, NoA q → A q := fun q z => z.elim
  exact ⟨((h1.kept hk).moved hW.alike).narrow hn, ((h2.kept hk).moved hW.alike).narrow hn, v, h3, ((h4.kept hk).moved hW.alike).narrow hn⟩
def PcS (a t : Nat) (as : List Value) : Array Value → State → Prop := va_Pc as (SF a t)
def QcS (v : Option Value) : Array Value → State → Outcome → State → Prop := fun _ st oc t => oc = .returned v ∧ va_F NoA st t
theorem PcS_blind {a t : Nat} {as : List Value} : FrameBlind (PcS a t as) := fun x u f mk q => by
  obtain ⟨q0, q1, q2, v, q3, q4⟩ := q
  exact ⟨q0, vk_S.moved (u := u) (U := u.calling f mk x) (Vm.Alike.refl u.vm) q1, va_Z.moved (u := u) (U := u.calling f mk x) (Vm.Alike.refl u.vm) q2, v, q3, va_Z.moved (u := u) (U := u.calling f mk x) (Vm.Alike.refl u.vm) q4⟩
abbrev SM (l : Launch) (y : MethodName) (cc : ByteArray) (maxL : Nat) (ret : Option FieldType) (rm : Room) (a t : Nat) (as : List Value) (v : Option Value) : Prop := Met l y (.code y cc maxL ret :: U) rm (PcS a t as) (QcS v) 0 0 NoA
theorem run_goS {p : Program} {l : Launch} {e : Env} {R : Room} {s : State} {m : MethodId} {args : Array Value} {below : List Frame} {meth : Method} {c : Code} {A : Nat → Prop} {H : Heap} {locs : List Loc} {c0 s0 pc : Nat} {Ls : Array Slot} {st0 rest : List Value} {v : Option Value} {a : Array Value} {Q : State → Prop}
    (hr : va_Run p l e R s m args below meth c H locs c0 s0 0 0 (F0 m pc Ls st0) rest (QcS v a) NoA) (hS : va_S A s.heap H locs)
    (kk : ∀ (H1 : Heap) (locs1 : List Loc), (∀ q, q < H.size → H1[q]? = H[q]?) → va_S A s.heap H1 locs1 → W p l e R s m args below meth c H1 locs1 c0 s0 Q (F0 m (pc + 3) Ls (v.toList ++ rest))) : W p l e R s m args below meth c H locs c0 s0 Q (F0 m pc Ls st0) := by
  intro T hT X
  obtain ⟨v2, st₀, t, T', L, g0, X', hL, e1, e2, ⟨hv, hz, hk⟩, st⟩ := hr T hT X
  cases hv
  rw [g0] at hz hk
  obtain ⟨t2, a1, b1⟩ := kk T'.heap (locs ++ L) (fun q hq => by rw [e1]; exact hk q hq (fun z => z)) ⟨Nat.le_trans hS.1 (by rw [e1]; exact hz), fun q h1 h2 => by rw [e1, hk q (Nat.lt_of_lt_of_le h1 hS.1) (fun z => z)]; exact hS.2.1 q h1 h2, fun q hq => by
      rcases List.mem_append.mp hq with h | h
      · exact hS.2.2 q h
      · exact (hL q h).elim⟩ T' rfl X'
  exact ⟨t2, st t2 a1, b1⟩
section SW
variable {p : Program} {l : Launch} {e : Env} {R : Room} {s : State} {m : MethodId} {args : Array Value} {below : List Frame} {meth : Method} {c : Code} {H : Heap} {locs : List Loc} {cells slots : Nat} {Q : State → Prop} {cc : ByteArray} {pc nL n maxL idx a t : Nat} {Ls : Array Slot} {rest As : List Value} {A : Nat → Prop} {own : String} {y : MethodName} {ccY : ByteArray} {ret : Option FieldType} {rmY : Room} {v : Option Value}
theorem sw_callV (hx : p.tables.exec = Jvm.exec) (hb : c.code = cc) (hml : c.maxLocals = nL) (hown : s.vm.findClass own = some m.cls) (hts : ∀ w ∈ U, w.before args s = true) (mv : MV y ccY maxL ret n) (lk : Cond.methodLink own idx y ∈ U) (hcls : y.cls = "java/lang/String") (hM : SM l y ccY maxL ret rmY a t (.ref a :: As) v) (hF : SFA A a t s s.heap) (hS : va_S A s.heap H locs) (hn : As.length = n) (hsz : Ls.size = nL) (hst : (rest.map fun v => v.category).sum ≤ 8) (hrm : rmY.frames + 1 ≤ R.frames ∧ 8 + (maxL + 11) + rmY.locals ≤ R.locals ∧ rmY.cells = 0 ∧ rmY.slots = 0 ∧ cells ≤ R.cells ∧ slots ≤ R.slots) (d : decode cc pc = .ok (.invokevirtual idx, 3))
    (kk : ∀ (H1 : Heap) (locs1 : List Loc), (∀ q, q < H.size → H1[q]? = H[q]?) → va_S A s.heap H1 locs1 → W p l e R s m args below meth c H1 locs1 cells slots Q (F0 m (pc + 3) Ls (v.toList ++ rest))) : W p l e R s m args below meth c H locs cells slots Q (F0 m pc Ls (As.reverse ++ .ref a :: rest)) := by
  obtain ⟨v1, v2, v3, v4, v5⟩ := mv
  obtain ⟨r1, r2, r3, r4, r5, r6⟩ := hrm
  have hG : GoodIn U (Cond.code y ccY maxL ret :: U) := u_goodU (fun w hw => (List.mem_cons.mp hw).elim (fun q => q ▸ v4) id)
  have hpre : PreV s H y.cls a (PcS a t (.ref a :: As)) As := by
    refine ⟨PcS_blind, ?_, fun u hU hW => ⟨rfl, hF.call hS hU hW⟩⟩
    rw [hcls]
    exact vk_recv hF.1 (i := 0) (by decide) hS
  exact run_goS (va_runV (C := y.cls) (g := F0 m pc Ls _) ⟨hx, hb, hml, hown, hts⟩ hM ⟨callB_of n hts hG rfl r3 r4 (hts _ v3) (hts _ lk) v5 ⟨r1, r2⟩, hts _ v1, hts _ v2⟩ hpre rfl hn hsz rfl (lv_room hst) d ⟨r5, r6⟩) hS kk
theorem sw_callS (hx : p.tables.exec = Jvm.exec) (hb : c.code = cc) (hml : c.maxLocals = nL) (hown : s.vm.findClass own = some m.cls) (hts : ∀ w ∈ U, w.before args s = true) (mv : MS y ccY maxL ret n) (lk : Cond.methodLink own idx y ∈ U) (hM : SM l y ccY maxL ret rmY a t As v) (hF : SFA A a t s s.heap) (hS : va_S A s.heap H locs) (hn : As.length = n) (hsz : Ls.size = nL) (hst : (rest.map fun v => v.category).sum ≤ 8) (hrm : rmY.frames + 1 ≤ R.frames ∧ 8 + (maxL + 11) + rmY.locals ≤ R.locals ∧ rmY.cells = 0 ∧ rmY.slots = 0 ∧ cells ≤ R.cells ∧ slots ≤ R.slots) (d : decode cc pc = .ok (.invokestatic idx, 3))
    (kk : ∀ (H1 : Heap) (locs1 : List Loc), (∀ q, q < H.size → H1[q]? = H[q]?) → va_S A s.heap H1 locs1 → W p l e R s m args below meth c H1 locs1 cells slots Q (F0 m (pc + 3) Ls (v.toList ++ rest))) : W p l e R s m args below meth c H locs cells slots Q (F0 m pc Ls (As.reverse ++ rest)) := by
  obtain ⟨v1, v3, v4, v5⟩ := mv
  obtain ⟨r1, r2, r3, r4, r5, r6⟩ := hrm
  have hG : GoodIn U (Cond.code y ccY maxL ret :: U) := u_goodU (fun w hw => (List.mem_cons.mp hw).elim (fun q => q ▸ v4) id)
  have hpre : PreS s H (PcS a t As) As := ⟨PcS_blind, fun u hU hW => ⟨rfl, hF.call hS hU hW⟩⟩
  exact run_goS (va_runS (g := F0 m pc Ls _) ⟨hx, hb, hml, hown, hts⟩ hM ⟨callB_of n hts hG rfl r3 r4 (hts _ v3) (hts _ lk) v5 ⟨r1, r2⟩, hts _ v1⟩ hpre rfl hn hsz rfl (lv_room hst) d ⟨r5, r6⟩) hS kk
end SW
set_option maxRecDepth 100000 in
set_option maxHeartbeats 4000000 in
theorem s_pre (l : Launch) {a t : Nat} {k : Nat} (hk : k < 34) {w : Value} (hw : w.category = 1) : SM l yJ3_checkIndex_8e157 cJ3_checkIndex_8e157 3 (some .int) rmJ3_checkIndex_8e157 a t [.int (Int32.ofInt (k : Int)), .int 34, w] (some (.int (Int32.ofInt (k : Int)))) := by
  refine Met.ofW (cc := cJ3_checkIndex_8e157) (maxL := 3) (ret := (some .int)) (by decide +kernel) rfl ?_
  intro p e s m args below meth c s₁ B hml hv
  obtain ⟨rfl, hF⟩ := hv
  have hx := B.exec
  have hb := B.bytes
  have hr := B.returns
  have hts0 := atoms_spec (ws := Cond.code yJ3_checkIndex_8e157 cJ3_checkIndex_8e157 3 (some .int) :: U) B.pre
  have hts : ∀ w ∈ U, w.before _ s = true := fun w hw => hts0 w (List.mem_cons_of_mem _ hw)
  have hown : s.vm.findClass RJ3 = some m.cls := findClass_of_methodNamed B.named
  have hlocks := B.notSynchronized
  have hS : va_S NoA s.heap s.heap [] := va_S.rf
  obtain ⟨hK, hC, vF, hvF, hZF⟩ := id hF
  obtain ⟨k1, k2, k3, k4⟩ := hK.1 0 (by decide)
  have hl := lv_entry ([.int (Int32.ofInt (k : Int)), .int 34, w]) (n := 3) (by cases w <;> first | exact Nat.le_of_ble_eq_true rfl | exact absurd (show (2 : Nat) = 1 from hw) (by decide))
  rw [lg_entry_eq]
  generalize (lg_sl ([.int (Int32.ofInt (k : Int)), .int 34, w]) ++ List.replicate (3 - (lg_sl ([.int (Int32.ofInt (k : Int)), .int 34, w])).length) Slot.unset).toArray = ls at hl ⊢
  have hl : lv_has ls 3 [(0, .int (Int32.ofInt (k : Int))), (1, .int 34), (2, w)] := hl
  refine lv_iload_n hx hb dJ3_checkIndex_8e157_0 rfl (lv_at hl 0 rfl) ?_
  refine lv_if_lt hx hb dJ3_checkIndex_8e157_1 (tgt := 9) (by decide) (fun q => absurd ((i_lt (x := (k : Int)) (y := 0) (by omega) (by omega)).mp q) (by omega)) (fun _ => ?_)
  refine lv_iload_n hx hb dJ3_checkIndex_8e157_4 rfl (lv_at hl 0 rfl) ?_
  refine lv_iload_n hx hb dJ3_checkIndex_8e157_5 rfl (lv_at hl 1 rfl) ?_
  refine lv_icmp_lt hx hb dJ3_checkIndex_8e157_6 (tgt := 16) (by decide) (fun _ => ?_) (fun q => absurd ((i_lt (x := (k : Int)) (y := 34) (by omega) (by omega)).mpr (by omega)) q)
  refine lv_iload_n hx hb dJ3_checkIndex_8e157_16 rfl (lv_at hl 0 rfl) ?_
  exact W.iret hx hb hr (fun t ht hW => ⟨rfl, hS.F ht⟩) hS.2.2 dJ3_checkIndex_8e157_17 hlocks
set_option maxRecDepth 100000 in
set_option maxHeartbeats 4000000 in
theorem s_chk (l : Launch) {a t : Nat} {k : Nat} (hk : k < 34) : SM l yJ0_checkIndex_df160 cJ0_checkIndex_df160 2 none rmJ0_checkIndex_df160 a t [.int (Int32.ofInt (k : Int)), .int 34] none := by
  refine Met.ofW (cc := cJ0_checkIndex_df160) (maxL := 2) (ret := none) (by decide +kernel) rfl ?_
  intro p e s m args below meth c s₁ B hml hv
  obtain ⟨rfl, hF⟩ := hv
  have hx := B.exec
  have hb := B.bytes
  have hr := B.returns
  have hts0 := atoms_spec (ws := Cond.code yJ0_checkIndex_df160 cJ0_checkIndex_df160 2 none :: U) B.pre
  have hts : ∀ w ∈ U, w.before _ s = true := fun w hw => hts0 w (List.mem_cons_of_mem _ hw)
  have hown : s.vm.findClass RJ0 = some m.cls := findClass_of_methodNamed B.named
  have hlocks := B.notSynchronized
  have hS : va_S NoA s.heap s.heap [] := va_S.rf
  obtain ⟨hK, hC, vF, hvF, hZF⟩ := id hF
  obtain ⟨k1, k2, k3, k4⟩ := hK.1 0 (by decide)
  have hl := lv_entry ([.int (Int32.ofInt (k : Int)), .int 34]) (n := 2) (Nat.le_of_ble_eq_true rfl)
  rw [lg_entry_eq]
  generalize (lg_sl ([.int (Int32.ofInt (k : Int)), .int 34]) ++ List.replicate (2 - (lg_sl ([.int (Int32.ofInt (k : Int)), .int 34])).length) Slot.unset).toArray = ls at hl ⊢
  have hl : lv_has ls 2 [(0, .int (Int32.ofInt (k : Int))), (1, .int 34)] := hl
  refine lv_iload_n hx hb dJ0_checkIndex_df160_0 rfl (lv_at hl 0 rfl) ?_
  refine lv_iload_n hx hb dJ0_checkIndex_df160_1 rfl (lv_at hl 1 rfl) ?_
  refine va_gets hx hb hZF hS hown (hts _ fs_1053) (fun _ h => h) dJ0_checkIndex_df160_2 ?_
  refine sw_callS (As := [.int (Int32.ofInt (k : Int)), .int 34, vF]) (rest := []) (n := 3) hx hb hml hown hts ms_J3_checkIndex_8e157 ml_1059 (s_pre l hk hvF) hF hS rfl hl.1 (by decide) (by decide) dJ0_checkIndex_df160_5 (fun H1 locs1 hH hS => ?_)
  refine lv_pop hx hb dJ0_checkIndex_df160_8 rfl ?_
  exact W.vret hx hb hr (fun t ht hW => ⟨rfl, hS.F ht⟩) hS.2.2 dJ0_checkIndex_df160_9 hlocks
theorem chr_k : ∀ k, k < 34 → (((bytS.getD k 0) &&& 255).toUInt32 % 65536).toInt32 = Int32.ofInt ((fsL.getD k 0 : Nat) : Int) := by decide +kernel
theorem chr_n : ∀ k, k < 34 → narrow .char (.int (Int32.ofInt ((fsL.getD k 0 : Nat) : Int))) = .int (Int32.ofInt ((fsL.getD k 0 : Nat) : Int)) := by decide +kernel
set_option maxRecDepth 100000 in
set_option maxHeartbeats 4000000 in
theorem s_lch (l : Launch) {a t : Nat} {k : Nat} (hk : k < 34) : SM l yJ1_charAt_3b067 cJ1_charAt_3b067 2 (some .char) rmJ1_charAt_3b067 a t [.ref t, .int (Int32.ofInt (k : Int))] (some (.int (Int32.ofInt ((fsL.getD k 0 : Nat) : Int)))) := by
  refine Met.ofW (cc := cJ1_charAt_3b067) (maxL := 2) (ret := (some .char)) (by decide +kernel) rfl ?_
  intro p e s m args below meth c s₁ B hml hv
  obtain ⟨rfl, hF⟩ := hv
  have hx := B.exec
  have hb := B.bytes
  have hr := B.returns
  have hts0 := atoms_spec (ws := Cond.code yJ1_charAt_3b067 cJ1_charAt_3b067 2 (some .char) :: U) B.pre
  have hts : ∀ w ∈ U, w.before _ s = true := fun w hw => hts0 w (List.mem_cons_of_mem _ hw)
  have hown : s.vm.findClass RJ1 = some m.cls := findClass_of_methodNamed B.named
  have hlocks := B.notSynchronized
  have hS : va_S NoA s.heap s.heap [] := va_S.rf
  obtain ⟨hK, hC, vF, hvF, hZF⟩ := id hF
  obtain ⟨k1, k2, k3, k4⟩ := hK.1 0 (by decide)
  have hl := lv_entry ([.ref t, .int (Int32.ofInt (k : Int))]) (n := 2) (Nat.le_of_ble_eq_true rfl)
  rw [lg_entry_eq]
  generalize (lg_sl ([.ref t, .int (Int32.ofInt (k : Int))]) ++ List.replicate (2 - (lg_sl ([.ref t, .int (Int32.ofInt (k : Int))])).length) Slot.unset).toArray = ls at hl ⊢
  have hl : lv_has ls 2 [(0, .ref t), (1, .int (Int32.ofInt (k : Int)))] := hl
  refine lv_iload_n hx hb dJ1_charAt_3b067_0 rfl (lv_at hl 1 rfl) ?_
  refine lv_aload_n hx hb dJ1_charAt_3b067_1 rfl (lv_at hl 0 rfl) ?_
  refine va_tlen hx hb k4 hS (v := 34) rfl dJ1_charAt_3b067_2 ?_
  refine sw_callS (As := [.int (Int32.ofInt (k : Int)), .int 34]) (rest := []) (n := 2) hx hb hml hown hts ms_J0_checkIndex_df160 ml_9 (s_chk l hk) hF hS rfl hl.1 (by decide) (by decide) dJ1_charAt_3b067_3 (fun H1 locs1 hH hS => ?_)
  refine lv_aload_n hx hb dJ1_charAt_3b067_6 rfl (lv_at hl 0 rfl) ?_
  refine lv_iload_n hx hb dJ1_charAt_3b067_7 rfl (lv_at hl 1 rfl) ?_
  obtain ⟨g1, g2⟩ := i_in (x := (k : Int)) (n := 34) (by omega) (by decide)
  refine va_tb hx hb k4 hS (v := .int (bytS.getD k 0)) g1 (by rw [g2]; rfl) dJ1_charAt_3b067_8 ?_
  refine lv_sipush hx hb dJ1_charAt_3b067_9 (v := 255) (by decide +kernel) ?_
  refine lv_iand hx hb dJ1_charAt_3b067_12 ?_
  refine lv_i2c hx hb dJ1_charAt_3b067_13 (chr_k k hk) ?_
  exact W.zret (ty := .char) hx hb hr (chr_n k hk) (fun t ht hW => ⟨rfl, hS.F ht⟩) hS.2.2 dJ1_charAt_3b067_14 hlocks
set_option maxRecDepth 100000 in
set_option maxHeartbeats 4000000 in
theorem s_cod (l : Launch) {a t : Nat}  : SM l yJ0_coder_7d493 cJ0_coder_7d493 1 (some .byte) rmJ0_coder_7d493 a t [.ref a] (some (.int 0)) := by
  refine Met.ofW (cc := cJ0_coder_7d493) (maxL := 1) (ret := (some .byte)) (by decide +kernel) rfl ?_
  intro p e s m args below meth c s₁ B hml hv
  obtain ⟨rfl, hF⟩ := hv
  have hx := B.exec
  have hb := B.bytes
  have hr := B.returns
  have hts0 := atoms_spec (ws := Cond.code yJ0_coder_7d493 cJ0_coder_7d493 1 (some .byte) :: U) B.pre
  have hts : ∀ w ∈ U, w.before _ s = true := fun w hw => hts0 w (List.mem_cons_of_mem _ hw)
  have hown : s.vm.findClass RJ0 = some m.cls := findClass_of_methodNamed B.named
  have hlocks := B.notSynchronized
  have hS : va_S NoA s.heap s.heap [] := va_S.rf
  obtain ⟨hK, hC, vF, hvF, hZF⟩ := id hF
  obtain ⟨k1, k2, k3, k4⟩ := hK.1 0 (by decide)
  have hl := lv_entry ([.ref a]) (n := 1) (Nat.le_of_ble_eq_true rfl)
  rw [lg_entry_eq]
  generalize (lg_sl ([.ref a]) ++ List.replicate (1 - (lg_sl ([.ref a])).length) Slot.unset).toArray = ls at hl ⊢
  have hl : lv_has ls 1 [(0, .ref a)] := hl
  refine va_gets hx hb hC hS hown (hts _ fs_38) (fun _ h => h) dJ0_coder_7d493_0 ?_
  refine lv_if_eq hx hb dJ0_coder_7d493_3 (tgt := 13) (by decide) (fun q => absurd q (by decide)) (fun _ => ?_)
  refine lv_aload_n hx hb dJ0_coder_7d493_6 rfl (lv_at hl 0 rfl) ?_
  refine vk_getf hx hb k2 hS hown (hts _ fs_15) (fun _ h => h) dJ0_coder_7d493_7 ?_
  refine lv_goto hx hb dJ0_coder_7d493_10 (tgt := 14) (by decide) ?_
  exact W.zret (ty := .byte) hx hb hr (by decide +kernel) (fun t ht hW => ⟨rfl, hS.F ht⟩) hS.2.2 dJ0_coder_7d493_14 hlocks
set_option maxRecDepth 100000 in
set_option maxHeartbeats 4000000 in
theorem s_lat (l : Launch) {a t : Nat}  : SM l yJ0_isLatin1_aae02 cJ0_isLatin1_aae02 1 (some .boolean) rmJ0_isLatin1_aae02 a t [.ref a] (some (.int 1)) := by
  refine Met.ofW (cc := cJ0_isLatin1_aae02) (maxL := 1) (ret := (some .boolean)) (by decide +kernel) rfl ?_
  intro p e s m args below meth c s₁ B hml hv
  obtain ⟨rfl, hF⟩ := hv
  have hx := B.exec
  have hb := B.bytes
  have hr := B.returns
  have hts0 := atoms_spec (ws := Cond.code yJ0_isLatin1_aae02 cJ0_isLatin1_aae02 1 (some .boolean) :: U) B.pre
  have hts : ∀ w ∈ U, w.before _ s = true := fun w hw => hts0 w (List.mem_cons_of_mem _ hw)
  have hown : s.vm.findClass RJ0 = some m.cls := findClass_of_methodNamed B.named
  have hlocks := B.notSynchronized
  have hS : va_S NoA s.heap s.heap [] := va_S.rf
  obtain ⟨hK, hC, vF, hvF, hZF⟩ := id hF
  obtain ⟨k1, k2, k3, k4⟩ := hK.1 0 (by decide)
  have hl := lv_entry ([.ref a]) (n := 1) (Nat.le_of_ble_eq_true rfl)
  rw [lg_entry_eq]
  generalize (lg_sl ([.ref a]) ++ List.replicate (1 - (lg_sl ([.ref a])).length) Slot.unset).toArray = ls at hl ⊢
  have hl : lv_has ls 1 [(0, .ref a)] := hl
  refine va_gets hx hb hC hS hown (hts _ fs_38) (fun _ h => h) dJ0_isLatin1_aae02_0 ?_
  refine lv_if_eq hx hb dJ0_isLatin1_aae02_3 (tgt := 17) (by decide) (fun q => absurd q (by decide)) (fun _ => ?_)
  refine lv_aload_n hx hb dJ0_isLatin1_aae02_6 rfl (lv_at hl 0 rfl) ?_
  refine vk_getf hx hb k2 hS hown (hts _ fs_15) (fun _ h => h) dJ0_isLatin1_aae02_7 ?_
  refine lv_if_ne hx hb dJ0_isLatin1_aae02_10 (tgt := 17) (by decide) (fun q => absurd rfl q) (fun _ => ?_)
  refine lv_iconst (v := 1) hx hb dJ0_isLatin1_aae02_13 (by decide) ?_
  refine lv_goto hx hb dJ0_isLatin1_aae02_14 (tgt := 18) (by decide) ?_
  exact W.zret (ty := .boolean) hx hb hr (by decide +kernel) (fun t ht hW => ⟨rfl, hS.F ht⟩) hS.2.2 dJ0_isLatin1_aae02_18 hlocks
set_option maxRecDepth 100000 in
set_option maxHeartbeats 4000000 in
theorem s_len (l : Launch) {a t : Nat}  : SM l yJ0_length_8abf5 cJ0_length_8abf5 1 (some .int) rmJ0_length_8abf5 a t [.ref a] (some (.int 34)) := by
  refine Met.ofW (cc := cJ0_length_8abf5) (maxL := 1) (ret := (some .int)) (by decide +kernel) rfl ?_
  intro p e s m args below meth c s₁ B hml hv
  obtain ⟨rfl, hF⟩ := hv
  have hx := B.exec
  have hb := B.bytes
  have hr := B.returns
  have hts0 := atoms_spec (ws := Cond.code yJ0_length_8abf5 cJ0_length_8abf5 1 (some .int) :: U) B.pre
  have hts : ∀ w ∈ U, w.before _ s = true := fun w hw => hts0 w (List.mem_cons_of_mem _ hw)
  have hown : s.vm.findClass RJ0 = some m.cls := findClass_of_methodNamed B.named
  have hlocks := B.notSynchronized
  have hS : va_S NoA s.heap s.heap [] := va_S.rf
  obtain ⟨hK, hC, vF, hvF, hZF⟩ := id hF
  obtain ⟨k1, k2, k3, k4⟩ := hK.1 0 (by decide)
  have hl := lv_entry ([.ref a]) (n := 1) (Nat.le_of_ble_eq_true rfl)
  rw [lg_entry_eq]
  generalize (lg_sl ([.ref a]) ++ List.replicate (1 - (lg_sl ([.ref a])).length) Slot.unset).toArray = ls at hl ⊢
  have hl : lv_has ls 1 [(0, .ref a)] := hl
  refine lv_aload_n hx hb dJ0_length_8abf5_0 rfl (lv_at hl 0 rfl) ?_
  refine vk_getf hx hb k3 hS hown (hts _ fs_9) (fun _ h => h) dJ0_length_8abf5_1 ?_
  refine va_tlen hx hb k4 hS (v := 34) rfl dJ0_length_8abf5_4 ?_
  refine lv_aload_n hx hb dJ0_length_8abf5_5 rfl (lv_at hl 0 rfl) ?_
  refine sw_callV (As := []) (rest := [.int 34]) (n := 0) hx hb hml hown hts mv_J0_coder_7d493 ml_335 rfl (s_cod l) hF hS rfl hl.1 (by decide) (by decide) dJ0_length_8abf5_6 (fun H1 locs1 hH hS => ?_)
  refine lv_ishr hx hb dJ0_length_8abf5_9 ?_
  exact W.iret hx hb hr (fun t ht hW => ⟨rfl, hS.F ht⟩) hS.2.2 dJ0_length_8abf5_10 hlocks
set_option maxRecDepth 100000 in
set_option maxHeartbeats 4000000 in
theorem s_chr (l : Launch) {a t : Nat} {k : Nat} (hk : k < 34) : SM l yJ0_charAt_5068e cJ0_charAt_5068e 2 (some .char) rmJ0_charAt_5068e a t [.ref a, .int (Int32.ofInt (k : Int))] (some (.int (Int32.ofInt ((fsL.getD k 0 : Nat) : Int)))) := by
  refine Met.ofW (cc := cJ0_charAt_5068e) (maxL := 2) (ret := (some .char)) (by decide +kernel) rfl ?_
  intro p e s m args below meth c s₁ B hml hv
  obtain ⟨rfl, hF⟩ := hv
  have hx := B.exec
  have hb := B.bytes
  have hr := B.returns
  have hts0 := atoms_spec (ws := Cond.code yJ0_charAt_5068e cJ0_charAt_5068e 2 (some .char) :: U) B.pre
  have hts : ∀ w ∈ U, w.before _ s = true := fun w hw => hts0 w (List.mem_cons_of_mem _ hw)
  have hown : s.vm.findClass RJ0 = some m.cls := findClass_of_methodNamed B.named
  have hlocks := B.notSynchronized
  have hS : va_S NoA s.heap s.heap [] := va_S.rf
  obtain ⟨hK, hC, vF, hvF, hZF⟩ := id hF
  obtain ⟨k1, k2, k3, k4⟩ := hK.1 0 (by decide)
  have hl := lv_entry ([.ref a, .int (Int32.ofInt (k : Int))]) (n := 2) (Nat.le_of_ble_eq_true rfl)
  rw [lg_entry_eq]
  generalize (lg_sl ([.ref a, .int (Int32.ofInt (k : Int))]) ++ List.replicate (2 - (lg_sl ([.ref a, .int (Int32.ofInt (k : Int))])).length) Slot.unset).toArray = ls at hl ⊢
  have hl : lv_has ls 2 [(0, .ref a), (1, .int (Int32.ofInt (k : Int)))] := hl
  refine lv_aload_n hx hb dJ0_charAt_5068e_0 rfl (lv_at hl 0 rfl) ?_
  refine sw_callV (As := []) (rest := []) (n := 0) hx hb hml hown hts mv_J0_isLatin1_aae02 ml_492 rfl (s_lat l) hF hS rfl hl.1 (by decide) (by decide) dJ0_charAt_5068e_1 (fun H1 locs1 hH hS => ?_)
  refine lv_if_eq hx hb dJ0_charAt_5068e_4 (tgt := 16) (by decide) (fun q => absurd q (by decide)) (fun _ => ?_)
  refine lv_aload_n hx hb dJ0_charAt_5068e_7 rfl (lv_at hl 0 rfl) ?_
  refine vk_getf hx hb k3 hS hown (hts _ fs_9) (fun _ h => h) dJ0_charAt_5068e_8 ?_
  refine lv_iload_n hx hb dJ0_charAt_5068e_11 rfl (lv_at hl 1 rfl) ?_
  refine sw_callS (As := [.ref t, .int (Int32.ofInt (k : Int))]) (rest := []) (n := 2) hx hb hml hown hts ms_J1_charAt_3b067 ml_495 (s_lch l hk) hF hS rfl hl.1 (by decide) (by decide) dJ0_charAt_5068e_12 (fun H1 locs1 hH hS => ?_)
  exact W.zret (ty := .char) hx hb hr (chr_n k hk) (fun t ht hW => ⟨rfl, hS.F ht⟩) hS.2.2 dJ0_charAt_5068e_15 hlocks
