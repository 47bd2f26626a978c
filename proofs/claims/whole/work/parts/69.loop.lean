/-! THE CLAIM OUT OF ONE WALK OF THE LAW'S BODY. Your part is whole_start (and what it stands on); all else here is the same for every law, but numbers. -/
def R_law : String := "HungInStormLaw"
def lw_P (b : Addr) (xs : List Int32) (args : Array Value) (s : State) : Prop := args = #[.ref b] ∧ s.IntsAt b xs ∧ xs.length ≤ 384 ∧ (Jvm.Cond.and given_1 narrow_1).before args s = true
def lw_Q (_ : Array Value) (s : State) (o : Outcome) (t : State) : Prop := o = .returned (some (.int 1)) ∧ Framed s o t [] 600000 7302250
def lw_Z (below : List Frame) (a : Array Value) (s : State) : State → Prop := fun t => ∃ o, t.status = .running ∧ Ended t below o ∧ lw_Q a s o t
/-- the law's own end, with 1 on the stack, nothing written that was there before, its room as the claim has it -/
theorem lw_ret {p : Program} {l : Launch} {e : Env} {s : State} {m : MethodId} {below : List Frame} {meth : Method} {c : Code} {b : Nat} (hx : p.tables.exec = Jvm.exec) (hb : c.code = code) (hr : meth.sig.returnType = ret) (hlocks : meth.locks = false) {pc : Nat} {H : Heap} {ls : Array Slot} (hdg : decode code pc = .ok (.ireturn, 1)) : W p l e room_1 s m #[Value.ref b] below meth c H [] 600000 7302250 (lw_Z below #[Value.ref b] s) (F0 m pc ls [.int 1]) := by
  intro T hT X
  obtain ⟨fs, hret, hrun, hended, hW, hframe⟩ := X.leave (v := some (.int 1)) (hlocks := hlocks) (fun h => by rw [hr] at h; cases h)
  have hmeth' : T.vm.method? m = some meth := X.method'
  refine ⟨T.setFrames fs, ?_, .returned (some (.int 1)), hrun, hended, rfl, ⟨_, rfl⟩, hW, hframe⟩
  jvm_step X.here [X.here.top, hx, hb, hdg, hmeth', hr, ret, narrow_b1]
  (try refine ⟨rfl, ?_⟩); (try refine ⟨rfl, ?_⟩)
  first | (intro acts; rw [hret _ acts rfl rfl rfl]) | rw [hret _ _ rfl rfl rfl]
  exact Steps.refl _
/-- what holds at the law's entry: the machine, the code, the tables' words (any of lw_tbl by 'hts w (by decide +kernel)'), the script of L ints xs at the cell b, what the Statement gives of the start (any of its parts by flat_of_before) -/
def lw_At (p : Program) (s : State) (m : MethodId) (meth : Method) (c : Code) (b L : Nat) (xs : Nat → Int32) : Prop :=
  p.tables.exec = Jvm.exec ∧ c.code = code ∧ meth.sig.returnType = ret ∧ c.maxLocals = 4 ∧ s.vm.findClass R_law = some m.cls ∧ (∀ w ∈ lw_tbl, w.before #[Value.ref b] s = true) ∧ va_X b L xs s s.heap ∧ b < s.heap.size ∧ meth.locks = false ∧ (Jvm.Cond.and given_1 narrow_1).before #[Value.ref b] s = true

set_option maxRecDepth 100000 in
set_option maxHeartbeats 4000000 in
theorem law_loop {κ : KT} {ad : Nat → Nat} {cs : Nat × Nat} {Q : State → Prop} {L : Nat} {xs : Nat → Int32} (h : Ok κ RL cL_law 4 room_1) (hs : Sc κ (ad 200) L xs) (hL : L ≤ 384) (hcs : cs.1 ≤ room_1.cells ∧ cs.2 ≤ room_1.slots) (kx : ∀ (M : Mem) (i : Nat), E κ ad 139 pT M 989 [some (vr 200), some (vr 0), some (vr 110), some (vi (i : Int))] [] cs Q) : ∀ (m i : Nat) (M : Mem), LI M → i ≤ 400 → L < i + m → E κ ad 139 pT M 18 [some (vr 200), some (vr 0), some (vr 110), some (vi (i : Int))] [] cs Q := by
  intro m
  induction m with
  | zero =>
    intro i M hI hi4 hm
    refine e_iload_n h dL_law_18 rfl ?_
    refine e_aload_n h dL_law_19 rfl ?_
    refine e_slen h hs dL_law_20 ?_
    refine e_bipush h dL_law_21 (by decide +kernel) ?_
    refine e_isub h dL_law_23 ?_
    exact e_icmp_gt h (tgt := 989) dL_law_24 (by decide) (by omega) (by omega) (fun _ => kx M i) (fun hq => absurd hq (by omega))
  | succ m ih =>
    intro i M hI hi4 hm
    refine e_iload_n h dL_law_18 rfl ?_
    refine e_aload_n h dL_law_19 rfl ?_
    refine e_slen h hs dL_law_20 ?_
    refine e_bipush h dL_law_21 (by decide +kernel) ?_
    refine e_isub h dL_law_23 ?_
    refine e_icmp_gt h (tgt := 989) dL_law_24 (by decide) (by omega) (by omega) (fun _ => kx M i) (fun hq => ?_)
    have hi6 : i + 6 ≤ L := by omega
    have next : ∀ M2 : Mem, LI M2 → E κ ad 139 pT M2 983 [some (vr 200), some (vr 0), some (vr 110), some (vi (i : Int))] [] cs Q := fun M2 hI2 => by
      refine e_iinc3 h dL_law_983 (by decide) rfl ?_
      refine e_goto h dL_law_986 (tgt := 18) (by decide) ?_
      rw [show (i : Int) + 6 = ((i + 6 : Nat) : Int) by omega]
      exact ih (i + 6) M2 hI2 (by omega) (by omega)
    refine e_aload_n h dL_law_27 rfl ?_
    refine e_iload_n h dL_law_28 rfl ?_
    refine e_sld (j := i) h hs dL_law_29 rfl (by omega) hL ?_
    refine e_bipush h dL_law_30 (by decide +kernel) ?_
    obtain ⟨q, hq32, hqe⟩ := pk_andE (xs i) (m := 31) 5 (by decide)
    refine e_iand h dL_law_32 (z := (q : Int)) (by rw [i_back]; exact hqe.trans Int32.ofInt_eq_ofNat.symm) ?_
    rcases (show q = 0 ∨ q = 1 ∨ q = 2 ∨ q = 3 ∨ q = 4 ∨ q = 5 ∨ q = 6 ∨ q = 7 ∨ q = 8 ∨ q = 9 ∨ q = 10 ∨ q = 11 ∨ q = 12 ∨ q = 13 ∨ q = 14 ∨ q = 15 ∨ q = 16 ∨ q = 17 ∨ q = 18 ∨ q = 19 ∨ q = 20 ∨ q = 21 ∨ q = 22 ∨ q = 23 ∨ 24 ≤ q by omega) with hqk | hqk | hqk | hqk | hqk | hqk | hqk | hqk | hqk | hqk | hqk | hqk | hqk | hqk | hqk | hqk | hqk | hqk | hqk | hqk | hqk | hqk | hqk | hqk | hqk
    · refine e_tabV h dL_law_33 (v := 0) (by omega) (by decide) (by decide) (off := 111) (by decide +kernel) (tgt := 144) (by decide) ?_
      exact lc_write h hs hL hi6 hcs hI next
    · refine e_tabV h dL_law_33 (v := 1) (by omega) (by decide) (by decide) (off := 174) (by decide +kernel) (tgt := 207) (by decide) ?_
      exact lc_wipe h hs hL hi6 hcs hI next
    · refine e_tabV h dL_law_33 (v := 2) (by omega) (by decide) (by decide) (off := 187) (by decide +kernel) (tgt := 220) (by decide) ?_
      exact lc_fault h hs hL hi6 hcs hI next
    · refine e_tabV h dL_law_33 (v := 3) (by omega) (by decide) (by decide) (off := 200) (by decide +kernel) (tgt := 233) (by decide) ?_
      exact lc_lay h hs hL hi6 hcs hI next
    · refine e_tabV h dL_law_33 (v := 4) (by omega) (by decide) (by decide) (off := 213) (by decide +kernel) (tgt := 246) (by decide) ?_
      exact lc_level h hs hL hi6 hcs hI next
    · refine e_tabV h dL_law_33 (v := 5) (by omega) (by decide) (by decide) (off := 246) (by decide +kernel) (tgt := 279) (by decide) ?_
      exact lc_town h hs hL hi6 hcs hI next
    · refine e_tabV h dL_law_33 (v := 6) (by omega) (by decide) (by decide) (off := 289) (by decide +kernel) (tgt := 322) (by decide) ?_
      exact lc_lost h hs hL hi6 hcs hI next
    · refine e_tabV h dL_law_33 (v := 7) (by omega) (by decide) (by decide) (off := 312) (by decide +kernel) (tgt := 345) (by decide) ?_
      exact lc_meet h hs hL hi6 hcs hI next
    · refine e_tabV h dL_law_33 (v := 8) (by omega) (by decide) (by decide) (off := 345) (by decide +kernel) (tgt := 378) (by decide) ?_
      exact lc_markets h hs hL hi6 hcs hI next
    · refine e_tabV h dL_law_33 (v := 9) (by omega) (by decide) (by decide) (off := 368) (by decide +kernel) (tgt := 401) (by decide) ?_
      exact lc_stay h hs hL hi6 hcs hI next
    · refine e_tabV h dL_law_33 (v := 10) (by omega) (by decide) (by decide) (off := 411) (by decide +kernel) (tgt := 444) (by decide) ?_
      exact lc_catches h hs hL hi6 hcs hI next
    · refine e_tabV h dL_law_33 (v := 11) (by omega) (by decide) (by decide) (off := 454) (by decide +kernel) (tgt := 487) (by decide) ?_
      exact lc_keeps h hs hL hi6 hcs hI next
    · refine e_tabV h dL_law_33 (v := 12) (by omega) (by decide) (by decide) (off := 497) (by decide +kernel) (tgt := 530) (by decide) ?_
      exact lc_trades h hs hL hi6 hcs hI next
    · refine e_tabV h dL_law_33 (v := 13) (by omega) (by decide) (by decide) (off := 540) (by decide +kernel) (tgt := 573) (by decide) ?_
      exact lc_dropped h hs hL hi6 hcs hI next
    · refine e_tabV h dL_law_33 (v := 14) (by omega) (by decide) (by decide) (off := 593) (by decide +kernel) (tgt := 626) (by decide) ?_
      exact lc_seen h hs hL hi6 hcs hI next
    · refine e_tabV h dL_law_33 (v := 15) (by omega) (by decide) (by decide) (off := 636) (by decide +kernel) (tgt := 669) (by decide) ?_
      exact lc_seenTwice h hs hL hi6 hcs hI next
    · refine e_tabV h dL_law_33 (v := 16) (by omega) (by decide) (by decide) (off := 699) (by decide +kernel) (tgt := 732) (by decide) ?_
      exact lc_gusts h hs hL hi6 hcs hI next
    · refine e_tabV h dL_law_33 (v := 17) (by omega) (by decide) (by decide) (off := 763) (by decide +kernel) (tgt := 796) (by decide) ?_
      exact lc_errand h hs hL hi6 hcs hI next
    · refine e_tabV h dL_law_33 (v := 18) (by omega) (by decide) (by decide) (off := 822) (by decide +kernel) (tgt := 855) (by decide) ?_
      exact lc_fill h hs hL hi6 hcs hI next
    · refine e_tabV h dL_law_33 (v := 19) (by omega) (by decide) (by decide) (off := 855) (by decide +kernel) (tgt := 888) (by decide) ?_
      exact lc_undo h hs hL hi6 hcs hI next
    · refine e_tabV h dL_law_33 (v := 20) (by omega) (by decide) (by decide) (off := 868) (by decide +kernel) (tgt := 901) (by decide) ?_
      exact lc_year h hs hL hi6 hcs hI next
    · refine e_tabV h dL_law_33 (v := 21) (by omega) (by decide) (by decide) (off := 901) (by decide +kernel) (tgt := 934) (by decide) ?_
      exact lc_keep h hs hL hi6 hcs hI next
    · refine e_tabV h dL_law_33 (v := 22) (by omega) (by decide) (by decide) (off := 914) (by decide +kernel) (tgt := 947) (by decide) ?_
      exact lc_back h hs hL hi6 hcs hI next
    · refine e_tabV h dL_law_33 (v := 23) (by omega) (by decide) (by decide) (off := 927) (by decide +kernel) (tgt := 960) (by decide) ?_
      exact lc_count h hs hL hi6 hcs hI next
    · refine e_tabOut h dL_law_33 (by omega) (by omega) (tgt := 983) (by decide) ?_
      exact next M hI
