set_option maxRecDepth 100000 in
set_option maxHeartbeats 4000000 in
theorem lc_seen {κ : KT} {ad : Nat → Nat} {M : Mem} {cs : Nat × Nat} {Q : State → Prop} {L i : Nat} {xs : Nat → Int32} (h : Ok κ RL cL_law 4 room_1) (hs : Sc κ (ad 200) L xs) (hL : L ≤ 384) (hi : i + 6 ≤ L) (hcs : cs.1 ≤ room_1.cells ∧ cs.2 ≤ room_1.slots) (hI : LI M) (kk : ∀ M2 : Mem, LI M2 → E κ ad 139 pT M2 983 [some (vr 200), some (vr 0), some (vr 110), some (vi (i : Int))] [] cs Q) : E κ ad 139 pT M 626 [some (vr 200), some (vr 0), some (vr 110), some (vi (i : Int))] [] cs Q := by
  obtain ⟨so, dr, n, b, S, O, h0, f, g, z, K, hC, hM⟩ := hI
  have hT := hC.ws.2.1
  refine e_aload_n h dL_law_626 rfl ?_
  refine e_aload_n h dL_law_627 rfl ?_
  refine e_iload_n h dL_law_628 rfl ?_
  refine e_iconst h dL_law_629 ?_
  refine e_iadd h dL_law_630 ?_
  refine e_sld (j := i + 1) h hs dL_law_631 (by omega) (by omega) hL ?_
  refine e_aload_n h dL_law_632 rfl ?_
  refine e_iload_n h dL_law_633 rfl ?_
  refine e_iconst h dL_law_634 ?_
  refine e_iadd h dL_law_635 ?_
  refine e_sld (j := i + 2) h hs dL_law_636 (by omega) (by omega) hL ?_
  refine e_aload_n h dL_law_637 rfl ?_
  refine e_iload_n h dL_law_638 rfl ?_
  refine e_iconst h dL_law_639 ?_
  refine e_iadd h dL_law_640 ?_
  refine e_sld (j := i + 3) h hs dL_law_641 (by omega) (by omega) hL ?_
  refine e_callV3 lk_L_77 mv_X10_seen dL_law_642 rfl (by decide) (by decide) (Nat.le_of_ble_eq_true rfl) (rmY := rmX10_seen) ⟨by decide, by decide, rfl, rfl, hcs.1, hcs.2⟩ h ?_
  refine c_seen (Nat.le_of_ble_eq_true rfl) hC (xr _) (xr _) (xr _) (fun kc => ?_) (fun xc yc nc vc e1c e2c e3c e4c e5c e6c evc => ?_)
  · refine e_aload_n h dL_law_645 rfl ?_
    refine e_aload_n h dL_law_646 rfl ?_
    refine e_iload_n h dL_law_647 rfl ?_
    refine e_iconst h dL_law_648 ?_
    refine e_iadd h dL_law_649 ?_
    refine e_sld (j := i + 1) h hs dL_law_650 (by omega) (by omega) hL ?_
    refine e_aload_n h dL_law_651 rfl ?_
    refine e_iload_n h dL_law_652 rfl ?_
    refine e_iconst h dL_law_653 ?_
    refine e_iadd h dL_law_654 ?_
    refine e_sld (j := i + 2) h hs dL_law_655 (by omega) (by omega) hL ?_
    refine e_aload_n h dL_law_656 rfl ?_
    refine e_iload_n h dL_law_657 rfl ?_
    refine e_iconst h dL_law_658 ?_
    refine e_iadd h dL_law_659 ?_
    refine e_sld (j := i + 3) h hs dL_law_660 (by omega) (by omega) hL ?_
    refine e_callV3 lk_L_80 mv_X11_seen dL_law_661 rfl (by decide) (by decide) (Nat.le_of_ble_eq_true rfl) (rmY := rmX11_seen) ⟨by decide, by decide, rfl, rfl, hcs.1, hcs.2⟩ h ?_
    refine m_seen (Nat.le_of_ble_eq_true rfl) hM (xr _) (xr _) (xr _) (fun km => ?_) (fun xm ym nm vm e1m e2m e3m e4m e5m e6m evm => ?_)
    · refine e_icmp_eqs h dL_law_664 (tgt := 983) (by decide) rfl ?_
      exact kk _ ⟨_, _, _, _, _, _, _, _, _, _, _, hC, hM⟩
    · exfalso
      omega
  · refine e_aload_n h dL_law_645 rfl ?_
    refine e_aload_n h dL_law_646 rfl ?_
    refine e_iload_n h dL_law_647 rfl ?_
    refine e_iconst h dL_law_648 ?_
    refine e_iadd h dL_law_649 ?_
    refine e_sld (j := i + 1) h hs dL_law_650 (by omega) (by omega) hL ?_
    refine e_aload_n h dL_law_651 rfl ?_
    refine e_iload_n h dL_law_652 rfl ?_
    refine e_iconst h dL_law_653 ?_
    refine e_iadd h dL_law_654 ?_
    refine e_sld (j := i + 2) h hs dL_law_655 (by omega) (by omega) hL ?_
    refine e_aload_n h dL_law_656 rfl ?_
    refine e_iload_n h dL_law_657 rfl ?_
    refine e_iconst h dL_law_658 ?_
    refine e_iadd h dL_law_659 ?_
    refine e_sld (j := i + 3) h hs dL_law_660 (by omega) (by omega) hL ?_
    refine e_callV3 lk_L_80 mv_X11_seen dL_law_661 rfl (by decide) (by decide) (Nat.le_of_ble_eq_true rfl) (rmY := rmX11_seen) ⟨by decide, by decide, rfl, rfl, hcs.1, hcs.2⟩ h ?_
    refine m_seen (Nat.le_of_ble_eq_true rfl) hM (xr _) (xr _) (xr _) (fun km => ?_) (fun xm ym nm vm e1m e2m e3m e4m e5m e6m evm => ?_)
    · exfalso
      omega
    · obtain rfl : xm = xc := by omega
      obtain rfl : ym = yc := by omega
      obtain rfl : nm = nc := by omega
      refine e_icmp_eqs h dL_law_664 (tgt := 983) (by decide) (by rw [evc, evm]) ?_
      exact kk _ ⟨_, _, _, _, _, _, _, _, _, _, _, hC, hM⟩
set_option maxRecDepth 100000 in
set_option maxHeartbeats 4000000 in
theorem lc_seenTwice {κ : KT} {ad : Nat → Nat} {M : Mem} {cs : Nat × Nat} {Q : State → Prop} {L i : Nat} {xs : Nat → Int32} (h : Ok κ RL cL_law 4 room_1) (hs : Sc κ (ad 200) L xs) (hL : L ≤ 384) (hi : i + 6 ≤ L) (hcs : cs.1 ≤ room_1.cells ∧ cs.2 ≤ room_1.slots) (hI : LI M) (kk : ∀ M2 : Mem, LI M2 → E κ ad 139 pT M2 983 [some (vr 200), some (vr 0), some (vr 110), some (vi (i : Int))] [] cs Q) : E κ ad 139 pT M 669 [some (vr 200), some (vr 0), some (vr 110), some (vi (i : Int))] [] cs Q := by
  obtain ⟨so, dr, n, b, S, O, h0, f, g, z, K, hC, hM⟩ := hI
  have hT := hC.ws.2.1
  refine e_aload_n h dL_law_669 rfl ?_
  refine e_aload_n h dL_law_670 rfl ?_
  refine e_iload_n h dL_law_671 rfl ?_
  refine e_iconst h dL_law_672 ?_
  refine e_iadd h dL_law_673 ?_
  refine e_sld (j := i + 1) h hs dL_law_674 (by omega) (by omega) hL ?_
  refine e_aload_n h dL_law_675 rfl ?_
  refine e_iload_n h dL_law_676 rfl ?_
  refine e_iconst h dL_law_677 ?_
  refine e_iadd h dL_law_678 ?_
  refine e_sld (j := i + 2) h hs dL_law_679 (by omega) (by omega) hL ?_
  refine e_aload_n h dL_law_680 rfl ?_
  refine e_iload_n h dL_law_681 rfl ?_
  refine e_iconst h dL_law_682 ?_
  refine e_iadd h dL_law_683 ?_
  refine e_sld (j := i + 3) h hs dL_law_684 (by omega) (by omega) hL ?_
  refine e_aload_n h dL_law_685 rfl ?_
  refine e_iload_n h dL_law_686 rfl ?_
  refine e_iconst h dL_law_687 ?_
  refine e_iadd h dL_law_688 ?_
  refine e_sld (j := i + 4) h hs dL_law_689 (by omega) (by omega) hL ?_
  refine e_aload_n h dL_law_690 rfl ?_
  refine e_iload_n h dL_law_691 rfl ?_
  refine e_iconst h dL_law_692 ?_
  refine e_iadd h dL_law_693 ?_
  refine e_sld (j := i + 5) h hs dL_law_694 (by omega) (by omega) hL ?_
  refine e_callV5 lk_L_81 mv_X10_seenTwice dL_law_695 rfl (by decide) (by decide) (Nat.le_of_ble_eq_true rfl) (rmY := rmX10_seenTwice) ⟨by decide, by decide, rfl, rfl, hcs.1, hcs.2⟩ h ?_
  refine c_seenTwice (Nat.le_of_ble_eq_true rfl) hC (xr _) (xr _) (xr _) (xr _) (xr _) (fun kc => ?_) (fun xc yc nc pc qc vc e1c e2c e3c e4c e5c e6c e7c e8c e9c e10c evc => ?_)
  · refine e_aload_n h dL_law_698 rfl ?_
    refine e_aload_n h dL_law_699 rfl ?_
    refine e_iload_n h dL_law_700 rfl ?_
    refine e_iconst h dL_law_701 ?_
    refine e_iadd h dL_law_702 ?_
    refine e_sld (j := i + 1) h hs dL_law_703 (by omega) (by omega) hL ?_
    refine e_aload_n h dL_law_704 rfl ?_
    refine e_iload_n h dL_law_705 rfl ?_
    refine e_iconst h dL_law_706 ?_
    refine e_iadd h dL_law_707 ?_
    refine e_sld (j := i + 2) h hs dL_law_708 (by omega) (by omega) hL ?_
    refine e_aload_n h dL_law_709 rfl ?_
    refine e_iload_n h dL_law_710 rfl ?_
    refine e_iconst h dL_law_711 ?_
    refine e_iadd h dL_law_712 ?_
    refine e_sld (j := i + 3) h hs dL_law_713 (by omega) (by omega) hL ?_
    refine e_aload_n h dL_law_714 rfl ?_
    refine e_iload_n h dL_law_715 rfl ?_
    refine e_iconst h dL_law_716 ?_
    refine e_iadd h dL_law_717 ?_
    refine e_sld (j := i + 4) h hs dL_law_718 (by omega) (by omega) hL ?_
    refine e_aload_n h dL_law_719 rfl ?_
    refine e_iload_n h dL_law_720 rfl ?_
    refine e_iconst h dL_law_721 ?_
    refine e_iadd h dL_law_722 ?_
    refine e_sld (j := i + 5) h hs dL_law_723 (by omega) (by omega) hL ?_
    refine e_callV5 lk_L_85 mv_X11_seenTwice dL_law_724 rfl (by decide) (by decide) (Nat.le_of_ble_eq_true rfl) (rmY := rmX11_seenTwice) ⟨by decide, by decide, rfl, rfl, hcs.1, hcs.2⟩ h ?_
    refine m_seenTwice (Nat.le_of_ble_eq_true rfl) hM (xr _) (xr _) (xr _) (xr _) (xr _) (fun km => ?_) (fun xm ym nm pm qm vm e1m e2m e3m e4m e5m e6m e7m e8m e9m e10m evm => ?_)
    · refine e_icmp_eqs h dL_law_727 (tgt := 983) (by decide) rfl ?_
      exact kk _ ⟨_, _, _, _, _, _, _, _, _, _, _, hC, hM⟩
    · exfalso
      omega
  · refine e_aload_n h dL_law_698 rfl ?_
    refine e_aload_n h dL_law_699 rfl ?_
    refine e_iload_n h dL_law_700 rfl ?_
    refine e_iconst h dL_law_701 ?_
    refine e_iadd h dL_law_702 ?_
    refine e_sld (j := i + 1) h hs dL_law_703 (by omega) (by omega) hL ?_
    refine e_aload_n h dL_law_704 rfl ?_
    refine e_iload_n h dL_law_705 rfl ?_
    refine e_iconst h dL_law_706 ?_
    refine e_iadd h dL_law_707 ?_
    refine e_sld (j := i + 2) h hs dL_law_708 (by omega) (by omega) hL ?_
    refine e_aload_n h dL_law_709 rfl ?_
    refine e_iload_n h dL_law_710 rfl ?_
    refine e_iconst h dL_law_711 ?_
    refine e_iadd h dL_law_712 ?_
    refine e_sld (j := i + 3) h hs dL_law_713 (by omega) (by omega) hL ?_
    refine e_aload_n h dL_law_714 rfl ?_
    refine e_iload_n h dL_law_715 rfl ?_
    refine e_iconst h dL_law_716 ?_
    refine e_iadd h dL_law_717 ?_
    refine e_sld (j := i + 4) h hs dL_law_718 (by omega) (by omega) hL ?_
    refine e_aload_n h dL_law_719 rfl ?_
    refine e_iload_n h dL_law_720 rfl ?_
    refine e_iconst h dL_law_721 ?_
    refine e_iadd h dL_law_722 ?_
    refine e_sld (j := i + 5) h hs dL_law_723 (by omega) (by omega) hL ?_
    refine e_callV5 lk_L_85 mv_X11_seenTwice dL_law_724 rfl (by decide) (by decide) (Nat.le_of_ble_eq_true rfl) (rmY := rmX11_seenTwice) ⟨by decide, by decide, rfl, rfl, hcs.1, hcs.2⟩ h ?_
    refine m_seenTwice (Nat.le_of_ble_eq_true rfl) hM (xr _) (xr _) (xr _) (xr _) (xr _) (fun km => ?_) (fun xm ym nm pm qm vm e1m e2m e3m e4m e5m e6m e7m e8m e9m e10m evm => ?_)
    · exfalso
      omega
    · obtain rfl : xm = xc := by omega
      obtain rfl : ym = yc := by omega
      obtain rfl : nm = nc := by omega
      obtain rfl : pm = pc := by omega
      obtain rfl : qm = qc := by omega
      refine e_icmp_eqs h dL_law_727 (tgt := 983) (by decide) (by rw [evc, evm]) ?_
      exact kk _ ⟨_, _, _, _, _, _, _, _, _, _, _, hC, hM⟩
set_option maxRecDepth 100000 in
set_option maxHeartbeats 4000000 in
theorem lc_gusts {κ : KT} {ad : Nat → Nat} {M : Mem} {cs : Nat × Nat} {Q : State → Prop} {L i : Nat} {xs : Nat → Int32} (h : Ok κ RL cL_law 4 room_1) (hs : Sc κ (ad 200) L xs) (hL : L ≤ 384) (hi : i + 6 ≤ L) (hcs : cs.1 ≤ room_1.cells ∧ cs.2 ≤ room_1.slots) (hI : LI M) (kk : ∀ M2 : Mem, LI M2 → E κ ad 139 pT M2 983 [some (vr 200), some (vr 0), some (vr 110), some (vi (i : Int))] [] cs Q) : E κ ad 139 pT M 732 [some (vr 200), some (vr 0), some (vr 110), some (vi (i : Int))] [] cs Q := by
  obtain ⟨so, dr, n, b, S, O, h0, f, g, z, K, hC, hM⟩ := hI
  have hT := hC.ws.2.1
  refine e_aload_n h dL_law_732 rfl ?_
  refine e_aload_n h dL_law_733 rfl ?_
  refine e_iload_n h dL_law_734 rfl ?_
  refine e_iconst h dL_law_735 ?_
  refine e_iadd h dL_law_736 ?_
  refine e_sld (j := i + 1) h hs dL_law_737 (by omega) (by omega) hL ?_
  refine e_aload_n h dL_law_738 rfl ?_
  refine e_iload_n h dL_law_739 rfl ?_
  refine e_iconst h dL_law_740 ?_
  refine e_iadd h dL_law_741 ?_
  refine e_sld (j := i + 2) h hs dL_law_742 (by omega) (by omega) hL ?_
  refine e_aload_n h dL_law_743 rfl ?_
  refine e_iload_n h dL_law_744 rfl ?_
  refine e_iconst h dL_law_745 ?_
  refine e_iadd h dL_law_746 ?_
  refine e_sld (j := i + 3) h hs dL_law_747 (by omega) (by omega) hL ?_
  refine e_aload_n h dL_law_748 rfl ?_
  refine e_iload_n h dL_law_749 rfl ?_
  refine e_iconst h dL_law_750 ?_
  refine e_iadd h dL_law_751 ?_
  refine e_sld (j := i + 4) h hs dL_law_752 (by omega) (by omega) hL ?_
  refine e_aload_n h dL_law_753 rfl ?_
  refine e_iload_n h dL_law_754 rfl ?_
  refine e_iconst h dL_law_755 ?_
  refine e_iadd h dL_law_756 ?_
  refine e_sld (j := i + 5) h hs dL_law_757 (by omega) (by omega) hL ?_
  refine e_callV5 lk_L_86 mv_X10_gusts dL_law_758 rfl (by decide) (by decide) (Nat.le_of_ble_eq_true rfl) (rmY := rmX10_gusts) ⟨by decide, by decide, rfl, rfl, hcs.1, hcs.2⟩ h ?_
  refine c_gusts (Nat.le_of_ble_eq_true rfl) hC (xr _) (xr _) (xr _) (xr _) (xr _) (fun kc => ?_) (fun lc tc xc nc Mc vc e1c e2c e3c e4c e5c e6c e7c e8c e9c evc Rc Fc => ?_)
  · refine e_aload_n h dL_law_761 rfl ?_
    refine e_aload_n h dL_law_762 rfl ?_
    refine e_iload_n h dL_law_763 rfl ?_
    refine e_iconst h dL_law_764 ?_
    refine e_iadd h dL_law_765 ?_
    refine e_sld (j := i + 1) h hs dL_law_766 (by omega) (by omega) hL ?_
    refine e_aload_n h dL_law_767 rfl ?_
    refine e_iload_n h dL_law_768 rfl ?_
    refine e_iconst h dL_law_769 ?_
    refine e_iadd h dL_law_770 ?_
    refine e_sld (j := i + 2) h hs dL_law_771 (by omega) (by omega) hL ?_
    refine e_aload_n h dL_law_772 rfl ?_
    refine e_iload_n h dL_law_773 rfl ?_
    refine e_iconst h dL_law_774 ?_
    refine e_iadd h dL_law_775 ?_
    refine e_sld (j := i + 3) h hs dL_law_776 (by omega) (by omega) hL ?_
    refine e_aload_n h dL_law_777 rfl ?_
    refine e_iload_n h dL_law_778 rfl ?_
    refine e_iconst h dL_law_779 ?_
    refine e_iadd h dL_law_780 ?_
    refine e_sld (j := i + 4) h hs dL_law_781 (by omega) (by omega) hL ?_
    refine e_aload_n h dL_law_782 rfl ?_
    refine e_iload_n h dL_law_783 rfl ?_
    refine e_iconst h dL_law_784 ?_
    refine e_iadd h dL_law_785 ?_
    refine e_sld (j := i + 5) h hs dL_law_786 (by omega) (by omega) hL ?_
    refine e_callV5 lk_L_90 mv_X11_gusts dL_law_787 rfl (by decide) (by decide) (Nat.le_of_ble_eq_true rfl) (rmY := rmX11_gusts) ⟨by decide, by decide, rfl, rfl, hcs.1, hcs.2⟩ h ?_
    refine m_gusts (Nat.le_of_ble_eq_true rfl) hM (xr _) (xr _) (xr _) (xr _) (xr _) (fun km => ?_) (fun lm tm xm nm Mm vm e1m e2m e3m e4m e5m e6m e7m e8m e9m evm Rm Fm => ?_)
    · refine e_lcmp_eqs h dL_law_790 rfl ?_
      refine e_if_eq h (tgt := 983) dL_law_791 (by decide) (by decide) (fun _ => ?_) (fun hq => absurd rfl hq)
      exact kk _ ⟨_, _, _, _, _, _, _, _, _, _, _, hC, hM⟩
    · exfalso
      omega
  · refine e_aload_n h dL_law_761 rfl ?_
    refine e_aload_n h dL_law_762 rfl ?_
    refine e_iload_n h dL_law_763 rfl ?_
    refine e_iconst h dL_law_764 ?_
    refine e_iadd h dL_law_765 ?_
    refine e_sld (j := i + 1) h hs dL_law_766 (by omega) (by omega) hL ?_
    refine e_aload_n h dL_law_767 rfl ?_
    refine e_iload_n h dL_law_768 rfl ?_
    refine e_iconst h dL_law_769 ?_
    refine e_iadd h dL_law_770 ?_
    refine e_sld (j := i + 2) h hs dL_law_771 (by omega) (by omega) hL ?_
    refine e_aload_n h dL_law_772 rfl ?_
    refine e_iload_n h dL_law_773 rfl ?_
    refine e_iconst h dL_law_774 ?_
    refine e_iadd h dL_law_775 ?_
    refine e_sld (j := i + 3) h hs dL_law_776 (by omega) (by omega) hL ?_
    refine e_aload_n h dL_law_777 rfl ?_
    refine e_iload_n h dL_law_778 rfl ?_
    refine e_iconst h dL_law_779 ?_
    refine e_iadd h dL_law_780 ?_
    refine e_sld (j := i + 4) h hs dL_law_781 (by omega) (by omega) hL ?_
    refine e_aload_n h dL_law_782 rfl ?_
    refine e_iload_n h dL_law_783 rfl ?_
    refine e_iconst h dL_law_784 ?_
    refine e_iadd h dL_law_785 ?_
    refine e_sld (j := i + 5) h hs dL_law_786 (by omega) (by omega) hL ?_
    refine e_callV5 lk_L_90 mv_X11_gusts dL_law_787 rfl (by decide) (by decide) (Nat.le_of_ble_eq_true rfl) (rmY := rmX11_gusts) ⟨by decide, by decide, rfl, rfl, hcs.1, hcs.2⟩ h ?_
    refine m_gusts (Nat.le_of_ble_eq_true rfl) (hM.kept Fc) (xr _) (xr _) (xr _) (xr _) (xr _) (fun km => ?_) (fun lm tm xm nm Mm vm e1m e2m e3m e4m e5m e6m e7m e8m e9m evm Rm Fm => ?_)
    · exfalso
      omega
    · obtain rfl : lm = lc := by omega
      obtain rfl : tm = tc := by omega
      obtain rfl : xm = xc := by omega
      obtain rfl : nm = nc := by omega
      refine e_lcmp_eqs h dL_law_790 (by rw [evc, evm]) ?_
      refine e_if_eq h (tgt := 983) dL_law_791 (by decide) (by decide) (fun _ => ?_) (fun hq => absurd rfl hq)
      exact kk _ ⟨_, _, _, _, _, _, _, _, _, _, _, (Rc.kept Fm), Rm⟩
set_option maxRecDepth 100000 in
set_option maxHeartbeats 4000000 in
theorem lc_errand {κ : KT} {ad : Nat → Nat} {M : Mem} {cs : Nat × Nat} {Q : State → Prop} {L i : Nat} {xs : Nat → Int32} (h : Ok κ RL cL_law 4 room_1) (hs : Sc κ (ad 200) L xs) (hL : L ≤ 384) (hi : i + 6 ≤ L) (hcs : cs.1 ≤ room_1.cells ∧ cs.2 ≤ room_1.slots) (hI : LI M) (kk : ∀ M2 : Mem, LI M2 → E κ ad 139 pT M2 983 [some (vr 200), some (vr 0), some (vr 110), some (vi (i : Int))] [] cs Q) : E κ ad 139 pT M 796 [some (vr 200), some (vr 0), some (vr 110), some (vi (i : Int))] [] cs Q := by
  obtain ⟨so, dr, n, b, S, O, h0, f, g, z, K, hC, hM⟩ := hI
  have hT := hC.ws.2.1
  refine e_aload_n h dL_law_796 rfl ?_
  refine e_aload_n h dL_law_797 rfl ?_
  refine e_iload_n h dL_law_798 rfl ?_
  refine e_iconst h dL_law_799 ?_
  refine e_iadd h dL_law_800 ?_
  refine e_sld (j := i + 1) h hs dL_law_801 (by omega) (by omega) hL ?_
  refine e_aload_n h dL_law_802 rfl ?_
  refine e_iload_n h dL_law_803 rfl ?_
  refine e_iconst h dL_law_804 ?_
  refine e_iadd h dL_law_805 ?_
  refine e_sld (j := i + 2) h hs dL_law_806 (by omega) (by omega) hL ?_
  refine e_aload_n h dL_law_807 rfl ?_
  refine e_iload_n h dL_law_808 rfl ?_
  refine e_iconst h dL_law_809 ?_
  refine e_iadd h dL_law_810 ?_
  refine e_sld (j := i + 3) h hs dL_law_811 (by omega) (by omega) hL ?_
  refine e_if_eq h (tgt := 819) dL_law_812 (by decide) (xr _) (fun hup => ?_) (fun hup => ?_)
  · refine e_iconst h dL_law_819 ?_
    refine e_callV3 lk_L_91 mv_X10_errand dL_law_820 rfl (by decide) (by decide) (Nat.le_of_ble_eq_true rfl) (rmY := rmX10_errand) ⟨by decide, by decide, rfl, rfl, hcs.1, hcs.2⟩ h ?_
    refine c_errand (u1 := 0) rfl (Nat.le_of_ble_eq_true rfl) hC (xr _) (xr _) (by decide) (fun kc => ?_) (fun ic dc e1c e2c e3c e4c e5c => ?_) (fun ic dc Mc vc e1c e2c e3c e4c e5c evc Rc Fc => ?_)
    · refine e_aload_n h dL_law_823 rfl ?_
      refine e_aload_n h dL_law_824 rfl ?_
      refine e_iload_n h dL_law_825 rfl ?_
      refine e_iconst h dL_law_826 ?_
      refine e_iadd h dL_law_827 ?_
      refine e_sld (j := i + 1) h hs dL_law_828 (by omega) (by omega) hL ?_
      refine e_aload_n h dL_law_829 rfl ?_
      refine e_iload_n h dL_law_830 rfl ?_
      refine e_iconst h dL_law_831 ?_
      refine e_iadd h dL_law_832 ?_
      refine e_sld (j := i + 2) h hs dL_law_833 (by omega) (by omega) hL ?_
      refine e_aload_n h dL_law_834 rfl ?_
      refine e_iload_n h dL_law_835 rfl ?_
      refine e_iconst h dL_law_836 ?_
      refine e_iadd h dL_law_837 ?_
      refine e_sld (j := i + 3) h hs dL_law_838 (by omega) (by omega) hL ?_
      refine e_if_eq h (tgt := 846) dL_law_839 (by decide) (xr _) (fun _ => ?_) (fun hq => absurd hup hq)
      refine e_iconst h dL_law_846 ?_
      refine e_callV3 lk_L_95 mv_X11_errand dL_law_847 rfl (by decide) (by decide) (Nat.le_of_ble_eq_true rfl) (rmY := rmX11_errand) ⟨by decide, by decide, rfl, rfl, hcs.1, hcs.2⟩ h ?_
      refine m_errand (u1 := 0) rfl (Nat.le_of_ble_eq_true rfl) hM (xr _) (xr _) (by decide) (fun km => ?_) (fun im dm e1m e2m e3m e4m e5m => ?_) (fun im dm Mm vm e1m e2m e3m e4m e5m evm Rm Fm => ?_)
      · refine e_icmp_eqs h dL_law_850 (tgt := 983) (by decide) rfl ?_
        exact kk _ ⟨_, _, _, _, _, _, _, _, _, _, _, hC, hM⟩
      · exfalso
        omega
      · exfalso
        omega
    · refine e_aload_n h dL_law_823 rfl ?_
      refine e_aload_n h dL_law_824 rfl ?_
      refine e_iload_n h dL_law_825 rfl ?_
      refine e_iconst h dL_law_826 ?_
      refine e_iadd h dL_law_827 ?_
      refine e_sld (j := i + 1) h hs dL_law_828 (by omega) (by omega) hL ?_
      refine e_aload_n h dL_law_829 rfl ?_
      refine e_iload_n h dL_law_830 rfl ?_
      refine e_iconst h dL_law_831 ?_
      refine e_iadd h dL_law_832 ?_
      refine e_sld (j := i + 2) h hs dL_law_833 (by omega) (by omega) hL ?_
      refine e_aload_n h dL_law_834 rfl ?_
      refine e_iload_n h dL_law_835 rfl ?_
      refine e_iconst h dL_law_836 ?_
      refine e_iadd h dL_law_837 ?_
      refine e_sld (j := i + 3) h hs dL_law_838 (by omega) (by omega) hL ?_
      refine e_if_eq h (tgt := 846) dL_law_839 (by decide) (xr _) (fun _ => ?_) (fun hq => absurd hup hq)
      refine e_iconst h dL_law_846 ?_
      refine e_callV3 lk_L_95 mv_X11_errand dL_law_847 rfl (by decide) (by decide) (Nat.le_of_ble_eq_true rfl) (rmY := rmX11_errand) ⟨by decide, by decide, rfl, rfl, hcs.1, hcs.2⟩ h ?_
      refine m_errand (u1 := 0) rfl (Nat.le_of_ble_eq_true rfl) hM (xr _) (xr _) (by decide) (fun km => ?_) (fun im dm e1m e2m e3m e4m e5m => ?_) (fun im dm Mm vm e1m e2m e3m e4m e5m evm Rm Fm => ?_)
      · exfalso
        omega
      · obtain rfl : im = ic := by omega
        obtain rfl : dm = dc := by omega
        refine e_icmp_eqs h dL_law_850 (tgt := 983) (by decide) rfl ?_
        exact kk _ ⟨_, _, _, _, _, _, _, _, _, _, _, hC, hM⟩
      · exfalso
        omega
    · refine e_aload_n h dL_law_823 rfl ?_
      refine e_aload_n h dL_law_824 rfl ?_
      refine e_iload_n h dL_law_825 rfl ?_
      refine e_iconst h dL_law_826 ?_
      refine e_iadd h dL_law_827 ?_
      refine e_sld (j := i + 1) h hs dL_law_828 (by omega) (by omega) hL ?_
      refine e_aload_n h dL_law_829 rfl ?_
      refine e_iload_n h dL_law_830 rfl ?_
      refine e_iconst h dL_law_831 ?_
      refine e_iadd h dL_law_832 ?_
      refine e_sld (j := i + 2) h hs dL_law_833 (by omega) (by omega) hL ?_
      refine e_aload_n h dL_law_834 rfl ?_
      refine e_iload_n h dL_law_835 rfl ?_
      refine e_iconst h dL_law_836 ?_
      refine e_iadd h dL_law_837 ?_
      refine e_sld (j := i + 3) h hs dL_law_838 (by omega) (by omega) hL ?_
      refine e_if_eq h (tgt := 846) dL_law_839 (by decide) (xr _) (fun _ => ?_) (fun hq => absurd hup hq)
      refine e_iconst h dL_law_846 ?_
      refine e_callV3 lk_L_95 mv_X11_errand dL_law_847 rfl (by decide) (by decide) (Nat.le_of_ble_eq_true rfl) (rmY := rmX11_errand) ⟨by decide, by decide, rfl, rfl, hcs.1, hcs.2⟩ h ?_
      refine m_errand (u1 := 0) rfl (Nat.le_of_ble_eq_true rfl) (hM.kept Fc) (xr _) (xr _) (by decide) (fun km => ?_) (fun im dm e1m e2m e3m e4m e5m => ?_) (fun im dm Mm vm e1m e2m e3m e4m e5m evm Rm Fm => ?_)
      · exfalso
        omega
      · exfalso
        omega
      · obtain rfl : im = ic := by omega
        obtain rfl : dm = dc := by omega
        refine e_icmp_eqs h dL_law_850 (tgt := 983) (by decide) (by rw [evc, evm]) ?_
        exact kk _ ⟨_, _, _, _, _, _, _, _, _, _, _, (Rc.kept Fm), Rm⟩
  · refine e_iconst h dL_law_815 ?_
    refine e_goto h dL_law_816 (tgt := 820) (by decide) ?_
    refine e_callV3 lk_L_91 mv_X10_errand dL_law_820 rfl (by decide) (by decide) (Nat.le_of_ble_eq_true rfl) (rmY := rmX10_errand) ⟨by decide, by decide, rfl, rfl, hcs.1, hcs.2⟩ h ?_
    refine c_errand (u1 := 1) rfl (Nat.le_of_ble_eq_true rfl) hC (xr _) (xr _) (by decide) (fun kc => ?_) (fun ic dc e1c e2c e3c e4c e5c => ?_) (fun ic dc Mc vc e1c e2c e3c e4c e5c evc Rc Fc => ?_)
    · refine e_aload_n h dL_law_823 rfl ?_
      refine e_aload_n h dL_law_824 rfl ?_
      refine e_iload_n h dL_law_825 rfl ?_
      refine e_iconst h dL_law_826 ?_
      refine e_iadd h dL_law_827 ?_
      refine e_sld (j := i + 1) h hs dL_law_828 (by omega) (by omega) hL ?_
      refine e_aload_n h dL_law_829 rfl ?_
      refine e_iload_n h dL_law_830 rfl ?_
      refine e_iconst h dL_law_831 ?_
      refine e_iadd h dL_law_832 ?_
      refine e_sld (j := i + 2) h hs dL_law_833 (by omega) (by omega) hL ?_
      refine e_aload_n h dL_law_834 rfl ?_
      refine e_iload_n h dL_law_835 rfl ?_
      refine e_iconst h dL_law_836 ?_
      refine e_iadd h dL_law_837 ?_
      refine e_sld (j := i + 3) h hs dL_law_838 (by omega) (by omega) hL ?_
      refine e_if_eq h (tgt := 846) dL_law_839 (by decide) (xr _) (fun hq => absurd hq hup) (fun _ => ?_)
      refine e_iconst h dL_law_842 ?_
      refine e_goto h dL_law_843 (tgt := 847) (by decide) ?_
      refine e_callV3 lk_L_95 mv_X11_errand dL_law_847 rfl (by decide) (by decide) (Nat.le_of_ble_eq_true rfl) (rmY := rmX11_errand) ⟨by decide, by decide, rfl, rfl, hcs.1, hcs.2⟩ h ?_
      refine m_errand (u1 := 1) rfl (Nat.le_of_ble_eq_true rfl) hM (xr _) (xr _) (by decide) (fun km => ?_) (fun im dm e1m e2m e3m e4m e5m => ?_) (fun im dm Mm vm e1m e2m e3m e4m e5m evm Rm Fm => ?_)
      · refine e_icmp_eqs h dL_law_850 (tgt := 983) (by decide) rfl ?_
        exact kk _ ⟨_, _, _, _, _, _, _, _, _, _, _, hC, hM⟩
      · exfalso
        omega
      · exfalso
        omega
    · refine e_aload_n h dL_law_823 rfl ?_
      refine e_aload_n h dL_law_824 rfl ?_
      refine e_iload_n h dL_law_825 rfl ?_
      refine e_iconst h dL_law_826 ?_
      refine e_iadd h dL_law_827 ?_
      refine e_sld (j := i + 1) h hs dL_law_828 (by omega) (by omega) hL ?_
      refine e_aload_n h dL_law_829 rfl ?_
      refine e_iload_n h dL_law_830 rfl ?_
      refine e_iconst h dL_law_831 ?_
      refine e_iadd h dL_law_832 ?_
      refine e_sld (j := i + 2) h hs dL_law_833 (by omega) (by omega) hL ?_
      refine e_aload_n h dL_law_834 rfl ?_
      refine e_iload_n h dL_law_835 rfl ?_
      refine e_iconst h dL_law_836 ?_
      refine e_iadd h dL_law_837 ?_
      refine e_sld (j := i + 3) h hs dL_law_838 (by omega) (by omega) hL ?_
      refine e_if_eq h (tgt := 846) dL_law_839 (by decide) (xr _) (fun hq => absurd hq hup) (fun _ => ?_)
      refine e_iconst h dL_law_842 ?_
      refine e_goto h dL_law_843 (tgt := 847) (by decide) ?_
      refine e_callV3 lk_L_95 mv_X11_errand dL_law_847 rfl (by decide) (by decide) (Nat.le_of_ble_eq_true rfl) (rmY := rmX11_errand) ⟨by decide, by decide, rfl, rfl, hcs.1, hcs.2⟩ h ?_
      refine m_errand (u1 := 1) rfl (Nat.le_of_ble_eq_true rfl) hM (xr _) (xr _) (by decide) (fun km => ?_) (fun im dm e1m e2m e3m e4m e5m => ?_) (fun im dm Mm vm e1m e2m e3m e4m e5m evm Rm Fm => ?_)
      · exfalso
        omega
      · obtain rfl : im = ic := by omega
        obtain rfl : dm = dc := by omega
        refine e_icmp_eqs h dL_law_850 (tgt := 983) (by decide) rfl ?_
        exact kk _ ⟨_, _, _, _, _, _, _, _, _, _, _, hC, hM⟩
      · exfalso
        omega
    · refine e_aload_n h dL_law_823 rfl ?_
      refine e_aload_n h dL_law_824 rfl ?_
      refine e_iload_n h dL_law_825 rfl ?_
      refine e_iconst h dL_law_826 ?_
      refine e_iadd h dL_law_827 ?_
      refine e_sld (j := i + 1) h hs dL_law_828 (by omega) (by omega) hL ?_
      refine e_aload_n h dL_law_829 rfl ?_
      refine e_iload_n h dL_law_830 rfl ?_
      refine e_iconst h dL_law_831 ?_
      refine e_iadd h dL_law_832 ?_
      refine e_sld (j := i + 2) h hs dL_law_833 (by omega) (by omega) hL ?_
      refine e_aload_n h dL_law_834 rfl ?_
      refine e_iload_n h dL_law_835 rfl ?_
      refine e_iconst h dL_law_836 ?_
      refine e_iadd h dL_law_837 ?_
      refine e_sld (j := i + 3) h hs dL_law_838 (by omega) (by omega) hL ?_
      refine e_if_eq h (tgt := 846) dL_law_839 (by decide) (xr _) (fun hq => absurd hq hup) (fun _ => ?_)
      refine e_iconst h dL_law_842 ?_
      refine e_goto h dL_law_843 (tgt := 847) (by decide) ?_
      refine e_callV3 lk_L_95 mv_X11_errand dL_law_847 rfl (by decide) (by decide) (Nat.le_of_ble_eq_true rfl) (rmY := rmX11_errand) ⟨by decide, by decide, rfl, rfl, hcs.1, hcs.2⟩ h ?_
      refine m_errand (u1 := 1) rfl (Nat.le_of_ble_eq_true rfl) (hM.kept Fc) (xr _) (xr _) (by decide) (fun km => ?_) (fun im dm e1m e2m e3m e4m e5m => ?_) (fun im dm Mm vm e1m e2m e3m e4m e5m evm Rm Fm => ?_)
      · exfalso
        omega
      · exfalso
        omega
      · obtain rfl : im = ic := by omega
        obtain rfl : dm = dc := by omega
        refine e_icmp_eqs h dL_law_850 (tgt := 983) (by decide) (by rw [evc, evm]) ?_
        exact kk _ ⟨_, _, _, _, _, _, _, _, _, _, _, (Rc.kept Fm), Rm⟩
set_option maxRecDepth 100000 in
set_option maxHeartbeats 4000000 in
theorem lc_fill {κ : KT} {ad : Nat → Nat} {M : Mem} {cs : Nat × Nat} {Q : State → Prop} {L i : Nat} {xs : Nat → Int32} (h : Ok κ RL cL_law 4 room_1) (hs : Sc κ (ad 200) L xs) (hL : L ≤ 384) (hi : i + 6 ≤ L) (hcs : cs.1 ≤ room_1.cells ∧ cs.2 ≤ room_1.slots) (hI : LI M) (kk : ∀ M2 : Mem, LI M2 → E κ ad 139 pT M2 983 [some (vr 200), some (vr 0), some (vr 110), some (vi (i : Int))] [] cs Q) : E κ ad 139 pT M 855 [some (vr 200), some (vr 0), some (vr 110), some (vi (i : Int))] [] cs Q := by
  obtain ⟨so, dr, n, b, S, O, h0, f, g, z, K, hC, hM⟩ := hI
  have hT := hC.ws.2.1
  refine e_aload_n h dL_law_855 rfl ?_
  refine e_aload_n h dL_law_856 rfl ?_
  refine e_iload_n h dL_law_857 rfl ?_
  refine e_iconst h dL_law_858 ?_
  refine e_iadd h dL_law_859 ?_
  refine e_sld (j := i + 1) h hs dL_law_860 (by omega) (by omega) hL ?_
  refine e_aload_n h dL_law_861 rfl ?_
  refine e_iload_n h dL_law_862 rfl ?_
  refine e_iconst h dL_law_863 ?_
  refine e_iadd h dL_law_864 ?_
  refine e_sld (j := i + 2) h hs dL_law_865 (by omega) (by omega) hL ?_
  refine e_callV2 lk_L_96 mv_X10_fill dL_law_866 rfl (by decide) (by decide) (Nat.le_of_ble_eq_true rfl) (rmY := rmX10_fill) ⟨by decide, by decide, rfl, rfl, hcs.1, hcs.2⟩ h ?_
  refine c_fill (Nat.le_of_ble_eq_true rfl) hC (xr _) (xr _) (fun kc => ?_) (fun ic gc Mc vc e1c e2c e3c e4c evc Rc Fc => ?_)
  · refine e_aload_n h dL_law_869 rfl ?_
    refine e_aload_n h dL_law_870 rfl ?_
    refine e_iload_n h dL_law_871 rfl ?_
    refine e_iconst h dL_law_872 ?_
    refine e_iadd h dL_law_873 ?_
    refine e_sld (j := i + 1) h hs dL_law_874 (by omega) (by omega) hL ?_
    refine e_aload_n h dL_law_875 rfl ?_
    refine e_iload_n h dL_law_876 rfl ?_
    refine e_iconst h dL_law_877 ?_
    refine e_iadd h dL_law_878 ?_
    refine e_sld (j := i + 2) h hs dL_law_879 (by omega) (by omega) hL ?_
    refine e_callV2 lk_L_99 mv_X11_fill dL_law_880 rfl (by decide) (by decide) (Nat.le_of_ble_eq_true rfl) (rmY := rmX11_fill) ⟨by decide, by decide, rfl, rfl, hcs.1, hcs.2⟩ h ?_
    refine m_fill (Nat.le_of_ble_eq_true rfl) hM (xr _) (xr _) (fun km => ?_) (fun im gm Mm vm e1m e2m e3m e4m evm Rm Fm => ?_)
    · refine e_icmp_eqs h dL_law_883 (tgt := 983) (by decide) rfl ?_
      exact kk _ ⟨_, _, _, _, _, _, _, _, _, _, _, hC, hM⟩
    · exfalso
      omega
  · refine e_aload_n h dL_law_869 rfl ?_
    refine e_aload_n h dL_law_870 rfl ?_
    refine e_iload_n h dL_law_871 rfl ?_
    refine e_iconst h dL_law_872 ?_
    refine e_iadd h dL_law_873 ?_
    refine e_sld (j := i + 1) h hs dL_law_874 (by omega) (by omega) hL ?_
    refine e_aload_n h dL_law_875 rfl ?_
    refine e_iload_n h dL_law_876 rfl ?_
    refine e_iconst h dL_law_877 ?_
    refine e_iadd h dL_law_878 ?_
    refine e_sld (j := i + 2) h hs dL_law_879 (by omega) (by omega) hL ?_
    refine e_callV2 lk_L_99 mv_X11_fill dL_law_880 rfl (by decide) (by decide) (Nat.le_of_ble_eq_true rfl) (rmY := rmX11_fill) ⟨by decide, by decide, rfl, rfl, hcs.1, hcs.2⟩ h ?_
    refine m_fill (Nat.le_of_ble_eq_true rfl) (hM.kept Fc) (xr _) (xr _) (fun km => ?_) (fun im gm Mm vm e1m e2m e3m e4m evm Rm Fm => ?_)
    · exfalso
      omega
    · obtain rfl : im = ic := by omega
      obtain rfl : gm = gc := by omega
      refine e_icmp_eqs h dL_law_883 (tgt := 983) (by decide) (by rw [evc, evm]) ?_
      exact kk _ ⟨_, _, _, _, _, _, _, _, _, _, _, (Rc.kept Fm), Rm⟩
set_option maxRecDepth 100000 in
set_option maxHeartbeats 4000000 in
theorem lc_undo {κ : KT} {ad : Nat → Nat} {M : Mem} {cs : Nat × Nat} {Q : State → Prop} {L i : Nat} {xs : Nat → Int32} (h : Ok κ RL cL_law 4 room_1) (hs : Sc κ (ad 200) L xs) (hL : L ≤ 384) (hi : i + 6 ≤ L) (hcs : cs.1 ≤ room_1.cells ∧ cs.2 ≤ room_1.slots) (hI : LI M) (kk : ∀ M2 : Mem, LI M2 → E κ ad 139 pT M2 983 [some (vr 200), some (vr 0), some (vr 110), some (vi (i : Int))] [] cs Q) : E κ ad 139 pT M 888 [some (vr 200), some (vr 0), some (vr 110), some (vi (i : Int))] [] cs Q := by
  obtain ⟨so, dr, n, b, S, O, h0, f, g, z, K, hC, hM⟩ := hI
  have hT := hC.ws.2.1
  refine e_aload_n h dL_law_888 rfl ?_
  refine e_callV0 lk_L_100 mv_X10_undo dL_law_889 rfl (by decide) (by decide) (Nat.le_of_ble_eq_true rfl) (rmY := rmX10_undo) ⟨by decide, by decide, rfl, rfl, hcs.1, hcs.2⟩ h ?_
  refine c_undo (Nat.le_of_ble_eq_true rfl) hC  (fun kc => ?_) (fun hc e1c Mc vc evc Rc Fc => ?_)
  · refine e_aload_n h dL_law_892 rfl ?_
    refine e_callV0 lk_L_103 mv_X11_undo dL_law_893 rfl (by decide) (by decide) (Nat.le_of_ble_eq_true rfl) (rmY := rmX11_undo) ⟨by decide, by decide, rfl, rfl, hcs.1, hcs.2⟩ h ?_
    refine m_undo (Nat.le_of_ble_eq_true rfl) hM  (fun km => ?_) (fun hm e1m Mm vm evm Rm Fm => ?_)
    · refine e_icmp_eqs h dL_law_896 (tgt := 983) (by decide) rfl ?_
      exact kk _ ⟨_, _, _, _, _, _, _, _, _, _, _, hC, hM⟩
    · exfalso
      omega
  · refine e_aload_n h dL_law_892 rfl ?_
    refine e_callV0 lk_L_103 mv_X11_undo dL_law_893 rfl (by decide) (by decide) (Nat.le_of_ble_eq_true rfl) (rmY := rmX11_undo) ⟨by decide, by decide, rfl, rfl, hcs.1, hcs.2⟩ h ?_
    refine m_undo (Nat.le_of_ble_eq_true rfl) (hM.kept Fc)  (fun km => ?_) (fun hm e1m Mm vm evm Rm Fm => ?_)
    · exfalso
      omega
    · obtain rfl : hm = hc := by omega
      refine e_icmp_eqs h dL_law_896 (tgt := 983) (by decide) (by rw [evc, evm]) ?_
      exact kk _ ⟨_, _, _, _, _, _, _, _, _, _, _, (Rc.kept Fm), Rm⟩
set_option maxRecDepth 100000 in
set_option maxHeartbeats 4000000 in
theorem lc_year {κ : KT} {ad : Nat → Nat} {M : Mem} {cs : Nat × Nat} {Q : State → Prop} {L i : Nat} {xs : Nat → Int32} (h : Ok κ RL cL_law 4 room_1) (hs : Sc κ (ad 200) L xs) (hL : L ≤ 384) (hi : i + 6 ≤ L) (hcs : cs.1 ≤ room_1.cells ∧ cs.2 ≤ room_1.slots) (hI : LI M) (kk : ∀ M2 : Mem, LI M2 → E κ ad 139 pT M2 983 [some (vr 200), some (vr 0), some (vr 110), some (vi (i : Int))] [] cs Q) : E κ ad 139 pT M 901 [some (vr 200), some (vr 0), some (vr 110), some (vi (i : Int))] [] cs Q := by
  obtain ⟨so, dr, n, b, S, O, h0, f, g, z, K, hC, hM⟩ := hI
  have hT := hC.ws.2.1
  refine e_aload_n h dL_law_901 rfl ?_
  refine e_aload_n h dL_law_902 rfl ?_
  refine e_iload_n h dL_law_903 rfl ?_
  refine e_iconst h dL_law_904 ?_
  refine e_iadd h dL_law_905 ?_
  refine e_sld (j := i + 1) h hs dL_law_906 (by omega) (by omega) hL ?_
  refine e_aload_n h dL_law_907 rfl ?_
  refine e_iload_n h dL_law_908 rfl ?_
  refine e_iconst h dL_law_909 ?_
  refine e_iadd h dL_law_910 ?_
  refine e_sld (j := i + 2) h hs dL_law_911 (by omega) (by omega) hL ?_
  refine e_callV2 lk_L_104 mv_X10_year dL_law_912 rfl (by decide) (by decide) (Nat.le_of_ble_eq_true rfl) (rmY := rmX10_year) ⟨by decide, by decide, rfl, rfl, hcs.1, hcs.2⟩ h ?_
  refine c_year (Nat.le_of_ble_eq_true rfl) hC (xr _) (xr _) (fun kc => ?_) (fun zc Mc vc e1c e2c e3c evc Rc Fc => ?_)
  · refine e_aload_n h dL_law_915 rfl ?_
    refine e_aload_n h dL_law_916 rfl ?_
    refine e_iload_n h dL_law_917 rfl ?_
    refine e_iconst h dL_law_918 ?_
    refine e_iadd h dL_law_919 ?_
    refine e_sld (j := i + 1) h hs dL_law_920 (by omega) (by omega) hL ?_
    refine e_aload_n h dL_law_921 rfl ?_
    refine e_iload_n h dL_law_922 rfl ?_
    refine e_iconst h dL_law_923 ?_
    refine e_iadd h dL_law_924 ?_
    refine e_sld (j := i + 2) h hs dL_law_925 (by omega) (by omega) hL ?_
    refine e_callV2 lk_L_107 mv_X11_year dL_law_926 rfl (by decide) (by decide) (Nat.le_of_ble_eq_true rfl) (rmY := rmX11_year) ⟨by decide, by decide, rfl, rfl, hcs.1, hcs.2⟩ h ?_
    refine m_year (Nat.le_of_ble_eq_true rfl) hM (xr _) (xr _) (fun km => ?_) (fun zm Mm vm e1m e2m e3m evm Rm Fm => ?_)
    · refine e_icmp_eqs h dL_law_929 (tgt := 983) (by decide) rfl ?_
      exact kk _ ⟨_, _, _, _, _, _, _, _, _, _, _, hC, hM⟩
    · exfalso
      omega
  · refine e_aload_n h dL_law_915 rfl ?_
    refine e_aload_n h dL_law_916 rfl ?_
    refine e_iload_n h dL_law_917 rfl ?_
    refine e_iconst h dL_law_918 ?_
    refine e_iadd h dL_law_919 ?_
    refine e_sld (j := i + 1) h hs dL_law_920 (by omega) (by omega) hL ?_
    refine e_aload_n h dL_law_921 rfl ?_
    refine e_iload_n h dL_law_922 rfl ?_
    refine e_iconst h dL_law_923 ?_
    refine e_iadd h dL_law_924 ?_
    refine e_sld (j := i + 2) h hs dL_law_925 (by omega) (by omega) hL ?_
    refine e_callV2 lk_L_107 mv_X11_year dL_law_926 rfl (by decide) (by decide) (Nat.le_of_ble_eq_true rfl) (rmY := rmX11_year) ⟨by decide, by decide, rfl, rfl, hcs.1, hcs.2⟩ h ?_
    refine m_year (Nat.le_of_ble_eq_true rfl) (hM.kept Fc) (xr _) (xr _) (fun km => ?_) (fun zm Mm vm e1m e2m e3m evm Rm Fm => ?_)
    · exfalso
      omega
    · obtain rfl : zm = zc := by omega
      refine e_icmp_eqs h dL_law_929 (tgt := 983) (by decide) (by rw [evc, evm]) ?_
      exact kk _ ⟨_, _, _, _, _, _, _, _, _, _, _, (Rc.kept Fm), Rm⟩
set_option maxRecDepth 100000 in
set_option maxHeartbeats 4000000 in
theorem lc_keep {κ : KT} {ad : Nat → Nat} {M : Mem} {cs : Nat × Nat} {Q : State → Prop} {L i : Nat} {xs : Nat → Int32} (h : Ok κ RL cL_law 4 room_1) (hs : Sc κ (ad 200) L xs) (hL : L ≤ 384) (hi : i + 6 ≤ L) (hcs : cs.1 ≤ room_1.cells ∧ cs.2 ≤ room_1.slots) (hI : LI M) (kk : ∀ M2 : Mem, LI M2 → E κ ad 139 pT M2 983 [some (vr 200), some (vr 0), some (vr 110), some (vi (i : Int))] [] cs Q) : E κ ad 139 pT M 934 [some (vr 200), some (vr 0), some (vr 110), some (vi (i : Int))] [] cs Q := by
  obtain ⟨so, dr, n, b, S, O, h0, f, g, z, K, hC, hM⟩ := hI
  have hT := hC.ws.2.1
  refine e_aload_n h dL_law_934 rfl ?_
  refine e_callV0 lk_L_108 mv_X10_keep dL_law_935 rfl (by decide) (by decide) (Nat.le_of_ble_eq_true rfl) (rmY := rmX10_keep) ⟨by decide, by decide, rfl, rfl, hcs.1, hcs.2⟩ h ?_
  refine c_keep (Nat.le_of_ble_eq_true rfl) hC  (fun kc => ?_) (fun e1c Mc vc evc Rc Fc => ?_)
  · refine e_aload_n h dL_law_938 rfl ?_
    refine e_callV0 lk_L_111 mv_X11_keep dL_law_939 rfl (by decide) (by decide) (Nat.le_of_ble_eq_true rfl) (rmY := rmX11_keep) ⟨by decide, by decide, rfl, rfl, hcs.1, hcs.2⟩ h ?_
    refine m_keep (Nat.le_of_ble_eq_true rfl) hM  (fun km => ?_) (fun e1m Mm vm evm Rm Fm => ?_)
    · refine e_icmp_eqs h dL_law_942 (tgt := 983) (by decide) rfl ?_
      exact kk _ ⟨_, _, _, _, _, _, _, _, _, _, _, hC, hM⟩
    · exfalso
      omega
  · refine e_aload_n h dL_law_938 rfl ?_
    refine e_callV0 lk_L_111 mv_X11_keep dL_law_939 rfl (by decide) (by decide) (Nat.le_of_ble_eq_true rfl) (rmY := rmX11_keep) ⟨by decide, by decide, rfl, rfl, hcs.1, hcs.2⟩ h ?_
    refine m_keep (Nat.le_of_ble_eq_true rfl) (hM.kept Fc)  (fun km => ?_) (fun e1m Mm vm evm Rm Fm => ?_)
    · exfalso
      omega
    · refine e_icmp_eqs h dL_law_942 (tgt := 983) (by decide) (by rw [evc, evm]) ?_
      exact kk _ ⟨_, _, _, _, _, _, _, _, _, _, _, (Rc.kept Fm), Rm⟩
set_option maxRecDepth 100000 in
set_option maxHeartbeats 4000000 in
theorem lc_back {κ : KT} {ad : Nat → Nat} {M : Mem} {cs : Nat × Nat} {Q : State → Prop} {L i : Nat} {xs : Nat → Int32} (h : Ok κ RL cL_law 4 room_1) (hs : Sc κ (ad 200) L xs) (hL : L ≤ 384) (hi : i + 6 ≤ L) (hcs : cs.1 ≤ room_1.cells ∧ cs.2 ≤ room_1.slots) (hI : LI M) (kk : ∀ M2 : Mem, LI M2 → E κ ad 139 pT M2 983 [some (vr 200), some (vr 0), some (vr 110), some (vi (i : Int))] [] cs Q) : E κ ad 139 pT M 947 [some (vr 200), some (vr 0), some (vr 110), some (vi (i : Int))] [] cs Q := by
  obtain ⟨so, dr, n, b, S, O, h0, f, g, z, K, hC, hM⟩ := hI
  have hT := hC.ws.2.1
  refine e_aload_n h dL_law_947 rfl ?_
  refine e_callV0 lk_L_112 mv_X10_back dL_law_948 rfl (by decide) (by decide) (Nat.le_of_ble_eq_true rfl) (rmY := rmX10_back) ⟨by decide, by decide, rfl, rfl, hcs.1, hcs.2⟩ h ?_
  refine c_back (Nat.le_of_ble_eq_true rfl) hC  (fun kc => ?_) (fun e1c Mc vc evc Rc Fc => ?_)
  · refine e_aload_n h dL_law_951 rfl ?_
    refine e_callV0 lk_L_115 mv_X11_back dL_law_952 rfl (by decide) (by decide) (Nat.le_of_ble_eq_true rfl) (rmY := rmX11_back) ⟨by decide, by decide, rfl, rfl, hcs.1, hcs.2⟩ h ?_
    refine m_back (Nat.le_of_ble_eq_true rfl) hM  (fun km => ?_) (fun e1m Mm vm evm Rm Fm => ?_)
    · refine e_icmp_eqs h dL_law_955 (tgt := 983) (by decide) rfl ?_
      exact kk _ ⟨_, _, _, _, _, _, _, _, _, _, _, hC, hM⟩
    · exfalso
      omega
  · refine e_aload_n h dL_law_951 rfl ?_
    refine e_callV0 lk_L_115 mv_X11_back dL_law_952 rfl (by decide) (by decide) (Nat.le_of_ble_eq_true rfl) (rmY := rmX11_back) ⟨by decide, by decide, rfl, rfl, hcs.1, hcs.2⟩ h ?_
    refine m_back (Nat.le_of_ble_eq_true rfl) (hM.kept Fc)  (fun km => ?_) (fun e1m Mm vm evm Rm Fm => ?_)
    · exfalso
      omega
    · refine e_icmp_eqs h dL_law_955 (tgt := 983) (by decide) (by rw [evc, evm]) ?_
      exact kk _ ⟨_, _, _, _, _, _, _, _, _, _, _, (Rc.kept Fm), Rm⟩
set_option maxRecDepth 100000 in
set_option maxHeartbeats 4000000 in
theorem lc_count {κ : KT} {ad : Nat → Nat} {M : Mem} {cs : Nat × Nat} {Q : State → Prop} {L i : Nat} {xs : Nat → Int32} (h : Ok κ RL cL_law 4 room_1) (hs : Sc κ (ad 200) L xs) (hL : L ≤ 384) (hi : i + 6 ≤ L) (hcs : cs.1 ≤ room_1.cells ∧ cs.2 ≤ room_1.slots) (hI : LI M) (kk : ∀ M2 : Mem, LI M2 → E κ ad 139 pT M2 983 [some (vr 200), some (vr 0), some (vr 110), some (vi (i : Int))] [] cs Q) : E κ ad 139 pT M 960 [some (vr 200), some (vr 0), some (vr 110), some (vi (i : Int))] [] cs Q := by
  obtain ⟨so, dr, n, b, S, O, h0, f, g, z, K, hC, hM⟩ := hI
  have hT := hC.ws.2.1
  refine e_aload_n h dL_law_960 rfl ?_
  refine e_aload_n h dL_law_961 rfl ?_
  refine e_iload_n h dL_law_962 rfl ?_
  refine e_iconst h dL_law_963 ?_
  refine e_iadd h dL_law_964 ?_
  refine e_sld (j := i + 1) h hs dL_law_965 (by omega) (by omega) hL ?_
  refine e_callV1 lk_L_116 mv_X10_count dL_law_966 rfl (by decide) (by decide) (Nat.le_of_ble_eq_true rfl) (rmY := rmX10_count) ⟨by decide, by decide, rfl, rfl, hcs.1, hcs.2⟩ h ?_
  refine c_count (Nat.le_of_ble_eq_true rfl) hC (xr _) (fun vc evc => ?_)
  refine e_aload_n h dL_law_969 rfl ?_
  refine e_aload_n h dL_law_970 rfl ?_
  refine e_iload_n h dL_law_971 rfl ?_
  refine e_iconst h dL_law_972 ?_
  refine e_iadd h dL_law_973 ?_
  refine e_sld (j := i + 1) h hs dL_law_974 (by omega) (by omega) hL ?_
  refine e_callV1 lk_L_119 mv_X11_count dL_law_975 rfl (by decide) (by decide) (Nat.le_of_ble_eq_true rfl) (rmY := rmX11_count) ⟨by decide, by decide, rfl, rfl, hcs.1, hcs.2⟩ h ?_
  refine m_count (Nat.le_of_ble_eq_true rfl) hM (xr _) (fun vm evm => ?_)
  refine e_icmp_eqs h dL_law_978 (tgt := 983) (by decide) (by rw [evc, evm]) ?_
  exact kk _ ⟨_, _, _, _, _, _, _, _, _, _, _, hC, hM⟩
