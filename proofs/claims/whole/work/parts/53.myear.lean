/-- the same storm with other first places -/
def fstS (S : SD) (F : Nat → Nat) : SD := fun f k => if f = 5 then F k else S f k
theorem fstS_45 {S : SD} {F : Nat → Nat} : S45 S (fstS S F) := fun f k h4 h5 => by unfold fstS; rw [if_neg h5]
theorem fstS_fstS {S : SD} {F G : Nat → Nat} : fstS (fstS S F) G = fstS S G := by
  funext f k
  unfold fstS
  by_cases e : f = 5
  · rw [if_pos e, if_pos e]
  · rw [if_neg e, if_neg e, if_neg e]
theorem fstS_same {S : SD} : fstS S (sF S) = S := by
  funext f k
  unfold fstS
  by_cases e : f = 5
  · rw [if_pos e, e]; rfl
  · rw [if_neg e]
theorem cs_fst {S O : SD} {F : Nat → Nat} {i d : Nat} : cs (fstS S F) O i d = crs S O i (sH S i) (F i) d := by
  show crs (fstS S F) O i (sH S i) (F i) d = _
  exact crs_45 fstS_45 d
theorem RepM.fst {n : Nat} {b : TB} {S O : SD} {h0 : Nat} {f g : Nat → Int} {z : Nat} {K : Nat → SD} {M M2 : Mem} {F : Nat → Nat} (h : RepM n b S O h0 f g z K M) (hF : ∀ j, j < sT S → F j ≤ 23) (hf : ∀ q, q ≠ 117 → q ≠ 138 → M2 q = M q) (hm : ∀ j, j < sT S → M2 117 j = (F j : Nat)) : RepM n b (fstS S F) O h0 f g z K M2 := ⟨(h.tx.to (congrFun (hf 110 (by omega) (by omega)) 0) (hf 111 (by omega) (by omega))), ⟨by rw [hf 112 (by omega) (by omega)]; exact h.ms.1, by rw [hf 115 (by omega) (by omega)]; exact h.ms.2.1, by rw [hf 120 (by omega) (by omega)]; exact h.ms.2.2.1, fun j hj => by rw [hf 113 (by omega) (by omega), hf 114 (by omega) (by omega)]; exact h.ms.2.2.2.1 j hj, fun j hj => ⟨by rw [hf 116 (by omega) (by omega)]; exact (h.ms.2.2.2.2.1 j hj).1, hm j hj, by rw [hf 118 (by omega) (by omega)]; exact (h.ms.2.2.2.2.1 j hj).2.2.1, by rw [hf 119 (by omega) (by omega)]; exact (h.ms.2.2.2.2.1 j hj).2.2.2⟩, fun j hj => by rw [hf 121 (by omega) (by omega), hf 122 (by omega) (by omega)]; exact h.ms.2.2.2.2.2 j hj⟩, (h.mo.to (hf 123 (by omega) (by omega)) (hf 124 (by omega) (by omega)) (hf 125 (by omega) (by omega)) (hf 126 (by omega) (by omega)) (hf 127 (by omega) (by omega))), ⟨h.ws.1, h.ws.2.1, h.ws.2.2.1, h.ws.2.2.2.1, fun j hj => ⟨(h.ws.2.2.2.2.1 j hj).1, hF j hj, (h.ws.2.2.2.2.1 j hj).2.2⟩, h.ws.2.2.2.2.2⟩, h.wo, (h.un.to (congrFun (hf 110 (by omega) (by omega)) 19) (hf 128 (by omega) (by omega))), h.h8, h.hw, (Eq.trans (congrFun (hf 110 (by omega) (by omega)) 18) h.m18), h.z2, (h.kp.to (hf 123 (by omega) (by omega)) (hf 124 (by omega) (by omega)) (hf 125 (by omega) (by omega)) (hf 126 (by omega) (by omega)) (hf 127 (by omega) (by omega)))⟩
/-- lost is to be at no level -/
theorem lst_nine {S O : SD} {i l0 x0 : Nat} (h0 : l0 ≠ 9) : ∀ d, (lst S O i l0 x0 d ≠ -4 ↔ (crs S O i l0 x0 d).1 = 9)
  | 0 => ⟨fun z => absurd rfl z, fun z => absurd z h0⟩
  | d + 1 => by
    have ih := lst_nine (S := S) (O := O) (i := i) (x0 := x0) h0 d
    by_cases e : (crs S O i l0 x0 d).1 = 9
    · rw [(crs_lost e).1, (crs_lost e).2]; exact ih
    · have e4 : lst S O i l0 x0 d = -4 := lst_float d e
      show ((if (crs S O i l0 x0 d).1 ≠ 9 ∧ (crs S O i l0 x0 (d + 1)).1 = 9 then ((d + 1 : Nat) : Int) else lst S O i l0 x0 d) ≠ -4) ↔ _
      by_cases q : (crs S O i l0 x0 (d + 1)).1 = 9
      · rw [if_pos ⟨e, q⟩]; exact ⟨fun _ => q, fun _ => by omega⟩
      · rw [if_neg (fun z => q z.2), e4]; exact ⟨fun z => absurd rfl z, fun z => absurd z q⟩
theorem mt_cong {B B2 : Nat → TJ} (h : ∀ i t, B2 i t = B i t) : B2 = B := by
  funext i t
  exact h i t
