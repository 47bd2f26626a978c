set_option maxRecDepth 100000 in
set_option maxHeartbeats 4000000 in
theorem lc_write {κ : KT} {ad : Nat → Nat} {M : Mem} {cs : Nat × Nat} {Q : State → Prop} {L i : Nat} {xs : Nat → Int32} (h : Ok κ RL cL_law 4 room_1) (hs : Sc κ (ad 200) L xs) (hL : L ≤ 384) (hi : i + 6 ≤ L) (hcs : cs.1 ≤ room_1.cells ∧ cs.2 ≤ room_1.slots) (hI : LI M) (kk : ∀ M2 : Mem, LI M2 → E κ ad 139 pT M2 983 [some (vr 200), some (vr 0), some (vr 110), some (vi (i : Int))] [] cs Q) : E κ ad 139 pT M 144 [some (vr 200), some (vr 0), some (vr 110), some (vi (i : Int))] [] cs Q := by
  obtain ⟨so, dr, n, b, S, O, h0, f, g, z, K, hC, hM⟩ := hI
  have hT := hC.ws.2.1
  refine e_aload_n h dL_law_144 rfl ?_
  refine e_aload_n h dL_law_145 rfl ?_
  refine e_iload_n h dL_law_146 rfl ?_
  refine e_iconst h dL_law_147 ?_
  refine e_iadd h dL_law_148 ?_
  refine e_sld (j := i + 1) h hs dL_law_149 (by omega) (by omega) hL ?_
  refine e_aload_n h dL_law_150 rfl ?_
  refine e_iload_n h dL_law_151 rfl ?_
  refine e_iconst h dL_law_152 ?_
  refine e_iadd h dL_law_153 ?_
  refine e_sld (j := i + 2) h hs dL_law_154 (by omega) (by omega) hL ?_
  refine e_i2l h dL_law_155 (xr _) ?_
  refine e_bipush h dL_law_156 (by decide +kernel) ?_
  refine e_lshl h dL_law_158 (z := (lz1 (xs (i + 2)).toInt)) (j_back _).symm ?_
  refine e_aload_n h dL_law_159 rfl ?_
  refine e_iload_n h dL_law_160 rfl ?_
  refine e_iconst h dL_law_161 ?_
  refine e_iadd h dL_law_162 ?_
  refine e_sld (j := i + 3) h hs dL_law_163 (by omega) (by omega) hL ?_
  refine e_i2l h dL_law_164 (xr _) ?_
  refine e_ldc2 h dL_law_165 (x := 4294967295) kl_L_13 rfl ?_
  refine e_land h dL_law_168 (z := (lz2 (xs (i + 3)).toInt)) (j_back _).symm ?_
  refine e_lor h dL_law_169 (z := (lz3 (lz1 (xs (i + 2)).toInt) (lz2 (xs (i + 3)).toInt))) (j_back _).symm ?_
  refine e_callV2 lk_L_15 mv_X10_write dL_law_170 rfl (by decide) (by decide) (Nat.le_of_ble_eq_true rfl) (rmY := rmX10_write) ⟨by decide, by decide, rfl, rfl, hcs.1, hcs.2⟩ h ?_
  refine c_write (Nat.le_of_ble_eq_true rfl) hC (xr _) (fun kc => ?_) (fun mc e1c e2c e3c => ?_) (fun mc Mc vc e1c e2c e3c evc Rc Fc => ?_)
  · refine e_aload_n h dL_law_173 rfl ?_
    refine e_aload_n h dL_law_174 rfl ?_
    refine e_iload_n h dL_law_175 rfl ?_
    refine e_iconst h dL_law_176 ?_
    refine e_iadd h dL_law_177 ?_
    refine e_sld (j := i + 1) h hs dL_law_178 (by omega) (by omega) hL ?_
    refine e_aload_n h dL_law_179 rfl ?_
    refine e_iload_n h dL_law_180 rfl ?_
    refine e_iconst h dL_law_181 ?_
    refine e_iadd h dL_law_182 ?_
    refine e_sld (j := i + 2) h hs dL_law_183 (by omega) (by omega) hL ?_
    refine e_i2l h dL_law_184 (xr _) ?_
    refine e_bipush h dL_law_185 (by decide +kernel) ?_
    refine e_lshl h dL_law_187 (z := (lz1 (xs (i + 2)).toInt)) (j_back _).symm ?_
    refine e_aload_n h dL_law_188 rfl ?_
    refine e_iload_n h dL_law_189 rfl ?_
    refine e_iconst h dL_law_190 ?_
    refine e_iadd h dL_law_191 ?_
    refine e_sld (j := i + 3) h hs dL_law_192 (by omega) (by omega) hL ?_
    refine e_i2l h dL_law_193 (xr _) ?_
    refine e_ldc2 h dL_law_194 (x := 4294967295) kl_L_13 rfl ?_
    refine e_land h dL_law_197 (z := (lz2 (xs (i + 3)).toInt)) (j_back _).symm ?_
    refine e_lor h dL_law_198 (z := (lz3 (lz1 (xs (i + 2)).toInt) (lz2 (xs (i + 3)).toInt))) (j_back _).symm ?_
    refine e_callV2 lk_L_19 mv_X11_write dL_law_199 rfl (by decide) (by decide) (Nat.le_of_ble_eq_true rfl) (rmY := rmX11_write) ⟨by decide, by decide, rfl, rfl, hcs.1, hcs.2⟩ h ?_
    refine m_write (Nat.le_of_ble_eq_true rfl) hM (xr _) (fun km => ?_) (fun mm e1m e2m e3m => ?_) (fun mm Mm vm e1m e2m e3m evm Rm Fm => ?_)
    · refine e_icmp_eqs h dL_law_202 (tgt := 983) (by decide) rfl ?_
      exact kk _ ⟨_, _, _, _, _, _, _, _, _, _, _, hC, hM⟩
    · exfalso
      omega
    · exfalso
      omega
  · refine e_aload_n h dL_law_173 rfl ?_
    refine e_aload_n h dL_law_174 rfl ?_
    refine e_iload_n h dL_law_175 rfl ?_
    refine e_iconst h dL_law_176 ?_
    refine e_iadd h dL_law_177 ?_
    refine e_sld (j := i + 1) h hs dL_law_178 (by omega) (by omega) hL ?_
    refine e_aload_n h dL_law_179 rfl ?_
    refine e_iload_n h dL_law_180 rfl ?_
    refine e_iconst h dL_law_181 ?_
    refine e_iadd h dL_law_182 ?_
    refine e_sld (j := i + 2) h hs dL_law_183 (by omega) (by omega) hL ?_
    refine e_i2l h dL_law_184 (xr _) ?_
    refine e_bipush h dL_law_185 (by decide +kernel) ?_
    refine e_lshl h dL_law_187 (z := (lz1 (xs (i + 2)).toInt)) (j_back _).symm ?_
    refine e_aload_n h dL_law_188 rfl ?_
    refine e_iload_n h dL_law_189 rfl ?_
    refine e_iconst h dL_law_190 ?_
    refine e_iadd h dL_law_191 ?_
    refine e_sld (j := i + 3) h hs dL_law_192 (by omega) (by omega) hL ?_
    refine e_i2l h dL_law_193 (xr _) ?_
    refine e_ldc2 h dL_law_194 (x := 4294967295) kl_L_13 rfl ?_
    refine e_land h dL_law_197 (z := (lz2 (xs (i + 3)).toInt)) (j_back _).symm ?_
    refine e_lor h dL_law_198 (z := (lz3 (lz1 (xs (i + 2)).toInt) (lz2 (xs (i + 3)).toInt))) (j_back _).symm ?_
    refine e_callV2 lk_L_19 mv_X11_write dL_law_199 rfl (by decide) (by decide) (Nat.le_of_ble_eq_true rfl) (rmY := rmX11_write) ⟨by decide, by decide, rfl, rfl, hcs.1, hcs.2⟩ h ?_
    refine m_write (Nat.le_of_ble_eq_true rfl) hM (xr _) (fun km => ?_) (fun mm e1m e2m e3m => ?_) (fun mm Mm vm e1m e2m e3m evm Rm Fm => ?_)
    · exfalso
      omega
    · obtain rfl : mm = mc := by omega
      refine e_icmp_eqs h dL_law_202 (tgt := 983) (by decide) rfl ?_
      exact kk _ ⟨_, _, _, _, _, _, _, _, _, _, _, hC, hM⟩
    · exfalso
      omega
  · refine e_aload_n h dL_law_173 rfl ?_
    refine e_aload_n h dL_law_174 rfl ?_
    refine e_iload_n h dL_law_175 rfl ?_
    refine e_iconst h dL_law_176 ?_
    refine e_iadd h dL_law_177 ?_
    refine e_sld (j := i + 1) h hs dL_law_178 (by omega) (by omega) hL ?_
    refine e_aload_n h dL_law_179 rfl ?_
    refine e_iload_n h dL_law_180 rfl ?_
    refine e_iconst h dL_law_181 ?_
    refine e_iadd h dL_law_182 ?_
    refine e_sld (j := i + 2) h hs dL_law_183 (by omega) (by omega) hL ?_
    refine e_i2l h dL_law_184 (xr _) ?_
    refine e_bipush h dL_law_185 (by decide +kernel) ?_
    refine e_lshl h dL_law_187 (z := (lz1 (xs (i + 2)).toInt)) (j_back _).symm ?_
    refine e_aload_n h dL_law_188 rfl ?_
    refine e_iload_n h dL_law_189 rfl ?_
    refine e_iconst h dL_law_190 ?_
    refine e_iadd h dL_law_191 ?_
    refine e_sld (j := i + 3) h hs dL_law_192 (by omega) (by omega) hL ?_
    refine e_i2l h dL_law_193 (xr _) ?_
    refine e_ldc2 h dL_law_194 (x := 4294967295) kl_L_13 rfl ?_
    refine e_land h dL_law_197 (z := (lz2 (xs (i + 3)).toInt)) (j_back _).symm ?_
    refine e_lor h dL_law_198 (z := (lz3 (lz1 (xs (i + 2)).toInt) (lz2 (xs (i + 3)).toInt))) (j_back _).symm ?_
    refine e_callV2 lk_L_19 mv_X11_write dL_law_199 rfl (by decide) (by decide) (Nat.le_of_ble_eq_true rfl) (rmY := rmX11_write) ⟨by decide, by decide, rfl, rfl, hcs.1, hcs.2⟩ h ?_
    refine m_write (Nat.le_of_ble_eq_true rfl) (hM.kept Fc) (xr _) (fun km => ?_) (fun mm e1m e2m e3m => ?_) (fun mm Mm vm e1m e2m e3m evm Rm Fm => ?_)
    · exfalso
      omega
    · exfalso
      omega
    · obtain rfl : mm = mc := by omega
      refine e_icmp_eqs h dL_law_202 (tgt := 983) (by decide) (by rw [evc, evm]) ?_
      exact kk _ ⟨_, _, _, _, _, _, _, _, _, _, _, (Rc.kept Fm), Rm⟩
set_option maxRecDepth 100000 in
set_option maxHeartbeats 4000000 in
theorem lc_wipe {κ : KT} {ad : Nat → Nat} {M : Mem} {cs : Nat × Nat} {Q : State → Prop} {L i : Nat} {xs : Nat → Int32} (h : Ok κ RL cL_law 4 room_1) (hs : Sc κ (ad 200) L xs) (hL : L ≤ 384) (hi : i + 6 ≤ L) (hcs : cs.1 ≤ room_1.cells ∧ cs.2 ≤ room_1.slots) (hI : LI M) (kk : ∀ M2 : Mem, LI M2 → E κ ad 139 pT M2 983 [some (vr 200), some (vr 0), some (vr 110), some (vi (i : Int))] [] cs Q) : E κ ad 139 pT M 207 [some (vr 200), some (vr 0), some (vr 110), some (vi (i : Int))] [] cs Q := by
  obtain ⟨so, dr, n, b, S, O, h0, f, g, z, K, hC, hM⟩ := hI
  have hT := hC.ws.2.1
  refine e_aload_n h dL_law_207 rfl ?_
  refine e_callV0 lk_L_20 mv_X10_wipe dL_law_208 rfl (by decide) (by decide) (Nat.le_of_ble_eq_true rfl) (rmY := rmX10_wipe) ⟨by decide, by decide, rfl, rfl, hcs.1, hcs.2⟩ h ?_
  refine c_wipe (Nat.le_of_ble_eq_true rfl) hC  (fun Mc vc evc Rc Fc => ?_)
  refine e_aload_n h dL_law_211 rfl ?_
  refine e_callV0 lk_L_24 mv_X11_wipe dL_law_212 rfl (by decide) (by decide) (Nat.le_of_ble_eq_true rfl) (rmY := rmX11_wipe) ⟨by decide, by decide, rfl, rfl, hcs.1, hcs.2⟩ h ?_
  refine m_wipe (Nat.le_of_ble_eq_true rfl) (hM.kept Fc)  (fun Mm vm evm Rm Fm => ?_)
  refine e_icmp_eqs h dL_law_215 (tgt := 983) (by decide) (by rw [evc, evm]) ?_
  exact kk _ ⟨_, _, _, _, _, _, _, _, _, _, _, (Rc.kept Fm), Rm⟩
set_option maxRecDepth 100000 in
set_option maxHeartbeats 4000000 in
theorem lc_fault {κ : KT} {ad : Nat → Nat} {M : Mem} {cs : Nat × Nat} {Q : State → Prop} {L i : Nat} {xs : Nat → Int32} (h : Ok κ RL cL_law 4 room_1) (hs : Sc κ (ad 200) L xs) (hL : L ≤ 384) (hi : i + 6 ≤ L) (hcs : cs.1 ≤ room_1.cells ∧ cs.2 ≤ room_1.slots) (hI : LI M) (kk : ∀ M2 : Mem, LI M2 → E κ ad 139 pT M2 983 [some (vr 200), some (vr 0), some (vr 110), some (vi (i : Int))] [] cs Q) : E κ ad 139 pT M 220 [some (vr 200), some (vr 0), some (vr 110), some (vi (i : Int))] [] cs Q := by
  obtain ⟨so, dr, n, b, S, O, h0, f, g, z, K, hC, hM⟩ := hI
  have hT := hC.ws.2.1
  refine e_aload_n h dL_law_220 rfl ?_
  refine e_callV0 lk_L_25 mv_X10_fault dL_law_221 rfl (by decide) (by decide) (Nat.le_of_ble_eq_true rfl) (rmY := rmX10_fault) ⟨by decide, by decide, rfl, rfl, hcs.1, hcs.2⟩ h ?_
  refine c_fault (Nat.le_of_ble_eq_true rfl) hC  (fun Mc vc evc Rc Fc => ?_)
  refine e_aload_n h dL_law_224 rfl ?_
  refine e_callV0 lk_L_28 mv_X11_fault dL_law_225 rfl (by decide) (by decide) (Nat.le_of_ble_eq_true rfl) (rmY := rmX11_fault) ⟨by decide, by decide, rfl, rfl, hcs.1, hcs.2⟩ h ?_
  refine m_fault (Nat.le_of_ble_eq_true rfl) (hM.kept Fc)  (fun Mm vm evm Rm Fm => ?_)
  refine e_icmp_eqs h dL_law_228 (tgt := 983) (by decide) (by rw [evc, evm]) ?_
  exact kk _ ⟨_, _, _, _, _, _, _, _, _, _, _, (Rc.kept Fm), Rm⟩
set_option maxRecDepth 100000 in
set_option maxHeartbeats 4000000 in
theorem lc_lay {κ : KT} {ad : Nat → Nat} {M : Mem} {cs : Nat × Nat} {Q : State → Prop} {L i : Nat} {xs : Nat → Int32} (h : Ok κ RL cL_law 4 room_1) (hs : Sc κ (ad 200) L xs) (hL : L ≤ 384) (hi : i + 6 ≤ L) (hcs : cs.1 ≤ room_1.cells ∧ cs.2 ≤ room_1.slots) (hI : LI M) (kk : ∀ M2 : Mem, LI M2 → E κ ad 139 pT M2 983 [some (vr 200), some (vr 0), some (vr 110), some (vi (i : Int))] [] cs Q) : E κ ad 139 pT M 233 [some (vr 200), some (vr 0), some (vr 110), some (vi (i : Int))] [] cs Q := by
  obtain ⟨so, dr, n, b, S, O, h0, f, g, z, K, hC, hM⟩ := hI
  have hT := hC.ws.2.1
  refine e_aload_n h dL_law_233 rfl ?_
  refine e_callV0 lk_L_29 mv_X10_lay dL_law_234 rfl (by decide) (by decide) (Nat.le_of_ble_eq_true rfl) (rmY := rmX10_lay) ⟨by decide, by decide, rfl, rfl, hcs.1, hcs.2⟩ h ?_
  refine c_lay (Nat.le_of_ble_eq_true rfl) hC  (fun kc Mc Rc Fc => ?_) (fun rc cc e1c e2c e3c Mc vc evc Rc Fc => ?_)
  · refine e_aload_n h dL_law_237 rfl ?_
    refine e_callV0 lk_L_32 mv_X11_lay dL_law_238 rfl (by decide) (by decide) (Nat.le_of_ble_eq_true rfl) (rmY := rmX11_lay) ⟨by decide, by decide, rfl, rfl, hcs.1, hcs.2⟩ h ?_
    refine m_lay (Nat.le_of_ble_eq_true rfl) (hM.kept Fc)  (fun km Mm Rm Fm => ?_) (fun rm cm e1m e2m e3m Mm vm evm Rm Fm => ?_)
    · refine e_icmp_eqs h dL_law_241 (tgt := 983) (by decide) rfl ?_
      exact kk _ ⟨_, _, _, _, _, _, _, _, _, _, _, (Rc.kept Fm), Rm⟩
    · exact absurd ⟨by rw [e1m]; exact e2m, by rw [e1m]; exact e3m⟩ kc
  · refine e_aload_n h dL_law_237 rfl ?_
    refine e_callV0 lk_L_32 mv_X11_lay dL_law_238 rfl (by decide) (by decide) (Nat.le_of_ble_eq_true rfl) (rmY := rmX11_lay) ⟨by decide, by decide, rfl, rfl, hcs.1, hcs.2⟩ h ?_
    refine m_lay (Nat.le_of_ble_eq_true rfl) (hM.kept Fc)  (fun km Mm Rm Fm => ?_) (fun rm cm e1m e2m e3m Mm vm evm Rm Fm => ?_)
    · exact absurd ⟨by rw [e1c]; exact e2c, by rw [e1c]; exact e3c⟩ km
    · have hrr := e1c.symm.trans e1m
      cases hrr
      refine e_icmp_eqs h dL_law_241 (tgt := 983) (by decide) (by rw [evc, evm]) ?_
      exact kk _ ⟨_, _, _, _, _, _, _, _, _, _, _, (Rc.kept Fm), Rm⟩
set_option maxRecDepth 100000 in
set_option maxHeartbeats 4000000 in
theorem lc_level {κ : KT} {ad : Nat → Nat} {M : Mem} {cs : Nat × Nat} {Q : State → Prop} {L i : Nat} {xs : Nat → Int32} (h : Ok κ RL cL_law 4 room_1) (hs : Sc κ (ad 200) L xs) (hL : L ≤ 384) (hi : i + 6 ≤ L) (hcs : cs.1 ≤ room_1.cells ∧ cs.2 ≤ room_1.slots) (hI : LI M) (kk : ∀ M2 : Mem, LI M2 → E κ ad 139 pT M2 983 [some (vr 200), some (vr 0), some (vr 110), some (vi (i : Int))] [] cs Q) : E κ ad 139 pT M 246 [some (vr 200), some (vr 0), some (vr 110), some (vi (i : Int))] [] cs Q := by
  obtain ⟨so, dr, n, b, S, O, h0, f, g, z, K, hC, hM⟩ := hI
  have hT := hC.ws.2.1
  refine e_aload_n h dL_law_246 rfl ?_
  refine e_aload_n h dL_law_247 rfl ?_
  refine e_iload_n h dL_law_248 rfl ?_
  refine e_iconst h dL_law_249 ?_
  refine e_iadd h dL_law_250 ?_
  refine e_sld (j := i + 1) h hs dL_law_251 (by omega) (by omega) hL ?_
  refine e_aload_n h dL_law_252 rfl ?_
  refine e_iload_n h dL_law_253 rfl ?_
  refine e_iconst h dL_law_254 ?_
  refine e_iadd h dL_law_255 ?_
  refine e_sld (j := i + 2) h hs dL_law_256 (by omega) (by omega) hL ?_
  refine e_callV2 lk_L_33 mv_X10_level dL_law_257 rfl (by decide) (by decide) (Nat.le_of_ble_eq_true rfl) (rmY := rmX10_level) ⟨by decide, by decide, rfl, rfl, hcs.1, hcs.2⟩ h ?_
  refine c_level (Nat.le_of_ble_eq_true rfl) hC (xr _) (xr _) (fun kc => ?_) (fun lc vc e1c e2c e3c evc => ?_)
  · refine e_aload_n h dL_law_260 rfl ?_
    refine e_aload_n h dL_law_261 rfl ?_
    refine e_iload_n h dL_law_262 rfl ?_
    refine e_iconst h dL_law_263 ?_
    refine e_iadd h dL_law_264 ?_
    refine e_sld (j := i + 1) h hs dL_law_265 (by omega) (by omega) hL ?_
    refine e_aload_n h dL_law_266 rfl ?_
    refine e_iload_n h dL_law_267 rfl ?_
    refine e_iconst h dL_law_268 ?_
    refine e_iadd h dL_law_269 ?_
    refine e_sld (j := i + 2) h hs dL_law_270 (by omega) (by omega) hL ?_
    refine e_callV2 lk_L_37 mv_X11_level dL_law_271 rfl (by decide) (by decide) (Nat.le_of_ble_eq_true rfl) (rmY := rmX11_level) ⟨by decide, by decide, rfl, rfl, hcs.1, hcs.2⟩ h ?_
    refine m_level (Nat.le_of_ble_eq_true rfl) hM (xr _) (xr _) (fun km => ?_) (fun lm vm e1m e2m e3m evm => ?_)
    · refine e_icmp_eqs h dL_law_274 (tgt := 983) (by decide) rfl ?_
      exact kk _ ⟨_, _, _, _, _, _, _, _, _, _, _, hC, hM⟩
    · exfalso
      omega
  · refine e_aload_n h dL_law_260 rfl ?_
    refine e_aload_n h dL_law_261 rfl ?_
    refine e_iload_n h dL_law_262 rfl ?_
    refine e_iconst h dL_law_263 ?_
    refine e_iadd h dL_law_264 ?_
    refine e_sld (j := i + 1) h hs dL_law_265 (by omega) (by omega) hL ?_
    refine e_aload_n h dL_law_266 rfl ?_
    refine e_iload_n h dL_law_267 rfl ?_
    refine e_iconst h dL_law_268 ?_
    refine e_iadd h dL_law_269 ?_
    refine e_sld (j := i + 2) h hs dL_law_270 (by omega) (by omega) hL ?_
    refine e_callV2 lk_L_37 mv_X11_level dL_law_271 rfl (by decide) (by decide) (Nat.le_of_ble_eq_true rfl) (rmY := rmX11_level) ⟨by decide, by decide, rfl, rfl, hcs.1, hcs.2⟩ h ?_
    refine m_level (Nat.le_of_ble_eq_true rfl) hM (xr _) (xr _) (fun km => ?_) (fun lm vm e1m e2m e3m evm => ?_)
    · exfalso
      omega
    · obtain rfl : lm = lc := by omega
      refine e_icmp_eqs h dL_law_274 (tgt := 983) (by decide) (by rw [evc, evm]) ?_
      exact kk _ ⟨_, _, _, _, _, _, _, _, _, _, _, hC, hM⟩
set_option maxRecDepth 100000 in
set_option maxHeartbeats 4000000 in
theorem lc_town {κ : KT} {ad : Nat → Nat} {M : Mem} {cs : Nat × Nat} {Q : State → Prop} {L i : Nat} {xs : Nat → Int32} (h : Ok κ RL cL_law 4 room_1) (hs : Sc κ (ad 200) L xs) (hL : L ≤ 384) (hi : i + 6 ≤ L) (hcs : cs.1 ≤ room_1.cells ∧ cs.2 ≤ room_1.slots) (hI : LI M) (kk : ∀ M2 : Mem, LI M2 → E κ ad 139 pT M2 983 [some (vr 200), some (vr 0), some (vr 110), some (vi (i : Int))] [] cs Q) : E κ ad 139 pT M 279 [some (vr 200), some (vr 0), some (vr 110), some (vi (i : Int))] [] cs Q := by
  obtain ⟨so, dr, n, b, S, O, h0, f, g, z, K, hC, hM⟩ := hI
  have hT := hC.ws.2.1
  refine e_aload_n h dL_law_279 rfl ?_
  refine e_aload_n h dL_law_280 rfl ?_
  refine e_iload_n h dL_law_281 rfl ?_
  refine e_iconst h dL_law_282 ?_
  refine e_iadd h dL_law_283 ?_
  refine e_sld (j := i + 1) h hs dL_law_284 (by omega) (by omega) hL ?_
  refine e_aload_n h dL_law_285 rfl ?_
  refine e_iload_n h dL_law_286 rfl ?_
  refine e_iconst h dL_law_287 ?_
  refine e_iadd h dL_law_288 ?_
  refine e_sld (j := i + 2) h hs dL_law_289 (by omega) (by omega) hL ?_
  refine e_aload_n h dL_law_290 rfl ?_
  refine e_iload_n h dL_law_291 rfl ?_
  refine e_iconst h dL_law_292 ?_
  refine e_iadd h dL_law_293 ?_
  refine e_sld (j := i + 3) h hs dL_law_294 (by omega) (by omega) hL ?_
  refine e_callV3 lk_L_38 mv_X10_town dL_law_295 rfl (by decide) (by decide) (Nat.le_of_ble_eq_true rfl) (rmY := rmX10_town) ⟨by decide, by decide, rfl, rfl, hcs.1, hcs.2⟩ h ?_
  refine c_town (Nat.le_of_ble_eq_true rfl) hC (xr _) (xr _) (xr _) (fun kc => ?_) (fun ic tc Mc vc e1c e2c e3c e4c e5c evc Rc Fc => ?_)
  · refine e_aload_n h dL_law_298 rfl ?_
    refine e_aload_n h dL_law_299 rfl ?_
    refine e_iload_n h dL_law_300 rfl ?_
    refine e_iconst h dL_law_301 ?_
    refine e_iadd h dL_law_302 ?_
    refine e_sld (j := i + 1) h hs dL_law_303 (by omega) (by omega) hL ?_
    refine e_aload_n h dL_law_304 rfl ?_
    refine e_iload_n h dL_law_305 rfl ?_
    refine e_iconst h dL_law_306 ?_
    refine e_iadd h dL_law_307 ?_
    refine e_sld (j := i + 2) h hs dL_law_308 (by omega) (by omega) hL ?_
    refine e_aload_n h dL_law_309 rfl ?_
    refine e_iload_n h dL_law_310 rfl ?_
    refine e_iconst h dL_law_311 ?_
    refine e_iadd h dL_law_312 ?_
    refine e_sld (j := i + 3) h hs dL_law_313 (by omega) (by omega) hL ?_
    refine e_callV3 lk_L_42 mv_X11_town dL_law_314 rfl (by decide) (by decide) (Nat.le_of_ble_eq_true rfl) (rmY := rmX11_town) ⟨by decide, by decide, rfl, rfl, hcs.1, hcs.2⟩ h ?_
    refine m_town (Nat.le_of_ble_eq_true rfl) hM (xr _) (xr _) (xr _) (fun km => ?_) (fun im tm Mm vm e1m e2m e3m e4m e5m evm Rm Fm => ?_)
    · refine e_icmp_eqs h dL_law_317 (tgt := 983) (by decide) rfl ?_
      exact kk _ ⟨_, _, _, _, _, _, _, _, _, _, _, hC, hM⟩
    · exfalso
      omega
  · refine e_aload_n h dL_law_298 rfl ?_
    refine e_aload_n h dL_law_299 rfl ?_
    refine e_iload_n h dL_law_300 rfl ?_
    refine e_iconst h dL_law_301 ?_
    refine e_iadd h dL_law_302 ?_
    refine e_sld (j := i + 1) h hs dL_law_303 (by omega) (by omega) hL ?_
    refine e_aload_n h dL_law_304 rfl ?_
    refine e_iload_n h dL_law_305 rfl ?_
    refine e_iconst h dL_law_306 ?_
    refine e_iadd h dL_law_307 ?_
    refine e_sld (j := i + 2) h hs dL_law_308 (by omega) (by omega) hL ?_
    refine e_aload_n h dL_law_309 rfl ?_
    refine e_iload_n h dL_law_310 rfl ?_
    refine e_iconst h dL_law_311 ?_
    refine e_iadd h dL_law_312 ?_
    refine e_sld (j := i + 3) h hs dL_law_313 (by omega) (by omega) hL ?_
    refine e_callV3 lk_L_42 mv_X11_town dL_law_314 rfl (by decide) (by decide) (Nat.le_of_ble_eq_true rfl) (rmY := rmX11_town) ⟨by decide, by decide, rfl, rfl, hcs.1, hcs.2⟩ h ?_
    refine m_town (Nat.le_of_ble_eq_true rfl) (hM.kept Fc) (xr _) (xr _) (xr _) (fun km => ?_) (fun im tm Mm vm e1m e2m e3m e4m e5m evm Rm Fm => ?_)
    · exfalso
      omega
    · obtain rfl : im = ic := by omega
      obtain rfl : tm = tc := by omega
      refine e_icmp_eqs h dL_law_317 (tgt := 983) (by decide) (by rw [evc, evm]) ?_
      exact kk _ ⟨_, _, _, _, _, _, _, _, _, _, _, (Rc.kept Fm), Rm⟩
set_option maxRecDepth 100000 in
set_option maxHeartbeats 4000000 in
theorem lc_lost {κ : KT} {ad : Nat → Nat} {M : Mem} {cs : Nat × Nat} {Q : State → Prop} {L i : Nat} {xs : Nat → Int32} (h : Ok κ RL cL_law 4 room_1) (hs : Sc κ (ad 200) L xs) (hL : L ≤ 384) (hi : i + 6 ≤ L) (hcs : cs.1 ≤ room_1.cells ∧ cs.2 ≤ room_1.slots) (hI : LI M) (kk : ∀ M2 : Mem, LI M2 → E κ ad 139 pT M2 983 [some (vr 200), some (vr 0), some (vr 110), some (vi (i : Int))] [] cs Q) : E κ ad 139 pT M 322 [some (vr 200), some (vr 0), some (vr 110), some (vi (i : Int))] [] cs Q := by
  obtain ⟨so, dr, n, b, S, O, h0, f, g, z, K, hC, hM⟩ := hI
  have hT := hC.ws.2.1
  refine e_aload_n h dL_law_322 rfl ?_
  refine e_aload_n h dL_law_323 rfl ?_
  refine e_iload_n h dL_law_324 rfl ?_
  refine e_iconst h dL_law_325 ?_
  refine e_iadd h dL_law_326 ?_
  refine e_sld (j := i + 1) h hs dL_law_327 (by omega) (by omega) hL ?_
  refine e_callV1 lk_L_43 mv_X10_lost dL_law_328 rfl (by decide) (by decide) (Nat.le_of_ble_eq_true rfl) (rmY := rmX10_lost) ⟨by decide, by decide, rfl, rfl, hcs.1, hcs.2⟩ h ?_
  refine c_lost (Nat.le_of_ble_eq_true rfl) hC (xr _) (fun kc => ?_) (fun ic Mc vc e1c e2c evc Rc Fc => ?_)
  · refine e_aload_n h dL_law_331 rfl ?_
    refine e_aload_n h dL_law_332 rfl ?_
    refine e_iload_n h dL_law_333 rfl ?_
    refine e_iconst h dL_law_334 ?_
    refine e_iadd h dL_law_335 ?_
    refine e_sld (j := i + 1) h hs dL_law_336 (by omega) (by omega) hL ?_
    refine e_callV1 lk_L_47 mv_X11_lost dL_law_337 rfl (by decide) (by decide) (Nat.le_of_ble_eq_true rfl) (rmY := rmX11_lost) ⟨by decide, by decide, rfl, rfl, hcs.1, hcs.2⟩ h ?_
    refine m_lost (Nat.le_of_ble_eq_true rfl) hM (xr _) (fun km => ?_) (fun im Mm vm e1m e2m evm Rm Fm => ?_)
    · refine e_icmp_eqs h dL_law_340 (tgt := 983) (by decide) rfl ?_
      exact kk _ ⟨_, _, _, _, _, _, _, _, _, _, _, hC, hM⟩
    · exfalso
      omega
  · refine e_aload_n h dL_law_331 rfl ?_
    refine e_aload_n h dL_law_332 rfl ?_
    refine e_iload_n h dL_law_333 rfl ?_
    refine e_iconst h dL_law_334 ?_
    refine e_iadd h dL_law_335 ?_
    refine e_sld (j := i + 1) h hs dL_law_336 (by omega) (by omega) hL ?_
    refine e_callV1 lk_L_47 mv_X11_lost dL_law_337 rfl (by decide) (by decide) (Nat.le_of_ble_eq_true rfl) (rmY := rmX11_lost) ⟨by decide, by decide, rfl, rfl, hcs.1, hcs.2⟩ h ?_
    refine m_lost (Nat.le_of_ble_eq_true rfl) (hM.kept Fc) (xr _) (fun km => ?_) (fun im Mm vm e1m e2m evm Rm Fm => ?_)
    · exfalso
      omega
    · obtain rfl : im = ic := by omega
      refine e_icmp_eqs h dL_law_340 (tgt := 983) (by decide) (by rw [evc, evm]) ?_
      exact kk _ ⟨_, _, _, _, _, _, _, _, _, _, _, (Rc.kept Fm), Rm⟩
set_option maxRecDepth 100000 in
set_option maxHeartbeats 4000000 in
theorem lc_meet {κ : KT} {ad : Nat → Nat} {M : Mem} {cs : Nat × Nat} {Q : State → Prop} {L i : Nat} {xs : Nat → Int32} (h : Ok κ RL cL_law 4 room_1) (hs : Sc κ (ad 200) L xs) (hL : L ≤ 384) (hi : i + 6 ≤ L) (hcs : cs.1 ≤ room_1.cells ∧ cs.2 ≤ room_1.slots) (hI : LI M) (kk : ∀ M2 : Mem, LI M2 → E κ ad 139 pT M2 983 [some (vr 200), some (vr 0), some (vr 110), some (vi (i : Int))] [] cs Q) : E κ ad 139 pT M 345 [some (vr 200), some (vr 0), some (vr 110), some (vi (i : Int))] [] cs Q := by
  obtain ⟨so, dr, n, b, S, O, h0, f, g, z, K, hC, hM⟩ := hI
  have hT := hC.ws.2.1
  refine e_aload_n h dL_law_345 rfl ?_
  refine e_aload_n h dL_law_346 rfl ?_
  refine e_iload_n h dL_law_347 rfl ?_
  refine e_iconst h dL_law_348 ?_
  refine e_iadd h dL_law_349 ?_
  refine e_sld (j := i + 1) h hs dL_law_350 (by omega) (by omega) hL ?_
  refine e_aload_n h dL_law_351 rfl ?_
  refine e_iload_n h dL_law_352 rfl ?_
  refine e_iconst h dL_law_353 ?_
  refine e_iadd h dL_law_354 ?_
  refine e_sld (j := i + 2) h hs dL_law_355 (by omega) (by omega) hL ?_
  refine e_callV2 lk_L_48 mv_X10_meet dL_law_356 rfl (by decide) (by decide) (Nat.le_of_ble_eq_true rfl) (rmY := rmX10_meet) ⟨by decide, by decide, rfl, rfl, hcs.1, hcs.2⟩ h ?_
  refine c_meet (Nat.le_of_ble_eq_true rfl) hC (xr _) (xr _) (fun kc => ?_) (fun ic jc Mc vc e1c e2c e3c e4c e5c evc Rc Fc => ?_)
  · refine e_aload_n h dL_law_359 rfl ?_
    refine e_aload_n h dL_law_360 rfl ?_
    refine e_iload_n h dL_law_361 rfl ?_
    refine e_iconst h dL_law_362 ?_
    refine e_iadd h dL_law_363 ?_
    refine e_sld (j := i + 1) h hs dL_law_364 (by omega) (by omega) hL ?_
    refine e_aload_n h dL_law_365 rfl ?_
    refine e_iload_n h dL_law_366 rfl ?_
    refine e_iconst h dL_law_367 ?_
    refine e_iadd h dL_law_368 ?_
    refine e_sld (j := i + 2) h hs dL_law_369 (by omega) (by omega) hL ?_
    refine e_callV2 lk_L_51 mv_X11_meet dL_law_370 rfl (by decide) (by decide) (Nat.le_of_ble_eq_true rfl) (rmY := rmX11_meet) ⟨by decide, by decide, rfl, rfl, hcs.1, hcs.2⟩ h ?_
    refine m_meet (Nat.le_of_ble_eq_true rfl) hM (xr _) (xr _) (fun km => ?_) (fun im jm Mm vm e1m e2m e3m e4m e5m evm Rm Fm => ?_)
    · refine e_icmp_eqs h dL_law_373 (tgt := 983) (by decide) rfl ?_
      exact kk _ ⟨_, _, _, _, _, _, _, _, _, _, _, hC, hM⟩
    · exfalso
      omega
  · refine e_aload_n h dL_law_359 rfl ?_
    refine e_aload_n h dL_law_360 rfl ?_
    refine e_iload_n h dL_law_361 rfl ?_
    refine e_iconst h dL_law_362 ?_
    refine e_iadd h dL_law_363 ?_
    refine e_sld (j := i + 1) h hs dL_law_364 (by omega) (by omega) hL ?_
    refine e_aload_n h dL_law_365 rfl ?_
    refine e_iload_n h dL_law_366 rfl ?_
    refine e_iconst h dL_law_367 ?_
    refine e_iadd h dL_law_368 ?_
    refine e_sld (j := i + 2) h hs dL_law_369 (by omega) (by omega) hL ?_
    refine e_callV2 lk_L_51 mv_X11_meet dL_law_370 rfl (by decide) (by decide) (Nat.le_of_ble_eq_true rfl) (rmY := rmX11_meet) ⟨by decide, by decide, rfl, rfl, hcs.1, hcs.2⟩ h ?_
    refine m_meet (Nat.le_of_ble_eq_true rfl) (hM.kept Fc) (xr _) (xr _) (fun km => ?_) (fun im jm Mm vm e1m e2m e3m e4m e5m evm Rm Fm => ?_)
    · exfalso
      omega
    · obtain rfl : im = ic := by omega
      obtain rfl : jm = jc := by omega
      refine e_icmp_eqs h dL_law_373 (tgt := 983) (by decide) (by rw [evc, evm]) ?_
      exact kk _ ⟨_, _, _, _, _, _, _, _, _, _, _, (Rc.kept Fm), Rm⟩
set_option maxRecDepth 100000 in
set_option maxHeartbeats 4000000 in
theorem lc_markets {κ : KT} {ad : Nat → Nat} {M : Mem} {cs : Nat × Nat} {Q : State → Prop} {L i : Nat} {xs : Nat → Int32} (h : Ok κ RL cL_law 4 room_1) (hs : Sc κ (ad 200) L xs) (hL : L ≤ 384) (hi : i + 6 ≤ L) (hcs : cs.1 ≤ room_1.cells ∧ cs.2 ≤ room_1.slots) (hI : LI M) (kk : ∀ M2 : Mem, LI M2 → E κ ad 139 pT M2 983 [some (vr 200), some (vr 0), some (vr 110), some (vi (i : Int))] [] cs Q) : E κ ad 139 pT M 378 [some (vr 200), some (vr 0), some (vr 110), some (vi (i : Int))] [] cs Q := by
  obtain ⟨so, dr, n, b, S, O, h0, f, g, z, K, hC, hM⟩ := hI
  have hT := hC.ws.2.1
  refine e_aload_n h dL_law_378 rfl ?_
  refine e_aload_n h dL_law_379 rfl ?_
  refine e_iload_n h dL_law_380 rfl ?_
  refine e_iconst h dL_law_381 ?_
  refine e_iadd h dL_law_382 ?_
  refine e_sld (j := i + 1) h hs dL_law_383 (by omega) (by omega) hL ?_
  refine e_callV1 lk_L_52 mv_X10_markets dL_law_384 rfl (by decide) (by decide) (Nat.le_of_ble_eq_true rfl) (rmY := rmX10_markets) ⟨by decide, by decide, rfl, rfl, hcs.1, hcs.2⟩ h ?_
  refine c_markets (Nat.le_of_ble_eq_true rfl) hC (xr _) (fun kc => ?_) (fun nc Mc vc e1c e2c evc Rc Fc => ?_)
  · refine e_aload_n h dL_law_387 rfl ?_
    refine e_aload_n h dL_law_388 rfl ?_
    refine e_iload_n h dL_law_389 rfl ?_
    refine e_iconst h dL_law_390 ?_
    refine e_iadd h dL_law_391 ?_
    refine e_sld (j := i + 1) h hs dL_law_392 (by omega) (by omega) hL ?_
    refine e_callV1 lk_L_55 mv_X11_markets dL_law_393 rfl (by decide) (by decide) (Nat.le_of_ble_eq_true rfl) (rmY := rmX11_markets) ⟨by decide, by decide, rfl, rfl, hcs.1, hcs.2⟩ h ?_
    refine m_markets (Nat.le_of_ble_eq_true rfl) hM (xr _) (fun km => ?_) (fun nm Mm vm e1m e2m evm Rm Fm => ?_)
    · refine e_icmp_eqs h dL_law_396 (tgt := 983) (by decide) rfl ?_
      exact kk _ ⟨_, _, _, _, _, _, _, _, _, _, _, hC, hM⟩
    · exfalso
      omega
  · refine e_aload_n h dL_law_387 rfl ?_
    refine e_aload_n h dL_law_388 rfl ?_
    refine e_iload_n h dL_law_389 rfl ?_
    refine e_iconst h dL_law_390 ?_
    refine e_iadd h dL_law_391 ?_
    refine e_sld (j := i + 1) h hs dL_law_392 (by omega) (by omega) hL ?_
    refine e_callV1 lk_L_55 mv_X11_markets dL_law_393 rfl (by decide) (by decide) (Nat.le_of_ble_eq_true rfl) (rmY := rmX11_markets) ⟨by decide, by decide, rfl, rfl, hcs.1, hcs.2⟩ h ?_
    refine m_markets (Nat.le_of_ble_eq_true rfl) (hM.kept Fc) (xr _) (fun km => ?_) (fun nm Mm vm e1m e2m evm Rm Fm => ?_)
    · exfalso
      omega
    · obtain rfl : nm = nc := by omega
      refine e_icmp_eqs h dL_law_396 (tgt := 983) (by decide) (by rw [evc, evm, am_half]) ?_
      exact kk _ ⟨_, _, _, _, _, _, _, _, _, _, _, (Rc.kept Fm), Rm⟩
set_option maxRecDepth 100000 in
set_option maxHeartbeats 4000000 in
theorem lc_stay {κ : KT} {ad : Nat → Nat} {M : Mem} {cs : Nat × Nat} {Q : State → Prop} {L i : Nat} {xs : Nat → Int32} (h : Ok κ RL cL_law 4 room_1) (hs : Sc κ (ad 200) L xs) (hL : L ≤ 384) (hi : i + 6 ≤ L) (hcs : cs.1 ≤ room_1.cells ∧ cs.2 ≤ room_1.slots) (hI : LI M) (kk : ∀ M2 : Mem, LI M2 → E κ ad 139 pT M2 983 [some (vr 200), some (vr 0), some (vr 110), some (vi (i : Int))] [] cs Q) : E κ ad 139 pT M 401 [some (vr 200), some (vr 0), some (vr 110), some (vi (i : Int))] [] cs Q := by
  obtain ⟨so, dr, n, b, S, O, h0, f, g, z, K, hC, hM⟩ := hI
  have hT := hC.ws.2.1
  refine e_aload_n h dL_law_401 rfl ?_
  refine e_aload_n h dL_law_402 rfl ?_
  refine e_iload_n h dL_law_403 rfl ?_
  refine e_iconst h dL_law_404 ?_
  refine e_iadd h dL_law_405 ?_
  refine e_sld (j := i + 1) h hs dL_law_406 (by omega) (by omega) hL ?_
  refine e_aload_n h dL_law_407 rfl ?_
  refine e_iload_n h dL_law_408 rfl ?_
  refine e_iconst h dL_law_409 ?_
  refine e_iadd h dL_law_410 ?_
  refine e_sld (j := i + 2) h hs dL_law_411 (by omega) (by omega) hL ?_
  refine e_aload_n h dL_law_412 rfl ?_
  refine e_iload_n h dL_law_413 rfl ?_
  refine e_iconst h dL_law_414 ?_
  refine e_iadd h dL_law_415 ?_
  refine e_sld (j := i + 3) h hs dL_law_416 (by omega) (by omega) hL ?_
  refine e_callV3 lk_L_56 mv_X10_stay dL_law_417 rfl (by decide) (by decide) (Nat.le_of_ble_eq_true rfl) (rmY := rmX10_stay) ⟨by decide, by decide, rfl, rfl, hcs.1, hcs.2⟩ h ?_
  refine c_stay (Nat.le_of_ble_eq_true rfl) hC (xr _) (xr _) (xr _) (fun kc => ?_) (fun ic jc vc e1c e2c e3c e4c e5c e6c evc => ?_)
  · refine e_aload_n h dL_law_420 rfl ?_
    refine e_aload_n h dL_law_421 rfl ?_
    refine e_iload_n h dL_law_422 rfl ?_
    refine e_iconst h dL_law_423 ?_
    refine e_iadd h dL_law_424 ?_
    refine e_sld (j := i + 1) h hs dL_law_425 (by omega) (by omega) hL ?_
    refine e_aload_n h dL_law_426 rfl ?_
    refine e_iload_n h dL_law_427 rfl ?_
    refine e_iconst h dL_law_428 ?_
    refine e_iadd h dL_law_429 ?_
    refine e_sld (j := i + 2) h hs dL_law_430 (by omega) (by omega) hL ?_
    refine e_aload_n h dL_law_431 rfl ?_
    refine e_iload_n h dL_law_432 rfl ?_
    refine e_iconst h dL_law_433 ?_
    refine e_iadd h dL_law_434 ?_
    refine e_sld (j := i + 3) h hs dL_law_435 (by omega) (by omega) hL ?_
    refine e_callV3 lk_L_59 mv_X11_stay dL_law_436 rfl (by decide) (by decide) (Nat.le_of_ble_eq_true rfl) (rmY := rmX11_stay) ⟨by decide, by decide, rfl, rfl, hcs.1, hcs.2⟩ h ?_
    refine m_stay (Nat.le_of_ble_eq_true rfl) hM (xr _) (xr _) (xr _) (fun km => ?_) (fun im jm vm e1m e2m e3m e4m e5m e6m evm => ?_)
    · refine e_icmp_eqs h dL_law_439 (tgt := 983) (by decide) rfl ?_
      exact kk _ ⟨_, _, _, _, _, _, _, _, _, _, _, hC, hM⟩
    · exfalso
      omega
  · refine e_aload_n h dL_law_420 rfl ?_
    refine e_aload_n h dL_law_421 rfl ?_
    refine e_iload_n h dL_law_422 rfl ?_
    refine e_iconst h dL_law_423 ?_
    refine e_iadd h dL_law_424 ?_
    refine e_sld (j := i + 1) h hs dL_law_425 (by omega) (by omega) hL ?_
    refine e_aload_n h dL_law_426 rfl ?_
    refine e_iload_n h dL_law_427 rfl ?_
    refine e_iconst h dL_law_428 ?_
    refine e_iadd h dL_law_429 ?_
    refine e_sld (j := i + 2) h hs dL_law_430 (by omega) (by omega) hL ?_
    refine e_aload_n h dL_law_431 rfl ?_
    refine e_iload_n h dL_law_432 rfl ?_
    refine e_iconst h dL_law_433 ?_
    refine e_iadd h dL_law_434 ?_
    refine e_sld (j := i + 3) h hs dL_law_435 (by omega) (by omega) hL ?_
    refine e_callV3 lk_L_59 mv_X11_stay dL_law_436 rfl (by decide) (by decide) (Nat.le_of_ble_eq_true rfl) (rmY := rmX11_stay) ⟨by decide, by decide, rfl, rfl, hcs.1, hcs.2⟩ h ?_
    refine m_stay (Nat.le_of_ble_eq_true rfl) hM (xr _) (xr _) (xr _) (fun km => ?_) (fun im jm vm e1m e2m e3m e4m e5m e6m evm => ?_)
    · exfalso
      omega
    · obtain rfl : im = ic := by omega
      obtain rfl : jm = jc := by omega
      refine e_icmp_eqs h dL_law_439 (tgt := 983) (by decide) (by rw [evc, evm]) ?_
      exact kk _ ⟨_, _, _, _, _, _, _, _, _, _, _, hC, hM⟩
set_option maxRecDepth 100000 in
set_option maxHeartbeats 4000000 in
theorem lc_catches {κ : KT} {ad : Nat → Nat} {M : Mem} {cs : Nat × Nat} {Q : State → Prop} {L i : Nat} {xs : Nat → Int32} (h : Ok κ RL cL_law 4 room_1) (hs : Sc κ (ad 200) L xs) (hL : L ≤ 384) (hi : i + 6 ≤ L) (hcs : cs.1 ≤ room_1.cells ∧ cs.2 ≤ room_1.slots) (hI : LI M) (kk : ∀ M2 : Mem, LI M2 → E κ ad 139 pT M2 983 [some (vr 200), some (vr 0), some (vr 110), some (vi (i : Int))] [] cs Q) : E κ ad 139 pT M 444 [some (vr 200), some (vr 0), some (vr 110), some (vi (i : Int))] [] cs Q := by
  obtain ⟨so, dr, n, b, S, O, h0, f, g, z, K, hC, hM⟩ := hI
  have hT := hC.ws.2.1
  refine e_aload_n h dL_law_444 rfl ?_
  refine e_aload_n h dL_law_445 rfl ?_
  refine e_iload_n h dL_law_446 rfl ?_
  refine e_iconst h dL_law_447 ?_
  refine e_iadd h dL_law_448 ?_
  refine e_sld (j := i + 1) h hs dL_law_449 (by omega) (by omega) hL ?_
  refine e_aload_n h dL_law_450 rfl ?_
  refine e_iload_n h dL_law_451 rfl ?_
  refine e_iconst h dL_law_452 ?_
  refine e_iadd h dL_law_453 ?_
  refine e_sld (j := i + 2) h hs dL_law_454 (by omega) (by omega) hL ?_
  refine e_aload_n h dL_law_455 rfl ?_
  refine e_iload_n h dL_law_456 rfl ?_
  refine e_iconst h dL_law_457 ?_
  refine e_iadd h dL_law_458 ?_
  refine e_sld (j := i + 3) h hs dL_law_459 (by omega) (by omega) hL ?_
  refine e_callV3 lk_L_60 mv_X10_catches dL_law_460 rfl (by decide) (by decide) (Nat.le_of_ble_eq_true rfl) (rmY := rmX10_catches) ⟨by decide, by decide, rfl, rfl, hcs.1, hcs.2⟩ h ?_
  refine c_catches (Nat.le_of_ble_eq_true rfl) hC (xr _) (xr _) (xr _) (fun kc => ?_) (fun ic jc Mc vc e1c e2c e3c e4c e5c e6c evc Rc Fc => ?_)
  · refine e_aload_n h dL_law_463 rfl ?_
    refine e_aload_n h dL_law_464 rfl ?_
    refine e_iload_n h dL_law_465 rfl ?_
    refine e_iconst h dL_law_466 ?_
    refine e_iadd h dL_law_467 ?_
    refine e_sld (j := i + 1) h hs dL_law_468 (by omega) (by omega) hL ?_
    refine e_aload_n h dL_law_469 rfl ?_
    refine e_iload_n h dL_law_470 rfl ?_
    refine e_iconst h dL_law_471 ?_
    refine e_iadd h dL_law_472 ?_
    refine e_sld (j := i + 2) h hs dL_law_473 (by omega) (by omega) hL ?_
    refine e_aload_n h dL_law_474 rfl ?_
    refine e_iload_n h dL_law_475 rfl ?_
    refine e_iconst h dL_law_476 ?_
    refine e_iadd h dL_law_477 ?_
    refine e_sld (j := i + 3) h hs dL_law_478 (by omega) (by omega) hL ?_
    refine e_callV3 lk_L_63 mv_X11_catches dL_law_479 rfl (by decide) (by decide) (Nat.le_of_ble_eq_true rfl) (rmY := rmX11_catches) ⟨by decide, by decide, rfl, rfl, hcs.1, hcs.2⟩ h ?_
    refine m_catches (Nat.le_of_ble_eq_true rfl) hM (xr _) (xr _) (xr _) (fun km => ?_) (fun im jm Mm vm e1m e2m e3m e4m e5m e6m evm Rm Fm => ?_)
    · refine e_icmp_eqs h dL_law_482 (tgt := 983) (by decide) rfl ?_
      exact kk _ ⟨_, _, _, _, _, _, _, _, _, _, _, hC, hM⟩
    · exfalso
      omega
  · refine e_aload_n h dL_law_463 rfl ?_
    refine e_aload_n h dL_law_464 rfl ?_
    refine e_iload_n h dL_law_465 rfl ?_
    refine e_iconst h dL_law_466 ?_
    refine e_iadd h dL_law_467 ?_
    refine e_sld (j := i + 1) h hs dL_law_468 (by omega) (by omega) hL ?_
    refine e_aload_n h dL_law_469 rfl ?_
    refine e_iload_n h dL_law_470 rfl ?_
    refine e_iconst h dL_law_471 ?_
    refine e_iadd h dL_law_472 ?_
    refine e_sld (j := i + 2) h hs dL_law_473 (by omega) (by omega) hL ?_
    refine e_aload_n h dL_law_474 rfl ?_
    refine e_iload_n h dL_law_475 rfl ?_
    refine e_iconst h dL_law_476 ?_
    refine e_iadd h dL_law_477 ?_
    refine e_sld (j := i + 3) h hs dL_law_478 (by omega) (by omega) hL ?_
    refine e_callV3 lk_L_63 mv_X11_catches dL_law_479 rfl (by decide) (by decide) (Nat.le_of_ble_eq_true rfl) (rmY := rmX11_catches) ⟨by decide, by decide, rfl, rfl, hcs.1, hcs.2⟩ h ?_
    refine m_catches (Nat.le_of_ble_eq_true rfl) (hM.kept Fc) (xr _) (xr _) (xr _) (fun km => ?_) (fun im jm Mm vm e1m e2m e3m e4m e5m e6m evm Rm Fm => ?_)
    · exfalso
      omega
    · obtain rfl : im = ic := by omega
      obtain rfl : jm = jc := by omega
      refine e_icmp_eqs h dL_law_482 (tgt := 983) (by decide) (CV_one evc evm) ?_
      exact kk _ ⟨_, _, _, _, _, _, _, _, _, _, _, (Rc.kept Fm), Rm⟩
set_option maxRecDepth 100000 in
set_option maxHeartbeats 4000000 in
theorem lc_keeps {κ : KT} {ad : Nat → Nat} {M : Mem} {cs : Nat × Nat} {Q : State → Prop} {L i : Nat} {xs : Nat → Int32} (h : Ok κ RL cL_law 4 room_1) (hs : Sc κ (ad 200) L xs) (hL : L ≤ 384) (hi : i + 6 ≤ L) (hcs : cs.1 ≤ room_1.cells ∧ cs.2 ≤ room_1.slots) (hI : LI M) (kk : ∀ M2 : Mem, LI M2 → E κ ad 139 pT M2 983 [some (vr 200), some (vr 0), some (vr 110), some (vi (i : Int))] [] cs Q) : E κ ad 139 pT M 487 [some (vr 200), some (vr 0), some (vr 110), some (vi (i : Int))] [] cs Q := by
  obtain ⟨so, dr, n, b, S, O, h0, f, g, z, K, hC, hM⟩ := hI
  have hT := hC.ws.2.1
  refine e_aload_n h dL_law_487 rfl ?_
  refine e_aload_n h dL_law_488 rfl ?_
  refine e_iload_n h dL_law_489 rfl ?_
  refine e_iconst h dL_law_490 ?_
  refine e_iadd h dL_law_491 ?_
  refine e_sld (j := i + 1) h hs dL_law_492 (by omega) (by omega) hL ?_
  refine e_aload_n h dL_law_493 rfl ?_
  refine e_iload_n h dL_law_494 rfl ?_
  refine e_iconst h dL_law_495 ?_
  refine e_iadd h dL_law_496 ?_
  refine e_sld (j := i + 2) h hs dL_law_497 (by omega) (by omega) hL ?_
  refine e_aload_n h dL_law_498 rfl ?_
  refine e_iload_n h dL_law_499 rfl ?_
  refine e_iconst h dL_law_500 ?_
  refine e_iadd h dL_law_501 ?_
  refine e_sld (j := i + 3) h hs dL_law_502 (by omega) (by omega) hL ?_
  refine e_callV3 lk_L_64 mv_X10_keeps dL_law_503 rfl (by decide) (by decide) (Nat.le_of_ble_eq_true rfl) (rmY := rmX10_keeps) ⟨by decide, by decide, rfl, rfl, hcs.1, hcs.2⟩ h ?_
  refine c_keeps (Nat.le_of_ble_eq_true rfl) hC (xr _) (xr _) (xr _) (fun kc => ?_) (fun ic nc Mc vc e1c e2c e3c e4c e5c evc Rc Fc => ?_)
  · refine e_aload_n h dL_law_506 rfl ?_
    refine e_aload_n h dL_law_507 rfl ?_
    refine e_iload_n h dL_law_508 rfl ?_
    refine e_iconst h dL_law_509 ?_
    refine e_iadd h dL_law_510 ?_
    refine e_sld (j := i + 1) h hs dL_law_511 (by omega) (by omega) hL ?_
    refine e_aload_n h dL_law_512 rfl ?_
    refine e_iload_n h dL_law_513 rfl ?_
    refine e_iconst h dL_law_514 ?_
    refine e_iadd h dL_law_515 ?_
    refine e_sld (j := i + 2) h hs dL_law_516 (by omega) (by omega) hL ?_
    refine e_aload_n h dL_law_517 rfl ?_
    refine e_iload_n h dL_law_518 rfl ?_
    refine e_iconst h dL_law_519 ?_
    refine e_iadd h dL_law_520 ?_
    refine e_sld (j := i + 3) h hs dL_law_521 (by omega) (by omega) hL ?_
    refine e_callV3 lk_L_67 mv_X11_keeps dL_law_522 rfl (by decide) (by decide) (Nat.le_of_ble_eq_true rfl) (rmY := rmX11_keeps) ⟨by decide, by decide, rfl, rfl, hcs.1, hcs.2⟩ h ?_
    refine m_keeps (Nat.le_of_ble_eq_true rfl) hM (xr _) (xr _) (xr _) (fun km => ?_) (fun im nm Mm vm e1m e2m e3m e4m e5m evm Rm Fm => ?_)
    · refine e_icmp_eqs h dL_law_525 (tgt := 983) (by decide) rfl ?_
      exact kk _ ⟨_, _, _, _, _, _, _, _, _, _, _, hC, hM⟩
    · exfalso
      omega
  · refine e_aload_n h dL_law_506 rfl ?_
    refine e_aload_n h dL_law_507 rfl ?_
    refine e_iload_n h dL_law_508 rfl ?_
    refine e_iconst h dL_law_509 ?_
    refine e_iadd h dL_law_510 ?_
    refine e_sld (j := i + 1) h hs dL_law_511 (by omega) (by omega) hL ?_
    refine e_aload_n h dL_law_512 rfl ?_
    refine e_iload_n h dL_law_513 rfl ?_
    refine e_iconst h dL_law_514 ?_
    refine e_iadd h dL_law_515 ?_
    refine e_sld (j := i + 2) h hs dL_law_516 (by omega) (by omega) hL ?_
    refine e_aload_n h dL_law_517 rfl ?_
    refine e_iload_n h dL_law_518 rfl ?_
    refine e_iconst h dL_law_519 ?_
    refine e_iadd h dL_law_520 ?_
    refine e_sld (j := i + 3) h hs dL_law_521 (by omega) (by omega) hL ?_
    refine e_callV3 lk_L_67 mv_X11_keeps dL_law_522 rfl (by decide) (by decide) (Nat.le_of_ble_eq_true rfl) (rmY := rmX11_keeps) ⟨by decide, by decide, rfl, rfl, hcs.1, hcs.2⟩ h ?_
    refine m_keeps (Nat.le_of_ble_eq_true rfl) (hM.kept Fc) (xr _) (xr _) (xr _) (fun km => ?_) (fun im nm Mm vm e1m e2m e3m e4m e5m evm Rm Fm => ?_)
    · exfalso
      omega
    · obtain rfl : im = ic := by omega
      obtain rfl : nm = nc := by omega
      refine e_icmp_eqs h dL_law_525 (tgt := 983) (by decide) (by rw [evc, evm]; exact (keepV_m hC.ws.1.1).symm) ?_
      exact kk _ ⟨_, _, _, _, _, _, _, _, _, _, _, (Rc.kept Fm), Rm⟩
set_option maxRecDepth 100000 in
set_option maxHeartbeats 4000000 in
theorem lc_trades {κ : KT} {ad : Nat → Nat} {M : Mem} {cs : Nat × Nat} {Q : State → Prop} {L i : Nat} {xs : Nat → Int32} (h : Ok κ RL cL_law 4 room_1) (hs : Sc κ (ad 200) L xs) (hL : L ≤ 384) (hi : i + 6 ≤ L) (hcs : cs.1 ≤ room_1.cells ∧ cs.2 ≤ room_1.slots) (hI : LI M) (kk : ∀ M2 : Mem, LI M2 → E κ ad 139 pT M2 983 [some (vr 200), some (vr 0), some (vr 110), some (vi (i : Int))] [] cs Q) : E κ ad 139 pT M 530 [some (vr 200), some (vr 0), some (vr 110), some (vi (i : Int))] [] cs Q := by
  obtain ⟨so, dr, n, b, S, O, h0, f, g, z, K, hC, hM⟩ := hI
  have hT := hC.ws.2.1
  refine e_aload_n h dL_law_530 rfl ?_
  refine e_aload_n h dL_law_531 rfl ?_
  refine e_iload_n h dL_law_532 rfl ?_
  refine e_iconst h dL_law_533 ?_
  refine e_iadd h dL_law_534 ?_
  refine e_sld (j := i + 1) h hs dL_law_535 (by omega) (by omega) hL ?_
  refine e_aload_n h dL_law_536 rfl ?_
  refine e_iload_n h dL_law_537 rfl ?_
  refine e_iconst h dL_law_538 ?_
  refine e_iadd h dL_law_539 ?_
  refine e_sld (j := i + 2) h hs dL_law_540 (by omega) (by omega) hL ?_
  refine e_aload_n h dL_law_541 rfl ?_
  refine e_iload_n h dL_law_542 rfl ?_
  refine e_iconst h dL_law_543 ?_
  refine e_iadd h dL_law_544 ?_
  refine e_sld (j := i + 3) h hs dL_law_545 (by omega) (by omega) hL ?_
  refine e_callV3 lk_L_68 mv_X10_trades dL_law_546 rfl (by decide) (by decide) (Nat.le_of_ble_eq_true rfl) (rmY := rmX10_trades) ⟨by decide, by decide, rfl, rfl, hcs.1, hcs.2⟩ h ?_
  refine c_trades (Nat.le_of_ble_eq_true rfl) hC (xr _) (xr _) (xr _) (fun kc => ?_) (fun ic nc Mc vc e1c e2c e3c e4c e5c evc Rc Fc => ?_)
  · refine e_aload_n h dL_law_549 rfl ?_
    refine e_aload_n h dL_law_550 rfl ?_
    refine e_iload_n h dL_law_551 rfl ?_
    refine e_iconst h dL_law_552 ?_
    refine e_iadd h dL_law_553 ?_
    refine e_sld (j := i + 1) h hs dL_law_554 (by omega) (by omega) hL ?_
    refine e_aload_n h dL_law_555 rfl ?_
    refine e_iload_n h dL_law_556 rfl ?_
    refine e_iconst h dL_law_557 ?_
    refine e_iadd h dL_law_558 ?_
    refine e_sld (j := i + 2) h hs dL_law_559 (by omega) (by omega) hL ?_
    refine e_aload_n h dL_law_560 rfl ?_
    refine e_iload_n h dL_law_561 rfl ?_
    refine e_iconst h dL_law_562 ?_
    refine e_iadd h dL_law_563 ?_
    refine e_sld (j := i + 3) h hs dL_law_564 (by omega) (by omega) hL ?_
    refine e_callV3 lk_L_71 mv_X11_trades dL_law_565 rfl (by decide) (by decide) (Nat.le_of_ble_eq_true rfl) (rmY := rmX11_trades) ⟨by decide, by decide, rfl, rfl, hcs.1, hcs.2⟩ h ?_
    refine m_trades (Nat.le_of_ble_eq_true rfl) hM (xr _) (xr _) (xr _) (fun km => ?_) (fun im nm Mm vm e1m e2m e3m e4m e5m evm Rm Fm => ?_)
    · refine e_icmp_eqs h dL_law_568 (tgt := 983) (by decide) rfl ?_
      exact kk _ ⟨_, _, _, _, _, _, _, _, _, _, _, hC, hM⟩
    · exfalso
      omega
  · refine e_aload_n h dL_law_549 rfl ?_
    refine e_aload_n h dL_law_550 rfl ?_
    refine e_iload_n h dL_law_551 rfl ?_
    refine e_iconst h dL_law_552 ?_
    refine e_iadd h dL_law_553 ?_
    refine e_sld (j := i + 1) h hs dL_law_554 (by omega) (by omega) hL ?_
    refine e_aload_n h dL_law_555 rfl ?_
    refine e_iload_n h dL_law_556 rfl ?_
    refine e_iconst h dL_law_557 ?_
    refine e_iadd h dL_law_558 ?_
    refine e_sld (j := i + 2) h hs dL_law_559 (by omega) (by omega) hL ?_
    refine e_aload_n h dL_law_560 rfl ?_
    refine e_iload_n h dL_law_561 rfl ?_
    refine e_iconst h dL_law_562 ?_
    refine e_iadd h dL_law_563 ?_
    refine e_sld (j := i + 3) h hs dL_law_564 (by omega) (by omega) hL ?_
    refine e_callV3 lk_L_71 mv_X11_trades dL_law_565 rfl (by decide) (by decide) (Nat.le_of_ble_eq_true rfl) (rmY := rmX11_trades) ⟨by decide, by decide, rfl, rfl, hcs.1, hcs.2⟩ h ?_
    refine m_trades (Nat.le_of_ble_eq_true rfl) (hM.kept Fc) (xr _) (xr _) (xr _) (fun km => ?_) (fun im nm Mm vm e1m e2m e3m e4m e5m evm Rm Fm => ?_)
    · exfalso
      omega
    · obtain rfl : im = ic := by omega
      obtain rfl : nm = nc := by omega
      refine e_icmp_eqs h dL_law_568 (tgt := 983) (by decide) (by rw [evc, evm]; exact (tradV_m hC.ws.1.1).symm) ?_
      exact kk _ ⟨_, _, _, _, _, _, _, _, _, _, _, (Rc.kept Fm), Rm⟩
set_option maxRecDepth 100000 in
set_option maxHeartbeats 4000000 in
theorem lc_dropped {κ : KT} {ad : Nat → Nat} {M : Mem} {cs : Nat × Nat} {Q : State → Prop} {L i : Nat} {xs : Nat → Int32} (h : Ok κ RL cL_law 4 room_1) (hs : Sc κ (ad 200) L xs) (hL : L ≤ 384) (hi : i + 6 ≤ L) (hcs : cs.1 ≤ room_1.cells ∧ cs.2 ≤ room_1.slots) (hI : LI M) (kk : ∀ M2 : Mem, LI M2 → E κ ad 139 pT M2 983 [some (vr 200), some (vr 0), some (vr 110), some (vi (i : Int))] [] cs Q) : E κ ad 139 pT M 573 [some (vr 200), some (vr 0), some (vr 110), some (vi (i : Int))] [] cs Q := by
  obtain ⟨so, dr, n, b, S, O, h0, f, g, z, K, hC, hM⟩ := hI
  have hT := hC.ws.2.1
  refine e_aload_n h dL_law_573 rfl ?_
  refine e_aload_n h dL_law_574 rfl ?_
  refine e_iload_n h dL_law_575 rfl ?_
  refine e_iconst h dL_law_576 ?_
  refine e_iadd h dL_law_577 ?_
  refine e_sld (j := i + 1) h hs dL_law_578 (by omega) (by omega) hL ?_
  refine e_aload_n h dL_law_579 rfl ?_
  refine e_iload_n h dL_law_580 rfl ?_
  refine e_iconst h dL_law_581 ?_
  refine e_iadd h dL_law_582 ?_
  refine e_sld (j := i + 2) h hs dL_law_583 (by omega) (by omega) hL ?_
  refine e_aload_n h dL_law_584 rfl ?_
  refine e_iload_n h dL_law_585 rfl ?_
  refine e_iconst h dL_law_586 ?_
  refine e_iadd h dL_law_587 ?_
  refine e_sld (j := i + 3) h hs dL_law_588 (by omega) (by omega) hL ?_
  refine e_aload_n h dL_law_589 rfl ?_
  refine e_iload_n h dL_law_590 rfl ?_
  refine e_iconst h dL_law_591 ?_
  refine e_iadd h dL_law_592 ?_
  refine e_sld (j := i + 4) h hs dL_law_593 (by omega) (by omega) hL ?_
  refine e_callV4 lk_L_72 mv_X10_dropped dL_law_594 rfl (by decide) (by decide) (Nat.le_of_ble_eq_true rfl) (rmY := rmX10_dropped) ⟨by decide, by decide, rfl, rfl, hcs.1, hcs.2⟩ h ?_
  refine c_dropped (Nat.le_of_ble_eq_true rfl) hC (xr _) (xr _) (xr _) (xr _) (fun kc => ?_) (fun lc xc nc vc e1c e2c e3c e4c e5c e6c e7c evc => ?_)
  · refine e_aload_n h dL_law_597 rfl ?_
    refine e_aload_n h dL_law_598 rfl ?_
    refine e_iload_n h dL_law_599 rfl ?_
    refine e_iconst h dL_law_600 ?_
    refine e_iadd h dL_law_601 ?_
    refine e_sld (j := i + 1) h hs dL_law_602 (by omega) (by omega) hL ?_
    refine e_aload_n h dL_law_603 rfl ?_
    refine e_iload_n h dL_law_604 rfl ?_
    refine e_iconst h dL_law_605 ?_
    refine e_iadd h dL_law_606 ?_
    refine e_sld (j := i + 2) h hs dL_law_607 (by omega) (by omega) hL ?_
    refine e_aload_n h dL_law_608 rfl ?_
    refine e_iload_n h dL_law_609 rfl ?_
    refine e_iconst h dL_law_610 ?_
    refine e_iadd h dL_law_611 ?_
    refine e_sld (j := i + 3) h hs dL_law_612 (by omega) (by omega) hL ?_
    refine e_aload_n h dL_law_613 rfl ?_
    refine e_iload_n h dL_law_614 rfl ?_
    refine e_iconst h dL_law_615 ?_
    refine e_iadd h dL_law_616 ?_
    refine e_sld (j := i + 4) h hs dL_law_617 (by omega) (by omega) hL ?_
    refine e_callV4 lk_L_76 mv_X11_dropped dL_law_618 rfl (by decide) (by decide) (Nat.le_of_ble_eq_true rfl) (rmY := rmX11_dropped) ⟨by decide, by decide, rfl, rfl, hcs.1, hcs.2⟩ h ?_
    refine m_dropped (Nat.le_of_ble_eq_true rfl) hM (xr _) (xr _) (xr _) (xr _) (fun km => ?_) (fun lm xm nm vm e1m e2m e3m e4m e5m e6m e7m evm => ?_)
    · refine e_icmp_eqs h dL_law_621 (tgt := 983) (by decide) rfl ?_
      exact kk _ ⟨_, _, _, _, _, _, _, _, _, _, _, hC, hM⟩
    · exfalso
      omega
  · refine e_aload_n h dL_law_597 rfl ?_
    refine e_aload_n h dL_law_598 rfl ?_
    refine e_iload_n h dL_law_599 rfl ?_
    refine e_iconst h dL_law_600 ?_
    refine e_iadd h dL_law_601 ?_
    refine e_sld (j := i + 1) h hs dL_law_602 (by omega) (by omega) hL ?_
    refine e_aload_n h dL_law_603 rfl ?_
    refine e_iload_n h dL_law_604 rfl ?_
    refine e_iconst h dL_law_605 ?_
    refine e_iadd h dL_law_606 ?_
    refine e_sld (j := i + 2) h hs dL_law_607 (by omega) (by omega) hL ?_
    refine e_aload_n h dL_law_608 rfl ?_
    refine e_iload_n h dL_law_609 rfl ?_
    refine e_iconst h dL_law_610 ?_
    refine e_iadd h dL_law_611 ?_
    refine e_sld (j := i + 3) h hs dL_law_612 (by omega) (by omega) hL ?_
    refine e_aload_n h dL_law_613 rfl ?_
    refine e_iload_n h dL_law_614 rfl ?_
    refine e_iconst h dL_law_615 ?_
    refine e_iadd h dL_law_616 ?_
    refine e_sld (j := i + 4) h hs dL_law_617 (by omega) (by omega) hL ?_
    refine e_callV4 lk_L_76 mv_X11_dropped dL_law_618 rfl (by decide) (by decide) (Nat.le_of_ble_eq_true rfl) (rmY := rmX11_dropped) ⟨by decide, by decide, rfl, rfl, hcs.1, hcs.2⟩ h ?_
    refine m_dropped (Nat.le_of_ble_eq_true rfl) hM (xr _) (xr _) (xr _) (xr _) (fun km => ?_) (fun lm xm nm vm e1m e2m e3m e4m e5m e6m e7m evm => ?_)
    · exfalso
      omega
    · obtain rfl : lm = lc := by omega
      obtain rfl : xm = xc := by omega
      obtain rfl : nm = nc := by omega
      refine e_icmp_eqs h dL_law_621 (tgt := 983) (by decide) (by rw [evc, evm]) ?_
      exact kk _ ⟨_, _, _, _, _, _, _, _, _, _, _, hC, hM⟩
