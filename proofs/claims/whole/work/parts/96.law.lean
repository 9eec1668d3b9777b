/-! THE LAW -/
abbrev LV (z : amZ) (b i : Nat) : List (Nat × Value) := [(3, .int (nI i)), (2, .ref ((zB z).size + 64)), (1, .ref ((zB z).size + 0)), (0, .ref b)]
def INV (c : Nat) (s : St) (G : amG) (I : amI) (L : amL) (ce sl : Nat) : Prop := CO s G I L ∧ RI s I L ∧ WI s c ∧ ce ≤ 85 + 5 * c + 2 * wl G ∧ sl ≤ 79859 + 1078 * c + 2 * wl G
theorem wl_le {s : St} {G : amG} {I : amI} {L : amL} (h : CO s G I L) : wl G ≤ 65536 := by
  obtain ⟨wp, len, w1, w2, _⟩ := h.2.2.2.2
  rw [wl_of w1]; exact wO_le w2
section LW
variable {z : amZ} {cc : ByteArray} {own : String} {nL ce sl pc : Nat} {lv : List (Nat × Value)} {rest : List Value} {G : amG} {I : amI} {L : amL} {b N : Nat} {xs : Nat → Int32}
theorem am_vS {H : Heap} {locs : List Loc} (h2 : am_W (zD z) (zB z) G I L H) (h3 : ∀ q ∈ locs, (zB z).size ≤ q.base) : va_S (fun q => (zB z).size ≤ q) (zB z) H locs := ⟨by rw [h2.1]; exact Nat.le_add_right _ _, fun q hq _ => h2.2.1 q hq, h3⟩
theorem am_sld (hz : Ok z cc own nL) (hX : va_X b N xs (zS z) (zB z)) (hbl : b < (zB z).size) {i : Int32} (hin : vp_in i N) (hd : decode cc pc = .ok (.iaload, 1)) (kk : Wx z ce sl (pc + 1) lv (.int (xs i.toNatClampNeg) :: rest) G I L) : Wx z ce sl pc lv (.int i :: .ref b :: rest) G I L :=
  fun ls H locs h1 h2 h3 => va_sld (A := fun q => (zB z).size ≤ q) (H0 := zB z) hz.1 hz.2.1 hX hbl (Nat.not_le.mpr hbl) (am_vS h2 h3) hin hd (kk ls H locs h1 h2 h3)
theorem am_slen (hz : Ok z cc own nL) (hX : va_X b N xs (zS z) (zB z)) (hbl : b < (zB z).size) (hd : decode cc pc = .ok (.arraylength, 1)) (kk : Wx z ce sl (pc + 1) lv (.int (Int32.ofNat N) :: rest) G I L) : Wx z ce sl pc lv (.ref b :: rest) G I L :=
  fun ls H locs h1 h2 h3 => va_slen (A := fun q => (zB z).size ≤ q) (H0 := zB z) hz.1 hz.2.1 hX hbl (Nat.not_le.mpr hbl) (am_vS h2 h3) hd (kk ls H locs h1 h2 h3)
end LW
theorem lw_tail {z : amZ} {b i ce sl : Nat} {G : amG} {I : amI} {L : amL} (hz : Ok z cL_law RL 4) (h : Wx z ce sl 18 (LV z b (i + 6)) [] G I L) : Wx z ce sl 1332 (LV z b i) [] G I L := by
  refine am_iinc (v := nI (i + 6)) (lv' := LV z b (i + 6)) hz dL_law_1332 0 rfl (by rw [show Int32.ofInt 6 = nI 6 from rfl, nI_add]) rfl rfl ?_
  exact am_goto (tgt := 18) hz dL_law_1335 (by decide) h
set_option maxRecDepth 100000 in
set_option maxHeartbeats 4000000 in
theorem lw_feed {z : amZ} {b N i c : Nat} {xs : Nat → Int32} {s : St} {G : amG} {I : amI} {L : amL} {ce sl : Nat} (hz : Ok z cL_law RL 4) (hR : zR z = room_1) (hX : va_X b N xs (zS z) (zB z)) (hbl : b < (zB z).size) (hi : i + 6 ≤ N) (hN : N ≤ 3072) (hc : c < 512) (hv : INV c s G I L ce sl) (next : ∀ s' G' I' L' ce' sl', INV (c + 1) s' G' I' L' ce' sl' → Wx z ce' sl' 18 (LV z b (i + 6)) [] G' I' L') : Wx z ce sl 176 (LV z b i) [] G I L := by
  obtain ⟨hs, hr, hw, hce, hsl⟩ := hv
  have hG := hs.1
  have hwl := wl_le hs
  have ix : ∀ j, j < 6 → vp_in (nI i + nI j) N := fun j hj => inA (by omega) (by omega)
  refine am_aload_n hz dL_law_176 2 rfl rfl ?_
  refine am_aload_n hz dL_law_177 3 rfl rfl ?_
  refine am_iload_n hz dL_law_178 0 rfl rfl ?_
  refine am_iconst (v := 1) hz dL_law_179 (by decide) ?_
  refine am_iadd hz dL_law_180 ?_
  refine am_sld hz hX hbl (ix 1 (by decide)) dL_law_181 ?_
  refine am_aload_n hz dL_law_182 3 rfl rfl ?_
  refine am_iload_n hz dL_law_183 0 rfl rfl ?_
  refine am_iconst (v := 2) hz dL_law_184 (by decide) ?_
  refine am_iadd hz dL_law_185 ?_
  refine am_sld hz hX hbl (ix 2 (by decide)) dL_law_186 ?_
  refine am_aload_n hz dL_law_187 3 rfl rfl ?_
  refine am_iload_n hz dL_law_188 0 rfl rfl ?_
  refine am_iconst (v := 3) hz dL_law_189 (by decide) ?_
  refine am_iadd hz dL_law_190 ?_
  refine am_sld hz hX hbl (ix 3 (by decide)) dL_law_191 ?_
  refine am_aload_n hz dL_law_192 3 rfl rfl ?_
  refine am_iload_n hz dL_law_193 0 rfl rfl ?_
  refine am_iconst (v := 4) hz dL_law_194 (by decide) ?_
  refine am_iadd hz dL_law_195 ?_
  refine am_sld hz hX hbl (ix 4 (by decide)) dL_law_196 ?_
  refine am_aload_n hz dL_law_197 3 rfl rfl ?_
  refine am_iload_n hz dL_law_198 0 rfl rfl ?_
  refine am_iconst (v := 5) hz dL_law_199 (by decide) ?_
  refine am_iadd hz dL_law_200 ?_
  refine am_sld hz hX hbl (ix 5 (by decide)) dL_law_201 ?_
  refine am_callV hz cv_L_13 [.int (xs (nI i + 1).toNatClampNeg), .int (xs (nI i + 2).toNatClampNeg), .int (xs (nI i + 3).toNatClampNeg), .int (xs (nI i + 4).toNatClampNeg), .int (xs (nI i + 5).toNatClampNeg)] [] (c_X11_feed hG _ _ _ _ _ hs hw.1) (ln_0 hG) (lk_0 hG) rfl rfl (by rw [hR]; exact Nat.le_of_ble_eq_true rfl) (by rw [hR]; exact Nat.le_of_ble_eq_true rfl) (by rw [hR]; exact ⟨by show _ ≤ 600000; omega, by show _ ≤ 7302250; omega⟩) (Nat.le_of_ble_eq_true rfl) dL_law_202 (fun ro G1 I1 L1 ⟨r1, r2, r3, r4⟩ => ?_)
  rw [r1]
  refine am_aload_n hz dL_law_205 1 rfl rfl ?_
  refine am_aload_n hz dL_law_206 3 rfl rfl ?_
  refine am_iload_n hz dL_law_207 0 rfl rfl ?_
  refine am_iconst (v := 1) hz dL_law_208 (by decide) ?_
  refine am_iadd hz dL_law_209 ?_
  refine am_sld hz hX hbl (ix 1 (by decide)) dL_law_210 ?_
  refine am_aload_n hz dL_law_211 3 rfl rfl ?_
  refine am_iload_n hz dL_law_212 0 rfl rfl ?_
  refine am_iconst (v := 2) hz dL_law_213 (by decide) ?_
  refine am_iadd hz dL_law_214 ?_
  refine am_sld hz hX hbl (ix 2 (by decide)) dL_law_215 ?_
  refine am_aload_n hz dL_law_216 3 rfl rfl ?_
  refine am_iload_n hz dL_law_217 0 rfl rfl ?_
  refine am_iconst (v := 3) hz dL_law_218 (by decide) ?_
  refine am_iadd hz dL_law_219 ?_
  refine am_sld hz hX hbl (ix 3 (by decide)) dL_law_220 ?_
  refine am_aload_n hz dL_law_221 3 rfl rfl ?_
  refine am_iload_n hz dL_law_222 0 rfl rfl ?_
  refine am_iconst (v := 4) hz dL_law_223 (by decide) ?_
  refine am_iadd hz dL_law_224 ?_
  refine am_sld hz hX hbl (ix 4 (by decide)) dL_law_225 ?_
  refine am_aload_n hz dL_law_226 3 rfl rfl ?_
  refine am_iload_n hz dL_law_227 0 rfl rfl ?_
  refine am_iconst (v := 5) hz dL_law_228 (by decide) ?_
  refine am_iadd hz dL_law_229 ?_
  refine am_sld hz hX hbl (ix 5 (by decide)) dL_law_230 ?_
  refine am_callV hz cv_L_17 [.int (xs (nI i + 1).toNatClampNeg), .int (xs (nI i + 2).toNatClampNeg), .int (xs (nI i + 3).toNatClampNeg), .int (xs (nI i + 4).toNatClampNeg), .int (xs (nI i + 5).toNatClampNeg)] [.int _] (c_X12_feed r2.1 _ _ _ _ _ (RI_C hr r3) hw.1) (ln_64 r2.1) (lk_64 r2.1) rfl rfl (by rw [hR]; exact Nat.le_of_ble_eq_true rfl) (by rw [hR]; exact Nat.le_of_ble_eq_true rfl) (by rw [hR]; exact ⟨by show _ ≤ 600000; omega, by show _ ≤ 7302250; omega⟩) (Nat.le_of_ble_eq_true rfl) dL_law_231 (fun ro2 G2 I2 L2 ⟨t1, t2, t3, t4⟩ => ?_)
  rw [t1, t2]
  refine am_icmp_eq (tgt := 1332) hz dL_law_234 (by decide) (fun _ => ?_) (fun h => absurd rfl h)
  exact lw_tail hz (next _ _ _ _ _ _ ⟨CO_M r2 t4, t3, (WI_m (WI_feed hw _ _ _ _ _) (Nat.le_succ _)), by omega, by omega⟩)
set_option maxRecDepth 100000 in
set_option maxHeartbeats 4000000 in
theorem lw_end {z : amZ} {b N i c : Nat} {xs : Nat → Int32} {s : St} {G : amG} {I : amI} {L : amL} {ce sl : Nat} (hz : Ok z cL_law RL 4) (hR : zR z = room_1) (hX : va_X b N xs (zS z) (zB z)) (hbl : b < (zB z).size) (hi : i + 6 ≤ N) (hN : N ≤ 3072) (hc : c < 512) (hv : INV c s G I L ce sl) (next : ∀ s' G' I' L' ce' sl', INV (c + 1) s' G' I' L' ce' sl' → Wx z ce' sl' 18 (LV z b (i + 6)) [] G' I' L') : Wx z ce sl 239 (LV z b i) [] G I L := by
  obtain ⟨hs, hr, hw, hce, hsl⟩ := hv
  have hG := hs.1
  have hwl := wl_le hs
  have ix : ∀ j, j < 6 → vp_in (nI i + nI j) N := fun j hj => inA (by omega) (by omega)
  refine am_aload_n hz dL_law_239 2 rfl rfl ?_
  refine am_aload_n hz dL_law_240 3 rfl rfl ?_
  refine am_iload_n hz dL_law_241 0 rfl rfl ?_
  refine am_iconst (v := 1) hz dL_law_242 (by decide) ?_
  refine am_iadd hz dL_law_243 ?_
  refine am_sld hz hX hbl (ix 1 (by decide)) dL_law_244 ?_
  refine am_callV hz cv_L_18 [.int (xs (nI i + 1).toNatClampNeg)] [] (c_X11_end hG _ hs hw.1) (ln_0 hG) (lk_0 hG) rfl rfl (by rw [hR]; exact Nat.le_of_ble_eq_true rfl) (by rw [hR]; exact Nat.le_of_ble_eq_true rfl) (by rw [hR]; exact ⟨by show _ ≤ 600000; omega, by show _ ≤ 7302250; omega⟩) (Nat.le_of_ble_eq_true rfl) dL_law_245 (fun ro G1 I1 L1 ⟨r1, r2, r3, r4⟩ => ?_)
  rw [r1]
  refine am_aload_n hz dL_law_248 1 rfl rfl ?_
  refine am_aload_n hz dL_law_249 3 rfl rfl ?_
  refine am_iload_n hz dL_law_250 0 rfl rfl ?_
  refine am_iconst (v := 1) hz dL_law_251 (by decide) ?_
  refine am_iadd hz dL_law_252 ?_
  refine am_sld hz hX hbl (ix 1 (by decide)) dL_law_253 ?_
  refine am_callV hz cv_L_22 [.int (xs (nI i + 1).toNatClampNeg)] [.int _] (c_X12_end r2.1 _ (RI_C hr r3) hw.1) (ln_64 r2.1) (lk_64 r2.1) rfl rfl (by rw [hR]; exact Nat.le_of_ble_eq_true rfl) (by rw [hR]; exact Nat.le_of_ble_eq_true rfl) (by rw [hR]; exact ⟨by show _ ≤ 600000; omega, by show _ ≤ 7302250; omega⟩) (Nat.le_of_ble_eq_true rfl) dL_law_254 (fun ro2 G2 I2 L2 ⟨t1, t2, t3, t4⟩ => ?_)
  rw [t1, t2]
  refine am_icmp_eq (tgt := 1332) hz dL_law_257 (by decide) (fun _ => ?_) (fun h => absurd rfl h)
  exact lw_tail hz (next _ _ _ _ _ _ ⟨CO_M r2 t4, t3, (WI_m (WI_end hw _) (Nat.le_succ _)), by omega, by omega⟩)
set_option maxRecDepth 100000 in
set_option maxHeartbeats 4000000 in
theorem lw_tell {z : amZ} {b N i c : Nat} {xs : Nat → Int32} {s : St} {G : amG} {I : amI} {L : amL} {ce sl : Nat} (hz : Ok z cL_law RL 4) (hR : zR z = room_1) (hX : va_X b N xs (zS z) (zB z)) (hbl : b < (zB z).size) (hi : i + 6 ≤ N) (hN : N ≤ 3072) (hc : c < 512) (hv : INV c s G I L ce sl) (next : ∀ s' G' I' L' ce' sl', INV (c + 1) s' G' I' L' ce' sl' → Wx z ce' sl' 18 (LV z b (i + 6)) [] G' I' L') : Wx z ce sl 262 (LV z b i) [] G I L := by
  obtain ⟨hs, hr, hw, hce, hsl⟩ := hv
  have hG := hs.1
  have hwl := wl_le hs
  have ix : ∀ j, j < 6 → vp_in (nI i + nI j) N := fun j hj => inA (by omega) (by omega)
  refine am_aload_n hz dL_law_262 2 rfl rfl ?_
  refine am_callV hz cv_L_23 [] [] (c_X11_tell hG hs hw.1) (ln_0 hG) (lk_0 hG) rfl rfl (by rw [hR]; exact Nat.le_of_ble_eq_true rfl) (by rw [hR]; exact Nat.le_of_ble_eq_true rfl) (by rw [hR]; exact ⟨by show _ ≤ 600000; omega, by show _ ≤ 7302250; omega⟩) (Nat.le_of_ble_eq_true rfl) dL_law_263 (fun ro G1 I1 L1 ⟨r1, r2, r3, r4⟩ => ?_)
  rw [r1]
  refine am_aload_n hz dL_law_266 1 rfl rfl ?_
  refine am_callV hz cv_L_27 [] [.int _] (c_X12_tell r2.1 (RI_C hr r3) hw.1) (ln_64 r2.1) (lk_64 r2.1) rfl rfl (by rw [hR]; exact Nat.le_of_ble_eq_true rfl) (by rw [hR]; exact Nat.le_of_ble_eq_true rfl) (by rw [hR]; exact ⟨by show _ ≤ 600000; omega, by show _ ≤ 7302250; omega⟩) (Nat.le_of_ble_eq_true rfl) dL_law_267 (fun ro2 G2 I2 L2 ⟨t1, t2, t3, t4⟩ => ?_)
  rw [t1, t2]
  refine am_icmp_eq (tgt := 1332) hz dL_law_270 (by decide) (fun _ => ?_) (fun h => absurd rfl h)
  exact lw_tail hz (next _ _ _ _ _ _ ⟨CO_M r2 t4, t3, (WI_m (WI_tell hw) (Nat.le_succ _)), by omega, by omega⟩)
set_option maxRecDepth 100000 in
set_option maxHeartbeats 4000000 in
theorem lw_relate {z : amZ} {b N i c : Nat} {xs : Nat → Int32} {s : St} {G : amG} {I : amI} {L : amL} {ce sl : Nat} (hz : Ok z cL_law RL 4) (hR : zR z = room_1) (hX : va_X b N xs (zS z) (zB z)) (hbl : b < (zB z).size) (hi : i + 6 ≤ N) (hN : N ≤ 3072) (hc : c < 512) (hv : INV c s G I L ce sl) (next : ∀ s' G' I' L' ce' sl', INV (c + 1) s' G' I' L' ce' sl' → Wx z ce' sl' 18 (LV z b (i + 6)) [] G' I' L') : Wx z ce sl 275 (LV z b i) [] G I L := by
  obtain ⟨hs, hr, hw, hce, hsl⟩ := hv
  have hG := hs.1
  have hwl := wl_le hs
  have ix : ∀ j, j < 6 → vp_in (nI i + nI j) N := fun j hj => inA (by omega) (by omega)
  refine am_aload_n hz dL_law_275 2 rfl rfl ?_
  refine am_aload_n hz dL_law_276 3 rfl rfl ?_
  refine am_iload_n hz dL_law_277 0 rfl rfl ?_
  refine am_iconst (v := 1) hz dL_law_278 (by decide) ?_
  refine am_iadd hz dL_law_279 ?_
  refine am_sld hz hX hbl (ix 1 (by decide)) dL_law_280 ?_
  refine am_aload_n hz dL_law_281 3 rfl rfl ?_
  refine am_iload_n hz dL_law_282 0 rfl rfl ?_
  refine am_iconst (v := 2) hz dL_law_283 (by decide) ?_
  refine am_iadd hz dL_law_284 ?_
  refine am_sld hz hX hbl (ix 2 (by decide)) dL_law_285 ?_
  refine am_callV hz cv_L_28 [.int (xs (nI i + 1).toNatClampNeg), .int (xs (nI i + 2).toNatClampNeg)] [] (c_X11_relate hG _ _ hs hw.1) (ln_0 hG) (lk_0 hG) rfl rfl (by rw [hR]; exact Nat.le_of_ble_eq_true rfl) (by rw [hR]; exact Nat.le_of_ble_eq_true rfl) (by rw [hR]; exact ⟨by show _ ≤ 600000; omega, by show _ ≤ 7302250; omega⟩) (Nat.le_of_ble_eq_true rfl) dL_law_286 (fun ro G1 I1 L1 ⟨r1, r2, r3, r4⟩ => ?_)
  rw [r1]
  refine am_aload_n hz dL_law_289 1 rfl rfl ?_
  refine am_aload_n hz dL_law_290 3 rfl rfl ?_
  refine am_iload_n hz dL_law_291 0 rfl rfl ?_
  refine am_iconst (v := 1) hz dL_law_292 (by decide) ?_
  refine am_iadd hz dL_law_293 ?_
  refine am_sld hz hX hbl (ix 1 (by decide)) dL_law_294 ?_
  refine am_aload_n hz dL_law_295 3 rfl rfl ?_
  refine am_iload_n hz dL_law_296 0 rfl rfl ?_
  refine am_iconst (v := 2) hz dL_law_297 (by decide) ?_
  refine am_iadd hz dL_law_298 ?_
  refine am_sld hz hX hbl (ix 2 (by decide)) dL_law_299 ?_
  refine am_callV hz cv_L_32 [.int (xs (nI i + 1).toNatClampNeg), .int (xs (nI i + 2).toNatClampNeg)] [.int _] (c_X12_relate r2.1 _ _ (RI_C hr r3) hw.1) (ln_64 r2.1) (lk_64 r2.1) rfl rfl (by rw [hR]; exact Nat.le_of_ble_eq_true rfl) (by rw [hR]; exact Nat.le_of_ble_eq_true rfl) (by rw [hR]; exact ⟨by show _ ≤ 600000; omega, by show _ ≤ 7302250; omega⟩) (Nat.le_of_ble_eq_true rfl) dL_law_300 (fun ro2 G2 I2 L2 ⟨t1, t2, t3, t4⟩ => ?_)
  rw [t1, t2]
  refine am_icmp_eq (tgt := 1332) hz dL_law_303 (by decide) (fun _ => ?_) (fun h => absurd rfl h)
  exact lw_tail hz (next _ _ _ _ _ _ ⟨CO_M r2 t4, t3, (WI_m (WI_relate hw _ _) (Nat.le_succ _)), by omega, by omega⟩)
set_option maxRecDepth 100000 in
set_option maxHeartbeats 4000000 in
theorem lw_form {z : amZ} {b N i c : Nat} {xs : Nat → Int32} {s : St} {G : amG} {I : amI} {L : amL} {ce sl : Nat} (hz : Ok z cL_law RL 4) (hR : zR z = room_1) (hX : va_X b N xs (zS z) (zB z)) (hbl : b < (zB z).size) (hi : i + 6 ≤ N) (hN : N ≤ 3072) (hc : c < 512) (hv : INV c s G I L ce sl) (next : ∀ s' G' I' L' ce' sl', INV (c + 1) s' G' I' L' ce' sl' → Wx z ce' sl' 18 (LV z b (i + 6)) [] G' I' L') : Wx z ce sl 308 (LV z b i) [] G I L := by
  obtain ⟨hs, hr, hw, hce, hsl⟩ := hv
  have hG := hs.1
  have hwl := wl_le hs
  have ix : ∀ j, j < 6 → vp_in (nI i + nI j) N := fun j hj => inA (by omega) (by omega)
  refine am_aload_n hz dL_law_308 2 rfl rfl ?_
  refine am_aload_n hz dL_law_309 3 rfl rfl ?_
  refine am_iload_n hz dL_law_310 0 rfl rfl ?_
  refine am_iconst (v := 1) hz dL_law_311 (by decide) ?_
  refine am_iadd hz dL_law_312 ?_
  refine am_sld hz hX hbl (ix 1 (by decide)) dL_law_313 ?_
  refine am_aload_n hz dL_law_314 3 rfl rfl ?_
  refine am_iload_n hz dL_law_315 0 rfl rfl ?_
  refine am_iconst (v := 2) hz dL_law_316 (by decide) ?_
  refine am_iadd hz dL_law_317 ?_
  refine am_sld hz hX hbl (ix 2 (by decide)) dL_law_318 ?_
  refine am_aload_n hz dL_law_319 3 rfl rfl ?_
  refine am_iload_n hz dL_law_320 0 rfl rfl ?_
  refine am_iconst (v := 3) hz dL_law_321 (by decide) ?_
  refine am_iadd hz dL_law_322 ?_
  refine am_sld hz hX hbl (ix 3 (by decide)) dL_law_323 ?_
  refine am_callV hz cv_L_33 [.int (xs (nI i + 1).toNatClampNeg), .int (xs (nI i + 2).toNatClampNeg), .int (xs (nI i + 3).toNatClampNeg)] [] (c_X11_form hG _ _ _ hs hw.1) (ln_0 hG) (lk_0 hG) rfl rfl (by rw [hR]; exact Nat.le_of_ble_eq_true rfl) (by rw [hR]; exact Nat.le_of_ble_eq_true rfl) (by rw [hR]; exact ⟨by show _ ≤ 600000; omega, by show _ ≤ 7302250; omega⟩) (Nat.le_of_ble_eq_true rfl) dL_law_324 (fun ro G1 I1 L1 ⟨r1, r2, r3, r4⟩ => ?_)
  rw [r1]
  refine am_aload_n hz dL_law_327 1 rfl rfl ?_
  refine am_aload_n hz dL_law_328 3 rfl rfl ?_
  refine am_iload_n hz dL_law_329 0 rfl rfl ?_
  refine am_iconst (v := 1) hz dL_law_330 (by decide) ?_
  refine am_iadd hz dL_law_331 ?_
  refine am_sld hz hX hbl (ix 1 (by decide)) dL_law_332 ?_
  refine am_aload_n hz dL_law_333 3 rfl rfl ?_
  refine am_iload_n hz dL_law_334 0 rfl rfl ?_
  refine am_iconst (v := 2) hz dL_law_335 (by decide) ?_
  refine am_iadd hz dL_law_336 ?_
  refine am_sld hz hX hbl (ix 2 (by decide)) dL_law_337 ?_
  refine am_aload_n hz dL_law_338 3 rfl rfl ?_
  refine am_iload_n hz dL_law_339 0 rfl rfl ?_
  refine am_iconst (v := 3) hz dL_law_340 (by decide) ?_
  refine am_iadd hz dL_law_341 ?_
  refine am_sld hz hX hbl (ix 3 (by decide)) dL_law_342 ?_
  refine am_callV hz cv_L_37 [.int (xs (nI i + 1).toNatClampNeg), .int (xs (nI i + 2).toNatClampNeg), .int (xs (nI i + 3).toNatClampNeg)] [.int _] (c_X12_form r2.1 _ _ _ (RI_C hr r3) hw.1) (ln_64 r2.1) (lk_64 r2.1) rfl rfl (by rw [hR]; exact Nat.le_of_ble_eq_true rfl) (by rw [hR]; exact Nat.le_of_ble_eq_true rfl) (by rw [hR]; exact ⟨by show _ ≤ 600000; omega, by show _ ≤ 7302250; omega⟩) (Nat.le_of_ble_eq_true rfl) dL_law_343 (fun ro2 G2 I2 L2 ⟨t1, t2, t3, t4⟩ => ?_)
  rw [t1, t2]
  refine am_icmp_eq (tgt := 1332) hz dL_law_346 (by decide) (fun _ => ?_) (fun h => absurd rfl h)
  exact lw_tail hz (next _ _ _ _ _ _ ⟨CO_M r2 t4, t3, (WI_m (WI_form hw _ _ _) (Nat.le_succ _)), by omega, by omega⟩)
set_option maxRecDepth 100000 in
set_option maxHeartbeats 4000000 in
theorem lw_make {z : amZ} {b N i c : Nat} {xs : Nat → Int32} {s : St} {G : amG} {I : amI} {L : amL} {ce sl : Nat} (hz : Ok z cL_law RL 4) (hR : zR z = room_1) (hX : va_X b N xs (zS z) (zB z)) (hbl : b < (zB z).size) (hi : i + 6 ≤ N) (hN : N ≤ 3072) (hc : c < 512) (hv : INV c s G I L ce sl) (next : ∀ s' G' I' L' ce' sl', INV (c + 1) s' G' I' L' ce' sl' → Wx z ce' sl' 18 (LV z b (i + 6)) [] G' I' L') : Wx z ce sl 351 (LV z b i) [] G I L := by
  obtain ⟨hs, hr, hw, hce, hsl⟩ := hv
  have hG := hs.1
  have hwl := wl_le hs
  have ix : ∀ j, j < 6 → vp_in (nI i + nI j) N := fun j hj => inA (by omega) (by omega)
  refine am_aload_n hz dL_law_351 2 rfl rfl ?_
  refine am_aload_n hz dL_law_352 3 rfl rfl ?_
  refine am_iload_n hz dL_law_353 0 rfl rfl ?_
  refine am_iconst (v := 1) hz dL_law_354 (by decide) ?_
  refine am_iadd hz dL_law_355 ?_
  refine am_sld hz hX hbl (ix 1 (by decide)) dL_law_356 ?_
  refine am_aload_n hz dL_law_357 3 rfl rfl ?_
  refine am_iload_n hz dL_law_358 0 rfl rfl ?_
  refine am_iconst (v := 2) hz dL_law_359 (by decide) ?_
  refine am_iadd hz dL_law_360 ?_
  refine am_sld hz hX hbl (ix 2 (by decide)) dL_law_361 ?_
  refine am_callV hz cv_L_38 [.int (xs (nI i + 1).toNatClampNeg), .int (xs (nI i + 2).toNatClampNeg)] [] (c_X11_make hG _ _ hs hw.1) (ln_0 hG) (lk_0 hG) rfl rfl (by rw [hR]; exact Nat.le_of_ble_eq_true rfl) (by rw [hR]; exact Nat.le_of_ble_eq_true rfl) (by rw [hR]; exact ⟨by show _ ≤ 600000; omega, by show _ ≤ 7302250; omega⟩) (Nat.le_of_ble_eq_true rfl) dL_law_362 (fun ro G1 I1 L1 ⟨r1, r2, r3, r4⟩ => ?_)
  rw [r1]
  refine am_aload_n hz dL_law_365 1 rfl rfl ?_
  refine am_aload_n hz dL_law_366 3 rfl rfl ?_
  refine am_iload_n hz dL_law_367 0 rfl rfl ?_
  refine am_iconst (v := 1) hz dL_law_368 (by decide) ?_
  refine am_iadd hz dL_law_369 ?_
  refine am_sld hz hX hbl (ix 1 (by decide)) dL_law_370 ?_
  refine am_aload_n hz dL_law_371 3 rfl rfl ?_
  refine am_iload_n hz dL_law_372 0 rfl rfl ?_
  refine am_iconst (v := 2) hz dL_law_373 (by decide) ?_
  refine am_iadd hz dL_law_374 ?_
  refine am_sld hz hX hbl (ix 2 (by decide)) dL_law_375 ?_
  refine am_callV hz cv_L_41 [.int (xs (nI i + 1).toNatClampNeg), .int (xs (nI i + 2).toNatClampNeg)] [.int _] (c_X12_make r2.1 _ _ (RI_C hr r3) hw.1) (ln_64 r2.1) (lk_64 r2.1) rfl rfl (by rw [hR]; exact Nat.le_of_ble_eq_true rfl) (by rw [hR]; exact Nat.le_of_ble_eq_true rfl) (by rw [hR]; exact ⟨by show _ ≤ 600000; omega, by show _ ≤ 7302250; omega⟩) (Nat.le_of_ble_eq_true rfl) dL_law_376 (fun ro2 G2 I2 L2 ⟨t1, t2, t3, t4⟩ => ?_)
  rw [t1, t2]
  refine am_icmp_eq (tgt := 1332) hz dL_law_379 (by decide) (fun _ => ?_) (fun h => absurd rfl h)
  exact lw_tail hz (next _ _ _ _ _ _ ⟨CO_M r2 t4, t3, (WI_m (WI_make hw _ _) (Nat.le_succ _)), by omega, by omega⟩)
set_option maxRecDepth 100000 in
set_option maxHeartbeats 4000000 in
theorem lw_put {z : amZ} {b N i c : Nat} {xs : Nat → Int32} {s : St} {G : amG} {I : amI} {L : amL} {ce sl : Nat} (hz : Ok z cL_law RL 4) (hR : zR z = room_1) (hX : va_X b N xs (zS z) (zB z)) (hbl : b < (zB z).size) (hi : i + 6 ≤ N) (hN : N ≤ 3072) (hc : c < 512) (hv : INV c s G I L ce sl) (next : ∀ s' G' I' L' ce' sl', INV (c + 1) s' G' I' L' ce' sl' → Wx z ce' sl' 18 (LV z b (i + 6)) [] G' I' L') : Wx z ce sl 384 (LV z b i) [] G I L := by
  obtain ⟨hs, hr, hw, hce, hsl⟩ := hv
  have hG := hs.1
  have hwl := wl_le hs
  have ix : ∀ j, j < 6 → vp_in (nI i + nI j) N := fun j hj => inA (by omega) (by omega)
  refine am_aload_n hz dL_law_384 2 rfl rfl ?_
  refine am_aload_n hz dL_law_385 3 rfl rfl ?_
  refine am_iload_n hz dL_law_386 0 rfl rfl ?_
  refine am_iconst (v := 1) hz dL_law_387 (by decide) ?_
  refine am_iadd hz dL_law_388 ?_
  refine am_sld hz hX hbl (ix 1 (by decide)) dL_law_389 ?_
  refine am_aload_n hz dL_law_390 3 rfl rfl ?_
  refine am_iload_n hz dL_law_391 0 rfl rfl ?_
  refine am_iconst (v := 2) hz dL_law_392 (by decide) ?_
  refine am_iadd hz dL_law_393 ?_
  refine am_sld hz hX hbl (ix 2 (by decide)) dL_law_394 ?_
  refine am_aload_n hz dL_law_395 3 rfl rfl ?_
  refine am_iload_n hz dL_law_396 0 rfl rfl ?_
  refine am_iconst (v := 3) hz dL_law_397 (by decide) ?_
  refine am_iadd hz dL_law_398 ?_
  refine am_sld hz hX hbl (ix 3 (by decide)) dL_law_399 ?_
  refine am_aload_n hz dL_law_400 3 rfl rfl ?_
  refine am_iload_n hz dL_law_401 0 rfl rfl ?_
  refine am_iconst (v := 4) hz dL_law_402 (by decide) ?_
  refine am_iadd hz dL_law_403 ?_
  refine am_sld hz hX hbl (ix 4 (by decide)) dL_law_404 ?_
  refine am_callV hz cv_L_42 [.int (xs (nI i + 1).toNatClampNeg), .int (xs (nI i + 2).toNatClampNeg), .int (xs (nI i + 3).toNatClampNeg), .int (xs (nI i + 4).toNatClampNeg)] [] (c_X11_put hG _ _ _ _ hs hw.1) (ln_0 hG) (lk_0 hG) rfl rfl (by rw [hR]; exact Nat.le_of_ble_eq_true rfl) (by rw [hR]; exact Nat.le_of_ble_eq_true rfl) (by rw [hR]; exact ⟨by show _ ≤ 600000; omega, by show _ ≤ 7302250; omega⟩) (Nat.le_of_ble_eq_true rfl) dL_law_405 (fun ro G1 I1 L1 ⟨r1, r2, r3, r4⟩ => ?_)
  rw [r1]
  refine am_aload_n hz dL_law_408 1 rfl rfl ?_
  refine am_aload_n hz dL_law_409 3 rfl rfl ?_
  refine am_iload_n hz dL_law_410 0 rfl rfl ?_
  refine am_iconst (v := 1) hz dL_law_411 (by decide) ?_
  refine am_iadd hz dL_law_412 ?_
  refine am_sld hz hX hbl (ix 1 (by decide)) dL_law_413 ?_
  refine am_aload_n hz dL_law_414 3 rfl rfl ?_
  refine am_iload_n hz dL_law_415 0 rfl rfl ?_
  refine am_iconst (v := 2) hz dL_law_416 (by decide) ?_
  refine am_iadd hz dL_law_417 ?_
  refine am_sld hz hX hbl (ix 2 (by decide)) dL_law_418 ?_
  refine am_aload_n hz dL_law_419 3 rfl rfl ?_
  refine am_iload_n hz dL_law_420 0 rfl rfl ?_
  refine am_iconst (v := 3) hz dL_law_421 (by decide) ?_
  refine am_iadd hz dL_law_422 ?_
  refine am_sld hz hX hbl (ix 3 (by decide)) dL_law_423 ?_
  refine am_aload_n hz dL_law_424 3 rfl rfl ?_
  refine am_iload_n hz dL_law_425 0 rfl rfl ?_
  refine am_iconst (v := 4) hz dL_law_426 (by decide) ?_
  refine am_iadd hz dL_law_427 ?_
  refine am_sld hz hX hbl (ix 4 (by decide)) dL_law_428 ?_
  refine am_callV hz cv_L_46 [.int (xs (nI i + 1).toNatClampNeg), .int (xs (nI i + 2).toNatClampNeg), .int (xs (nI i + 3).toNatClampNeg), .int (xs (nI i + 4).toNatClampNeg)] [.int _] (c_X12_put r2.1 _ _ _ _ (RI_C hr r3) hw.1) (ln_64 r2.1) (lk_64 r2.1) rfl rfl (by rw [hR]; exact Nat.le_of_ble_eq_true rfl) (by rw [hR]; exact Nat.le_of_ble_eq_true rfl) (by rw [hR]; exact ⟨by show _ ≤ 600000; omega, by show _ ≤ 7302250; omega⟩) (Nat.le_of_ble_eq_true rfl) dL_law_429 (fun ro2 G2 I2 L2 ⟨t1, t2, t3, t4⟩ => ?_)
  rw [t1, t2]
  refine am_icmp_eq (tgt := 1332) hz dL_law_432 (by decide) (fun _ => ?_) (fun h => absurd rfl h)
  exact lw_tail hz (next _ _ _ _ _ _ ⟨CO_M r2 t4, t3, (WI_m (WI_put hw _ _ _ _) (Nat.le_succ _)), by omega, by omega⟩)
set_option maxRecDepth 100000 in
set_option maxHeartbeats 4000000 in
theorem lw_reckon {z : amZ} {b N i c : Nat} {xs : Nat → Int32} {s : St} {G : amG} {I : amI} {L : amL} {ce sl : Nat} (hz : Ok z cL_law RL 4) (hR : zR z = room_1) (hX : va_X b N xs (zS z) (zB z)) (hbl : b < (zB z).size) (hi : i + 6 ≤ N) (hN : N ≤ 3072) (hc : c < 512) (hv : INV c s G I L ce sl) (next : ∀ s' G' I' L' ce' sl', INV (c + 1) s' G' I' L' ce' sl' → Wx z ce' sl' 18 (LV z b (i + 6)) [] G' I' L') : Wx z ce sl 437 (LV z b i) [] G I L := by
  obtain ⟨hs, hr, hw, hce, hsl⟩ := hv
  have hG := hs.1
  have hwl := wl_le hs
  have ix : ∀ j, j < 6 → vp_in (nI i + nI j) N := fun j hj => inA (by omega) (by omega)
  refine am_aload_n hz dL_law_437 2 rfl rfl ?_
  refine am_aload_n hz dL_law_438 3 rfl rfl ?_
  refine am_iload_n hz dL_law_439 0 rfl rfl ?_
  refine am_iconst (v := 1) hz dL_law_440 (by decide) ?_
  refine am_iadd hz dL_law_441 ?_
  refine am_sld hz hX hbl (ix 1 (by decide)) dL_law_442 ?_
  refine am_aload_n hz dL_law_443 3 rfl rfl ?_
  refine am_iload_n hz dL_law_444 0 rfl rfl ?_
  refine am_iconst (v := 2) hz dL_law_445 (by decide) ?_
  refine am_iadd hz dL_law_446 ?_
  refine am_sld hz hX hbl (ix 2 (by decide)) dL_law_447 ?_
  refine am_aload_n hz dL_law_448 3 rfl rfl ?_
  refine am_iload_n hz dL_law_449 0 rfl rfl ?_
  refine am_iconst (v := 3) hz dL_law_450 (by decide) ?_
  refine am_iadd hz dL_law_451 ?_
  refine am_sld hz hX hbl (ix 3 (by decide)) dL_law_452 ?_
  refine am_aload_n hz dL_law_453 3 rfl rfl ?_
  refine am_iload_n hz dL_law_454 0 rfl rfl ?_
  refine am_iconst (v := 4) hz dL_law_455 (by decide) ?_
  refine am_iadd hz dL_law_456 ?_
  refine am_sld hz hX hbl (ix 4 (by decide)) dL_law_457 ?_
  refine am_callV hz cv_L_47 [.int (xs (nI i + 1).toNatClampNeg), .int (xs (nI i + 2).toNatClampNeg), .int (xs (nI i + 3).toNatClampNeg), .int (xs (nI i + 4).toNatClampNeg)] [] (c_X11_reckon hG _ _ _ _ hs hw.1) (ln_0 hG) (lk_0 hG) rfl rfl (by rw [hR]; exact Nat.le_of_ble_eq_true rfl) (by rw [hR]; exact Nat.le_of_ble_eq_true rfl) (by rw [hR]; exact ⟨by show _ ≤ 600000; omega, by show _ ≤ 7302250; omega⟩) (Nat.le_of_ble_eq_true rfl) dL_law_458 (fun ro G1 I1 L1 ⟨r1, r2, r3, r4⟩ => ?_)
  rw [r1]
  refine am_aload_n hz dL_law_461 1 rfl rfl ?_
  refine am_aload_n hz dL_law_462 3 rfl rfl ?_
  refine am_iload_n hz dL_law_463 0 rfl rfl ?_
  refine am_iconst (v := 1) hz dL_law_464 (by decide) ?_
  refine am_iadd hz dL_law_465 ?_
  refine am_sld hz hX hbl (ix 1 (by decide)) dL_law_466 ?_
  refine am_aload_n hz dL_law_467 3 rfl rfl ?_
  refine am_iload_n hz dL_law_468 0 rfl rfl ?_
  refine am_iconst (v := 2) hz dL_law_469 (by decide) ?_
  refine am_iadd hz dL_law_470 ?_
  refine am_sld hz hX hbl (ix 2 (by decide)) dL_law_471 ?_
  refine am_aload_n hz dL_law_472 3 rfl rfl ?_
  refine am_iload_n hz dL_law_473 0 rfl rfl ?_
  refine am_iconst (v := 3) hz dL_law_474 (by decide) ?_
  refine am_iadd hz dL_law_475 ?_
  refine am_sld hz hX hbl (ix 3 (by decide)) dL_law_476 ?_
  refine am_aload_n hz dL_law_477 3 rfl rfl ?_
  refine am_iload_n hz dL_law_478 0 rfl rfl ?_
  refine am_iconst (v := 4) hz dL_law_479 (by decide) ?_
  refine am_iadd hz dL_law_480 ?_
  refine am_sld hz hX hbl (ix 4 (by decide)) dL_law_481 ?_
  refine am_callV hz cv_L_50 [.int (xs (nI i + 1).toNatClampNeg), .int (xs (nI i + 2).toNatClampNeg), .int (xs (nI i + 3).toNatClampNeg), .int (xs (nI i + 4).toNatClampNeg)] [.int _] (c_X12_reckon r2.1 _ _ _ _ (RI_C hr r3) hw.1) (ln_64 r2.1) (lk_64 r2.1) rfl rfl (by rw [hR]; exact Nat.le_of_ble_eq_true rfl) (by rw [hR]; exact Nat.le_of_ble_eq_true rfl) (by rw [hR]; exact ⟨by show _ ≤ 600000; omega, by show _ ≤ 7302250; omega⟩) (Nat.le_of_ble_eq_true rfl) dL_law_482 (fun ro2 G2 I2 L2 ⟨t1, t2, t3, t4⟩ => ?_)
  rw [t1, t2]
  refine am_icmp_eq (tgt := 1332) hz dL_law_485 (by decide) (fun _ => ?_) (fun h => absurd rfl h)
  exact lw_tail hz (next _ _ _ _ _ _ ⟨CO_M r2 t4, t3, (WI_m (WI_reckon hw _ _ _ _) (Nat.le_succ _)), by omega, by omega⟩)
set_option maxRecDepth 100000 in
set_option maxHeartbeats 4000000 in
theorem lw_invert {z : amZ} {b N i c : Nat} {xs : Nat → Int32} {s : St} {G : amG} {I : amI} {L : amL} {ce sl : Nat} (hz : Ok z cL_law RL 4) (hR : zR z = room_1) (hX : va_X b N xs (zS z) (zB z)) (hbl : b < (zB z).size) (hi : i + 6 ≤ N) (hN : N ≤ 3072) (hc : c < 512) (hv : INV c s G I L ce sl) (next : ∀ s' G' I' L' ce' sl', INV (c + 1) s' G' I' L' ce' sl' → Wx z ce' sl' 18 (LV z b (i + 6)) [] G' I' L') : Wx z ce sl 490 (LV z b i) [] G I L := by
  obtain ⟨hs, hr, hw, hce, hsl⟩ := hv
  have hG := hs.1
  have hwl := wl_le hs
  have ix : ∀ j, j < 6 → vp_in (nI i + nI j) N := fun j hj => inA (by omega) (by omega)
  refine am_aload_n hz dL_law_490 2 rfl rfl ?_
  refine am_aload_n hz dL_law_491 3 rfl rfl ?_
  refine am_iload_n hz dL_law_492 0 rfl rfl ?_
  refine am_iconst (v := 1) hz dL_law_493 (by decide) ?_
  refine am_iadd hz dL_law_494 ?_
  refine am_sld hz hX hbl (ix 1 (by decide)) dL_law_495 ?_
  refine am_aload_n hz dL_law_496 3 rfl rfl ?_
  refine am_iload_n hz dL_law_497 0 rfl rfl ?_
  refine am_iconst (v := 2) hz dL_law_498 (by decide) ?_
  refine am_iadd hz dL_law_499 ?_
  refine am_sld hz hX hbl (ix 2 (by decide)) dL_law_500 ?_
  refine am_callV hz cv_L_51 [.int (xs (nI i + 1).toNatClampNeg), .int (xs (nI i + 2).toNatClampNeg)] [] (c_X11_invert hG _ _ hs hw.1) (ln_0 hG) (lk_0 hG) rfl rfl (by rw [hR]; exact Nat.le_of_ble_eq_true rfl) (by rw [hR]; exact Nat.le_of_ble_eq_true rfl) (by rw [hR]; exact ⟨by show _ ≤ 600000; omega, by show _ ≤ 7302250; omega⟩) (Nat.le_of_ble_eq_true rfl) dL_law_501 (fun ro G1 I1 L1 ⟨r1, r2, r3, r4⟩ => ?_)
  rw [r1]
  refine am_aload_n hz dL_law_504 1 rfl rfl ?_
  refine am_aload_n hz dL_law_505 3 rfl rfl ?_
  refine am_iload_n hz dL_law_506 0 rfl rfl ?_
  refine am_iconst (v := 1) hz dL_law_507 (by decide) ?_
  refine am_iadd hz dL_law_508 ?_
  refine am_sld hz hX hbl (ix 1 (by decide)) dL_law_509 ?_
  refine am_aload_n hz dL_law_510 3 rfl rfl ?_
  refine am_iload_n hz dL_law_511 0 rfl rfl ?_
  refine am_iconst (v := 2) hz dL_law_512 (by decide) ?_
  refine am_iadd hz dL_law_513 ?_
  refine am_sld hz hX hbl (ix 2 (by decide)) dL_law_514 ?_
  refine am_callV hz cv_L_54 [.int (xs (nI i + 1).toNatClampNeg), .int (xs (nI i + 2).toNatClampNeg)] [.int _] (c_X12_invert r2.1 _ _ (RI_C hr r3) hw.1) (ln_64 r2.1) (lk_64 r2.1) rfl rfl (by rw [hR]; exact Nat.le_of_ble_eq_true rfl) (by rw [hR]; exact Nat.le_of_ble_eq_true rfl) (by rw [hR]; exact ⟨by show _ ≤ 600000; omega, by show _ ≤ 7302250; omega⟩) (Nat.le_of_ble_eq_true rfl) dL_law_515 (fun ro2 G2 I2 L2 ⟨t1, t2, t3, t4⟩ => ?_)
  rw [t1, t2]
  refine am_icmp_eq (tgt := 1332) hz dL_law_518 (by decide) (fun _ => ?_) (fun h => absurd rfl h)
  exact lw_tail hz (next _ _ _ _ _ _ ⟨CO_M r2 t4, t3, (WI_m (WI_invert hw _ _) (Nat.le_succ _)), by omega, by omega⟩)
set_option maxRecDepth 100000 in
set_option maxHeartbeats 4000000 in
theorem lw_raise {z : amZ} {b N i c : Nat} {xs : Nat → Int32} {s : St} {G : amG} {I : amI} {L : amL} {ce sl : Nat} (hz : Ok z cL_law RL 4) (hR : zR z = room_1) (hX : va_X b N xs (zS z) (zB z)) (hbl : b < (zB z).size) (hi : i + 6 ≤ N) (hN : N ≤ 3072) (hc : c < 512) (hv : INV c s G I L ce sl) (next : ∀ s' G' I' L' ce' sl', INV (c + 1) s' G' I' L' ce' sl' → Wx z ce' sl' 18 (LV z b (i + 6)) [] G' I' L') : Wx z ce sl 523 (LV z b i) [] G I L := by
  obtain ⟨hs, hr, hw, hce, hsl⟩ := hv
  have hG := hs.1
  have hwl := wl_le hs
  have ix : ∀ j, j < 6 → vp_in (nI i + nI j) N := fun j hj => inA (by omega) (by omega)
  refine am_aload_n hz dL_law_523 2 rfl rfl ?_
  refine am_aload_n hz dL_law_524 3 rfl rfl ?_
  refine am_iload_n hz dL_law_525 0 rfl rfl ?_
  refine am_iconst (v := 1) hz dL_law_526 (by decide) ?_
  refine am_iadd hz dL_law_527 ?_
  refine am_sld hz hX hbl (ix 1 (by decide)) dL_law_528 ?_
  refine am_aload_n hz dL_law_529 3 rfl rfl ?_
  refine am_iload_n hz dL_law_530 0 rfl rfl ?_
  refine am_iconst (v := 2) hz dL_law_531 (by decide) ?_
  refine am_iadd hz dL_law_532 ?_
  refine am_sld hz hX hbl (ix 2 (by decide)) dL_law_533 ?_
  refine am_aload_n hz dL_law_534 3 rfl rfl ?_
  refine am_iload_n hz dL_law_535 0 rfl rfl ?_
  refine am_iconst (v := 3) hz dL_law_536 (by decide) ?_
  refine am_iadd hz dL_law_537 ?_
  refine am_sld hz hX hbl (ix 3 (by decide)) dL_law_538 ?_
  refine am_callV hz cv_L_55 [.int (xs (nI i + 1).toNatClampNeg), .int (xs (nI i + 2).toNatClampNeg), .int (xs (nI i + 3).toNatClampNeg)] [] (c_X11_raise hG _ _ _ hs hw.1) (ln_0 hG) (lk_0 hG) rfl rfl (by rw [hR]; exact Nat.le_of_ble_eq_true rfl) (by rw [hR]; exact Nat.le_of_ble_eq_true rfl) (by rw [hR]; exact ⟨by show _ ≤ 600000; omega, by show _ ≤ 7302250; omega⟩) (Nat.le_of_ble_eq_true rfl) dL_law_539 (fun ro G1 I1 L1 ⟨r1, r2, r3, r4⟩ => ?_)
  rw [r1]
  refine am_aload_n hz dL_law_542 1 rfl rfl ?_
  refine am_aload_n hz dL_law_543 3 rfl rfl ?_
  refine am_iload_n hz dL_law_544 0 rfl rfl ?_
  refine am_iconst (v := 1) hz dL_law_545 (by decide) ?_
  refine am_iadd hz dL_law_546 ?_
  refine am_sld hz hX hbl (ix 1 (by decide)) dL_law_547 ?_
  refine am_aload_n hz dL_law_548 3 rfl rfl ?_
  refine am_iload_n hz dL_law_549 0 rfl rfl ?_
  refine am_iconst (v := 2) hz dL_law_550 (by decide) ?_
  refine am_iadd hz dL_law_551 ?_
  refine am_sld hz hX hbl (ix 2 (by decide)) dL_law_552 ?_
  refine am_aload_n hz dL_law_553 3 rfl rfl ?_
  refine am_iload_n hz dL_law_554 0 rfl rfl ?_
  refine am_iconst (v := 3) hz dL_law_555 (by decide) ?_
  refine am_iadd hz dL_law_556 ?_
  refine am_sld hz hX hbl (ix 3 (by decide)) dL_law_557 ?_
  refine am_callV hz cv_L_58 [.int (xs (nI i + 1).toNatClampNeg), .int (xs (nI i + 2).toNatClampNeg), .int (xs (nI i + 3).toNatClampNeg)] [.int _] (c_X12_raise r2.1 _ _ _ (RI_C hr r3) hw.1) (ln_64 r2.1) (lk_64 r2.1) rfl rfl (by rw [hR]; exact Nat.le_of_ble_eq_true rfl) (by rw [hR]; exact Nat.le_of_ble_eq_true rfl) (by rw [hR]; exact ⟨by show _ ≤ 600000; omega, by show _ ≤ 7302250; omega⟩) (Nat.le_of_ble_eq_true rfl) dL_law_558 (fun ro2 G2 I2 L2 ⟨t1, t2, t3, t4⟩ => ?_)
  rw [t1, t2]
  refine am_icmp_eq (tgt := 1332) hz dL_law_561 (by decide) (fun _ => ?_) (fun h => absurd rfl h)
  exact lw_tail hz (next _ _ _ _ _ _ ⟨CO_M r2 t4, t3, (WI_m (WI_raise hw _ _ _) (Nat.le_succ _)), by omega, by omega⟩)
set_option maxRecDepth 100000 in
set_option maxHeartbeats 4000000 in
theorem lw_data {z : amZ} {b N i c : Nat} {xs : Nat → Int32} {s : St} {G : amG} {I : amI} {L : amL} {ce sl : Nat} (hz : Ok z cL_law RL 4) (hR : zR z = room_1) (hX : va_X b N xs (zS z) (zB z)) (hbl : b < (zB z).size) (hi : i + 6 ≤ N) (hN : N ≤ 3072) (hc : c < 512) (hv : INV c s G I L ce sl) (next : ∀ s' G' I' L' ce' sl', INV (c + 1) s' G' I' L' ce' sl' → Wx z ce' sl' 18 (LV z b (i + 6)) [] G' I' L') : Wx z ce sl 566 (LV z b i) [] G I L := by
  obtain ⟨hs, hr, hw, hce, hsl⟩ := hv
  have hG := hs.1
  have hwl := wl_le hs
  have ix : ∀ j, j < 6 → vp_in (nI i + nI j) N := fun j hj => inA (by omega) (by omega)
  refine am_aload_n hz dL_law_566 2 rfl rfl ?_
  refine am_aload_n hz dL_law_567 3 rfl rfl ?_
  refine am_iload_n hz dL_law_568 0 rfl rfl ?_
  refine am_iconst (v := 1) hz dL_law_569 (by decide) ?_
  refine am_iadd hz dL_law_570 ?_
  refine am_sld hz hX hbl (ix 1 (by decide)) dL_law_571 ?_
  refine am_aload_n hz dL_law_572 3 rfl rfl ?_
  refine am_iload_n hz dL_law_573 0 rfl rfl ?_
  refine am_iconst (v := 2) hz dL_law_574 (by decide) ?_
  refine am_iadd hz dL_law_575 ?_
  refine am_sld hz hX hbl (ix 2 (by decide)) dL_law_576 ?_
  refine am_i2l hz dL_law_577 ?_
  refine am_bipush (v := 32) hz dL_law_578 (by decide) ?_
  refine am_lshl hz dL_law_580 ?_
  refine am_aload_n hz dL_law_581 3 rfl rfl ?_
  refine am_iload_n hz dL_law_582 0 rfl rfl ?_
  refine am_iconst (v := 3) hz dL_law_583 (by decide) ?_
  refine am_iadd hz dL_law_584 ?_
  refine am_sld hz hX hbl (ix 3 (by decide)) dL_law_585 ?_
  refine am_i2l hz dL_law_586 ?_
  refine am_ldc2 (v := 4294967295) hz (tt_of 1972 (by decide +kernel) rfl) dL_law_587 ?_
  refine am_land hz dL_law_590 ?_
  refine am_lor hz dL_law_591 ?_
  refine am_callV hz cv_L_61 [.int (xs (nI i + 1).toNatClampNeg), .long _] [] (c_X11_data hG _ _ hs hw.1) (ln_0 hG) (lk_0 hG) rfl rfl (by rw [hR]; exact Nat.le_of_ble_eq_true rfl) (by rw [hR]; exact Nat.le_of_ble_eq_true rfl) (by rw [hR]; exact ⟨by show _ ≤ 600000; omega, by show _ ≤ 7302250; omega⟩) (Nat.le_of_ble_eq_true rfl) dL_law_592 (fun ro G1 I1 L1 ⟨r1, r2, r3, r4⟩ => ?_)
  rw [r1]
  refine am_aload_n hz dL_law_595 1 rfl rfl ?_
  refine am_aload_n hz dL_law_596 3 rfl rfl ?_
  refine am_iload_n hz dL_law_597 0 rfl rfl ?_
  refine am_iconst (v := 1) hz dL_law_598 (by decide) ?_
  refine am_iadd hz dL_law_599 ?_
  refine am_sld hz hX hbl (ix 1 (by decide)) dL_law_600 ?_
  refine am_aload_n hz dL_law_601 3 rfl rfl ?_
  refine am_iload_n hz dL_law_602 0 rfl rfl ?_
  refine am_iconst (v := 2) hz dL_law_603 (by decide) ?_
  refine am_iadd hz dL_law_604 ?_
  refine am_sld hz hX hbl (ix 2 (by decide)) dL_law_605 ?_
  refine am_i2l hz dL_law_606 ?_
  refine am_bipush (v := 32) hz dL_law_607 (by decide) ?_
  refine am_lshl hz dL_law_609 ?_
  refine am_aload_n hz dL_law_610 3 rfl rfl ?_
  refine am_iload_n hz dL_law_611 0 rfl rfl ?_
  refine am_iconst (v := 3) hz dL_law_612 (by decide) ?_
  refine am_iadd hz dL_law_613 ?_
  refine am_sld hz hX hbl (ix 3 (by decide)) dL_law_614 ?_
  refine am_i2l hz dL_law_615 ?_
  refine am_ldc2 (v := 4294967295) hz (tt_of 1972 (by decide +kernel) rfl) dL_law_616 ?_
  refine am_land hz dL_law_619 ?_
  refine am_lor hz dL_law_620 ?_
  refine am_callV hz cv_L_65 [.int (xs (nI i + 1).toNatClampNeg), .long _] [.int _] (c_X12_data r2.1 _ _ (RI_C hr r3) hw.1) (ln_64 r2.1) (lk_64 r2.1) rfl rfl (by rw [hR]; exact Nat.le_of_ble_eq_true rfl) (by rw [hR]; exact Nat.le_of_ble_eq_true rfl) (by rw [hR]; exact ⟨by show _ ≤ 600000; omega, by show _ ≤ 7302250; omega⟩) (Nat.le_of_ble_eq_true rfl) dL_law_621 (fun ro2 G2 I2 L2 ⟨t1, t2, t3, t4⟩ => ?_)
  rw [t1, t2]
  refine am_icmp_eq (tgt := 1332) hz dL_law_624 (by decide) (fun _ => ?_) (fun h => absurd rfl h)
  exact lw_tail hz (next _ _ _ _ _ _ ⟨CO_M r2 t4, t3, (WI_m (WI_data hw _ _) (Nat.le_succ _)), by omega, by omega⟩)
set_option maxRecDepth 100000 in
set_option maxHeartbeats 4000000 in
theorem lw_point {z : amZ} {b N i c : Nat} {xs : Nat → Int32} {s : St} {G : amG} {I : amI} {L : amL} {ce sl : Nat} (hz : Ok z cL_law RL 4) (hR : zR z = room_1) (hX : va_X b N xs (zS z) (zB z)) (hbl : b < (zB z).size) (hi : i + 6 ≤ N) (hN : N ≤ 3072) (hc : c < 512) (hv : INV c s G I L ce sl) (next : ∀ s' G' I' L' ce' sl', INV (c + 1) s' G' I' L' ce' sl' → Wx z ce' sl' 18 (LV z b (i + 6)) [] G' I' L') : Wx z ce sl 629 (LV z b i) [] G I L := by
  obtain ⟨hs, hr, hw, hce, hsl⟩ := hv
  have hG := hs.1
  have hwl := wl_le hs
  have ix : ∀ j, j < 6 → vp_in (nI i + nI j) N := fun j hj => inA (by omega) (by omega)
  refine am_aload_n hz dL_law_629 2 rfl rfl ?_
  refine am_aload_n hz dL_law_630 3 rfl rfl ?_
  refine am_iload_n hz dL_law_631 0 rfl rfl ?_
  refine am_iconst (v := 1) hz dL_law_632 (by decide) ?_
  refine am_iadd hz dL_law_633 ?_
  refine am_sld hz hX hbl (ix 1 (by decide)) dL_law_634 ?_
  refine am_aload_n hz dL_law_635 3 rfl rfl ?_
  refine am_iload_n hz dL_law_636 0 rfl rfl ?_
  refine am_iconst (v := 2) hz dL_law_637 (by decide) ?_
  refine am_iadd hz dL_law_638 ?_
  refine am_sld hz hX hbl (ix 2 (by decide)) dL_law_639 ?_
  refine am_callV hz cv_L_66 [.int (xs (nI i + 1).toNatClampNeg), .int (xs (nI i + 2).toNatClampNeg)] [] (c_X11_point hG _ _ hs hw.1) (ln_0 hG) (lk_0 hG) rfl rfl (by rw [hR]; exact Nat.le_of_ble_eq_true rfl) (by rw [hR]; exact Nat.le_of_ble_eq_true rfl) (by rw [hR]; exact ⟨by show _ ≤ 600000; omega, by show _ ≤ 7302250; omega⟩) (Nat.le_of_ble_eq_true rfl) dL_law_640 (fun ro G1 I1 L1 ⟨r1, r2, r3, r4⟩ => ?_)
  rw [r1]
  refine am_aload_n hz dL_law_643 1 rfl rfl ?_
  refine am_aload_n hz dL_law_644 3 rfl rfl ?_
  refine am_iload_n hz dL_law_645 0 rfl rfl ?_
  refine am_iconst (v := 1) hz dL_law_646 (by decide) ?_
  refine am_iadd hz dL_law_647 ?_
  refine am_sld hz hX hbl (ix 1 (by decide)) dL_law_648 ?_
  refine am_aload_n hz dL_law_649 3 rfl rfl ?_
  refine am_iload_n hz dL_law_650 0 rfl rfl ?_
  refine am_iconst (v := 2) hz dL_law_651 (by decide) ?_
  refine am_iadd hz dL_law_652 ?_
  refine am_sld hz hX hbl (ix 2 (by decide)) dL_law_653 ?_
  refine am_callV hz cv_L_69 [.int (xs (nI i + 1).toNatClampNeg), .int (xs (nI i + 2).toNatClampNeg)] [.int _] (c_X12_point r2.1 _ _ (RI_C hr r3) hw.1) (ln_64 r2.1) (lk_64 r2.1) rfl rfl (by rw [hR]; exact Nat.le_of_ble_eq_true rfl) (by rw [hR]; exact Nat.le_of_ble_eq_true rfl) (by rw [hR]; exact ⟨by show _ ≤ 600000; omega, by show _ ≤ 7302250; omega⟩) (Nat.le_of_ble_eq_true rfl) dL_law_654 (fun ro2 G2 I2 L2 ⟨t1, t2, t3, t4⟩ => ?_)
  rw [t1, t2]
  refine am_icmp_eq (tgt := 1332) hz dL_law_657 (by decide) (fun _ => ?_) (fun h => absurd rfl h)
  exact lw_tail hz (next _ _ _ _ _ _ ⟨CO_M r2 t4, t3, (WI_m (WI_point hw _ _) (Nat.le_succ _)), by omega, by omega⟩)
set_option maxRecDepth 100000 in
set_option maxHeartbeats 4000000 in
theorem lw_undo {z : amZ} {b N i c : Nat} {xs : Nat → Int32} {s : St} {G : amG} {I : amI} {L : amL} {ce sl : Nat} (hz : Ok z cL_law RL 4) (hR : zR z = room_1) (hX : va_X b N xs (zS z) (zB z)) (hbl : b < (zB z).size) (hi : i + 6 ≤ N) (hN : N ≤ 3072) (hc : c < 512) (hv : INV c s G I L ce sl) (next : ∀ s' G' I' L' ce' sl', INV (c + 1) s' G' I' L' ce' sl' → Wx z ce' sl' 18 (LV z b (i + 6)) [] G' I' L') : Wx z ce sl 662 (LV z b i) [] G I L := by
  obtain ⟨hs, hr, hw, hce, hsl⟩ := hv
  have hG := hs.1
  have hwl := wl_le hs
  have ix : ∀ j, j < 6 → vp_in (nI i + nI j) N := fun j hj => inA (by omega) (by omega)
  refine am_aload_n hz dL_law_662 2 rfl rfl ?_
  refine am_callV hz cv_L_70 [] [] (c_X11_undo hG hs hw.1 hw.2.1) (ln_0 hG) (lk_0 hG) rfl rfl (by rw [hR]; exact Nat.le_of_ble_eq_true rfl) (by rw [hR]; exact Nat.le_of_ble_eq_true rfl) (by rw [hR]; exact ⟨by show _ ≤ 600000; omega, by show _ ≤ 7302250; omega⟩) (Nat.le_of_ble_eq_true rfl) dL_law_663 (fun ro G1 I1 L1 ⟨r1, r2, r3, r4⟩ => ?_)
  rw [r1]
  refine am_aload_n hz dL_law_666 1 rfl rfl ?_
  refine am_callV hz cv_L_73 [] [.int _] (c_X12_undo r2.1 (RI_C hr r3) hw.1) (ln_64 r2.1) (lk_64 r2.1) rfl rfl (by rw [hR]; exact Nat.le_of_ble_eq_true rfl) (by rw [hR]; exact Nat.le_of_ble_eq_true rfl) (by rw [hR]; exact ⟨by show _ ≤ 600000; omega, by show _ ≤ 7302250; omega⟩) (Nat.le_of_ble_eq_true rfl) dL_law_667 (fun ro2 G2 I2 L2 ⟨t1, t2, t3, t4⟩ => ?_)
  rw [t1, t2]
  refine am_icmp_eq (tgt := 1332) hz dL_law_670 (by decide) (fun _ => ?_) (fun h => absurd rfl h)
  exact lw_tail hz (next _ _ _ _ _ _ ⟨CO_M r2 t4, t3, (WI_m (WI_undo hw) (Nat.le_succ _)), by omega, by omega⟩)
set_option maxRecDepth 100000 in
set_option maxHeartbeats 4000000 in
theorem lw_keep {z : amZ} {b N i c : Nat} {xs : Nat → Int32} {s : St} {G : amG} {I : amI} {L : amL} {ce sl : Nat} (hz : Ok z cL_law RL 4) (hR : zR z = room_1) (hX : va_X b N xs (zS z) (zB z)) (hbl : b < (zB z).size) (hi : i + 6 ≤ N) (hN : N ≤ 3072) (hc : c < 512) (hv : INV c s G I L ce sl) (next : ∀ s' G' I' L' ce' sl', INV (c + 1) s' G' I' L' ce' sl' → Wx z ce' sl' 18 (LV z b (i + 6)) [] G' I' L') : Wx z ce sl 675 (LV z b i) [] G I L := by
  obtain ⟨hs, hr, hw, hce, hsl⟩ := hv
  have hG := hs.1
  have hwl := wl_le hs
  have ix : ∀ j, j < 6 → vp_in (nI i + nI j) N := fun j hj => inA (by omega) (by omega)
  refine am_aload_n hz dL_law_675 2 rfl rfl ?_
  refine am_aload_n hz dL_law_676 3 rfl rfl ?_
  refine am_iload_n hz dL_law_677 0 rfl rfl ?_
  refine am_iconst (v := 1) hz dL_law_678 (by decide) ?_
  refine am_iadd hz dL_law_679 ?_
  refine am_sld hz hX hbl (ix 1 (by decide)) dL_law_680 ?_
  refine am_callV hz cv_L_74 [.int (xs (nI i + 1).toNatClampNeg)] [] (c_X11_keep hG _ hs hw.1) (ln_0 hG) (lk_0 hG) rfl rfl (by rw [hR]; exact Nat.le_of_ble_eq_true rfl) (by rw [hR]; exact Nat.le_of_ble_eq_true rfl) (by rw [hR]; exact ⟨by show _ ≤ 600000; omega, by show _ ≤ 7302250; omega⟩) (Nat.le_of_ble_eq_true rfl) dL_law_681 (fun ro G1 I1 L1 ⟨r1, r2, r3, r4⟩ => ?_)
  rw [r1]
  refine am_aload_n hz dL_law_684 1 rfl rfl ?_
  refine am_aload_n hz dL_law_685 3 rfl rfl ?_
  refine am_iload_n hz dL_law_686 0 rfl rfl ?_
  refine am_iconst (v := 1) hz dL_law_687 (by decide) ?_
  refine am_iadd hz dL_law_688 ?_
  refine am_sld hz hX hbl (ix 1 (by decide)) dL_law_689 ?_
  refine am_callV hz cv_L_77 [.int (xs (nI i + 1).toNatClampNeg)] [.int _] (c_X12_keep r2.1 _ (RI_C hr r3) hw.1) (ln_64 r2.1) (lk_64 r2.1) rfl rfl (by rw [hR]; exact Nat.le_of_ble_eq_true rfl) (by rw [hR]; exact Nat.le_of_ble_eq_true rfl) (by rw [hR]; exact ⟨by show _ ≤ 600000; omega, by show _ ≤ 7302250; omega⟩) (Nat.le_of_ble_eq_true rfl) dL_law_690 (fun ro2 G2 I2 L2 ⟨t1, t2, t3, t4⟩ => ?_)
  rw [t1, t2]
  refine am_icmp_eq (tgt := 1332) hz dL_law_693 (by decide) (fun _ => ?_) (fun h => absurd rfl h)
  exact lw_tail hz (next _ _ _ _ _ _ ⟨CO_M r2 t4, t3, (WI_keep hw (by omega) _), by omega, by omega⟩)
set_option maxRecDepth 100000 in
set_option maxHeartbeats 4000000 in
theorem lw_value {z : amZ} {b N i c : Nat} {xs : Nat → Int32} {s : St} {G : amG} {I : amI} {L : amL} {ce sl : Nat} (hz : Ok z cL_law RL 4) (hR : zR z = room_1) (hX : va_X b N xs (zS z) (zB z)) (hbl : b < (zB z).size) (hi : i + 6 ≤ N) (hN : N ≤ 3072) (hc : c < 512) (hv : INV c s G I L ce sl) (next : ∀ s' G' I' L' ce' sl', INV (c + 1) s' G' I' L' ce' sl' → Wx z ce' sl' 18 (LV z b (i + 6)) [] G' I' L') : Wx z ce sl 698 (LV z b i) [] G I L := by
  obtain ⟨hs, hr, hw, hce, hsl⟩ := hv
  have hG := hs.1
  have hwl := wl_le hs
  have ix : ∀ j, j < 6 → vp_in (nI i + nI j) N := fun j hj => inA (by omega) (by omega)
  refine am_aload_n hz dL_law_698 2 rfl rfl ?_
  refine am_aload_n hz dL_law_699 3 rfl rfl ?_
  refine am_iload_n hz dL_law_700 0 rfl rfl ?_
  refine am_iconst (v := 1) hz dL_law_701 (by decide) ?_
  refine am_iadd hz dL_law_702 ?_
  refine am_sld hz hX hbl (ix 1 (by decide)) dL_law_703 ?_
  refine am_aload_n hz dL_law_704 3 rfl rfl ?_
  refine am_iload_n hz dL_law_705 0 rfl rfl ?_
  refine am_iconst (v := 2) hz dL_law_706 (by decide) ?_
  refine am_iadd hz dL_law_707 ?_
  refine am_sld hz hX hbl (ix 2 (by decide)) dL_law_708 ?_
  refine am_aload_n hz dL_law_709 3 rfl rfl ?_
  refine am_iload_n hz dL_law_710 0 rfl rfl ?_
  refine am_iconst (v := 3) hz dL_law_711 (by decide) ?_
  refine am_iadd hz dL_law_712 ?_
  refine am_sld hz hX hbl (ix 3 (by decide)) dL_law_713 ?_
  refine am_callV hz cv_L_78 [.int (xs (nI i + 1).toNatClampNeg), .int (xs (nI i + 2).toNatClampNeg), .int (xs (nI i + 3).toNatClampNeg)] [] (c_X11_value hG _ _ _ hs hw.1) (ln_0 hG) (lk_0 hG) rfl rfl (by rw [hR]; exact Nat.le_of_ble_eq_true rfl) (by rw [hR]; exact Nat.le_of_ble_eq_true rfl) (by rw [hR]; exact ⟨by show _ ≤ 600000; omega, by show _ ≤ 7302250; omega⟩) (Nat.le_of_ble_eq_true rfl) dL_law_714 (fun ro G1 I1 L1 ⟨r1, r2, r3, r4⟩ => ?_)
  rw [r1, r2]
  refine am_aload_n hz dL_law_717 1 rfl rfl ?_
  refine am_aload_n hz dL_law_718 3 rfl rfl ?_
  refine am_iload_n hz dL_law_719 0 rfl rfl ?_
  refine am_iconst (v := 1) hz dL_law_720 (by decide) ?_
  refine am_iadd hz dL_law_721 ?_
  refine am_sld hz hX hbl (ix 1 (by decide)) dL_law_722 ?_
  refine am_aload_n hz dL_law_723 3 rfl rfl ?_
  refine am_iload_n hz dL_law_724 0 rfl rfl ?_
  refine am_iconst (v := 2) hz dL_law_725 (by decide) ?_
  refine am_iadd hz dL_law_726 ?_
  refine am_sld hz hX hbl (ix 2 (by decide)) dL_law_727 ?_
  refine am_aload_n hz dL_law_728 3 rfl rfl ?_
  refine am_iload_n hz dL_law_729 0 rfl rfl ?_
  refine am_iconst (v := 3) hz dL_law_730 (by decide) ?_
  refine am_iadd hz dL_law_731 ?_
  refine am_sld hz hX hbl (ix 3 (by decide)) dL_law_732 ?_
  refine am_callV hz cv_L_82 [.int (xs (nI i + 1).toNatClampNeg), .int (xs (nI i + 2).toNatClampNeg), .int (xs (nI i + 3).toNatClampNeg)] [.long _] (c_X12_value hG _ _ _ (RI_C hr r4) hw.1) (ln_64 hG) (lk_64 hG) rfl rfl (by rw [hR]; exact Nat.le_of_ble_eq_true rfl) (by rw [hR]; exact Nat.le_of_ble_eq_true rfl) (by rw [hR]; exact ⟨by show _ ≤ 600000; omega, by show _ ≤ 7302250; omega⟩) (Nat.le_of_ble_eq_true rfl) dL_law_733 (fun ro2 G2 I2 L2 ⟨t1, t2, t3, t4⟩ => ?_)
  rw [t1, t2]
  refine am_lif_eq (tgt := 1332) hz dL_law_736 dL_law_737 (by decide) (fun _ => ?_) (fun h => absurd rfl h)
  exact lw_tail hz (next _ _ _ _ _ _ ⟨CO_M r3 t4, t3, (WI_m hw (Nat.le_succ _)), by omega, by omega⟩)
set_option maxRecDepth 100000 in
set_option maxHeartbeats 4000000 in
theorem lw_same {z : amZ} {b N i c : Nat} {xs : Nat → Int32} {s : St} {G : amG} {I : amI} {L : amL} {ce sl : Nat} (hz : Ok z cL_law RL 4) (hR : zR z = room_1) (hX : va_X b N xs (zS z) (zB z)) (hbl : b < (zB z).size) (hi : i + 6 ≤ N) (hN : N ≤ 3072) (hc : c < 512) (hv : INV c s G I L ce sl) (next : ∀ s' G' I' L' ce' sl', INV (c + 1) s' G' I' L' ce' sl' → Wx z ce' sl' 18 (LV z b (i + 6)) [] G' I' L') : Wx z ce sl 742 (LV z b i) [] G I L := by
  obtain ⟨hs, hr, hw, hce, hsl⟩ := hv
  have hG := hs.1
  have hwl := wl_le hs
  have ix : ∀ j, j < 6 → vp_in (nI i + nI j) N := fun j hj => inA (by omega) (by omega)
  refine am_aload_n hz dL_law_742 2 rfl rfl ?_
  refine am_aload_n hz dL_law_743 3 rfl rfl ?_
  refine am_iload_n hz dL_law_744 0 rfl rfl ?_
  refine am_iconst (v := 1) hz dL_law_745 (by decide) ?_
  refine am_iadd hz dL_law_746 ?_
  refine am_sld hz hX hbl (ix 1 (by decide)) dL_law_747 ?_
  refine am_aload_n hz dL_law_748 3 rfl rfl ?_
  refine am_iload_n hz dL_law_749 0 rfl rfl ?_
  refine am_iconst (v := 2) hz dL_law_750 (by decide) ?_
  refine am_iadd hz dL_law_751 ?_
  refine am_sld hz hX hbl (ix 2 (by decide)) dL_law_752 ?_
  refine am_callV hz cv_L_83 [.int (xs (nI i + 1).toNatClampNeg), .int (xs (nI i + 2).toNatClampNeg)] [] (c_X11_same hG _ _ hs hw.1) (ln_0 hG) (lk_0 hG) rfl rfl (by rw [hR]; exact Nat.le_of_ble_eq_true rfl) (by rw [hR]; exact Nat.le_of_ble_eq_true rfl) (by rw [hR]; exact ⟨by show _ ≤ 600000; omega, by show _ ≤ 7302250; omega⟩) (Nat.le_of_ble_eq_true rfl) dL_law_753 (fun ro G1 I1 L1 ⟨r1, r2, r3, r4⟩ => ?_)
  rw [r1, r2]
  refine am_aload_n hz dL_law_756 1 rfl rfl ?_
  refine am_aload_n hz dL_law_757 3 rfl rfl ?_
  refine am_iload_n hz dL_law_758 0 rfl rfl ?_
  refine am_iconst (v := 1) hz dL_law_759 (by decide) ?_
  refine am_iadd hz dL_law_760 ?_
  refine am_sld hz hX hbl (ix 1 (by decide)) dL_law_761 ?_
  refine am_aload_n hz dL_law_762 3 rfl rfl ?_
  refine am_iload_n hz dL_law_763 0 rfl rfl ?_
  refine am_iconst (v := 2) hz dL_law_764 (by decide) ?_
  refine am_iadd hz dL_law_765 ?_
  refine am_sld hz hX hbl (ix 2 (by decide)) dL_law_766 ?_
  refine am_callV hz cv_L_86 [.int (xs (nI i + 1).toNatClampNeg), .int (xs (nI i + 2).toNatClampNeg)] [.int _] (c_X12_same hG _ _ (RI_C hr r4) hw.1) (ln_64 hG) (lk_64 hG) rfl rfl (by rw [hR]; exact Nat.le_of_ble_eq_true rfl) (by rw [hR]; exact Nat.le_of_ble_eq_true rfl) (by rw [hR]; exact ⟨by show _ ≤ 600000; omega, by show _ ≤ 7302250; omega⟩) (Nat.le_of_ble_eq_true rfl) dL_law_767 (fun ro2 G2 I2 L2 ⟨t1, t2, t3, t4⟩ => ?_)
  rw [t1, t2]
  refine am_icmp_eq (tgt := 1332) hz dL_law_770 (by decide) (fun _ => ?_) (fun h => absurd rfl h)
  exact lw_tail hz (next _ _ _ _ _ _ ⟨CO_M r3 t4, t3, (WI_m hw (Nat.le_succ _)), by omega, by omega⟩)
set_option maxRecDepth 100000 in
set_option maxHeartbeats 4000000 in
theorem lw_about {z : amZ} {b N i c : Nat} {xs : Nat → Int32} {s : St} {G : amG} {I : amI} {L : amL} {ce sl : Nat} (hz : Ok z cL_law RL 4) (hR : zR z = room_1) (hX : va_X b N xs (zS z) (zB z)) (hbl : b < (zB z).size) (hi : i + 6 ≤ N) (hN : N ≤ 3072) (hc : c < 512) (hv : INV c s G I L ce sl) (next : ∀ s' G' I' L' ce' sl', INV (c + 1) s' G' I' L' ce' sl' → Wx z ce' sl' 18 (LV z b (i + 6)) [] G' I' L') : Wx z ce sl 775 (LV z b i) [] G I L := by
  obtain ⟨hs, hr, hw, hce, hsl⟩ := hv
  have hG := hs.1
  have hwl := wl_le hs
  have ix : ∀ j, j < 6 → vp_in (nI i + nI j) N := fun j hj => inA (by omega) (by omega)
  refine am_aload_n hz dL_law_775 2 rfl rfl ?_
  refine am_aload_n hz dL_law_776 3 rfl rfl ?_
  refine am_iload_n hz dL_law_777 0 rfl rfl ?_
  refine am_iconst (v := 1) hz dL_law_778 (by decide) ?_
  refine am_iadd hz dL_law_779 ?_
  refine am_sld hz hX hbl (ix 1 (by decide)) dL_law_780 ?_
  refine am_aload_n hz dL_law_781 3 rfl rfl ?_
  refine am_iload_n hz dL_law_782 0 rfl rfl ?_
  refine am_iconst (v := 2) hz dL_law_783 (by decide) ?_
  refine am_iadd hz dL_law_784 ?_
  refine am_sld hz hX hbl (ix 2 (by decide)) dL_law_785 ?_
  refine am_callV hz cv_L_87 [.int (xs (nI i + 1).toNatClampNeg), .int (xs (nI i + 2).toNatClampNeg)] [] (c_X11_about hG _ _ hs hw.1) (ln_0 hG) (lk_0 hG) rfl rfl (by rw [hR]; exact Nat.le_of_ble_eq_true rfl) (by rw [hR]; exact Nat.le_of_ble_eq_true rfl) (by rw [hR]; exact ⟨by show _ ≤ 600000; omega, by show _ ≤ 7302250; omega⟩) (Nat.le_of_ble_eq_true rfl) dL_law_786 (fun ro G1 I1 L1 ⟨r1, r2, r3, r4⟩ => ?_)
  rw [r1, r2]
  refine am_aload_n hz dL_law_789 1 rfl rfl ?_
  refine am_aload_n hz dL_law_790 3 rfl rfl ?_
  refine am_iload_n hz dL_law_791 0 rfl rfl ?_
  refine am_iconst (v := 1) hz dL_law_792 (by decide) ?_
  refine am_iadd hz dL_law_793 ?_
  refine am_sld hz hX hbl (ix 1 (by decide)) dL_law_794 ?_
  refine am_aload_n hz dL_law_795 3 rfl rfl ?_
  refine am_iload_n hz dL_law_796 0 rfl rfl ?_
  refine am_iconst (v := 2) hz dL_law_797 (by decide) ?_
  refine am_iadd hz dL_law_798 ?_
  refine am_sld hz hX hbl (ix 2 (by decide)) dL_law_799 ?_
  refine am_callV hz cv_L_90 [.int (xs (nI i + 1).toNatClampNeg), .int (xs (nI i + 2).toNatClampNeg)] [.int _] (c_X12_about hG _ _ (RI_C hr r4) hw.1) (ln_64 hG) (lk_64 hG) rfl rfl (by rw [hR]; exact Nat.le_of_ble_eq_true rfl) (by rw [hR]; exact Nat.le_of_ble_eq_true rfl) (by rw [hR]; exact ⟨by show _ ≤ 600000; omega, by show _ ≤ 7302250; omega⟩) (Nat.le_of_ble_eq_true rfl) dL_law_800 (fun ro2 G2 I2 L2 ⟨t1, t2, t3, t4⟩ => ?_)
  rw [t1, t2]
  refine am_icmp_eq (tgt := 1332) hz dL_law_803 (by decide) (fun _ => ?_) (fun h => absurd rfl h)
  exact lw_tail hz (next _ _ _ _ _ _ ⟨CO_M r3 t4, t3, (WI_m hw (Nat.le_succ _)), by omega, by omega⟩)
set_option maxRecDepth 100000 in
set_option maxHeartbeats 4000000 in
theorem lw_bound {z : amZ} {b N i c : Nat} {xs : Nat → Int32} {s : St} {G : amG} {I : amI} {L : amL} {ce sl : Nat} (hz : Ok z cL_law RL 4) (hR : zR z = room_1) (hX : va_X b N xs (zS z) (zB z)) (hbl : b < (zB z).size) (hi : i + 6 ≤ N) (hN : N ≤ 3072) (hc : c < 512) (hv : INV c s G I L ce sl) (next : ∀ s' G' I' L' ce' sl', INV (c + 1) s' G' I' L' ce' sl' → Wx z ce' sl' 18 (LV z b (i + 6)) [] G' I' L') : Wx z ce sl 808 (LV z b i) [] G I L := by
  obtain ⟨hs, hr, hw, hce, hsl⟩ := hv
  have hG := hs.1
  have hwl := wl_le hs
  have ix : ∀ j, j < 6 → vp_in (nI i + nI j) N := fun j hj => inA (by omega) (by omega)
  refine am_aload_n hz dL_law_808 2 rfl rfl ?_
  refine am_aload_n hz dL_law_809 3 rfl rfl ?_
  refine am_iload_n hz dL_law_810 0 rfl rfl ?_
  refine am_iconst (v := 1) hz dL_law_811 (by decide) ?_
  refine am_iadd hz dL_law_812 ?_
  refine am_sld hz hX hbl (ix 1 (by decide)) dL_law_813 ?_
  refine am_aload_n hz dL_law_814 3 rfl rfl ?_
  refine am_iload_n hz dL_law_815 0 rfl rfl ?_
  refine am_iconst (v := 2) hz dL_law_816 (by decide) ?_
  refine am_iadd hz dL_law_817 ?_
  refine am_sld hz hX hbl (ix 2 (by decide)) dL_law_818 ?_
  refine am_aload_n hz dL_law_819 3 rfl rfl ?_
  refine am_iload_n hz dL_law_820 0 rfl rfl ?_
  refine am_iconst (v := 3) hz dL_law_821 (by decide) ?_
  refine am_iadd hz dL_law_822 ?_
  refine am_sld hz hX hbl (ix 3 (by decide)) dL_law_823 ?_
  refine am_callV hz cv_L_91 [.int (xs (nI i + 1).toNatClampNeg), .int (xs (nI i + 2).toNatClampNeg), .int (xs (nI i + 3).toNatClampNeg)] [] (c_X11_bound hG _ _ _ hs hw.1) (ln_0 hG) (lk_0 hG) rfl rfl (by rw [hR]; exact Nat.le_of_ble_eq_true rfl) (by rw [hR]; exact Nat.le_of_ble_eq_true rfl) (by rw [hR]; exact ⟨by show _ ≤ 600000; omega, by show _ ≤ 7302250; omega⟩) (Nat.le_of_ble_eq_true rfl) dL_law_824 (fun ro G1 I1 L1 ⟨r1, r2, r3, r4⟩ => ?_)
  rw [r1, r2]
  refine am_aload_n hz dL_law_827 1 rfl rfl ?_
  refine am_aload_n hz dL_law_828 3 rfl rfl ?_
  refine am_iload_n hz dL_law_829 0 rfl rfl ?_
  refine am_iconst (v := 1) hz dL_law_830 (by decide) ?_
  refine am_iadd hz dL_law_831 ?_
  refine am_sld hz hX hbl (ix 1 (by decide)) dL_law_832 ?_
  refine am_aload_n hz dL_law_833 3 rfl rfl ?_
  refine am_iload_n hz dL_law_834 0 rfl rfl ?_
  refine am_iconst (v := 2) hz dL_law_835 (by decide) ?_
  refine am_iadd hz dL_law_836 ?_
  refine am_sld hz hX hbl (ix 2 (by decide)) dL_law_837 ?_
  refine am_aload_n hz dL_law_838 3 rfl rfl ?_
  refine am_iload_n hz dL_law_839 0 rfl rfl ?_
  refine am_iconst (v := 3) hz dL_law_840 (by decide) ?_
  refine am_iadd hz dL_law_841 ?_
  refine am_sld hz hX hbl (ix 3 (by decide)) dL_law_842 ?_
  refine am_callV hz cv_L_94 [.int (xs (nI i + 1).toNatClampNeg), .int (xs (nI i + 2).toNatClampNeg), .int (xs (nI i + 3).toNatClampNeg)] [.int _] (c_X12_bound hG _ _ _ (RI_C hr r4) hw.1) (ln_64 hG) (lk_64 hG) rfl rfl (by rw [hR]; exact Nat.le_of_ble_eq_true rfl) (by rw [hR]; exact Nat.le_of_ble_eq_true rfl) (by rw [hR]; exact ⟨by show _ ≤ 600000; omega, by show _ ≤ 7302250; omega⟩) (Nat.le_of_ble_eq_true rfl) dL_law_843 (fun ro2 G2 I2 L2 ⟨t1, t2, t3, t4⟩ => ?_)
  rw [t1, t2]
  refine am_icmp_eq (tgt := 1332) hz dL_law_846 (by decide) (fun _ => ?_) (fun h => absurd rfl h)
  exact lw_tail hz (next _ _ _ _ _ _ ⟨CO_M r3 t4, t3, (WI_m hw (Nat.le_succ _)), by omega, by omega⟩)
set_option maxRecDepth 100000 in
set_option maxHeartbeats 4000000 in
theorem lw_chains {z : amZ} {b N i c : Nat} {xs : Nat → Int32} {s : St} {G : amG} {I : amI} {L : amL} {ce sl : Nat} (hz : Ok z cL_law RL 4) (hR : zR z = room_1) (hX : va_X b N xs (zS z) (zB z)) (hbl : b < (zB z).size) (hi : i + 6 ≤ N) (hN : N ≤ 3072) (hc : c < 512) (hv : INV c s G I L ce sl) (next : ∀ s' G' I' L' ce' sl', INV (c + 1) s' G' I' L' ce' sl' → Wx z ce' sl' 18 (LV z b (i + 6)) [] G' I' L') : Wx z ce sl 851 (LV z b i) [] G I L := by
  obtain ⟨hs, hr, hw, hce, hsl⟩ := hv
  have hG := hs.1
  have hwl := wl_le hs
  have ix : ∀ j, j < 6 → vp_in (nI i + nI j) N := fun j hj => inA (by omega) (by omega)
  refine am_aload_n hz dL_law_851 2 rfl rfl ?_
  refine am_aload_n hz dL_law_852 3 rfl rfl ?_
  refine am_iload_n hz dL_law_853 0 rfl rfl ?_
  refine am_iconst (v := 1) hz dL_law_854 (by decide) ?_
  refine am_iadd hz dL_law_855 ?_
  refine am_sld hz hX hbl (ix 1 (by decide)) dL_law_856 ?_
  refine am_aload_n hz dL_law_857 3 rfl rfl ?_
  refine am_iload_n hz dL_law_858 0 rfl rfl ?_
  refine am_iconst (v := 2) hz dL_law_859 (by decide) ?_
  refine am_iadd hz dL_law_860 ?_
  refine am_sld hz hX hbl (ix 2 (by decide)) dL_law_861 ?_
  refine am_aload_n hz dL_law_862 3 rfl rfl ?_
  refine am_iload_n hz dL_law_863 0 rfl rfl ?_
  refine am_iconst (v := 3) hz dL_law_864 (by decide) ?_
  refine am_iadd hz dL_law_865 ?_
  refine am_sld hz hX hbl (ix 3 (by decide)) dL_law_866 ?_
  refine am_callV hz cv_L_95 [.int (xs (nI i + 1).toNatClampNeg), .int (xs (nI i + 2).toNatClampNeg), .int (xs (nI i + 3).toNatClampNeg)] [] (c_X11_chains hG _ _ _ hs hw.1) (ln_0 hG) (lk_0 hG) rfl rfl (by rw [hR]; exact Nat.le_of_ble_eq_true rfl) (by rw [hR]; exact Nat.le_of_ble_eq_true rfl) (by rw [hR]; exact ⟨by show _ ≤ 600000; omega, by show _ ≤ 7302250; omega⟩) (Nat.le_of_ble_eq_true rfl) dL_law_867 (fun ro G1 I1 L1 ⟨r1, r2, r3, r4⟩ => ?_)
  rw [r1, r2]
  refine am_aload_n hz dL_law_870 1 rfl rfl ?_
  refine am_aload_n hz dL_law_871 3 rfl rfl ?_
  refine am_iload_n hz dL_law_872 0 rfl rfl ?_
  refine am_iconst (v := 1) hz dL_law_873 (by decide) ?_
  refine am_iadd hz dL_law_874 ?_
  refine am_sld hz hX hbl (ix 1 (by decide)) dL_law_875 ?_
  refine am_aload_n hz dL_law_876 3 rfl rfl ?_
  refine am_iload_n hz dL_law_877 0 rfl rfl ?_
  refine am_iconst (v := 2) hz dL_law_878 (by decide) ?_
  refine am_iadd hz dL_law_879 ?_
  refine am_sld hz hX hbl (ix 2 (by decide)) dL_law_880 ?_
  refine am_aload_n hz dL_law_881 3 rfl rfl ?_
  refine am_iload_n hz dL_law_882 0 rfl rfl ?_
  refine am_iconst (v := 3) hz dL_law_883 (by decide) ?_
  refine am_iadd hz dL_law_884 ?_
  refine am_sld hz hX hbl (ix 3 (by decide)) dL_law_885 ?_
  refine am_callV hz cv_L_98 [.int (xs (nI i + 1).toNatClampNeg), .int (xs (nI i + 2).toNatClampNeg), .int (xs (nI i + 3).toNatClampNeg)] [.long _] (c_X12_chains hG _ _ _ (RI_C hr r4) hw.1) (ln_64 hG) (lk_64 hG) rfl rfl (by rw [hR]; exact Nat.le_of_ble_eq_true rfl) (by rw [hR]; exact Nat.le_of_ble_eq_true rfl) (by rw [hR]; exact ⟨by show _ ≤ 600000; omega, by show _ ≤ 7302250; omega⟩) (Nat.le_of_ble_eq_true rfl) dL_law_886 (fun ro2 G2 I2 L2 ⟨t1, t2, t3, t4⟩ => ?_)
  rw [t1, t2]
  refine am_lif_eq (tgt := 1332) hz dL_law_889 dL_law_890 (by decide) (fun _ => ?_) (fun h => absurd rfl h)
  exact lw_tail hz (next _ _ _ _ _ _ ⟨CO_M r3 t4, t3, (WI_m hw (Nat.le_succ _)), by omega, by omega⟩)
set_option maxRecDepth 100000 in
set_option maxHeartbeats 4000000 in
theorem lw_moebius {z : amZ} {b N i c : Nat} {xs : Nat → Int32} {s : St} {G : amG} {I : amI} {L : amL} {ce sl : Nat} (hz : Ok z cL_law RL 4) (hR : zR z = room_1) (hX : va_X b N xs (zS z) (zB z)) (hbl : b < (zB z).size) (hi : i + 6 ≤ N) (hN : N ≤ 3072) (hc : c < 512) (hv : INV c s G I L ce sl) (next : ∀ s' G' I' L' ce' sl', INV (c + 1) s' G' I' L' ce' sl' → Wx z ce' sl' 18 (LV z b (i + 6)) [] G' I' L') : Wx z ce sl 895 (LV z b i) [] G I L := by
  obtain ⟨hs, hr, hw, hce, hsl⟩ := hv
  have hG := hs.1
  have hwl := wl_le hs
  have ix : ∀ j, j < 6 → vp_in (nI i + nI j) N := fun j hj => inA (by omega) (by omega)
  refine am_aload_n hz dL_law_895 2 rfl rfl ?_
  refine am_aload_n hz dL_law_896 3 rfl rfl ?_
  refine am_iload_n hz dL_law_897 0 rfl rfl ?_
  refine am_iconst (v := 1) hz dL_law_898 (by decide) ?_
  refine am_iadd hz dL_law_899 ?_
  refine am_sld hz hX hbl (ix 1 (by decide)) dL_law_900 ?_
  refine am_aload_n hz dL_law_901 3 rfl rfl ?_
  refine am_iload_n hz dL_law_902 0 rfl rfl ?_
  refine am_iconst (v := 2) hz dL_law_903 (by decide) ?_
  refine am_iadd hz dL_law_904 ?_
  refine am_sld hz hX hbl (ix 2 (by decide)) dL_law_905 ?_
  refine am_aload_n hz dL_law_906 3 rfl rfl ?_
  refine am_iload_n hz dL_law_907 0 rfl rfl ?_
  refine am_iconst (v := 3) hz dL_law_908 (by decide) ?_
  refine am_iadd hz dL_law_909 ?_
  refine am_sld hz hX hbl (ix 3 (by decide)) dL_law_910 ?_
  refine am_callV hz cv_L_99 [.int (xs (nI i + 1).toNatClampNeg), .int (xs (nI i + 2).toNatClampNeg), .int (xs (nI i + 3).toNatClampNeg)] [] (c_X11_moebius hG _ _ _ hs hw.1) (ln_0 hG) (lk_0 hG) rfl rfl (by rw [hR]; exact Nat.le_of_ble_eq_true rfl) (by rw [hR]; exact Nat.le_of_ble_eq_true rfl) (by rw [hR]; exact ⟨by show _ ≤ 600000; omega, by show _ ≤ 7302250; omega⟩) (Nat.le_of_ble_eq_true rfl) dL_law_911 (fun ro G1 I1 L1 ⟨r1, r2, r3, r4⟩ => ?_)
  rw [r1, r2]
  refine am_aload_n hz dL_law_914 1 rfl rfl ?_
  refine am_aload_n hz dL_law_915 3 rfl rfl ?_
  refine am_iload_n hz dL_law_916 0 rfl rfl ?_
  refine am_iconst (v := 1) hz dL_law_917 (by decide) ?_
  refine am_iadd hz dL_law_918 ?_
  refine am_sld hz hX hbl (ix 1 (by decide)) dL_law_919 ?_
  refine am_aload_n hz dL_law_920 3 rfl rfl ?_
  refine am_iload_n hz dL_law_921 0 rfl rfl ?_
  refine am_iconst (v := 2) hz dL_law_922 (by decide) ?_
  refine am_iadd hz dL_law_923 ?_
  refine am_sld hz hX hbl (ix 2 (by decide)) dL_law_924 ?_
  refine am_aload_n hz dL_law_925 3 rfl rfl ?_
  refine am_iload_n hz dL_law_926 0 rfl rfl ?_
  refine am_iconst (v := 3) hz dL_law_927 (by decide) ?_
  refine am_iadd hz dL_law_928 ?_
  refine am_sld hz hX hbl (ix 3 (by decide)) dL_law_929 ?_
  refine am_callV hz cv_L_102 [.int (xs (nI i + 1).toNatClampNeg), .int (xs (nI i + 2).toNatClampNeg), .int (xs (nI i + 3).toNatClampNeg)] [.long _] (c_X12_moebius hG _ _ _ (RI_C hr r4) hw.1) (ln_64 hG) (lk_64 hG) rfl rfl (by rw [hR]; exact Nat.le_of_ble_eq_true rfl) (by rw [hR]; exact Nat.le_of_ble_eq_true rfl) (by rw [hR]; exact ⟨by show _ ≤ 600000; omega, by show _ ≤ 7302250; omega⟩) (Nat.le_of_ble_eq_true rfl) dL_law_930 (fun ro2 G2 I2 L2 ⟨t1, t2, t3, t4⟩ => ?_)
  rw [t1, t2]
  refine am_lif_eq (tgt := 1332) hz dL_law_933 dL_law_934 (by decide) (fun _ => ?_) (fun h => absurd rfl h)
  exact lw_tail hz (next _ _ _ _ _ _ ⟨CO_M r3 t4, t3, (WI_m hw (Nat.le_succ _)), by omega, by omega⟩)
set_option maxRecDepth 100000 in
set_option maxHeartbeats 4000000 in
theorem lw_multichains {z : amZ} {b N i c : Nat} {xs : Nat → Int32} {s : St} {G : amG} {I : amI} {L : amL} {ce sl : Nat} (hz : Ok z cL_law RL 4) (hR : zR z = room_1) (hX : va_X b N xs (zS z) (zB z)) (hbl : b < (zB z).size) (hi : i + 6 ≤ N) (hN : N ≤ 3072) (hc : c < 512) (hv : INV c s G I L ce sl) (next : ∀ s' G' I' L' ce' sl', INV (c + 1) s' G' I' L' ce' sl' → Wx z ce' sl' 18 (LV z b (i + 6)) [] G' I' L') : Wx z ce sl 939 (LV z b i) [] G I L := by
  obtain ⟨hs, hr, hw, hce, hsl⟩ := hv
  have hG := hs.1
  have hwl := wl_le hs
  have ix : ∀ j, j < 6 → vp_in (nI i + nI j) N := fun j hj => inA (by omega) (by omega)
  refine am_aload_n hz dL_law_939 2 rfl rfl ?_
  refine am_aload_n hz dL_law_940 3 rfl rfl ?_
  refine am_iload_n hz dL_law_941 0 rfl rfl ?_
  refine am_iconst (v := 1) hz dL_law_942 (by decide) ?_
  refine am_iadd hz dL_law_943 ?_
  refine am_sld hz hX hbl (ix 1 (by decide)) dL_law_944 ?_
  refine am_aload_n hz dL_law_945 3 rfl rfl ?_
  refine am_iload_n hz dL_law_946 0 rfl rfl ?_
  refine am_iconst (v := 2) hz dL_law_947 (by decide) ?_
  refine am_iadd hz dL_law_948 ?_
  refine am_sld hz hX hbl (ix 2 (by decide)) dL_law_949 ?_
  refine am_aload_n hz dL_law_950 3 rfl rfl ?_
  refine am_iload_n hz dL_law_951 0 rfl rfl ?_
  refine am_iconst (v := 3) hz dL_law_952 (by decide) ?_
  refine am_iadd hz dL_law_953 ?_
  refine am_sld hz hX hbl (ix 3 (by decide)) dL_law_954 ?_
  refine am_callV hz cv_L_103 [.int (xs (nI i + 1).toNatClampNeg), .int (xs (nI i + 2).toNatClampNeg), .int (xs (nI i + 3).toNatClampNeg)] [] (c_X11_multichains hG _ _ _ hs hw.1) (ln_0 hG) (lk_0 hG) rfl rfl (by rw [hR]; exact Nat.le_of_ble_eq_true rfl) (by rw [hR]; exact Nat.le_of_ble_eq_true rfl) (by rw [hR]; exact ⟨by show _ ≤ 600000; omega, by show _ ≤ 7302250; omega⟩) (Nat.le_of_ble_eq_true rfl) dL_law_955 (fun ro G1 I1 L1 ⟨r1, r2, r3, r4⟩ => ?_)
  rw [r1, r2]
  refine am_aload_n hz dL_law_958 1 rfl rfl ?_
  refine am_aload_n hz dL_law_959 3 rfl rfl ?_
  refine am_iload_n hz dL_law_960 0 rfl rfl ?_
  refine am_iconst (v := 1) hz dL_law_961 (by decide) ?_
  refine am_iadd hz dL_law_962 ?_
  refine am_sld hz hX hbl (ix 1 (by decide)) dL_law_963 ?_
  refine am_aload_n hz dL_law_964 3 rfl rfl ?_
  refine am_iload_n hz dL_law_965 0 rfl rfl ?_
  refine am_iconst (v := 2) hz dL_law_966 (by decide) ?_
  refine am_iadd hz dL_law_967 ?_
  refine am_sld hz hX hbl (ix 2 (by decide)) dL_law_968 ?_
  refine am_aload_n hz dL_law_969 3 rfl rfl ?_
  refine am_iload_n hz dL_law_970 0 rfl rfl ?_
  refine am_iconst (v := 3) hz dL_law_971 (by decide) ?_
  refine am_iadd hz dL_law_972 ?_
  refine am_sld hz hX hbl (ix 3 (by decide)) dL_law_973 ?_
  refine am_callV hz cv_L_106 [.int (xs (nI i + 1).toNatClampNeg), .int (xs (nI i + 2).toNatClampNeg), .int (xs (nI i + 3).toNatClampNeg)] [.long _] (c_X12_multichains hG _ _ _ (RI_C hr r4) hw.1) (ln_64 hG) (lk_64 hG) rfl rfl (by rw [hR]; exact Nat.le_of_ble_eq_true rfl) (by rw [hR]; exact Nat.le_of_ble_eq_true rfl) (by rw [hR]; exact ⟨by show _ ≤ 600000; omega, by show _ ≤ 7302250; omega⟩) (Nat.le_of_ble_eq_true rfl) dL_law_974 (fun ro2 G2 I2 L2 ⟨t1, t2, t3, t4⟩ => ?_)
  rw [t1, t2]
  refine am_lif_eq (tgt := 1332) hz dL_law_977 dL_law_978 (by decide) (fun _ => ?_) (fun h => absurd rfl h)
  exact lw_tail hz (next _ _ _ _ _ _ ⟨CO_M r3 t4, t3, (WI_m hw (Nat.le_succ _)), by omega, by omega⟩)
set_option maxRecDepth 100000 in
set_option maxHeartbeats 4000000 in
theorem lw_sets {z : amZ} {b N i c : Nat} {xs : Nat → Int32} {s : St} {G : amG} {I : amI} {L : amL} {ce sl : Nat} (hz : Ok z cL_law RL 4) (hR : zR z = room_1) (hX : va_X b N xs (zS z) (zB z)) (hbl : b < (zB z).size) (hi : i + 6 ≤ N) (hN : N ≤ 3072) (hc : c < 512) (hv : INV c s G I L ce sl) (next : ∀ s' G' I' L' ce' sl', INV (c + 1) s' G' I' L' ce' sl' → Wx z ce' sl' 18 (LV z b (i + 6)) [] G' I' L') : Wx z ce sl 983 (LV z b i) [] G I L := by
  obtain ⟨hs, hr, hw, hce, hsl⟩ := hv
  have hG := hs.1
  have hwl := wl_le hs
  have ix : ∀ j, j < 6 → vp_in (nI i + nI j) N := fun j hj => inA (by omega) (by omega)
  refine am_aload_n hz dL_law_983 2 rfl rfl ?_
  refine am_aload_n hz dL_law_984 3 rfl rfl ?_
  refine am_iload_n hz dL_law_985 0 rfl rfl ?_
  refine am_iconst (v := 1) hz dL_law_986 (by decide) ?_
  refine am_iadd hz dL_law_987 ?_
  refine am_sld hz hX hbl (ix 1 (by decide)) dL_law_988 ?_
  refine am_aload_n hz dL_law_989 3 rfl rfl ?_
  refine am_iload_n hz dL_law_990 0 rfl rfl ?_
  refine am_iconst (v := 2) hz dL_law_991 (by decide) ?_
  refine am_iadd hz dL_law_992 ?_
  refine am_sld hz hX hbl (ix 2 (by decide)) dL_law_993 ?_
  obtain ⟨k, hk, hM⟩ := c_X11_sets (l := zL z) (D := zD z) (B := zB z) hG (xs (nI i + 1).toNatClampNeg) (xs (nI i + 2).toNatClampNeg) hs hw.1
  refine am_callV hz cv_L_107 [.int (xs (nI i + 1).toNatClampNeg), .int (xs (nI i + 2).toNatClampNeg)] [] hM (ln_0 hG) (lk_0 hG) rfl rfl (by rw [hR]; exact Nat.le_of_ble_eq_true rfl) (by rw [hR]; exact Nat.le_of_ble_eq_true rfl) (by rw [hR]; exact ⟨by show _ ≤ 600000; omega, by show _ ≤ 7302250; omega⟩) (Nat.le_of_ble_eq_true rfl) dL_law_994 (fun ro G1 I1 L1 ⟨r1, r2, r3, r4⟩ => ?_)
  rw [r1]
  refine am_aload_n hz dL_law_997 1 rfl rfl ?_
  refine am_aload_n hz dL_law_998 3 rfl rfl ?_
  refine am_iload_n hz dL_law_999 0 rfl rfl ?_
  refine am_iconst (v := 1) hz dL_law_1000 (by decide) ?_
  refine am_iadd hz dL_law_1001 ?_
  refine am_sld hz hX hbl (ix 1 (by decide)) dL_law_1002 ?_
  refine am_aload_n hz dL_law_1003 3 rfl rfl ?_
  refine am_iload_n hz dL_law_1004 0 rfl rfl ?_
  refine am_iconst (v := 2) hz dL_law_1005 (by decide) ?_
  refine am_iadd hz dL_law_1006 ?_
  refine am_sld hz hX hbl (ix 2 (by decide)) dL_law_1007 ?_
  refine am_callV hz cv_L_111 [.int (xs (nI i + 1).toNatClampNeg), .int (xs (nI i + 2).toNatClampNeg)] [.long _] (c_X12_sets r2.1 _ _ (RI_C hr r3) hw.1) (ln_64 r2.1) (lk_64 r2.1) rfl rfl (by rw [hR]; exact Nat.le_of_ble_eq_true rfl) (by rw [hR]; exact Nat.le_of_ble_eq_true rfl) (by rw [hR]; exact ⟨by show _ ≤ 600000; omega, by show _ ≤ 7302250; omega⟩) (Nat.le_of_ble_eq_true rfl) dL_law_1008 (fun ro2 G2 I2 L2 ⟨t1, t2, t3, t4⟩ => ?_)
  rw [t1, t2]
  refine am_lif_eq (tgt := 1332) hz dL_law_1011 dL_law_1012 (by decide) (fun _ => ?_) (fun h => absurd rfl h)
  exact lw_tail hz (next _ _ _ _ _ _ ⟨CO_M r2 t4, t3, (WI_m hw (Nat.le_succ _)), by omega, by omega⟩)
set_option maxRecDepth 100000 in
set_option maxHeartbeats 4000000 in
theorem lw_type {z : amZ} {b N i c : Nat} {xs : Nat → Int32} {s : St} {G : amG} {I : amI} {L : amL} {ce sl : Nat} (hz : Ok z cL_law RL 4) (hR : zR z = room_1) (hX : va_X b N xs (zS z) (zB z)) (hbl : b < (zB z).size) (hi : i + 6 ≤ N) (hN : N ≤ 3072) (hc : c < 512) (hv : INV c s G I L ce sl) (next : ∀ s' G' I' L' ce' sl', INV (c + 1) s' G' I' L' ce' sl' → Wx z ce' sl' 18 (LV z b (i + 6)) [] G' I' L') : Wx z ce sl 1017 (LV z b i) [] G I L := by
  obtain ⟨hs, hr, hw, hce, hsl⟩ := hv
  have hG := hs.1
  have hwl := wl_le hs
  have ix : ∀ j, j < 6 → vp_in (nI i + nI j) N := fun j hj => inA (by omega) (by omega)
  refine am_aload_n hz dL_law_1017 2 rfl rfl ?_
  refine am_aload_n hz dL_law_1018 3 rfl rfl ?_
  refine am_iload_n hz dL_law_1019 0 rfl rfl ?_
  refine am_iconst (v := 1) hz dL_law_1020 (by decide) ?_
  refine am_iadd hz dL_law_1021 ?_
  refine am_sld hz hX hbl (ix 1 (by decide)) dL_law_1022 ?_
  refine am_aload_n hz dL_law_1023 3 rfl rfl ?_
  refine am_iload_n hz dL_law_1024 0 rfl rfl ?_
  refine am_iconst (v := 2) hz dL_law_1025 (by decide) ?_
  refine am_iadd hz dL_law_1026 ?_
  refine am_sld hz hX hbl (ix 2 (by decide)) dL_law_1027 ?_
  refine am_callV hz cv_L_112 [.int (xs (nI i + 1).toNatClampNeg), .int (xs (nI i + 2).toNatClampNeg)] [] (c_X11_type hG _ _ hs hw.1) (ln_0 hG) (lk_0 hG) rfl rfl (by rw [hR]; exact Nat.le_of_ble_eq_true rfl) (by rw [hR]; exact Nat.le_of_ble_eq_true rfl) (by rw [hR]; exact ⟨by show _ ≤ 600000; omega, by show _ ≤ 7302250; omega⟩) (Nat.le_of_ble_eq_true rfl) dL_law_1028 (fun ro G1 I1 L1 ⟨r1, r2, r3, r4⟩ => ?_)
  rw [r1, r2]
  refine am_aload_n hz dL_law_1031 1 rfl rfl ?_
  refine am_aload_n hz dL_law_1032 3 rfl rfl ?_
  refine am_iload_n hz dL_law_1033 0 rfl rfl ?_
  refine am_iconst (v := 1) hz dL_law_1034 (by decide) ?_
  refine am_iadd hz dL_law_1035 ?_
  refine am_sld hz hX hbl (ix 1 (by decide)) dL_law_1036 ?_
  refine am_aload_n hz dL_law_1037 3 rfl rfl ?_
  refine am_iload_n hz dL_law_1038 0 rfl rfl ?_
  refine am_iconst (v := 2) hz dL_law_1039 (by decide) ?_
  refine am_iadd hz dL_law_1040 ?_
  refine am_sld hz hX hbl (ix 2 (by decide)) dL_law_1041 ?_
  refine am_callV hz cv_L_115 [.int (xs (nI i + 1).toNatClampNeg), .int (xs (nI i + 2).toNatClampNeg)] [.int _] (c_X12_type hG _ _ (RI_C hr r4) hw.1) (ln_64 hG) (lk_64 hG) rfl rfl (by rw [hR]; exact Nat.le_of_ble_eq_true rfl) (by rw [hR]; exact Nat.le_of_ble_eq_true rfl) (by rw [hR]; exact ⟨by show _ ≤ 600000; omega, by show _ ≤ 7302250; omega⟩) (Nat.le_of_ble_eq_true rfl) dL_law_1042 (fun ro2 G2 I2 L2 ⟨t1, t2, t3, t4⟩ => ?_)
  rw [t1, t2]
  refine am_icmp_eq (tgt := 1332) hz dL_law_1045 (by decide) (fun _ => ?_) (fun h => absurd rfl h)
  exact lw_tail hz (next _ _ _ _ _ _ ⟨CO_M r3 t4, t3, (WI_m hw (Nat.le_succ _)), by omega, by omega⟩)
set_option maxRecDepth 100000 in
set_option maxHeartbeats 4000000 in
theorem lw_split {z : amZ} {b N i c : Nat} {xs : Nat → Int32} {s : St} {G : amG} {I : amI} {L : amL} {ce sl : Nat} (hz : Ok z cL_law RL 4) (hR : zR z = room_1) (hX : va_X b N xs (zS z) (zB z)) (hbl : b < (zB z).size) (hi : i + 6 ≤ N) (hN : N ≤ 3072) (hc : c < 512) (hv : INV c s G I L ce sl) (next : ∀ s' G' I' L' ce' sl', INV (c + 1) s' G' I' L' ce' sl' → Wx z ce' sl' 18 (LV z b (i + 6)) [] G' I' L') : Wx z ce sl 1050 (LV z b i) [] G I L := by
  obtain ⟨hs, hr, hw, hce, hsl⟩ := hv
  have hG := hs.1
  have hwl := wl_le hs
  have ix : ∀ j, j < 6 → vp_in (nI i + nI j) N := fun j hj => inA (by omega) (by omega)
  refine am_aload_n hz dL_law_1050 2 rfl rfl ?_
  refine am_aload_n hz dL_law_1051 3 rfl rfl ?_
  refine am_iload_n hz dL_law_1052 0 rfl rfl ?_
  refine am_iconst (v := 1) hz dL_law_1053 (by decide) ?_
  refine am_iadd hz dL_law_1054 ?_
  refine am_sld hz hX hbl (ix 1 (by decide)) dL_law_1055 ?_
  refine am_aload_n hz dL_law_1056 3 rfl rfl ?_
  refine am_iload_n hz dL_law_1057 0 rfl rfl ?_
  refine am_iconst (v := 2) hz dL_law_1058 (by decide) ?_
  refine am_iadd hz dL_law_1059 ?_
  refine am_sld hz hX hbl (ix 2 (by decide)) dL_law_1060 ?_
  refine am_aload_n hz dL_law_1061 3 rfl rfl ?_
  refine am_iload_n hz dL_law_1062 0 rfl rfl ?_
  refine am_iconst (v := 3) hz dL_law_1063 (by decide) ?_
  refine am_iadd hz dL_law_1064 ?_
  refine am_sld hz hX hbl (ix 3 (by decide)) dL_law_1065 ?_
  refine am_callV hz cv_L_116 [.int (xs (nI i + 1).toNatClampNeg), .int (xs (nI i + 2).toNatClampNeg), .int (xs (nI i + 3).toNatClampNeg)] [] (c_X11_split hG _ _ _ hs hw.1) (ln_0 hG) (lk_0 hG) rfl rfl (by rw [hR]; exact Nat.le_of_ble_eq_true rfl) (by rw [hR]; exact Nat.le_of_ble_eq_true rfl) (by rw [hR]; exact ⟨by show _ ≤ 600000; omega, by show _ ≤ 7302250; omega⟩) (Nat.le_of_ble_eq_true rfl) dL_law_1066 (fun ro G1 I1 L1 ⟨r1, r2, r3, r4⟩ => ?_)
  rw [r1, r2]
  refine am_aload_n hz dL_law_1069 1 rfl rfl ?_
  refine am_aload_n hz dL_law_1070 3 rfl rfl ?_
  refine am_iload_n hz dL_law_1071 0 rfl rfl ?_
  refine am_iconst (v := 1) hz dL_law_1072 (by decide) ?_
  refine am_iadd hz dL_law_1073 ?_
  refine am_sld hz hX hbl (ix 1 (by decide)) dL_law_1074 ?_
  refine am_aload_n hz dL_law_1075 3 rfl rfl ?_
  refine am_iload_n hz dL_law_1076 0 rfl rfl ?_
  refine am_iconst (v := 2) hz dL_law_1077 (by decide) ?_
  refine am_iadd hz dL_law_1078 ?_
  refine am_sld hz hX hbl (ix 2 (by decide)) dL_law_1079 ?_
  refine am_aload_n hz dL_law_1080 3 rfl rfl ?_
  refine am_iload_n hz dL_law_1081 0 rfl rfl ?_
  refine am_iconst (v := 3) hz dL_law_1082 (by decide) ?_
  refine am_iadd hz dL_law_1083 ?_
  refine am_sld hz hX hbl (ix 3 (by decide)) dL_law_1084 ?_
  refine am_callV hz cv_L_119 [.int (xs (nI i + 1).toNatClampNeg), .int (xs (nI i + 2).toNatClampNeg), .int (xs (nI i + 3).toNatClampNeg)] [.int _] (c_X12_split hG _ _ _ (RI_C hr r4) hw.1) (ln_64 hG) (lk_64 hG) rfl rfl (by rw [hR]; exact Nat.le_of_ble_eq_true rfl) (by rw [hR]; exact Nat.le_of_ble_eq_true rfl) (by rw [hR]; exact ⟨by show _ ≤ 600000; omega, by show _ ≤ 7302250; omega⟩) (Nat.le_of_ble_eq_true rfl) dL_law_1085 (fun ro2 G2 I2 L2 ⟨t1, t2, t3, t4⟩ => ?_)
  rw [t1, t2]
  refine am_icmp_eq (tgt := 1332) hz dL_law_1088 (by decide) (fun _ => ?_) (fun h => absurd rfl h)
  exact lw_tail hz (next _ _ _ _ _ _ ⟨CO_M r3 t4, t3, (WI_m hw (Nat.le_succ _)), by omega, by omega⟩)
set_option maxRecDepth 100000 in
set_option maxHeartbeats 4000000 in
theorem lw_reduced {z : amZ} {b N i c : Nat} {xs : Nat → Int32} {s : St} {G : amG} {I : amI} {L : amL} {ce sl : Nat} (hz : Ok z cL_law RL 4) (hR : zR z = room_1) (hX : va_X b N xs (zS z) (zB z)) (hbl : b < (zB z).size) (hi : i + 6 ≤ N) (hN : N ≤ 3072) (hc : c < 512) (hv : INV c s G I L ce sl) (next : ∀ s' G' I' L' ce' sl', INV (c + 1) s' G' I' L' ce' sl' → Wx z ce' sl' 18 (LV z b (i + 6)) [] G' I' L') : Wx z ce sl 1093 (LV z b i) [] G I L := by
  obtain ⟨hs, hr, hw, hce, hsl⟩ := hv
  have hG := hs.1
  have hwl := wl_le hs
  have ix : ∀ j, j < 6 → vp_in (nI i + nI j) N := fun j hj => inA (by omega) (by omega)
  refine am_aload_n hz dL_law_1093 2 rfl rfl ?_
  refine am_aload_n hz dL_law_1094 3 rfl rfl ?_
  refine am_iload_n hz dL_law_1095 0 rfl rfl ?_
  refine am_iconst (v := 1) hz dL_law_1096 (by decide) ?_
  refine am_iadd hz dL_law_1097 ?_
  refine am_sld hz hX hbl (ix 1 (by decide)) dL_law_1098 ?_
  refine am_aload_n hz dL_law_1099 3 rfl rfl ?_
  refine am_iload_n hz dL_law_1100 0 rfl rfl ?_
  refine am_iconst (v := 2) hz dL_law_1101 (by decide) ?_
  refine am_iadd hz dL_law_1102 ?_
  refine am_sld hz hX hbl (ix 2 (by decide)) dL_law_1103 ?_
  refine am_callV hz cv_L_120 [.int (xs (nI i + 1).toNatClampNeg), .int (xs (nI i + 2).toNatClampNeg)] [] (c_X11_reduced hG _ _ hs hw.1) (ln_0 hG) (lk_0 hG) rfl rfl (by rw [hR]; exact Nat.le_of_ble_eq_true rfl) (by rw [hR]; exact Nat.le_of_ble_eq_true rfl) (by rw [hR]; exact ⟨by show _ ≤ 600000; omega, by show _ ≤ 7302250; omega⟩) (Nat.le_of_ble_eq_true rfl) dL_law_1104 (fun ro G1 I1 L1 ⟨r1, r2, r3, r4⟩ => ?_)
  rw [r1, r2]
  refine am_aload_n hz dL_law_1107 1 rfl rfl ?_
  refine am_aload_n hz dL_law_1108 3 rfl rfl ?_
  refine am_iload_n hz dL_law_1109 0 rfl rfl ?_
  refine am_iconst (v := 1) hz dL_law_1110 (by decide) ?_
  refine am_iadd hz dL_law_1111 ?_
  refine am_sld hz hX hbl (ix 1 (by decide)) dL_law_1112 ?_
  refine am_aload_n hz dL_law_1113 3 rfl rfl ?_
  refine am_iload_n hz dL_law_1114 0 rfl rfl ?_
  refine am_iconst (v := 2) hz dL_law_1115 (by decide) ?_
  refine am_iadd hz dL_law_1116 ?_
  refine am_sld hz hX hbl (ix 2 (by decide)) dL_law_1117 ?_
  refine am_callV hz cv_L_123 [.int (xs (nI i + 1).toNatClampNeg), .int (xs (nI i + 2).toNatClampNeg)] [.long _] (c_X12_reduced hG _ _ (RI_C hr r4) hw.1) (ln_64 hG) (lk_64 hG) rfl rfl (by rw [hR]; exact Nat.le_of_ble_eq_true rfl) (by rw [hR]; exact Nat.le_of_ble_eq_true rfl) (by rw [hR]; exact ⟨by show _ ≤ 600000; omega, by show _ ≤ 7302250; omega⟩) (Nat.le_of_ble_eq_true rfl) dL_law_1118 (fun ro2 G2 I2 L2 ⟨t1, t2, t3, t4⟩ => ?_)
  rw [t1, t2]
  refine am_lif_eq (tgt := 1332) hz dL_law_1121 dL_law_1122 (by decide) (fun _ => ?_) (fun h => absurd rfl h)
  exact lw_tail hz (next _ _ _ _ _ _ ⟨CO_M r3 t4, t3, (WI_m hw (Nat.le_succ _)), by omega, by omega⟩)
set_option maxRecDepth 100000 in
set_option maxHeartbeats 4000000 in
theorem lw_summed {z : amZ} {b N i c : Nat} {xs : Nat → Int32} {s : St} {G : amG} {I : amI} {L : amL} {ce sl : Nat} (hz : Ok z cL_law RL 4) (hR : zR z = room_1) (hX : va_X b N xs (zS z) (zB z)) (hbl : b < (zB z).size) (hi : i + 6 ≤ N) (hN : N ≤ 3072) (hc : c < 512) (hv : INV c s G I L ce sl) (next : ∀ s' G' I' L' ce' sl', INV (c + 1) s' G' I' L' ce' sl' → Wx z ce' sl' 18 (LV z b (i + 6)) [] G' I' L') : Wx z ce sl 1127 (LV z b i) [] G I L := by
  obtain ⟨hs, hr, hw, hce, hsl⟩ := hv
  have hG := hs.1
  have hwl := wl_le hs
  have ix : ∀ j, j < 6 → vp_in (nI i + nI j) N := fun j hj => inA (by omega) (by omega)
  refine am_aload_n hz dL_law_1127 2 rfl rfl ?_
  refine am_aload_n hz dL_law_1128 3 rfl rfl ?_
  refine am_iload_n hz dL_law_1129 0 rfl rfl ?_
  refine am_iconst (v := 1) hz dL_law_1130 (by decide) ?_
  refine am_iadd hz dL_law_1131 ?_
  refine am_sld hz hX hbl (ix 1 (by decide)) dL_law_1132 ?_
  refine am_aload_n hz dL_law_1133 3 rfl rfl ?_
  refine am_iload_n hz dL_law_1134 0 rfl rfl ?_
  refine am_iconst (v := 2) hz dL_law_1135 (by decide) ?_
  refine am_iadd hz dL_law_1136 ?_
  refine am_sld hz hX hbl (ix 2 (by decide)) dL_law_1137 ?_
  refine am_callV hz cv_L_124 [.int (xs (nI i + 1).toNatClampNeg), .int (xs (nI i + 2).toNatClampNeg)] [] (c_X11_summed hG _ _ hs hw.1) (ln_0 hG) (lk_0 hG) rfl rfl (by rw [hR]; exact Nat.le_of_ble_eq_true rfl) (by rw [hR]; exact Nat.le_of_ble_eq_true rfl) (by rw [hR]; exact ⟨by show _ ≤ 600000; omega, by show _ ≤ 7302250; omega⟩) (Nat.le_of_ble_eq_true rfl) dL_law_1138 (fun ro G1 I1 L1 ⟨r1, r2, r3, r4⟩ => ?_)
  rw [r1, r2]
  refine am_aload_n hz dL_law_1141 1 rfl rfl ?_
  refine am_aload_n hz dL_law_1142 3 rfl rfl ?_
  refine am_iload_n hz dL_law_1143 0 rfl rfl ?_
  refine am_iconst (v := 1) hz dL_law_1144 (by decide) ?_
  refine am_iadd hz dL_law_1145 ?_
  refine am_sld hz hX hbl (ix 1 (by decide)) dL_law_1146 ?_
  refine am_aload_n hz dL_law_1147 3 rfl rfl ?_
  refine am_iload_n hz dL_law_1148 0 rfl rfl ?_
  refine am_iconst (v := 2) hz dL_law_1149 (by decide) ?_
  refine am_iadd hz dL_law_1150 ?_
  refine am_sld hz hX hbl (ix 2 (by decide)) dL_law_1151 ?_
  refine am_callV hz cv_L_127 [.int (xs (nI i + 1).toNatClampNeg), .int (xs (nI i + 2).toNatClampNeg)] [.long _] (c_X12_summed hG _ _ (RI_C hr r4) hw.1) (ln_64 hG) (lk_64 hG) rfl rfl (by rw [hR]; exact Nat.le_of_ble_eq_true rfl) (by rw [hR]; exact Nat.le_of_ble_eq_true rfl) (by rw [hR]; exact ⟨by show _ ≤ 600000; omega, by show _ ≤ 7302250; omega⟩) (Nat.le_of_ble_eq_true rfl) dL_law_1152 (fun ro2 G2 I2 L2 ⟨t1, t2, t3, t4⟩ => ?_)
  rw [t1, t2]
  refine am_lif_eq (tgt := 1332) hz dL_law_1155 dL_law_1156 (by decide) (fun _ => ?_) (fun h => absurd rfl h)
  exact lw_tail hz (next _ _ _ _ _ _ ⟨CO_M r3 t4, t3, (WI_m hw (Nat.le_succ _)), by omega, by omega⟩)
set_option maxRecDepth 100000 in
set_option maxHeartbeats 4000000 in
theorem lw_gotBack {z : amZ} {b N i c : Nat} {xs : Nat → Int32} {s : St} {G : amG} {I : amI} {L : amL} {ce sl : Nat} (hz : Ok z cL_law RL 4) (hR : zR z = room_1) (hX : va_X b N xs (zS z) (zB z)) (hbl : b < (zB z).size) (hi : i + 6 ≤ N) (hN : N ≤ 3072) (hc : c < 512) (hv : INV c s G I L ce sl) (next : ∀ s' G' I' L' ce' sl', INV (c + 1) s' G' I' L' ce' sl' → Wx z ce' sl' 18 (LV z b (i + 6)) [] G' I' L') : Wx z ce sl 1161 (LV z b i) [] G I L := by
  obtain ⟨hs, hr, hw, hce, hsl⟩ := hv
  have hG := hs.1
  have hwl := wl_le hs
  have ix : ∀ j, j < 6 → vp_in (nI i + nI j) N := fun j hj => inA (by omega) (by omega)
  refine am_aload_n hz dL_law_1161 2 rfl rfl ?_
  refine am_aload_n hz dL_law_1162 3 rfl rfl ?_
  refine am_iload_n hz dL_law_1163 0 rfl rfl ?_
  refine am_iconst (v := 1) hz dL_law_1164 (by decide) ?_
  refine am_iadd hz dL_law_1165 ?_
  refine am_sld hz hX hbl (ix 1 (by decide)) dL_law_1166 ?_
  refine am_aload_n hz dL_law_1167 3 rfl rfl ?_
  refine am_iload_n hz dL_law_1168 0 rfl rfl ?_
  refine am_iconst (v := 2) hz dL_law_1169 (by decide) ?_
  refine am_iadd hz dL_law_1170 ?_
  refine am_sld hz hX hbl (ix 2 (by decide)) dL_law_1171 ?_
  refine am_callV hz cv_L_128 [.int (xs (nI i + 1).toNatClampNeg), .int (xs (nI i + 2).toNatClampNeg)] [] (c_X11_gotBack hG _ _ hs hw.1) (ln_0 hG) (lk_0 hG) rfl rfl (by rw [hR]; exact Nat.le_of_ble_eq_true rfl) (by rw [hR]; exact Nat.le_of_ble_eq_true rfl) (by rw [hR]; exact ⟨by show _ ≤ 600000; omega, by show _ ≤ 7302250; omega⟩) (Nat.le_of_ble_eq_true rfl) dL_law_1172 (fun ro G1 I1 L1 ⟨r1, r2, r3, r4⟩ => ?_)
  rw [r1, r2]
  refine am_aload_n hz dL_law_1175 1 rfl rfl ?_
  refine am_aload_n hz dL_law_1176 3 rfl rfl ?_
  refine am_iload_n hz dL_law_1177 0 rfl rfl ?_
  refine am_iconst (v := 1) hz dL_law_1178 (by decide) ?_
  refine am_iadd hz dL_law_1179 ?_
  refine am_sld hz hX hbl (ix 1 (by decide)) dL_law_1180 ?_
  refine am_aload_n hz dL_law_1181 3 rfl rfl ?_
  refine am_iload_n hz dL_law_1182 0 rfl rfl ?_
  refine am_iconst (v := 2) hz dL_law_1183 (by decide) ?_
  refine am_iadd hz dL_law_1184 ?_
  refine am_sld hz hX hbl (ix 2 (by decide)) dL_law_1185 ?_
  refine am_callV hz cv_L_131 [.int (xs (nI i + 1).toNatClampNeg), .int (xs (nI i + 2).toNatClampNeg)] [.long _] (c_X12_gotBack hG _ _ (RI_C hr r4) hw.1) (ln_64 hG) (lk_64 hG) rfl rfl (by rw [hR]; exact Nat.le_of_ble_eq_true rfl) (by rw [hR]; exact Nat.le_of_ble_eq_true rfl) (by rw [hR]; exact ⟨by show _ ≤ 600000; omega, by show _ ≤ 7302250; omega⟩) (Nat.le_of_ble_eq_true rfl) dL_law_1186 (fun ro2 G2 I2 L2 ⟨t1, t2, t3, t4⟩ => ?_)
  rw [t1, t2]
  refine am_lif_eq (tgt := 1332) hz dL_law_1189 dL_law_1190 (by decide) (fun _ => ?_) (fun h => absurd rfl h)
  exact lw_tail hz (next _ _ _ _ _ _ ⟨CO_M r3 t4, t3, (WI_m hw (Nat.le_succ _)), by omega, by omega⟩)
set_option maxRecDepth 100000 in
set_option maxHeartbeats 4000000 in
theorem lw_mapped {z : amZ} {b N i c : Nat} {xs : Nat → Int32} {s : St} {G : amG} {I : amI} {L : amL} {ce sl : Nat} (hz : Ok z cL_law RL 4) (hR : zR z = room_1) (hX : va_X b N xs (zS z) (zB z)) (hbl : b < (zB z).size) (hi : i + 6 ≤ N) (hN : N ≤ 3072) (hc : c < 512) (hv : INV c s G I L ce sl) (next : ∀ s' G' I' L' ce' sl', INV (c + 1) s' G' I' L' ce' sl' → Wx z ce' sl' 18 (LV z b (i + 6)) [] G' I' L') : Wx z ce sl 1195 (LV z b i) [] G I L := by
  obtain ⟨hs, hr, hw, hce, hsl⟩ := hv
  have hG := hs.1
  have hwl := wl_le hs
  have ix : ∀ j, j < 6 → vp_in (nI i + nI j) N := fun j hj => inA (by omega) (by omega)
  refine am_aload_n hz dL_law_1195 2 rfl rfl ?_
  refine am_aload_n hz dL_law_1196 3 rfl rfl ?_
  refine am_iload_n hz dL_law_1197 0 rfl rfl ?_
  refine am_iconst (v := 1) hz dL_law_1198 (by decide) ?_
  refine am_iadd hz dL_law_1199 ?_
  refine am_sld hz hX hbl (ix 1 (by decide)) dL_law_1200 ?_
  refine am_callV hz cv_L_132 [.int (xs (nI i + 1).toNatClampNeg)] [] (c_X11_mapped hG _ hs hw.1) (ln_0 hG) (lk_0 hG) rfl rfl (by rw [hR]; exact Nat.le_of_ble_eq_true rfl) (by rw [hR]; exact Nat.le_of_ble_eq_true rfl) (by rw [hR]; exact ⟨by show _ ≤ 600000; omega, by show _ ≤ 7302250; omega⟩) (Nat.le_of_ble_eq_true rfl) dL_law_1201 (fun ro G1 I1 L1 ⟨r1, r2, r3, r4⟩ => ?_)
  rw [r1, r2]
  refine am_aload_n hz dL_law_1204 1 rfl rfl ?_
  refine am_aload_n hz dL_law_1205 3 rfl rfl ?_
  refine am_iload_n hz dL_law_1206 0 rfl rfl ?_
  refine am_iconst (v := 1) hz dL_law_1207 (by decide) ?_
  refine am_iadd hz dL_law_1208 ?_
  refine am_sld hz hX hbl (ix 1 (by decide)) dL_law_1209 ?_
  refine am_callV hz cv_L_135 [.int (xs (nI i + 1).toNatClampNeg)] [.int _] (c_X12_mapped hG _ (RI_C hr r4) hw.1) (ln_64 hG) (lk_64 hG) rfl rfl (by rw [hR]; exact Nat.le_of_ble_eq_true rfl) (by rw [hR]; exact Nat.le_of_ble_eq_true rfl) (by rw [hR]; exact ⟨by show _ ≤ 600000; omega, by show _ ≤ 7302250; omega⟩) (Nat.le_of_ble_eq_true rfl) dL_law_1210 (fun ro2 G2 I2 L2 ⟨t1, t2, t3, t4⟩ => ?_)
  rw [t1, t2]
  refine am_icmp_eq (tgt := 1332) hz dL_law_1213 (by decide) (fun _ => ?_) (fun h => absurd rfl h)
  exact lw_tail hz (next _ _ _ _ _ _ ⟨CO_M r3 t4, t3, (WI_m hw (Nat.le_succ _)), by omega, by omega⟩)
set_option maxRecDepth 100000 in
set_option maxHeartbeats 4000000 in
theorem lw_adjoint {z : amZ} {b N i c : Nat} {xs : Nat → Int32} {s : St} {G : amG} {I : amI} {L : amL} {ce sl : Nat} (hz : Ok z cL_law RL 4) (hR : zR z = room_1) (hX : va_X b N xs (zS z) (zB z)) (hbl : b < (zB z).size) (hi : i + 6 ≤ N) (hN : N ≤ 3072) (hc : c < 512) (hv : INV c s G I L ce sl) (next : ∀ s' G' I' L' ce' sl', INV (c + 1) s' G' I' L' ce' sl' → Wx z ce' sl' 18 (LV z b (i + 6)) [] G' I' L') : Wx z ce sl 1218 (LV z b i) [] G I L := by
  obtain ⟨hs, hr, hw, hce, hsl⟩ := hv
  have hG := hs.1
  have hwl := wl_le hs
  have ix : ∀ j, j < 6 → vp_in (nI i + nI j) N := fun j hj => inA (by omega) (by omega)
  refine am_aload_n hz dL_law_1218 2 rfl rfl ?_
  refine am_aload_n hz dL_law_1219 3 rfl rfl ?_
  refine am_iload_n hz dL_law_1220 0 rfl rfl ?_
  refine am_iconst (v := 1) hz dL_law_1221 (by decide) ?_
  refine am_iadd hz dL_law_1222 ?_
  refine am_sld hz hX hbl (ix 1 (by decide)) dL_law_1223 ?_
  refine am_callV hz cv_L_136 [.int (xs (nI i + 1).toNatClampNeg)] [] (c_X11_adjoint hG _ hs hw.1) (ln_0 hG) (lk_0 hG) rfl rfl (by rw [hR]; exact Nat.le_of_ble_eq_true rfl) (by rw [hR]; exact Nat.le_of_ble_eq_true rfl) (by rw [hR]; exact ⟨by show _ ≤ 600000; omega, by show _ ≤ 7302250; omega⟩) (Nat.le_of_ble_eq_true rfl) dL_law_1224 (fun ro G1 I1 L1 ⟨r1, r2, r3, r4⟩ => ?_)
  rw [r1, r2]
  refine am_aload_n hz dL_law_1227 1 rfl rfl ?_
  refine am_aload_n hz dL_law_1228 3 rfl rfl ?_
  refine am_iload_n hz dL_law_1229 0 rfl rfl ?_
  refine am_iconst (v := 1) hz dL_law_1230 (by decide) ?_
  refine am_iadd hz dL_law_1231 ?_
  refine am_sld hz hX hbl (ix 1 (by decide)) dL_law_1232 ?_
  refine am_callV hz cv_L_139 [.int (xs (nI i + 1).toNatClampNeg)] [.int _] (c_X12_adjoint hG _ (RI_C hr r4) hw.1) (ln_64 hG) (lk_64 hG) rfl rfl (by rw [hR]; exact Nat.le_of_ble_eq_true rfl) (by rw [hR]; exact Nat.le_of_ble_eq_true rfl) (by rw [hR]; exact ⟨by show _ ≤ 600000; omega, by show _ ≤ 7302250; omega⟩) (Nat.le_of_ble_eq_true rfl) dL_law_1233 (fun ro2 G2 I2 L2 ⟨t1, t2, t3, t4⟩ => ?_)
  rw [t1, t2]
  refine am_icmp_eq (tgt := 1332) hz dL_law_1236 (by decide) (fun _ => ?_) (fun h => absurd rfl h)
  exact lw_tail hz (next _ _ _ _ _ _ ⟨CO_M r3 t4, t3, (WI_m hw (Nat.le_succ _)), by omega, by omega⟩)
set_option maxRecDepth 100000 in
set_option maxHeartbeats 4000000 in
theorem lw_side {z : amZ} {b N i c : Nat} {xs : Nat → Int32} {s : St} {G : amG} {I : amI} {L : amL} {ce sl : Nat} (hz : Ok z cL_law RL 4) (hR : zR z = room_1) (hX : va_X b N xs (zS z) (zB z)) (hbl : b < (zB z).size) (hi : i + 6 ≤ N) (hN : N ≤ 3072) (hc : c < 512) (hv : INV c s G I L ce sl) (next : ∀ s' G' I' L' ce' sl', INV (c + 1) s' G' I' L' ce' sl' → Wx z ce' sl' 18 (LV z b (i + 6)) [] G' I' L') : Wx z ce sl 1241 (LV z b i) [] G I L := by
  obtain ⟨hs, hr, hw, hce, hsl⟩ := hv
  have hG := hs.1
  have hwl := wl_le hs
  have ix : ∀ j, j < 6 → vp_in (nI i + nI j) N := fun j hj => inA (by omega) (by omega)
  refine am_aload_n hz dL_law_1241 2 rfl rfl ?_
  refine am_aload_n hz dL_law_1242 3 rfl rfl ?_
  refine am_iload_n hz dL_law_1243 0 rfl rfl ?_
  refine am_iconst (v := 1) hz dL_law_1244 (by decide) ?_
  refine am_iadd hz dL_law_1245 ?_
  refine am_sld hz hX hbl (ix 1 (by decide)) dL_law_1246 ?_
  refine am_aload_n hz dL_law_1247 3 rfl rfl ?_
  refine am_iload_n hz dL_law_1248 0 rfl rfl ?_
  refine am_iconst (v := 2) hz dL_law_1249 (by decide) ?_
  refine am_iadd hz dL_law_1250 ?_
  refine am_sld hz hX hbl (ix 2 (by decide)) dL_law_1251 ?_
  refine am_aload_n hz dL_law_1252 3 rfl rfl ?_
  refine am_iload_n hz dL_law_1253 0 rfl rfl ?_
  refine am_iconst (v := 3) hz dL_law_1254 (by decide) ?_
  refine am_iadd hz dL_law_1255 ?_
  refine am_sld hz hX hbl (ix 3 (by decide)) dL_law_1256 ?_
  refine am_callV hz cv_L_140 [.int (xs (nI i + 1).toNatClampNeg), .int (xs (nI i + 2).toNatClampNeg), .int (xs (nI i + 3).toNatClampNeg)] [] (c_X11_side hG _ _ _ hs hw.1) (ln_0 hG) (lk_0 hG) rfl rfl (by rw [hR]; exact Nat.le_of_ble_eq_true rfl) (by rw [hR]; exact Nat.le_of_ble_eq_true rfl) (by rw [hR]; exact ⟨by show _ ≤ 600000; omega, by show _ ≤ 7302250; omega⟩) (Nat.le_of_ble_eq_true rfl) dL_law_1257 (fun ro G1 I1 L1 ⟨r1, r2, r3, r4⟩ => ?_)
  rw [r1, r2]
  refine am_aload_n hz dL_law_1260 1 rfl rfl ?_
  refine am_aload_n hz dL_law_1261 3 rfl rfl ?_
  refine am_iload_n hz dL_law_1262 0 rfl rfl ?_
  refine am_iconst (v := 1) hz dL_law_1263 (by decide) ?_
  refine am_iadd hz dL_law_1264 ?_
  refine am_sld hz hX hbl (ix 1 (by decide)) dL_law_1265 ?_
  refine am_aload_n hz dL_law_1266 3 rfl rfl ?_
  refine am_iload_n hz dL_law_1267 0 rfl rfl ?_
  refine am_iconst (v := 2) hz dL_law_1268 (by decide) ?_
  refine am_iadd hz dL_law_1269 ?_
  refine am_sld hz hX hbl (ix 2 (by decide)) dL_law_1270 ?_
  refine am_aload_n hz dL_law_1271 3 rfl rfl ?_
  refine am_iload_n hz dL_law_1272 0 rfl rfl ?_
  refine am_iconst (v := 3) hz dL_law_1273 (by decide) ?_
  refine am_iadd hz dL_law_1274 ?_
  refine am_sld hz hX hbl (ix 3 (by decide)) dL_law_1275 ?_
  refine am_callV hz cv_L_143 [.int (xs (nI i + 1).toNatClampNeg), .int (xs (nI i + 2).toNatClampNeg), .int (xs (nI i + 3).toNatClampNeg)] [.long _] (c_X12_side hG _ _ _ (RI_C hr r4) hw.1) (ln_64 hG) (lk_64 hG) rfl rfl (by rw [hR]; exact Nat.le_of_ble_eq_true rfl) (by rw [hR]; exact Nat.le_of_ble_eq_true rfl) (by rw [hR]; exact ⟨by show _ ≤ 600000; omega, by show _ ≤ 7302250; omega⟩) (Nat.le_of_ble_eq_true rfl) dL_law_1276 (fun ro2 G2 I2 L2 ⟨t1, t2, t3, t4⟩ => ?_)
  rw [t1, t2]
  refine am_lif_eq (tgt := 1332) hz dL_law_1279 dL_law_1280 (by decide) (fun _ => ?_) (fun h => absurd rfl h)
  exact lw_tail hz (next _ _ _ _ _ _ ⟨CO_M r3 t4, t3, (WI_m hw (Nat.le_succ _)), by omega, by omega⟩)
set_option maxRecDepth 100000 in
set_option maxHeartbeats 4000000 in
theorem lw_coefficient {z : amZ} {b N i c : Nat} {xs : Nat → Int32} {s : St} {G : amG} {I : amI} {L : amL} {ce sl : Nat} (hz : Ok z cL_law RL 4) (hR : zR z = room_1) (hX : va_X b N xs (zS z) (zB z)) (hbl : b < (zB z).size) (hi : i + 6 ≤ N) (hN : N ≤ 3072) (hc : c < 512) (hv : INV c s G I L ce sl) (next : ∀ s' G' I' L' ce' sl', INV (c + 1) s' G' I' L' ce' sl' → Wx z ce' sl' 18 (LV z b (i + 6)) [] G' I' L') : Wx z ce sl 1285 (LV z b i) [] G I L := by
  obtain ⟨hs, hr, hw, hce, hsl⟩ := hv
  have hG := hs.1
  have hwl := wl_le hs
  have ix : ∀ j, j < 6 → vp_in (nI i + nI j) N := fun j hj => inA (by omega) (by omega)
  refine am_aload_n hz dL_law_1285 2 rfl rfl ?_
  refine am_aload_n hz dL_law_1286 3 rfl rfl ?_
  refine am_iload_n hz dL_law_1287 0 rfl rfl ?_
  refine am_iconst (v := 1) hz dL_law_1288 (by decide) ?_
  refine am_iadd hz dL_law_1289 ?_
  refine am_sld hz hX hbl (ix 1 (by decide)) dL_law_1290 ?_
  refine am_callV hz cv_L_144 [.int (xs (nI i + 1).toNatClampNeg)] [] (c_X11_coefficient hG _ hs hw.1) (ln_0 hG) (lk_0 hG) rfl rfl (by rw [hR]; exact Nat.le_of_ble_eq_true rfl) (by rw [hR]; exact Nat.le_of_ble_eq_true rfl) (by rw [hR]; exact ⟨by show _ ≤ 600000; omega, by show _ ≤ 7302250; omega⟩) (Nat.le_of_ble_eq_true rfl) dL_law_1291 (fun ro G1 I1 L1 ⟨r1, r2, r3, r4⟩ => ?_)
  rw [r1, r2]
  refine am_aload_n hz dL_law_1294 1 rfl rfl ?_
  refine am_aload_n hz dL_law_1295 3 rfl rfl ?_
  refine am_iload_n hz dL_law_1296 0 rfl rfl ?_
  refine am_iconst (v := 1) hz dL_law_1297 (by decide) ?_
  refine am_iadd hz dL_law_1298 ?_
  refine am_sld hz hX hbl (ix 1 (by decide)) dL_law_1299 ?_
  refine am_callV hz cv_L_148 [.int (xs (nI i + 1).toNatClampNeg)] [.long _] (c_X12_coefficient hG _ (RI_C hr r4) hw.1) (ln_64 hG) (lk_64 hG) rfl rfl (by rw [hR]; exact Nat.le_of_ble_eq_true rfl) (by rw [hR]; exact Nat.le_of_ble_eq_true rfl) (by rw [hR]; exact ⟨by show _ ≤ 600000; omega, by show _ ≤ 7302250; omega⟩) (Nat.le_of_ble_eq_true rfl) dL_law_1300 (fun ro2 G2 I2 L2 ⟨t1, t2, t3, t4⟩ => ?_)
  rw [t1, t2]
  refine am_lif_eq (tgt := 1332) hz dL_law_1303 dL_law_1304 (by decide) (fun _ => ?_) (fun h => absurd rfl h)
  exact lw_tail hz (next _ _ _ _ _ _ ⟨CO_M r3 t4, t3, (WI_m hw (Nat.le_succ _)), by omega, by omega⟩)
set_option maxRecDepth 100000 in
set_option maxHeartbeats 4000000 in
theorem lw_count {z : amZ} {b N i c : Nat} {xs : Nat → Int32} {s : St} {G : amG} {I : amI} {L : amL} {ce sl : Nat} (hz : Ok z cL_law RL 4) (hR : zR z = room_1) (hX : va_X b N xs (zS z) (zB z)) (hbl : b < (zB z).size) (hi : i + 6 ≤ N) (hN : N ≤ 3072) (hc : c < 512) (hv : INV c s G I L ce sl) (next : ∀ s' G' I' L' ce' sl', INV (c + 1) s' G' I' L' ce' sl' → Wx z ce' sl' 18 (LV z b (i + 6)) [] G' I' L') : Wx z ce sl 1309 (LV z b i) [] G I L := by
  obtain ⟨hs, hr, hw, hce, hsl⟩ := hv
  have hG := hs.1
  have hwl := wl_le hs
  have ix : ∀ j, j < 6 → vp_in (nI i + nI j) N := fun j hj => inA (by omega) (by omega)
  refine am_aload_n hz dL_law_1309 2 rfl rfl ?_
  refine am_aload_n hz dL_law_1310 3 rfl rfl ?_
  refine am_iload_n hz dL_law_1311 0 rfl rfl ?_
  refine am_iconst (v := 1) hz dL_law_1312 (by decide) ?_
  refine am_iadd hz dL_law_1313 ?_
  refine am_sld hz hX hbl (ix 1 (by decide)) dL_law_1314 ?_
  refine am_callV hz cv_L_149 [.int (xs (nI i + 1).toNatClampNeg)] [] (c_X11_count hG _ hs hw.1) (ln_0 hG) (lk_0 hG) rfl rfl (by rw [hR]; exact Nat.le_of_ble_eq_true rfl) (by rw [hR]; exact Nat.le_of_ble_eq_true rfl) (by rw [hR]; exact ⟨by show _ ≤ 600000; omega, by show _ ≤ 7302250; omega⟩) (Nat.le_of_ble_eq_true rfl) dL_law_1315 (fun ro G1 I1 L1 ⟨r1, r2, r3, r4⟩ => ?_)
  rw [r1, r2]
  refine am_aload_n hz dL_law_1318 1 rfl rfl ?_
  refine am_aload_n hz dL_law_1319 3 rfl rfl ?_
  refine am_iload_n hz dL_law_1320 0 rfl rfl ?_
  refine am_iconst (v := 1) hz dL_law_1321 (by decide) ?_
  refine am_iadd hz dL_law_1322 ?_
  refine am_sld hz hX hbl (ix 1 (by decide)) dL_law_1323 ?_
  refine am_callV hz cv_L_152 [.int (xs (nI i + 1).toNatClampNeg)] [.int _] (c_X12_count hG _ (RI_C hr r4) hw.1) (ln_64 hG) (lk_64 hG) rfl rfl (by rw [hR]; exact Nat.le_of_ble_eq_true rfl) (by rw [hR]; exact Nat.le_of_ble_eq_true rfl) (by rw [hR]; exact ⟨by show _ ≤ 600000; omega, by show _ ≤ 7302250; omega⟩) (Nat.le_of_ble_eq_true rfl) dL_law_1324 (fun ro2 G2 I2 L2 ⟨t1, t2, t3, t4⟩ => ?_)
  rw [t1, t2]
  refine am_icmp_eq (tgt := 1332) hz dL_law_1327 (by decide) (fun _ => ?_) (fun h => absurd rfl h)
  exact lw_tail hz (next _ _ _ _ _ _ ⟨CO_M r3 t4, t3, (WI_m hw (Nat.le_succ _)), by omega, by omega⟩)
