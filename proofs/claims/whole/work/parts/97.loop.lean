/-! THE LAW'S LOOP -/
theorem sub6 {N i : Nat} (hN : N ≤ 3072) (hi : i ≤ 4096) : (nI N - 6 < nI i) ↔ N < i + 6 := by
  rcases Nat.lt_or_ge N 6 with h | h
  · have h0 : nI N - 6 < 0 := by
      rcases (show N = 0 ∨ N = 1 ∨ N = 2 ∨ N = 3 ∨ N = 4 ∨ N = 5 by omega) with e | e | e | e | e | e <;> (subst e; decide)
    refine ⟨fun _ => by omega, fun _ => ?_⟩
    have h1 : (0 : Int32) ≤ nI i := nI_pos' (by omega)
    rw [Int32.lt_iff_toInt_lt] at h0 ⊢
    rw [Int32.le_iff_toInt_le] at h1
    have e0 : (0 : Int32).toInt = 0 := by decide
    rw [e0] at h0 h1
    omega
  · obtain ⟨M, rfl⟩ : ∃ M, N = M + 6 := ⟨N - 6, by omega⟩
    rw [← nI_add, show (6 : Int32) = nI 6 from rfl, Int32.add_sub_cancel, nI_ltI (by omega) (by omega)]
    omega
set_option maxRecDepth 100000 in
set_option maxHeartbeats 4000000 in
theorem lw_body {z : amZ} {b N i c : Nat} {xs : Nat → Int32} {s : St} {G : amG} {I : amI} {L : amL} {ce sl : Nat} (hz : Ok z cL_law RL 4) (hR : zR z = room_1) (hX : va_X b N xs (zS z) (zB z)) (hbl : b < (zB z).size) (hi : i + 6 ≤ N) (hN : N ≤ 3072) (hc : c < 512) (hv : INV c s G I L ce sl) (next : ∀ s' G' I' L' ce' sl', INV (c + 1) s' G' I' L' ce' sl' → Wx z ce' sl' 18 (LV z b (i + 6)) [] G' I' L') : Wx z ce sl 27 (LV z b i) [] G I L := by
  refine am_aload_n hz dL_law_27 3 rfl rfl ?_
  refine am_iload_n hz dL_law_28 0 rfl rfl ?_
  refine am_sld hz hX hbl (in_nI (by omega) (by omega)) dL_law_29 ?_
  refine am_bipush (v := 31) hz dL_law_30 (by decide) ?_
  refine am_iand hz dL_law_32 ?_
  generalize xs (nI i).toNatClampNeg &&& 31 = x
  by_cases c0 : x = 0
  · exact am_tabI (off := 143) (tgt := 176) hz 0 dL_law_33 c0 (by decide) (by decide) rfl (by decide) (lw_feed hz hR hX hbl hi hN hc hv next)
  by_cases c1 : x = 1
  · exact am_tabI (off := 206) (tgt := 239) hz 1 dL_law_33 c1 (by decide) (by decide) rfl (by decide) (lw_end hz hR hX hbl hi hN hc hv next)
  by_cases c2 : x = 2
  · exact am_tabI (off := 229) (tgt := 262) hz 2 dL_law_33 c2 (by decide) (by decide) rfl (by decide) (lw_tell hz hR hX hbl hi hN hc hv next)
  by_cases c3 : x = 3
  · exact am_tabI (off := 242) (tgt := 275) hz 3 dL_law_33 c3 (by decide) (by decide) rfl (by decide) (lw_relate hz hR hX hbl hi hN hc hv next)
  by_cases c4 : x = 4
  · exact am_tabI (off := 275) (tgt := 308) hz 4 dL_law_33 c4 (by decide) (by decide) rfl (by decide) (lw_form hz hR hX hbl hi hN hc hv next)
  by_cases c5 : x = 5
  · exact am_tabI (off := 318) (tgt := 351) hz 5 dL_law_33 c5 (by decide) (by decide) rfl (by decide) (lw_make hz hR hX hbl hi hN hc hv next)
  by_cases c6 : x = 6
  · exact am_tabI (off := 351) (tgt := 384) hz 6 dL_law_33 c6 (by decide) (by decide) rfl (by decide) (lw_put hz hR hX hbl hi hN hc hv next)
  by_cases c7 : x = 7
  · exact am_tabI (off := 404) (tgt := 437) hz 7 dL_law_33 c7 (by decide) (by decide) rfl (by decide) (lw_reckon hz hR hX hbl hi hN hc hv next)
  by_cases c8 : x = 8
  · exact am_tabI (off := 457) (tgt := 490) hz 8 dL_law_33 c8 (by decide) (by decide) rfl (by decide) (lw_invert hz hR hX hbl hi hN hc hv next)
  by_cases c9 : x = 9
  · exact am_tabI (off := 490) (tgt := 523) hz 9 dL_law_33 c9 (by decide) (by decide) rfl (by decide) (lw_raise hz hR hX hbl hi hN hc hv next)
  by_cases c10 : x = 10
  · exact am_tabI (off := 533) (tgt := 566) hz 10 dL_law_33 c10 (by decide) (by decide) rfl (by decide) (lw_data hz hR hX hbl hi hN hc hv next)
  by_cases c11 : x = 11
  · exact am_tabI (off := 596) (tgt := 629) hz 11 dL_law_33 c11 (by decide) (by decide) rfl (by decide) (lw_point hz hR hX hbl hi hN hc hv next)
  by_cases c12 : x = 12
  · exact am_tabI (off := 629) (tgt := 662) hz 12 dL_law_33 c12 (by decide) (by decide) rfl (by decide) (lw_undo hz hR hX hbl hi hN hc hv next)
  by_cases c13 : x = 13
  · exact am_tabI (off := 642) (tgt := 675) hz 13 dL_law_33 c13 (by decide) (by decide) rfl (by decide) (lw_keep hz hR hX hbl hi hN hc hv next)
  by_cases c14 : x = 14
  · exact am_tabI (off := 665) (tgt := 698) hz 14 dL_law_33 c14 (by decide) (by decide) rfl (by decide) (lw_value hz hR hX hbl hi hN hc hv next)
  by_cases c15 : x = 15
  · exact am_tabI (off := 709) (tgt := 742) hz 15 dL_law_33 c15 (by decide) (by decide) rfl (by decide) (lw_same hz hR hX hbl hi hN hc hv next)
  by_cases c16 : x = 16
  · exact am_tabI (off := 742) (tgt := 775) hz 16 dL_law_33 c16 (by decide) (by decide) rfl (by decide) (lw_about hz hR hX hbl hi hN hc hv next)
  by_cases c17 : x = 17
  · exact am_tabI (off := 775) (tgt := 808) hz 17 dL_law_33 c17 (by decide) (by decide) rfl (by decide) (lw_bound hz hR hX hbl hi hN hc hv next)
  by_cases c18 : x = 18
  · exact am_tabI (off := 818) (tgt := 851) hz 18 dL_law_33 c18 (by decide) (by decide) rfl (by decide) (lw_chains hz hR hX hbl hi hN hc hv next)
  by_cases c19 : x = 19
  · exact am_tabI (off := 862) (tgt := 895) hz 19 dL_law_33 c19 (by decide) (by decide) rfl (by decide) (lw_moebius hz hR hX hbl hi hN hc hv next)
  by_cases c20 : x = 20
  · exact am_tabI (off := 906) (tgt := 939) hz 20 dL_law_33 c20 (by decide) (by decide) rfl (by decide) (lw_multichains hz hR hX hbl hi hN hc hv next)
  by_cases c21 : x = 21
  · exact am_tabI (off := 950) (tgt := 983) hz 21 dL_law_33 c21 (by decide) (by decide) rfl (by decide) (lw_sets hz hR hX hbl hi hN hc hv next)
  by_cases c22 : x = 22
  · exact am_tabI (off := 984) (tgt := 1017) hz 22 dL_law_33 c22 (by decide) (by decide) rfl (by decide) (lw_type hz hR hX hbl hi hN hc hv next)
  by_cases c23 : x = 23
  · exact am_tabI (off := 1017) (tgt := 1050) hz 23 dL_law_33 c23 (by decide) (by decide) rfl (by decide) (lw_split hz hR hX hbl hi hN hc hv next)
  by_cases c24 : x = 24
  · exact am_tabI (off := 1060) (tgt := 1093) hz 24 dL_law_33 c24 (by decide) (by decide) rfl (by decide) (lw_reduced hz hR hX hbl hi hN hc hv next)
  by_cases c25 : x = 25
  · exact am_tabI (off := 1094) (tgt := 1127) hz 25 dL_law_33 c25 (by decide) (by decide) rfl (by decide) (lw_summed hz hR hX hbl hi hN hc hv next)
  by_cases c26 : x = 26
  · exact am_tabI (off := 1128) (tgt := 1161) hz 26 dL_law_33 c26 (by decide) (by decide) rfl (by decide) (lw_gotBack hz hR hX hbl hi hN hc hv next)
  by_cases c27 : x = 27
  · exact am_tabI (off := 1162) (tgt := 1195) hz 27 dL_law_33 c27 (by decide) (by decide) rfl (by decide) (lw_mapped hz hR hX hbl hi hN hc hv next)
  by_cases c28 : x = 28
  · exact am_tabI (off := 1185) (tgt := 1218) hz 28 dL_law_33 c28 (by decide) (by decide) rfl (by decide) (lw_adjoint hz hR hX hbl hi hN hc hv next)
  by_cases c29 : x = 29
  · exact am_tabI (off := 1208) (tgt := 1241) hz 29 dL_law_33 c29 (by decide) (by decide) rfl (by decide) (lw_side hz hR hX hbl hi hN hc hv next)
  by_cases c30 : x = 30
  · exact am_tabI (off := 1252) (tgt := 1285) hz 30 dL_law_33 c30 (by decide) (by decide) rfl (by decide) (lw_coefficient hz hR hX hbl hi hN hc hv next)
  by_cases c31 : x = 31
  · exact am_tabI (off := 1276) (tgt := 1309) hz 31 dL_law_33 c31 (by decide) (by decide) rfl (by decide) (lw_count hz hR hX hbl hi hN hc hv next)
  refine am_tabO (tgt := 1332) hz dL_law_33 ((tabx_32_0 c0 c1 c2 c3 c4 c5 c6 c7 c8 c9 c10 c11 c12 c13 c14 c15 c16 c17 c18 c19 c20 c21 c22 c23 c24 c25 c26 c27 c28 c29 c30 c31).elim (fun e => Or.inl (tab_lt 0 rfl e)) (fun e => Or.inr (tab_gt 31 rfl e))) (by decide) ?_
  obtain ⟨h1, h2, h3, h4, h5⟩ := hv
  exact lw_tail hz (next _ _ _ _ _ _ ⟨h1, h2, WI_m h3 (Nat.le_succ _), by omega, by omega⟩)
set_option maxRecDepth 100000 in
set_option maxHeartbeats 4000000 in
theorem law_loop {z : amZ} {b N : Nat} {xs : Nat → Int32} (hz : Ok z cL_law RL 4) (hR : zR z = room_1) (hX : va_X b N xs (zS z) (zB z)) (hbl : b < (zB z).size) (hN : N ≤ 3072) (hexit : ∀ G I L lv, Wx z 600000 7302250 1339 lv [.int 1] G I L) : ∀ (f c : Nat) (s : St) (G : amG) (I : amI) (L : amL) (ce sl : Nat), N < 6 * c + 6 * f + 6 → 6 * c ≤ N → INV c s G I L ce sl → Wx z ce sl 18 (LV z b (6 * c)) [] G I L := by
  intro f
  induction f with
  | zero =>
    intro c s G I L ce sl hf hc hv
    have hwl := wl_le hv.1
    obtain ⟨_, _, _, h4, h5⟩ := hv
    refine am_iload_n hz dL_law_18 0 rfl rfl ?_
    refine am_aload_n hz dL_law_19 3 rfl rfl ?_
    refine am_slen hz hX hbl dL_law_20 ?_
    refine am_bipush (v := 6) hz dL_law_21 (by decide) ?_
    refine am_isub hz dL_law_23 ?_
    refine am_icmp_gt (tgt := 1338) hz dL_law_24 (by decide) (fun h => ?_) (fun h => absurd ((sub6 hN (by omega)).mpr (by omega)) h)
    refine am_iconst (v := 1) hz dL_law_1338 (by decide) ?_
    exact am_widen (by omega) (by omega) (hexit _ _ _ _)
  | succ f ih =>
    intro c s G I L ce sl hf hc hv
    have hwl := wl_le hv.1
    have hv' := hv
    obtain ⟨_, _, _, h4, h5⟩ := hv'
    refine am_iload_n hz dL_law_18 0 rfl rfl ?_
    refine am_aload_n hz dL_law_19 3 rfl rfl ?_
    refine am_slen hz hX hbl dL_law_20 ?_
    refine am_bipush (v := 6) hz dL_law_21 (by decide) ?_
    refine am_isub hz dL_law_23 ?_
    refine am_icmp_gt (tgt := 1338) hz dL_law_24 (by decide) (fun h => ?_) (fun h => ?_)
    · refine am_iconst (v := 1) hz dL_law_1338 (by decide) ?_
      exact am_widen (by omega) (by omega) (hexit _ _ _ _)
    · have h6 : 6 * c + 6 ≤ N := Nat.not_lt.mp (fun q => h ((sub6 hN (by omega)).mpr q))
      refine lw_body hz hR hX hbl h6 hN (by omega) hv (fun s' G' I' L' ce' sl' hv2 => ?_)
      have := ih (c + 1) s' G' I' L' ce' sl' (by omega) (by omega) hv2
      rw [show 6 * (c + 1) = 6 * c + 6 by omega] at this
      exact this
